theorem in_X10_readNeeds_10 : ∀ w ∈ u_ws RX10 TX10 5, w ∈ wsX10_readNeeds := by decide +kernel
theorem in_X10_readNeeds_9 : ∀ w ∈ u_ws RX9 TX9 14, w ∈ wsX10_readNeeds := by decide +kernel
theorem lk_X10_readNeeds_15 : Cond.fieldLink RX10 15 "CuckooShares$ValleyText" "into" "LCuckooShares$Valley;" ∈ wsX10_readNeeds := by decide +kernel
abbrev L_X10_readNeeds : List Rc := [(1, 1, 7, 10), (1, 1, 12, 14), (108, 115, 1, 5)]
def P_X10_readNeeds (σ0 : Nat → Nat → Int32)  (r : Int32) (σ : Nat → Nat → Int32) : Prop := Rg σ ∧ Fr L_X10_readNeeds σ0 σ ∧ (0 ≤ r.toInt ∧ r.toInt ≤ 1)
set_option maxHeartbeats 4000000 in
theorem c_X10_readNeeds (l : Launch) (D : va_G) (cA : Nat → ClassId) (ad : Nat → Nat) (hI : Inj ad) (σ0 : Nat → Nat → Int32) (τ0 : Nat → Nat → Int64) (hR : Rg σ0)   : Met l yX10_readNeeds wsX10_readNeeds ({ frames := 4, cells := 0, slots := 0, locals := 86 } : Room) (WQc D cA ad [.ref (ad 6)] σ0 τ0) (va_Qi (fun (r : Int32) (u : SS) => P_X10_readNeeds σ0 r u.1) (WB D cA ad) (AA ad)) 0 0 (AA ad) := by
  refine Met.ofW (cc := cX10_readNeeds) (maxL := 2) (ret := (some .boolean)) (by decide) rfl ?_
  intro p e s m args below meth c s₁ B hml hv
  obtain ⟨rfl, hP, hK, hN⟩ := hv
  have C : Cy p s m _ meth c cX10_readNeeds 2 wsX10_readNeeds RX10 D cA ad (some .boolean) := ⟨B.exec, B.bytes, hml, findClass_of_methodNamed B.named, atoms_spec (ws := wsX10_readNeeds) B.pre, hK, B.notSynchronized, B.returns, hI, hN⟩
  have hl := lv_entry ([.ref (ad 6)]) (n := 2) (Nat.le_of_ble_eq_true rfl)
  rw [lg_entry_eq]
  generalize (lg_sl ([.ref (ad 6)]) ++ List.replicate (2 - (lg_sl ([.ref (ad 6)])).length) Slot.unset).toArray = ls at hl ⊢
  have hl : lv_has ls 2 [(0, .ref (ad 6))] := hl
  have hS : va_S (AA ad) s.heap s.heap [] := va_S.rf
  have hF : Fr L_X10_readNeeds σ0 σ0 := Fr.rf
  obtain ⟨hx, hb, _, hown, hts, _, hk, hr, _, _⟩ := C
  refine lv_aload_n hx hb dX10_readNeeds_0 rfl (lv_at hl 0 rfl) ?_
  refine r_iconst hx hb dX10_readNeeds_1 (by decide) (fun z1 ez1 => ?_)
  refine r_iconst hx hb dX10_readNeeds_2 (by decide) (fun z2 ez2 => ?_)
  refine r_cVi (k := 6) (As := [.int z1, .int z2]) (rest := []) ⟨hx, hb, hml, hown, hts⟩ hK hP hN hS (c_X10_takeManOnce l D cA ad hI σ0 τ0 hR z1 z2 (by omega) (by omega)) (cwV 2 hts gX10_readNeeds_X10_takeManOnce rfl rfl rfl (by decide +kernel) ⟨by decide, by decide⟩) (rv_VText hK hP (by decide) (by decide)) rfl hl.1 rfl (Nat.le_of_ble_eq_true rfl) dX10_readNeeds_3 (Nat.zero_le _) (Nat.zero_le _) (fun r3 u3 H3 locs3 hp3 hP hS => ?_)
  obtain ⟨σ3, τ3⟩ := u3
  obtain ⟨hR, f3, hq3⟩ : P_X10_takeManOnce σ0 z1 z2 r3 σ3 := hp3
  have hP : va_P D vwCl (gw cA ad σ3 τ3) H3 := hP
  have hF := hF.step f3 (by decide)
  refine lv_istore_n (lv' := [(1, .int r3), (0, .ref (ad 6))]) hx hb dX10_readNeeds_6 rfl hl (by decide) rfl (fun ls hl => ?_)
  refine lv_iload_n hx hb dX10_readNeeds_7 rfl (lv_at hl 0 rfl) ?_
  refine r_iconst hx hb dX10_readNeeds_8 (by decide) (fun z4 ez4 => ?_)
  refine r_icmp_eq (tgt := 37) hx hb dX10_readNeeds_9 (by decide) (fun c5 => ?_) (fun c5 => ?_)
  · refine r_iconst hx hb dX10_readNeeds_37 (by decide) (fun z6 ez6 => ?_)
    exact r_zret hx hb hr hK hP hS hk (by omega) dX10_readNeeds_38 (show P_X10_readNeeds σ0 z6 σ3 from ⟨hR, hF, by omega⟩)
  · refine lv_aload_n hx hb dX10_readNeeds_12 rfl (lv_at hl 1 rfl) ?_
    refine lv_aload_n hx hb dX10_readNeeds_13 rfl (lv_at hl 1 rfl) ?_
    refine fg_10_1 (k := 6) hx hb hts in_X10_readNeeds_10 hown hK hP (by decide) (by decide) (hts _ lk_X10_readNeeds_15) dX10_readNeeds_14 ?_
    refine fgN_9_10 (k := 3) hx hb hts in_X10_readNeeds_9 hown hK hP (by decide) (by decide) (hN.use nw_10_144) dX10_readNeeds_17 ?_
    refine lv_iload_n hx hb dX10_readNeeds_20 rfl (lv_at hl 0 rfl) ?_
    obtain ⟨j7, ej7⟩ : ∃ j : Nat, r3.toInt = (j : Int) := ⟨_, ti_nat (by omega)⟩
    refine ad_manA (k := 53) (j := j7) hx hb hK hP (by decide) (by decide) ej7 (by omega) dX10_readNeeds_21 ?_
    refine r_iconst hx hb dX10_readNeeds_22 (by decide) (fun z8 ez8 => ?_)
    refine r_iconst hx hb dX10_readNeeds_23 (by decide) (fun z9 ez9 => ?_)
    refine r_sipush hx hb dX10_readNeeds_24 (by decide) (fun z10 ez10 => ?_)
    refine r_cVi (k := 6) (As := [.ref (ad (108 + j7)), .int z8, .int z9, .int z10]) (rest := []) ⟨hx, hb, hml, hown, hts⟩ hK hP hN hS (c_X10_readInto_manR l D cA ad hI σ3 τ3 hR (108 + j7) z8 z9 z10 ⟨by omega, by omega⟩ (by omega) (by omega) (by omega)) (cwV 4 hts gX10_readNeeds_X10_readInto rfl rfl rfl (by decide +kernel) ⟨by decide, by decide⟩) (rv_VText hK hP (by decide) (by decide)) rfl hl.1 rfl (Nat.le_of_ble_eq_true rfl) dX10_readNeeds_27 (Nat.zero_le _) (Nat.zero_le _) (fun r11 u11 H11 locs11 hp11 hP hS => ?_)
    obtain ⟨σ11, τ11⟩ := u11
    obtain ⟨hR, f11, hq11⟩ : P_X10_readInto_manR σ3 (108 + j7) z8 z9 z10 r11 σ11 := hp11
    have hP : va_P D vwCl (gw cA ad σ11 τ11) H11 := hP
    have hF := hF.step f11 (by decide)
    refine r_if_eq (tgt := 37) hx hb dX10_readNeeds_30 (by decide) (fun c12 => ?_) (fun c12 => ?_)
    · refine r_iconst hx hb dX10_readNeeds_37 (by decide) (fun z13 ez13 => ?_)
      exact r_zret hx hb hr hK hP hS hk (by omega) dX10_readNeeds_38 (show P_X10_readNeeds σ0 z13 σ11 from ⟨hR, hF, by omega⟩)
    · refine r_iconst hx hb dX10_readNeeds_33 (by decide) (fun z14 ez14 => ?_)
      refine lv_goto (tgt := 38) hx hb dX10_readNeeds_34 (by decide) ?_
      exact r_zret hx hb hr hK hP hS hk (by omega) dX10_readNeeds_38 (show P_X10_readNeeds σ0 z14 σ11 from ⟨hR, hF, by omega⟩)
theorem in_X10_readOld_10 : ∀ w ∈ u_ws RX10 TX10 5, w ∈ wsX10_readOld := by decide +kernel
theorem in_X10_readOld_9 : ∀ w ∈ u_ws RX9 TX9 14, w ∈ wsX10_readOld := by decide +kernel
theorem lk_X10_readOld_15 : Cond.fieldLink RX10 15 "CuckooShares$ValleyText" "into" "LCuckooShares$Valley;" ∈ wsX10_readOld := by decide +kernel
abbrev L_X10_readOld : List Rc := [(1, 1, 7, 10), (1, 1, 13, 14), (108, 115, 3, 3)]
def P_X10_readOld (σ0 : Nat → Nat → Int32)  (r : Int32) (σ : Nat → Nat → Int32) : Prop := Rg σ ∧ Fr L_X10_readOld σ0 σ ∧ (0 ≤ r.toInt ∧ r.toInt ≤ 1)
set_option maxHeartbeats 4000000 in
theorem c_X10_readOld (l : Launch) (D : va_G) (cA : Nat → ClassId) (ad : Nat → Nat) (hI : Inj ad) (σ0 : Nat → Nat → Int32) (τ0 : Nat → Nat → Int64) (hR : Rg σ0)   : Met l yX10_readOld wsX10_readOld ({ frames := 4, cells := 0, slots := 0, locals := 86 } : Room) (WQc D cA ad [.ref (ad 6)] σ0 τ0) (va_Qi (fun (r : Int32) (u : SS) => P_X10_readOld σ0 r u.1) (WB D cA ad) (AA ad)) 0 0 (AA ad) := by
  refine Met.ofW (cc := cX10_readOld) (maxL := 2) (ret := (some .boolean)) (by decide) rfl ?_
  intro p e s m args below meth c s₁ B hml hv
  obtain ⟨rfl, hP, hK, hN⟩ := hv
  have C : Cy p s m _ meth c cX10_readOld 2 wsX10_readOld RX10 D cA ad (some .boolean) := ⟨B.exec, B.bytes, hml, findClass_of_methodNamed B.named, atoms_spec (ws := wsX10_readOld) B.pre, hK, B.notSynchronized, B.returns, hI, hN⟩
  have hl := lv_entry ([.ref (ad 6)]) (n := 2) (Nat.le_of_ble_eq_true rfl)
  rw [lg_entry_eq]
  generalize (lg_sl ([.ref (ad 6)]) ++ List.replicate (2 - (lg_sl ([.ref (ad 6)])).length) Slot.unset).toArray = ls at hl ⊢
  have hl : lv_has ls 2 [(0, .ref (ad 6))] := hl
  have hS : va_S (AA ad) s.heap s.heap [] := va_S.rf
  have hF : Fr L_X10_readOld σ0 σ0 := Fr.rf
  obtain ⟨hx, hb, _, hown, hts, _, hk, hr, _, _⟩ := C
  refine lv_aload_n hx hb dX10_readOld_0 rfl (lv_at hl 0 rfl) ?_
  refine r_iconst hx hb dX10_readOld_1 (by decide) (fun z1 ez1 => ?_)
  refine r_iconst hx hb dX10_readOld_2 (by decide) (fun z2 ez2 => ?_)
  refine r_cVi (k := 6) (As := [.int z1, .int z2]) (rest := []) ⟨hx, hb, hml, hown, hts⟩ hK hP hN hS (c_X10_takeManOnce l D cA ad hI σ0 τ0 hR z1 z2 (by omega) (by omega)) (cwV 2 hts gX10_readOld_X10_takeManOnce rfl rfl rfl (by decide +kernel) ⟨by decide, by decide⟩) (rv_VText hK hP (by decide) (by decide)) rfl hl.1 rfl (Nat.le_of_ble_eq_true rfl) dX10_readOld_3 (Nat.zero_le _) (Nat.zero_le _) (fun r3 u3 H3 locs3 hp3 hP hS => ?_)
  obtain ⟨σ3, τ3⟩ := u3
  obtain ⟨hR, f3, hq3⟩ : P_X10_takeManOnce σ0 z1 z2 r3 σ3 := hp3
  have hP : va_P D vwCl (gw cA ad σ3 τ3) H3 := hP
  have hF := hF.step f3 (by decide)
  refine lv_istore_n (lv' := [(1, .int r3), (0, .ref (ad 6))]) hx hb dX10_readOld_6 rfl hl (by decide) rfl (fun ls hl => ?_)
  refine lv_iload_n hx hb dX10_readOld_7 rfl (lv_at hl 0 rfl) ?_
  refine r_iconst hx hb dX10_readOld_8 (by decide) (fun z4 ez4 => ?_)
  refine r_icmp_ne (tgt := 14) hx hb dX10_readOld_9 (by decide) (fun c5 => ?_) (fun c5 => ?_)
  · refine lv_aload_n hx hb dX10_readOld_14 rfl (lv_at hl 1 rfl) ?_
    refine fg_10_1 (k := 6) hx hb hts in_X10_readOld_10 hown hK hP (by decide) (by decide) (hts _ lk_X10_readOld_15) dX10_readOld_15 ?_
    refine fgN_9_10 (k := 3) hx hb hts in_X10_readOld_9 hown hK hP (by decide) (by decide) (hN.use nw_10_144) dX10_readOld_18 ?_
    refine lv_iload_n hx hb dX10_readOld_21 rfl (lv_at hl 0 rfl) ?_
    obtain ⟨j6, ej6⟩ : ∃ j : Nat, r3.toInt = (j : Int) := ⟨_, ti_nat (by omega)⟩
    refine ad_manA (k := 53) (j := j6) hx hb hK hP (by decide) (by decide) ej6 (by omega) dX10_readOld_22 ?_
    refine r_iconst hx hb dX10_readOld_23 (by decide) (fun z7 ez7 => ?_)
    refine r_iconst hx hb dX10_readOld_24 (by decide) (fun z8 ez8 => ?_)
    refine as_manR (k := 108 + j6) (j := 3) hx hb hK hP hI hR hS (by omega) (by omega) (by omega) (by omega) dX10_readOld_25 (fun σ9 H9 locs9 u9 v9 hR hP hS => ?_)
    have hF := hF.puts u9 2 rfl (by omega) (by omega) (by decide) (by decide)
    refine r_iconst hx hb dX10_readOld_26 (by decide) (fun z10 ez10 => ?_)
    exact r_zret hx hb hr hK hP hS hk (by omega) dX10_readOld_27 (show P_X10_readOld σ0 z10 σ9 from ⟨hR, hF, by omega⟩)
  · refine r_iconst hx hb dX10_readOld_12 (by decide) (fun z11 ez11 => ?_)
    exact r_zret hx hb hr hK hP hS hk (by omega) dX10_readOld_13 (show P_X10_readOld σ0 z11 σ3 from ⟨hR, hF, by omega⟩)
theorem in_X10_takeOnce_10 : ∀ w ∈ u_ws RX10 TX10 5, w ∈ wsX10_takeOnce := by decide +kernel
theorem in_X10_takeOnce_8 : ∀ w ∈ u_ws RX8 TX8 15, w ∈ wsX10_takeOnce := by decide +kernel
theorem lk_X10_takeOnce_28 : Cond.fieldLink RX10 28 "CuckooShares$ValleyText" "wordsTold" "I" ∈ wsX10_takeOnce := by decide +kernel
theorem lk_X10_takeOnce_9 : Cond.fieldLink RX10 9 "CuckooShares$ValleyText" "tape" "LCuckooShares$Tape;" ∈ wsX10_takeOnce := by decide +kernel
abbrev L_X10_takeOnce : List Rc := [(6, 6, 3, 3), (1, 1, 7, 10), (1, 1, 13, 14)]
def P_X10_takeOnce (σ0 : Nat → Nat → Int32)  (r : Int32) (σ : Nat → Nat → Int32) : Prop := Rg σ ∧ Fr L_X10_takeOnce σ0 σ ∧ (0 ≤ r.toInt ∧ r.toInt ≤ 1)
set_option maxHeartbeats 4000000 in
theorem c_X10_takeOnce (l : Launch) (D : va_G) (cA : Nat → ClassId) (ad : Nat → Nat) (hI : Inj ad) (σ0 : Nat → Nat → Int32) (τ0 : Nat → Nat → Int64) (hR : Rg σ0)   : Met l yX10_takeOnce wsX10_takeOnce ({ frames := 1, cells := 0, slots := 0, locals := 21 } : Room) (WQc D cA ad [.ref (ad 6)] σ0 τ0) (va_Qi (fun (r : Int32) (u : SS) => P_X10_takeOnce σ0 r u.1) (WB D cA ad) (AA ad)) 0 0 (AA ad) := by
  refine Met.ofW (cc := cX10_takeOnce) (maxL := 2) (ret := (some .boolean)) (by decide) rfl ?_
  intro p e s m args below meth c s₁ B hml hv
  obtain ⟨rfl, hP, hK, hN⟩ := hv
  have C : Cy p s m _ meth c cX10_takeOnce 2 wsX10_takeOnce RX10 D cA ad (some .boolean) := ⟨B.exec, B.bytes, hml, findClass_of_methodNamed B.named, atoms_spec (ws := wsX10_takeOnce) B.pre, hK, B.notSynchronized, B.returns, hI, hN⟩
  have hl := lv_entry ([.ref (ad 6)]) (n := 2) (Nat.le_of_ble_eq_true rfl)
  rw [lg_entry_eq]
  generalize (lg_sl ([.ref (ad 6)]) ++ List.replicate (2 - (lg_sl ([.ref (ad 6)])).length) Slot.unset).toArray = ls at hl ⊢
  have hl : lv_has ls 2 [(0, .ref (ad 6))] := hl
  have hS : va_S (AA ad) s.heap s.heap [] := va_S.rf
  have hF : Fr L_X10_takeOnce σ0 σ0 := Fr.rf
  obtain ⟨hx, hb, _, hown, hts, _, hk, hr, _, _⟩ := C
  refine r_iconst hx hb dX10_takeOnce_0 (by decide) (fun z1 ez1 => ?_)
  refine lv_aload_n hx hb dX10_takeOnce_1 rfl (lv_at hl 0 rfl) ?_
  refine fg_10_0 (k := 6) hx hb hts in_X10_takeOnce_10 hown hK hP (by decide) (by decide) (hts _ lk_X10_takeOnce_9) dX10_takeOnce_2 ?_
  refine fgN_8_9 (k := 1) hx hb hts in_X10_takeOnce_8 hown hK hP (by decide) (by decide) (hN.use nw_10_34) dX10_takeOnce_5 ?_
  refine r_ishlU hx hb dX10_takeOnce_8 (fun z2 => ?_)
  refine lv_istore_n (lv' := [(1, .int z2), (0, .ref (ad 6))]) hx hb dX10_takeOnce_9 rfl hl (by decide) rfl (fun ls hl => ?_)
  refine lv_aload_n hx hb dX10_takeOnce_10 rfl (lv_at hl 1 rfl) ?_
  refine fg_10_3 (k := 6) hx hb hts in_X10_takeOnce_10 hown hK hP (by decide) (by decide) (hts _ lk_X10_takeOnce_28) dX10_takeOnce_11 ?_
  refine lv_iload_n hx hb dX10_takeOnce_14 rfl (lv_at hl 0 rfl) ?_
  refine r_iandU hx hb dX10_takeOnce_15 (fun z3 => ?_)
  refine r_if_eq (tgt := 28) hx hb dX10_takeOnce_16 (by decide) (fun c4 => ?_) (fun c4 => ?_)
  · refine lv_aload_n hx hb dX10_takeOnce_28 rfl (lv_at hl 1 rfl) ?_
    refine lv_dup hx hb dX10_takeOnce_29 rfl ?_
    refine fg_10_3 (k := 6) hx hb hts in_X10_takeOnce_10 hown hK hP (by decide) (by decide) (hts _ lk_X10_takeOnce_28) dX10_takeOnce_30 ?_
    refine lv_iload_n hx hb dX10_takeOnce_33 rfl (lv_at hl 0 rfl) ?_
    refine r_iorU hx hb dX10_takeOnce_34 (fun z5 => ?_)
    refine fp_10_3 (k := 6) hx hb hts in_X10_takeOnce_10 hown hK hP (by decide) (by decide) (hts _ lk_X10_takeOnce_28) hI hR hS dX10_takeOnce_35 (fun σ6 H6 locs6 u6 v6 hR hP hS => ?_)
    have hF := hF.puts u6 0 rfl (by decide) (by decide) (by decide) (by decide)
    refine lv_aload_n hx hb dX10_takeOnce_38 rfl (lv_at hl 1 rfl) ?_
    refine fg_10_0 (k := 6) hx hb hts in_X10_takeOnce_10 hown hK hP (by decide) (by decide) (hts _ lk_X10_takeOnce_9) dX10_takeOnce_39 ?_
    refine r_cVv (k := 1) (As := []) (rest := []) ⟨hx, hb, hml, hown, hts⟩ hK hP hN hS (c_X8_next l D cA ad hI σ6 τ0 hR) (cwV 0 hts gX10_takeOnce_X8_next rfl rfl rfl (by decide +kernel) ⟨by decide, by decide⟩) (rv_Tape hK hP (by decide) (by decide)) rfl hl.1 rfl (Nat.le_of_ble_eq_true rfl) dX10_takeOnce_42 (Nat.zero_le _) (Nat.zero_le _) (fun u7 H7 locs7 hp7 hP hS => ?_)
    obtain ⟨σ7, τ7⟩ := u7
    obtain ⟨hR, f7⟩ : P_X8_next σ6 σ7 := hp7
    have hP : va_P D vwCl (gw cA ad σ7 τ7) H7 := hP
    have hF := hF.step f7 (by decide)
    have t8 : (σ7 6 3).toInt = (σ6 6 3).toInt := congrArg Int32.toInt (f7.at 6 3 (by decide))
    refine r_iconst hx hb dX10_takeOnce_45 (by decide) (fun z9 ez9 => ?_)
    exact r_zret hx hb hr hK hP hS hk (by omega) dX10_takeOnce_46 (show P_X10_takeOnce σ0 z9 σ7 from ⟨hR, hF, by omega⟩)
  · refine lv_aload_n hx hb dX10_takeOnce_19 rfl (lv_at hl 1 rfl) ?_
    refine fg_10_0 (k := 6) hx hb hts in_X10_takeOnce_10 hown hK hP (by decide) (by decide) (hts _ lk_X10_takeOnce_9) dX10_takeOnce_20 ?_
    refine r_iconst hx hb dX10_takeOnce_23 (by decide) (fun z10 ez10 => ?_)
    refine r_cVi (k := 1) (As := [.int z10]) (rest := []) ⟨hx, hb, hml, hown, hts⟩ hK hP hN hS (c_X8_blame l D cA ad hI σ0 τ0 hR z10 (by omega)) (cwV 1 hts gX10_takeOnce_X8_blame rfl rfl rfl (by decide +kernel) ⟨by decide, by decide⟩) (rv_Tape hK hP (by decide) (by decide)) rfl hl.1 rfl (Nat.le_of_ble_eq_true rfl) dX10_takeOnce_24 (Nat.zero_le _) (Nat.zero_le _) (fun r11 u11 H11 locs11 hp11 hP hS => ?_)
    obtain ⟨σ11, τ11⟩ := u11
    obtain ⟨hR, f11, hq11⟩ : P_X8_blame σ0 z10 r11 σ11 := hp11
    have hP : va_P D vwCl (gw cA ad σ11 τ11) H11 := hP
    have hF := hF.step f11 (by decide)
    have t12 : (σ11 6 3).toInt = (σ0 6 3).toInt := congrArg Int32.toInt (f11.at 6 3 (by decide))
    exact r_zret hx hb hr hK hP hS hk (by omega) dX10_takeOnce_27 (show P_X10_takeOnce σ0 r11 σ11 from ⟨hR, hF, by omega⟩)
theorem in_X10_readRidge_10 : ∀ w ∈ u_ws RX10 TX10 5, w ∈ wsX10_readRidge := by decide +kernel
theorem in_X10_readRidge_8 : ∀ w ∈ u_ws RX8 TX8 15, w ∈ wsX10_readRidge := by decide +kernel
theorem in_X10_readRidge_9 : ∀ w ∈ u_ws RX9 TX9 14, w ∈ wsX10_readRidge := by decide +kernel
theorem lk_X10_readRidge_15 : Cond.fieldLink RX10 15 "CuckooShares$ValleyText" "into" "LCuckooShares$Valley;" ∈ wsX10_readRidge := by decide +kernel
theorem lk_X10_readRidge_9 : Cond.fieldLink RX10 9 "CuckooShares$ValleyText" "tape" "LCuckooShares$Tape;" ∈ wsX10_readRidge := by decide +kernel
abbrev L_X10_readRidge : List Rc := [(6, 6, 3, 3), (1, 1, 7, 10), (1, 1, 12, 14), (3, 3, 0, 0)]
def P_X10_readRidge (σ0 : Nat → Nat → Int32)  (r : Int32) (σ : Nat → Nat → Int32) : Prop := Rg σ ∧ Fr L_X10_readRidge σ0 σ ∧ (0 ≤ r.toInt ∧ r.toInt ≤ 1)
set_option maxHeartbeats 4000000 in
theorem c_X10_readRidge (l : Launch) (D : va_G) (cA : Nat → ClassId) (ad : Nat → Nat) (hI : Inj ad) (σ0 : Nat → Nat → Int32) (τ0 : Nat → Nat → Int64) (hR : Rg σ0)   : Met l yX10_readRidge wsX10_readRidge ({ frames := 2, cells := 0, slots := 0, locals := 43 } : Room) (WQc D cA ad [.ref (ad 6)] σ0 τ0) (va_Qi (fun (r : Int32) (u : SS) => P_X10_readRidge σ0 r u.1) (WB D cA ad) (AA ad)) 0 0 (AA ad) := by
  refine Met.ofW (cc := cX10_readRidge) (maxL := 1) (ret := (some .boolean)) (by decide) rfl ?_
  intro p e s m args below meth c s₁ B hml hv
  obtain ⟨rfl, hP, hK, hN⟩ := hv
  have C : Cy p s m _ meth c cX10_readRidge 1 wsX10_readRidge RX10 D cA ad (some .boolean) := ⟨B.exec, B.bytes, hml, findClass_of_methodNamed B.named, atoms_spec (ws := wsX10_readRidge) B.pre, hK, B.notSynchronized, B.returns, hI, hN⟩
  have hl := lv_entry ([.ref (ad 6)]) (n := 1) (Nat.le_of_ble_eq_true rfl)
  rw [lg_entry_eq]
  generalize (lg_sl ([.ref (ad 6)]) ++ List.replicate (1 - (lg_sl ([.ref (ad 6)])).length) Slot.unset).toArray = ls at hl ⊢
  have hl : lv_has ls 1 [(0, .ref (ad 6))] := hl
  have hS : va_S (AA ad) s.heap s.heap [] := va_S.rf
  have hF : Fr L_X10_readRidge σ0 σ0 := Fr.rf
  obtain ⟨hx, hb, _, hown, hts, _, hk, hr, _, _⟩ := C
  refine lv_aload_n hx hb dX10_readRidge_0 rfl (lv_at hl 0 rfl) ?_
  refine r_cVi (k := 6) (As := []) (rest := []) ⟨hx, hb, hml, hown, hts⟩ hK hP hN hS (c_X10_takeOnce l D cA ad hI σ0 τ0 hR) (cwV 0 hts gX10_readRidge_X10_takeOnce rfl rfl rfl (by decide +kernel) ⟨by decide, by decide⟩) (rv_VText hK hP (by decide) (by decide)) rfl hl.1 rfl (Nat.le_of_ble_eq_true rfl) dX10_readRidge_1 (Nat.zero_le _) (Nat.zero_le _) (fun r1 u1 H1 locs1 hp1 hP hS => ?_)
  obtain ⟨σ1, τ1⟩ := u1
  obtain ⟨hR, f1, hq1⟩ : P_X10_takeOnce σ0 r1 σ1 := hp1
  have hP : va_P D vwCl (gw cA ad σ1 τ1) H1 := hP
  have hF := hF.step f1 (by decide)
  refine r_if_eq (tgt := 20) hx hb dX10_readRidge_4 (by decide) (fun c2 => ?_) (fun c2 => ?_)
  · refine r_iconst hx hb dX10_readRidge_20 (by decide) (fun z3 ez3 => ?_)
    exact r_zret hx hb hr hK hP hS hk (by omega) dX10_readRidge_21 (show P_X10_readRidge σ0 z3 σ1 from ⟨hR, hF, by omega⟩)
  · refine lv_aload_n hx hb dX10_readRidge_7 rfl (lv_at hl 0 rfl) ?_
    refine fg_10_0 (k := 6) hx hb hts in_X10_readRidge_10 hown hK hP (by decide) (by decide) (hts _ lk_X10_readRidge_9) dX10_readRidge_8 ?_
    refine r_iconst hx hb dX10_readRidge_11 (by decide) (fun z4 ez4 => ?_)
    refine r_bipush hx hb dX10_readRidge_12 (by decide) (fun z5 ez5 => ?_)
    refine r_cVi (k := 1) (As := [.int z4, .int z5]) (rest := []) ⟨hx, hb, hml, hown, hts⟩ hK hP hN hS (c_X8_takeNumber l D cA ad hI σ1 τ1 hR z4 z5 (by omega)) (cwV 2 hts gX10_readRidge_X8_takeNumber rfl rfl rfl (by decide +kernel) ⟨by decide, by decide⟩) (rv_Tape hK hP (by decide) (by decide)) rfl hl.1 rfl (Nat.le_of_ble_eq_true rfl) dX10_readRidge_14 (Nat.zero_le _) (Nat.zero_le _) (fun r6 u6 H6 locs6 hp6 hP hS => ?_)
    obtain ⟨σ6, τ6⟩ := u6
    obtain ⟨hR, f6, hq6⟩ : P_X8_takeNumber σ1 z4 z5 r6 σ6 := hp6
    have hP : va_P D vwCl (gw cA ad σ6 τ6) H6 := hP
    have hF := hF.step f6 (by decide)
    refine r_if_ne (tgt := 22) hx hb dX10_readRidge_17 (by decide) (fun c7 => ?_) (fun c7 => ?_)
    · refine lv_aload_n hx hb dX10_readRidge_22 rfl (lv_at hl 0 rfl) ?_
      refine fg_10_1 (k := 6) hx hb hts in_X10_readRidge_10 hown hK hP (by decide) (by decide) (hts _ lk_X10_readRidge_15) dX10_readRidge_23 ?_
      refine lv_aload_n hx hb dX10_readRidge_26 rfl (lv_at hl 0 rfl) ?_
      refine fg_10_0 (k := 6) hx hb hts in_X10_readRidge_10 hown hK hP (by decide) (by decide) (hts _ lk_X10_readRidge_9) dX10_readRidge_27 ?_
      refine fgN_8_12 (k := 1) hx hb hts in_X10_readRidge_8 hown hK hP (by decide) (by decide) (hN.use nw_10_93) dX10_readRidge_30 ?_
      refine fpN_9_0 (k := 3) hx hb hts in_X10_readRidge_9 hown hK hP (by decide) (by decide) (hN.use nw_10_96) hI hR hS dX10_readRidge_33 (fun σ8 H8 locs8 u8 v8 hR hP hS => ?_)
      have hF := hF.puts u8 3 rfl (by decide) (by decide) (by decide) (by decide)
      refine r_iconst hx hb dX10_readRidge_36 (by decide) (fun z9 ez9 => ?_)
      exact r_zret hx hb hr hK hP hS hk (by omega) dX10_readRidge_37 (show P_X10_readRidge σ0 z9 σ8 from ⟨hR, hF, by omega⟩)
    · refine r_iconst hx hb dX10_readRidge_20 (by decide) (fun z10 ez10 => ?_)
      exact r_zret hx hb hr hK hP hS hk (by omega) dX10_readRidge_21 (show P_X10_readRidge σ0 z10 σ6 from ⟨hR, hF, by omega⟩)
theorem in_X10_readWheat_10 : ∀ w ∈ u_ws RX10 TX10 5, w ∈ wsX10_readWheat := by decide +kernel
theorem in_X10_readWheat_8 : ∀ w ∈ u_ws RX8 TX8 15, w ∈ wsX10_readWheat := by decide +kernel
theorem in_X10_readWheat_9 : ∀ w ∈ u_ws RX9 TX9 14, w ∈ wsX10_readWheat := by decide +kernel
theorem lk_X10_readWheat_15 : Cond.fieldLink RX10 15 "CuckooShares$ValleyText" "into" "LCuckooShares$Valley;" ∈ wsX10_readWheat := by decide +kernel
theorem lk_X10_readWheat_9 : Cond.fieldLink RX10 9 "CuckooShares$ValleyText" "tape" "LCuckooShares$Tape;" ∈ wsX10_readWheat := by decide +kernel
abbrev L_X10_readWheat : List Rc := [(6, 6, 3, 3), (1, 1, 7, 10), (1, 1, 12, 14), (3, 3, 1, 1)]
def P_X10_readWheat (σ0 : Nat → Nat → Int32)  (r : Int32) (σ : Nat → Nat → Int32) : Prop := Rg σ ∧ Fr L_X10_readWheat σ0 σ ∧ (0 ≤ r.toInt ∧ r.toInt ≤ 1)
set_option maxHeartbeats 4000000 in
theorem c_X10_readWheat (l : Launch) (D : va_G) (cA : Nat → ClassId) (ad : Nat → Nat) (hI : Inj ad) (σ0 : Nat → Nat → Int32) (τ0 : Nat → Nat → Int64) (hR : Rg σ0)   : Met l yX10_readWheat wsX10_readWheat ({ frames := 2, cells := 0, slots := 0, locals := 43 } : Room) (WQc D cA ad [.ref (ad 6)] σ0 τ0) (va_Qi (fun (r : Int32) (u : SS) => P_X10_readWheat σ0 r u.1) (WB D cA ad) (AA ad)) 0 0 (AA ad) := by
  refine Met.ofW (cc := cX10_readWheat) (maxL := 1) (ret := (some .boolean)) (by decide) rfl ?_
  intro p e s m args below meth c s₁ B hml hv
  obtain ⟨rfl, hP, hK, hN⟩ := hv
  have C : Cy p s m _ meth c cX10_readWheat 1 wsX10_readWheat RX10 D cA ad (some .boolean) := ⟨B.exec, B.bytes, hml, findClass_of_methodNamed B.named, atoms_spec (ws := wsX10_readWheat) B.pre, hK, B.notSynchronized, B.returns, hI, hN⟩
  have hl := lv_entry ([.ref (ad 6)]) (n := 1) (Nat.le_of_ble_eq_true rfl)
  rw [lg_entry_eq]
  generalize (lg_sl ([.ref (ad 6)]) ++ List.replicate (1 - (lg_sl ([.ref (ad 6)])).length) Slot.unset).toArray = ls at hl ⊢
  have hl : lv_has ls 1 [(0, .ref (ad 6))] := hl
  have hS : va_S (AA ad) s.heap s.heap [] := va_S.rf
  have hF : Fr L_X10_readWheat σ0 σ0 := Fr.rf
  obtain ⟨hx, hb, _, hown, hts, _, hk, hr, _, _⟩ := C
  refine lv_aload_n hx hb dX10_readWheat_0 rfl (lv_at hl 0 rfl) ?_
  refine r_cVi (k := 6) (As := []) (rest := []) ⟨hx, hb, hml, hown, hts⟩ hK hP hN hS (c_X10_takeOnce l D cA ad hI σ0 τ0 hR) (cwV 0 hts gX10_readWheat_X10_takeOnce rfl rfl rfl (by decide +kernel) ⟨by decide, by decide⟩) (rv_VText hK hP (by decide) (by decide)) rfl hl.1 rfl (Nat.le_of_ble_eq_true rfl) dX10_readWheat_1 (Nat.zero_le _) (Nat.zero_le _) (fun r1 u1 H1 locs1 hp1 hP hS => ?_)
  obtain ⟨σ1, τ1⟩ := u1
  obtain ⟨hR, f1, hq1⟩ : P_X10_takeOnce σ0 r1 σ1 := hp1
  have hP : va_P D vwCl (gw cA ad σ1 τ1) H1 := hP
  have hF := hF.step f1 (by decide)
  refine r_if_eq (tgt := 21) hx hb dX10_readWheat_4 (by decide) (fun c2 => ?_) (fun c2 => ?_)
  · refine r_iconst hx hb dX10_readWheat_21 (by decide) (fun z3 ez3 => ?_)
    exact r_zret hx hb hr hK hP hS hk (by omega) dX10_readWheat_22 (show P_X10_readWheat σ0 z3 σ1 from ⟨hR, hF, by omega⟩)
  · refine lv_aload_n hx hb dX10_readWheat_7 rfl (lv_at hl 0 rfl) ?_
    refine fg_10_0 (k := 6) hx hb hts in_X10_readWheat_10 hown hK hP (by decide) (by decide) (hts _ lk_X10_readWheat_9) dX10_readWheat_8 ?_
    refine r_iconst hx hb dX10_readWheat_11 (by decide) (fun z4 ez4 => ?_)
    refine r_sipush hx hb dX10_readWheat_12 (by decide) (fun z5 ez5 => ?_)
    refine r_cVi (k := 1) (As := [.int z4, .int z5]) (rest := []) ⟨hx, hb, hml, hown, hts⟩ hK hP hN hS (c_X8_takeNumber l D cA ad hI σ1 τ1 hR z4 z5 (by omega)) (cwV 2 hts gX10_readWheat_X8_takeNumber rfl rfl rfl (by decide +kernel) ⟨by decide, by decide⟩) (rv_Tape hK hP (by decide) (by decide)) rfl hl.1 rfl (Nat.le_of_ble_eq_true rfl) dX10_readWheat_15 (Nat.zero_le _) (Nat.zero_le _) (fun r6 u6 H6 locs6 hp6 hP hS => ?_)
    obtain ⟨σ6, τ6⟩ := u6
    obtain ⟨hR, f6, hq6⟩ : P_X8_takeNumber σ1 z4 z5 r6 σ6 := hp6
    have hP : va_P D vwCl (gw cA ad σ6 τ6) H6 := hP
    have hF := hF.step f6 (by decide)
    refine r_if_ne (tgt := 23) hx hb dX10_readWheat_18 (by decide) (fun c7 => ?_) (fun c7 => ?_)
    · refine lv_aload_n hx hb dX10_readWheat_23 rfl (lv_at hl 0 rfl) ?_
      refine fg_10_1 (k := 6) hx hb hts in_X10_readWheat_10 hown hK hP (by decide) (by decide) (hts _ lk_X10_readWheat_15) dX10_readWheat_24 ?_
      refine lv_aload_n hx hb dX10_readWheat_27 rfl (lv_at hl 0 rfl) ?_
      refine fg_10_0 (k := 6) hx hb hts in_X10_readWheat_10 hown hK hP (by decide) (by decide) (hts _ lk_X10_readWheat_9) dX10_readWheat_28 ?_
      refine fgN_8_12 (k := 1) hx hb hts in_X10_readWheat_8 hown hK hP (by decide) (by decide) (hN.use nw_10_93) dX10_readWheat_31 ?_
      refine fpN_9_1 (k := 3) hx hb hts in_X10_readWheat_9 hown hK hP (by decide) (by decide) (hN.use nw_10_99) hI hR hS dX10_readWheat_34 (fun σ8 H8 locs8 u8 v8 hR hP hS => ?_)
      have hF := hF.puts u8 3 rfl (by decide) (by decide) (by decide) (by decide)
      refine r_iconst hx hb dX10_readWheat_37 (by decide) (fun z9 ez9 => ?_)
      exact r_zret hx hb hr hK hP hS hk (by omega) dX10_readWheat_38 (show P_X10_readWheat σ0 z9 σ8 from ⟨hR, hF, by omega⟩)
    · refine r_iconst hx hb dX10_readWheat_21 (by decide) (fun z10 ez10 => ?_)
      exact r_zret hx hb hr hK hP hS hk (by omega) dX10_readWheat_22 (show P_X10_readWheat σ0 z10 σ6 from ⟨hR, hF, by omega⟩)
theorem in_X10_readWind_10 : ∀ w ∈ u_ws RX10 TX10 5, w ∈ wsX10_readWind := by decide +kernel
theorem in_X10_readWind_8 : ∀ w ∈ u_ws RX8 TX8 15, w ∈ wsX10_readWind := by decide +kernel
theorem in_X10_readWind_9 : ∀ w ∈ u_ws RX9 TX9 14, w ∈ wsX10_readWind := by decide +kernel
theorem lk_X10_readWind_15 : Cond.fieldLink RX10 15 "CuckooShares$ValleyText" "into" "LCuckooShares$Valley;" ∈ wsX10_readWind := by decide +kernel
theorem lk_X10_readWind_9 : Cond.fieldLink RX10 9 "CuckooShares$ValleyText" "tape" "LCuckooShares$Tape;" ∈ wsX10_readWind := by decide +kernel
abbrev L_X10_readWind : List Rc := [(6, 6, 3, 3), (1, 1, 7, 10), (1, 1, 12, 14), (3, 3, 2, 3)]
def P_X10_readWind (σ0 : Nat → Nat → Int32)  (r : Int32) (σ : Nat → Nat → Int32) : Prop := Rg σ ∧ Fr L_X10_readWind σ0 σ ∧ (0 ≤ r.toInt ∧ r.toInt ≤ 1)
set_option maxHeartbeats 4000000 in
theorem c_X10_readWind (l : Launch) (D : va_G) (cA : Nat → ClassId) (ad : Nat → Nat) (hI : Inj ad) (σ0 : Nat → Nat → Int32) (τ0 : Nat → Nat → Int64) (hR : Rg σ0)   : Met l yX10_readWind wsX10_readWind ({ frames := 2, cells := 0, slots := 0, locals := 43 } : Room) (WQc D cA ad [.ref (ad 6)] σ0 τ0) (va_Qi (fun (r : Int32) (u : SS) => P_X10_readWind σ0 r u.1) (WB D cA ad) (AA ad)) 0 0 (AA ad) := by
  refine Met.ofW (cc := cX10_readWind) (maxL := 1) (ret := (some .boolean)) (by decide) rfl ?_
  intro p e s m args below meth c s₁ B hml hv
  obtain ⟨rfl, hP, hK, hN⟩ := hv
  have C : Cy p s m _ meth c cX10_readWind 1 wsX10_readWind RX10 D cA ad (some .boolean) := ⟨B.exec, B.bytes, hml, findClass_of_methodNamed B.named, atoms_spec (ws := wsX10_readWind) B.pre, hK, B.notSynchronized, B.returns, hI, hN⟩
  have hl := lv_entry ([.ref (ad 6)]) (n := 1) (Nat.le_of_ble_eq_true rfl)
  rw [lg_entry_eq]
  generalize (lg_sl ([.ref (ad 6)]) ++ List.replicate (1 - (lg_sl ([.ref (ad 6)])).length) Slot.unset).toArray = ls at hl ⊢
  have hl : lv_has ls 1 [(0, .ref (ad 6))] := hl
  have hS : va_S (AA ad) s.heap s.heap [] := va_S.rf
  have hF : Fr L_X10_readWind σ0 σ0 := Fr.rf
  obtain ⟨hx, hb, _, hown, hts, _, hk, hr, _, _⟩ := C
  refine lv_aload_n hx hb dX10_readWind_0 rfl (lv_at hl 0 rfl) ?_
  refine r_cVi (k := 6) (As := []) (rest := []) ⟨hx, hb, hml, hown, hts⟩ hK hP hN hS (c_X10_takeOnce l D cA ad hI σ0 τ0 hR) (cwV 0 hts gX10_readWind_X10_takeOnce rfl rfl rfl (by decide +kernel) ⟨by decide, by decide⟩) (rv_VText hK hP (by decide) (by decide)) rfl hl.1 rfl (Nat.le_of_ble_eq_true rfl) dX10_readWind_1 (Nat.zero_le _) (Nat.zero_le _) (fun r1 u1 H1 locs1 hp1 hP hS => ?_)
  obtain ⟨σ1, τ1⟩ := u1
  obtain ⟨hR, f1, hq1⟩ : P_X10_takeOnce σ0 r1 σ1 := hp1
  have hP : va_P D vwCl (gw cA ad σ1 τ1) H1 := hP
  have hF := hF.step f1 (by decide)
  refine r_if_ne (tgt := 9) hx hb dX10_readWind_4 (by decide) (fun c2 => ?_) (fun c2 => ?_)
  · refine lv_aload_n hx hb dX10_readWind_9 rfl (lv_at hl 0 rfl) ?_
    refine fg_10_0 (k := 6) hx hb hts in_X10_readWind_10 hown hK hP (by decide) (by decide) (hts _ lk_X10_readWind_9) dX10_readWind_10 ?_
    refine fgN_8_9 (k := 1) hx hb hts in_X10_readWind_8 hown hK hP (by decide) (by decide) (hN.use nw_10_34) dX10_readWind_13 ?_
    refine r_iconst hx hb dX10_readWind_16 (by decide) (fun z3 ez3 => ?_)
    refine r_icmp_lt (tgt := 32) hx hb dX10_readWind_17 (by decide) (fun c4 => ?_) (fun c4 => ?_)
    · refine lv_aload_n hx hb dX10_readWind_32 rfl (lv_at hl 0 rfl) ?_
      refine fg_10_0 (k := 6) hx hb hts in_X10_readWind_10 hown hK hP (by decide) (by decide) (hts _ lk_X10_readWind_9) dX10_readWind_33 ?_
      refine r_iconst hx hb dX10_readWind_36 (by decide) (fun z5 ez5 => ?_)
      refine r_cVi (k := 1) (As := [.int z5]) (rest := []) ⟨hx, hb, hml, hown, hts⟩ hK hP hN hS (c_X8_blame l D cA ad hI σ1 τ1 hR z5 (by omega)) (cwV 1 hts gX10_readWind_X8_blame rfl rfl rfl (by decide +kernel) ⟨by decide, by decide⟩) (rv_Tape hK hP (by decide) (by decide)) rfl hl.1 rfl (Nat.le_of_ble_eq_true rfl) dX10_readWind_37 (Nat.zero_le _) (Nat.zero_le _) (fun r6 u6 H6 locs6 hp6 hP hS => ?_)
      obtain ⟨σ6, τ6⟩ := u6
      obtain ⟨hR, f6, hq6⟩ : P_X8_blame σ1 z5 r6 σ6 := hp6
      have hP : va_P D vwCl (gw cA ad σ6 τ6) H6 := hP
      have hF := hF.step f6 (by decide)
      have t7 : (σ6 1 9).toInt = (σ1 1 9).toInt := congrArg Int32.toInt (f6.at 1 9 (by decide))
      exact r_zret hx hb hr hK hP hS hk (by omega) dX10_readWind_40 (show P_X10_readWind σ0 r6 σ6 from ⟨hR, hF, by omega⟩)
    · refine lv_aload_n hx hb dX10_readWind_20 rfl (lv_at hl 0 rfl) ?_
      refine fg_10_0 (k := 6) hx hb hts in_X10_readWind_10 hown hK hP (by decide) (by decide) (hts _ lk_X10_readWind_9) dX10_readWind_21 ?_
      refine fgN_8_9 (k := 1) hx hb hts in_X10_readWind_8 hown hK hP (by decide) (by decide) (hN.use nw_10_34) dX10_readWind_24 ?_
      refine r_bipush hx hb dX10_readWind_27 (by decide) (fun z8 ez8 => ?_)
      refine r_icmp_le (tgt := 41) hx hb dX10_readWind_29 (by decide) (fun c9 => ?_) (fun c9 => ?_)
      · refine lv_aload_n hx hb dX10_readWind_41 rfl (lv_at hl 0 rfl) ?_
        refine fg_10_1 (k := 6) hx hb hts in_X10_readWind_10 hown hK hP (by decide) (by decide) (hts _ lk_X10_readWind_15) dX10_readWind_42 ?_
        refine lv_aload_n hx hb dX10_readWind_45 rfl (lv_at hl 0 rfl) ?_
        refine fg_10_0 (k := 6) hx hb hts in_X10_readWind_10 hown hK hP (by decide) (by decide) (hts _ lk_X10_readWind_9) dX10_readWind_46 ?_
        refine fgN_8_9 (k := 1) hx hb hts in_X10_readWind_8 hown hK hP (by decide) (by decide) (hN.use nw_10_34) dX10_readWind_49 ?_
        refine fpN_9_2 (k := 3) hx hb hts in_X10_readWind_9 hown hK hP (by decide) (by decide) (hN.use nw_10_102) hI hR hS dX10_readWind_52 (fun σ10 H10 locs10 u10 v10 hR hP hS => ?_)
        have hF := hF.puts u10 3 rfl (by decide) (by decide) (by decide) (by decide)
        have t11 : (σ10 1 9).toInt = (σ1 1 9).toInt := congrArg Int32.toInt (u10 1 9 (by omega))
        refine lv_aload_n hx hb dX10_readWind_55 rfl (lv_at hl 0 rfl) ?_
        refine fg_10_0 (k := 6) hx hb hts in_X10_readWind_10 hown hK hP (by decide) (by decide) (hts _ lk_X10_readWind_9) dX10_readWind_56 ?_
        refine r_cVv (k := 1) (As := []) (rest := []) ⟨hx, hb, hml, hown, hts⟩ hK hP hN hS (c_X8_next l D cA ad hI σ10 τ1 hR) (cwV 0 hts gX10_readWind_X8_next rfl rfl rfl (by decide +kernel) ⟨by decide, by decide⟩) (rv_Tape hK hP (by decide) (by decide)) rfl hl.1 rfl (Nat.le_of_ble_eq_true rfl) dX10_readWind_59 (Nat.zero_le _) (Nat.zero_le _) (fun u12 H12 locs12 hp12 hP hS => ?_)
        obtain ⟨σ12, τ12⟩ := u12
        obtain ⟨hR, f12⟩ : P_X8_next σ10 σ12 := hp12
        have hP : va_P D vwCl (gw cA ad σ12 τ12) H12 := hP
        have hF := hF.step f12 (by decide)
        refine lv_aload_n hx hb dX10_readWind_62 rfl (lv_at hl 0 rfl) ?_
        refine fg_10_0 (k := 6) hx hb hts in_X10_readWind_10 hown hK hP (by decide) (by decide) (hts _ lk_X10_readWind_9) dX10_readWind_63 ?_
        refine r_iconst hx hb dX10_readWind_66 (by decide) (fun z13 ez13 => ?_)
        refine r_bipush hx hb dX10_readWind_67 (by decide) (fun z14 ez14 => ?_)
        refine r_cVi (k := 1) (As := [.int z13, .int z14]) (rest := []) ⟨hx, hb, hml, hown, hts⟩ hK hP hN hS (c_X8_takeNumber l D cA ad hI σ12 τ12 hR z13 z14 (by omega)) (cwV 2 hts gX10_readWind_X8_takeNumber rfl rfl rfl (by decide +kernel) ⟨by decide, by decide⟩) (rv_Tape hK hP (by decide) (by decide)) rfl hl.1 rfl (Nat.le_of_ble_eq_true rfl) dX10_readWind_69 (Nat.zero_le _) (Nat.zero_le _) (fun r15 u15 H15 locs15 hp15 hP hS => ?_)
        obtain ⟨σ15, τ15⟩ := u15
        obtain ⟨hR, f15, hq15⟩ : P_X8_takeNumber σ12 z13 z14 r15 σ15 := hp15
        have hP : va_P D vwCl (gw cA ad σ15 τ15) H15 := hP
        have hF := hF.step f15 (by decide)
        refine r_if_ne (tgt := 77) hx hb dX10_readWind_72 (by decide) (fun c16 => ?_) (fun c16 => ?_)
        · refine lv_aload_n hx hb dX10_readWind_77 rfl (lv_at hl 0 rfl) ?_
          refine fg_10_1 (k := 6) hx hb hts in_X10_readWind_10 hown hK hP (by decide) (by decide) (hts _ lk_X10_readWind_15) dX10_readWind_78 ?_
          refine lv_aload_n hx hb dX10_readWind_81 rfl (lv_at hl 0 rfl) ?_
          refine fg_10_0 (k := 6) hx hb hts in_X10_readWind_10 hown hK hP (by decide) (by decide) (hts _ lk_X10_readWind_9) dX10_readWind_82 ?_
          refine fgN_8_12 (k := 1) hx hb hts in_X10_readWind_8 hown hK hP (by decide) (by decide) (hN.use nw_10_93) dX10_readWind_85 ?_
          refine fpN_9_3 (k := 3) hx hb hts in_X10_readWind_9 hown hK hP (by decide) (by decide) (hN.use nw_10_105) hI hR hS dX10_readWind_88 (fun σ17 H17 locs17 u17 v17 hR hP hS => ?_)
          have hF := hF.puts u17 3 rfl (by decide) (by decide) (by decide) (by decide)
          refine r_iconst hx hb dX10_readWind_91 (by decide) (fun z18 ez18 => ?_)
          exact r_zret hx hb hr hK hP hS hk (by omega) dX10_readWind_92 (show P_X10_readWind σ0 z18 σ17 from ⟨hR, hF, by omega⟩)
        · refine r_iconst hx hb dX10_readWind_75 (by decide) (fun z19 ez19 => ?_)
          exact r_zret hx hb hr hK hP hS hk (by omega) dX10_readWind_76 (show P_X10_readWind σ0 z19 σ15 from ⟨hR, hF, by omega⟩)
      · refine lv_aload_n hx hb dX10_readWind_32 rfl (lv_at hl 0 rfl) ?_
        refine fg_10_0 (k := 6) hx hb hts in_X10_readWind_10 hown hK hP (by decide) (by decide) (hts _ lk_X10_readWind_9) dX10_readWind_33 ?_
        refine r_iconst hx hb dX10_readWind_36 (by decide) (fun z20 ez20 => ?_)
        refine r_cVi (k := 1) (As := [.int z20]) (rest := []) ⟨hx, hb, hml, hown, hts⟩ hK hP hN hS (c_X8_blame l D cA ad hI σ1 τ1 hR z20 (by omega)) (cwV 1 hts gX10_readWind_X8_blame rfl rfl rfl (by decide +kernel) ⟨by decide, by decide⟩) (rv_Tape hK hP (by decide) (by decide)) rfl hl.1 rfl (Nat.le_of_ble_eq_true rfl) dX10_readWind_37 (Nat.zero_le _) (Nat.zero_le _) (fun r21 u21 H21 locs21 hp21 hP hS => ?_)
        obtain ⟨σ21, τ21⟩ := u21
        obtain ⟨hR, f21, hq21⟩ : P_X8_blame σ1 z20 r21 σ21 := hp21
        have hP : va_P D vwCl (gw cA ad σ21 τ21) H21 := hP
        have hF := hF.step f21 (by decide)
        have t22 : (σ21 1 9).toInt = (σ1 1 9).toInt := congrArg Int32.toInt (f21.at 1 9 (by decide))
        exact r_zret hx hb hr hK hP hS hk (by omega) dX10_readWind_40 (show P_X10_readWind σ0 r21 σ21 from ⟨hR, hF, by omega⟩)
  · refine r_iconst hx hb dX10_readWind_7 (by decide) (fun z23 ez23 => ?_)
    exact r_zret hx hb hr hK hP hS hk (by omega) dX10_readWind_8 (show P_X10_readWind σ0 z23 σ1 from ⟨hR, hF, by omega⟩)
theorem in_X10_readLine_10 : ∀ w ∈ u_ws RX10 TX10 5, w ∈ wsX10_readLine := by decide +kernel
theorem in_X10_readLine_8 : ∀ w ∈ u_ws RX8 TX8 15, w ∈ wsX10_readLine := by decide +kernel
theorem lk_X10_readLine_9 : Cond.fieldLink RX10 9 "CuckooShares$ValleyText" "tape" "LCuckooShares$Tape;" ∈ wsX10_readLine := by decide +kernel
abbrev L_X10_readLine : List Rc := [(1, 1, 7, 10), (1, 1, 12, 14), (6, 6, 3, 4), (3, 3, 0, 6), (136, 139, 0, 2), (76, 83, 0, 2), (108, 115, 0, 5), (148, 227, 0, 2)]
def P_X10_readLine (σ0 : Nat → Nat → Int32)  (r : Int32) (σ : Nat → Nat → Int32) : Prop := Rg σ ∧ Fr L_X10_readLine σ0 σ ∧ (0 ≤ r.toInt ∧ r.toInt ≤ 1)
set_option maxHeartbeats 4000000 in
theorem c_X10_readLine (l : Launch) (D : va_G) (cA : Nat → ClassId) (ad : Nat → Nat) (hI : Inj ad) (σ0 : Nat → Nat → Int32) (τ0 : Nat → Nat → Int64) (hR : Rg σ0)   : Met l yX10_readLine wsX10_readLine ({ frames := 5, cells := 0, slots := 0, locals := 108 } : Room) (WQc D cA ad [.ref (ad 6)] σ0 τ0) (va_Qi (fun (r : Int32) (u : SS) => P_X10_readLine σ0 r u.1) (WB D cA ad) (AA ad)) 0 0 (AA ad) := by
  refine Met.ofW (cc := cX10_readLine) (maxL := 1) (ret := (some .boolean)) (by decide) rfl ?_
  intro p e s m args below meth c s₁ B hml hv
  obtain ⟨rfl, hP, hK, hN⟩ := hv
  have C : Cy p s m _ meth c cX10_readLine 1 wsX10_readLine RX10 D cA ad (some .boolean) := ⟨B.exec, B.bytes, hml, findClass_of_methodNamed B.named, atoms_spec (ws := wsX10_readLine) B.pre, hK, B.notSynchronized, B.returns, hI, hN⟩
  have hl := lv_entry ([.ref (ad 6)]) (n := 1) (Nat.le_of_ble_eq_true rfl)
  rw [lg_entry_eq]
  generalize (lg_sl ([.ref (ad 6)]) ++ List.replicate (1 - (lg_sl ([.ref (ad 6)])).length) Slot.unset).toArray = ls at hl ⊢
  have hl : lv_has ls 1 [(0, .ref (ad 6))] := hl
  have hS : va_S (AA ad) s.heap s.heap [] := va_S.rf
  have hF : Fr L_X10_readLine σ0 σ0 := Fr.rf
  obtain ⟨hx, hb, _, hown, hts, _, hk, hr, _, _⟩ := C
  refine lv_aload_n hx hb dX10_readLine_0 rfl (lv_at hl 0 rfl) ?_
  refine fg_10_0 (k := 6) hx hb hts in_X10_readLine_10 hown hK hP (by decide) (by decide) (hts _ lk_X10_readLine_9) dX10_readLine_1 ?_
  refine fgN_8_9 (k := 1) hx hb hts in_X10_readLine_8 hown hK hP (by decide) (by decide) (hN.use nw_10_34) dX10_readLine_4 ?_
  by_cases c1 : (σ0 1 9).toInt = 0
  · refine lv_tableIn (off := 69) (tgt := 76) hx hb dX10_readLine_7 (by omega) (by omega) (by rw [c1]; rfl) (by decide) ?_
    refine lv_aload_n hx hb dX10_readLine_76 rfl (lv_at hl 0 rfl) ?_
    refine r_cVi (k := 6) (As := []) (rest := []) ⟨hx, hb, hml, hown, hts⟩ hK hP hN hS (c_X10_readRidge l D cA ad hI σ0 τ0 hR) (cwV 0 hts gX10_readLine_X10_readRidge rfl rfl rfl (by decide +kernel) ⟨by decide, by decide⟩) (rv_VText hK hP (by decide) (by decide)) rfl hl.1 rfl (Nat.le_of_ble_eq_true rfl) dX10_readLine_77 (Nat.zero_le _) (Nat.zero_le _) (fun r2 u2 H2 locs2 hp2 hP hS => ?_)
    obtain ⟨σ2, τ2⟩ := u2
    obtain ⟨hR, f2, hq2⟩ : P_X10_readRidge σ0 r2 σ2 := hp2
    have hP : va_P D vwCl (gw cA ad σ2 τ2) H2 := hP
    have hF := hF.step f2 (by decide)
    exact r_zret hx hb hr hK hP hS hk (by omega) dX10_readLine_80 (show P_X10_readLine σ0 r2 σ2 from ⟨hR, hF, by omega⟩)
  by_cases c3 : (σ0 1 9).toInt = 1
  · refine lv_tableIn (off := 74) (tgt := 81) hx hb dX10_readLine_7 (by omega) (by omega) (by rw [c3]; rfl) (by decide) ?_
    refine lv_aload_n hx hb dX10_readLine_81 rfl (lv_at hl 0 rfl) ?_
    refine r_cVi (k := 6) (As := []) (rest := []) ⟨hx, hb, hml, hown, hts⟩ hK hP hN hS (c_X10_readWheat l D cA ad hI σ0 τ0 hR) (cwV 0 hts gX10_readLine_X10_readWheat rfl rfl rfl (by decide +kernel) ⟨by decide, by decide⟩) (rv_VText hK hP (by decide) (by decide)) rfl hl.1 rfl (Nat.le_of_ble_eq_true rfl) dX10_readLine_82 (Nat.zero_le _) (Nat.zero_le _) (fun r4 u4 H4 locs4 hp4 hP hS => ?_)
    obtain ⟨σ4, τ4⟩ := u4
    obtain ⟨hR, f4, hq4⟩ : P_X10_readWheat σ0 r4 σ4 := hp4
    have hP : va_P D vwCl (gw cA ad σ4 τ4) H4 := hP
    have hF := hF.step f4 (by decide)
    exact r_zret hx hb hr hK hP hS hk (by omega) dX10_readLine_85 (show P_X10_readLine σ0 r4 σ4 from ⟨hR, hF, by omega⟩)
  by_cases c5 : (σ0 1 9).toInt = 2
  · refine lv_tableIn (off := 79) (tgt := 86) hx hb dX10_readLine_7 (by omega) (by omega) (by rw [c5]; rfl) (by decide) ?_
    refine lv_aload_n hx hb dX10_readLine_86 rfl (lv_at hl 0 rfl) ?_
    refine r_cVi (k := 6) (As := []) (rest := []) ⟨hx, hb, hml, hown, hts⟩ hK hP hN hS (c_X10_readWind l D cA ad hI σ0 τ0 hR) (cwV 0 hts gX10_readLine_X10_readWind rfl rfl rfl (by decide +kernel) ⟨by decide, by decide⟩) (rv_VText hK hP (by decide) (by decide)) rfl hl.1 rfl (Nat.le_of_ble_eq_true rfl) dX10_readLine_87 (Nat.zero_le _) (Nat.zero_le _) (fun r6 u6 H6 locs6 hp6 hP hS => ?_)
    obtain ⟨σ6, τ6⟩ := u6
    obtain ⟨hR, f6, hq6⟩ : P_X10_readWind σ0 r6 σ6 := hp6
    have hP : va_P D vwCl (gw cA ad σ6 τ6) H6 := hP
    have hF := hF.step f6 (by decide)
    exact r_zret hx hb hr hK hP hS hk (by omega) dX10_readLine_90 (show P_X10_readLine σ0 r6 σ6 from ⟨hR, hF, by omega⟩)
  by_cases c7 : (σ0 1 9).toInt = 3
  · refine lv_tableIn (off := 119) (tgt := 126) hx hb dX10_readLine_7 (by omega) (by omega) (by rw [c7]; rfl) (by decide) ?_
    refine lv_aload_n hx hb dX10_readLine_126 rfl (lv_at hl 0 rfl) ?_
    refine fg_10_0 (k := 6) hx hb hts in_X10_readLine_10 hown hK hP (by decide) (by decide) (hts _ lk_X10_readLine_9) dX10_readLine_127 ?_
    refine r_iconst hx hb dX10_readLine_130 (by decide) (fun z8 ez8 => ?_)
    refine r_cVi (k := 1) (As := [.int z8]) (rest := []) ⟨hx, hb, hml, hown, hts⟩ hK hP hN hS (c_X8_blame l D cA ad hI σ0 τ0 hR z8 (by omega)) (cwV 1 hts gX10_readLine_X8_blame rfl rfl rfl (by decide +kernel) ⟨by decide, by decide⟩) (rv_Tape hK hP (by decide) (by decide)) rfl hl.1 rfl (Nat.le_of_ble_eq_true rfl) dX10_readLine_131 (Nat.zero_le _) (Nat.zero_le _) (fun r9 u9 H9 locs9 hp9 hP hS => ?_)
    obtain ⟨σ9, τ9⟩ := u9
    obtain ⟨hR, f9, hq9⟩ : P_X8_blame σ0 z8 r9 σ9 := hp9
    have hP : va_P D vwCl (gw cA ad σ9 τ9) H9 := hP
    have hF := hF.step f9 (by decide)
    exact r_zret hx hb hr hK hP hS hk (by omega) dX10_readLine_134 (show P_X10_readLine σ0 r9 σ9 from ⟨hR, hF, by omega⟩)
  by_cases c10 : (σ0 1 9).toInt = 4
  · refine lv_tableIn (off := 119) (tgt := 126) hx hb dX10_readLine_7 (by omega) (by omega) (by rw [c10]; rfl) (by decide) ?_
    refine lv_aload_n hx hb dX10_readLine_126 rfl (lv_at hl 0 rfl) ?_
    refine fg_10_0 (k := 6) hx hb hts in_X10_readLine_10 hown hK hP (by decide) (by decide) (hts _ lk_X10_readLine_9) dX10_readLine_127 ?_
    refine r_iconst hx hb dX10_readLine_130 (by decide) (fun z11 ez11 => ?_)
    refine r_cVi (k := 1) (As := [.int z11]) (rest := []) ⟨hx, hb, hml, hown, hts⟩ hK hP hN hS (c_X8_blame l D cA ad hI σ0 τ0 hR z11 (by omega)) (cwV 1 hts gX10_readLine_X8_blame rfl rfl rfl (by decide +kernel) ⟨by decide, by decide⟩) (rv_Tape hK hP (by decide) (by decide)) rfl hl.1 rfl (Nat.le_of_ble_eq_true rfl) dX10_readLine_131 (Nat.zero_le _) (Nat.zero_le _) (fun r12 u12 H12 locs12 hp12 hP hS => ?_)
    obtain ⟨σ12, τ12⟩ := u12
    obtain ⟨hR, f12, hq12⟩ : P_X8_blame σ0 z11 r12 σ12 := hp12
    have hP : va_P D vwCl (gw cA ad σ12 τ12) H12 := hP
    have hF := hF.step f12 (by decide)
    exact r_zret hx hb hr hK hP hS hk (by omega) dX10_readLine_134 (show P_X10_readLine σ0 r12 σ12 from ⟨hR, hF, by omega⟩)
  by_cases c13 : (σ0 1 9).toInt = 5
  · refine lv_tableIn (off := 119) (tgt := 126) hx hb dX10_readLine_7 (by omega) (by omega) (by rw [c13]; rfl) (by decide) ?_
    refine lv_aload_n hx hb dX10_readLine_126 rfl (lv_at hl 0 rfl) ?_
    refine fg_10_0 (k := 6) hx hb hts in_X10_readLine_10 hown hK hP (by decide) (by decide) (hts _ lk_X10_readLine_9) dX10_readLine_127 ?_
    refine r_iconst hx hb dX10_readLine_130 (by decide) (fun z14 ez14 => ?_)
    refine r_cVi (k := 1) (As := [.int z14]) (rest := []) ⟨hx, hb, hml, hown, hts⟩ hK hP hN hS (c_X8_blame l D cA ad hI σ0 τ0 hR z14 (by omega)) (cwV 1 hts gX10_readLine_X8_blame rfl rfl rfl (by decide +kernel) ⟨by decide, by decide⟩) (rv_Tape hK hP (by decide) (by decide)) rfl hl.1 rfl (Nat.le_of_ble_eq_true rfl) dX10_readLine_131 (Nat.zero_le _) (Nat.zero_le _) (fun r15 u15 H15 locs15 hp15 hP hS => ?_)
    obtain ⟨σ15, τ15⟩ := u15
    obtain ⟨hR, f15, hq15⟩ : P_X8_blame σ0 z14 r15 σ15 := hp15
    have hP : va_P D vwCl (gw cA ad σ15 τ15) H15 := hP
    have hF := hF.step f15 (by decide)
    exact r_zret hx hb hr hK hP hS hk (by omega) dX10_readLine_134 (show P_X10_readLine σ0 r15 σ15 from ⟨hR, hF, by omega⟩)
  by_cases c16 : (σ0 1 9).toInt = 6
  · refine lv_tableIn (off := 119) (tgt := 126) hx hb dX10_readLine_7 (by omega) (by omega) (by rw [c16]; rfl) (by decide) ?_
    refine lv_aload_n hx hb dX10_readLine_126 rfl (lv_at hl 0 rfl) ?_
    refine fg_10_0 (k := 6) hx hb hts in_X10_readLine_10 hown hK hP (by decide) (by decide) (hts _ lk_X10_readLine_9) dX10_readLine_127 ?_
    refine r_iconst hx hb dX10_readLine_130 (by decide) (fun z17 ez17 => ?_)
    refine r_cVi (k := 1) (As := [.int z17]) (rest := []) ⟨hx, hb, hml, hown, hts⟩ hK hP hN hS (c_X8_blame l D cA ad hI σ0 τ0 hR z17 (by omega)) (cwV 1 hts gX10_readLine_X8_blame rfl rfl rfl (by decide +kernel) ⟨by decide, by decide⟩) (rv_Tape hK hP (by decide) (by decide)) rfl hl.1 rfl (Nat.le_of_ble_eq_true rfl) dX10_readLine_131 (Nat.zero_le _) (Nat.zero_le _) (fun r18 u18 H18 locs18 hp18 hP hS => ?_)
    obtain ⟨σ18, τ18⟩ := u18
    obtain ⟨hR, f18, hq18⟩ : P_X8_blame σ0 z17 r18 σ18 := hp18
    have hP : va_P D vwCl (gw cA ad σ18 τ18) H18 := hP
    have hF := hF.step f18 (by decide)
    exact r_zret hx hb hr hK hP hS hk (by omega) dX10_readLine_134 (show P_X10_readLine σ0 r18 σ18 from ⟨hR, hF, by omega⟩)
  by_cases c19 : (σ0 1 9).toInt = 7
  · refine lv_tableIn (off := 84) (tgt := 91) hx hb dX10_readLine_7 (by omega) (by omega) (by rw [c19]; rfl) (by decide) ?_
    refine lv_aload_n hx hb dX10_readLine_91 rfl (lv_at hl 0 rfl) ?_
    refine r_cVi (k := 6) (As := []) (rest := []) ⟨hx, hb, hml, hown, hts⟩ hK hP hN hS (c_X10_readHill l D cA ad hI σ0 τ0 hR) (cwV 0 hts gX10_readLine_X10_readHill rfl rfl rfl (by decide +kernel) ⟨by decide, by decide⟩) (rv_VText hK hP (by decide) (by decide)) rfl hl.1 rfl (Nat.le_of_ble_eq_true rfl) dX10_readLine_92 (Nat.zero_le _) (Nat.zero_le _) (fun r20 u20 H20 locs20 hp20 hP hS => ?_)
    obtain ⟨σ20, τ20⟩ := u20
    obtain ⟨hR, f20, hq20⟩ : P_X10_readHill σ0 r20 σ20 := hp20
    have hP : va_P D vwCl (gw cA ad σ20 τ20) H20 := hP
    have hF := hF.step f20 (by decide)
    exact r_zret hx hb hr hK hP hS hk (by omega) dX10_readLine_95 (show P_X10_readLine σ0 r20 σ20 from ⟨hR, hF, by omega⟩)
  by_cases c21 : (σ0 1 9).toInt = 8
  · refine lv_tableIn (off := 89) (tgt := 96) hx hb dX10_readLine_7 (by omega) (by omega) (by rw [c21]; rfl) (by decide) ?_
    refine lv_aload_n hx hb dX10_readLine_96 rfl (lv_at hl 0 rfl) ?_
    refine r_cVi (k := 6) (As := []) (rest := []) ⟨hx, hb, hml, hown, hts⟩ hK hP hN hS (c_X10_readFall l D cA ad hI σ0 τ0 hR) (cwV 0 hts gX10_readLine_X10_readFall rfl rfl rfl (by decide +kernel) ⟨by decide, by decide⟩) (rv_VText hK hP (by decide) (by decide)) rfl hl.1 rfl (Nat.le_of_ble_eq_true rfl) dX10_readLine_97 (Nat.zero_le _) (Nat.zero_le _) (fun r22 u22 H22 locs22 hp22 hP hS => ?_)
    obtain ⟨σ22, τ22⟩ := u22
    obtain ⟨hR, f22, hq22⟩ : P_X10_readFall σ0 r22 σ22 := hp22
    have hP : va_P D vwCl (gw cA ad σ22 τ22) H22 := hP
    have hF := hF.step f22 (by decide)
    exact r_zret hx hb hr hK hP hS hk (by omega) dX10_readLine_100 (show P_X10_readLine σ0 r22 σ22 from ⟨hR, hF, by omega⟩)
  by_cases c23 : (σ0 1 9).toInt = 9
  · refine lv_tableIn (off := 94) (tgt := 101) hx hb dX10_readLine_7 (by omega) (by omega) (by rw [c23]; rfl) (by decide) ?_
    refine lv_aload_n hx hb dX10_readLine_101 rfl (lv_at hl 0 rfl) ?_
    refine r_cVi (k := 6) (As := []) (rest := []) ⟨hx, hb, hml, hown, hts⟩ hK hP hN hS (c_X10_readMan l D cA ad hI σ0 τ0 hR) (cwV 0 hts gX10_readLine_X10_readMan rfl rfl rfl (by decide +kernel) ⟨by decide, by decide⟩) (rv_VText hK hP (by decide) (by decide)) rfl hl.1 rfl (Nat.le_of_ble_eq_true rfl) dX10_readLine_102 (Nat.zero_le _) (Nat.zero_le _) (fun r24 u24 H24 locs24 hp24 hP hS => ?_)
    obtain ⟨σ24, τ24⟩ := u24
    obtain ⟨hR, f24, hq24⟩ : P_X10_readMan σ0 r24 σ24 := hp24
    have hP : va_P D vwCl (gw cA ad σ24 τ24) H24 := hP
    have hF := hF.step f24 (by decide)
    exact r_zret hx hb hr hK hP hS hk (by omega) dX10_readLine_105 (show P_X10_readLine σ0 r24 σ24 from ⟨hR, hF, by omega⟩)
  by_cases c25 : (σ0 1 9).toInt = 10
  · refine lv_tableIn (off := 99) (tgt := 106) hx hb dX10_readLine_7 (by omega) (by omega) (by rw [c25]; rfl) (by decide) ?_
    refine lv_aload_n hx hb dX10_readLine_106 rfl (lv_at hl 0 rfl) ?_
    refine r_cVi (k := 6) (As := []) (rest := []) ⟨hx, hb, hml, hown, hts⟩ hK hP hN hS (c_X10_readOld l D cA ad hI σ0 τ0 hR) (cwV 0 hts gX10_readLine_X10_readOld rfl rfl rfl (by decide +kernel) ⟨by decide, by decide⟩) (rv_VText hK hP (by decide) (by decide)) rfl hl.1 rfl (Nat.le_of_ble_eq_true rfl) dX10_readLine_107 (Nat.zero_le _) (Nat.zero_le _) (fun r26 u26 H26 locs26 hp26 hP hS => ?_)
    obtain ⟨σ26, τ26⟩ := u26
    obtain ⟨hR, f26, hq26⟩ : P_X10_readOld σ0 r26 σ26 := hp26
    have hP : va_P D vwCl (gw cA ad σ26 τ26) H26 := hP
    have hF := hF.step f26 (by decide)
    exact r_zret hx hb hr hK hP hS hk (by omega) dX10_readLine_110 (show P_X10_readLine σ0 r26 σ26 from ⟨hR, hF, by omega⟩)
  by_cases c27 : (σ0 1 9).toInt = 11
  · refine lv_tableIn (off := 104) (tgt := 111) hx hb dX10_readLine_7 (by omega) (by omega) (by rw [c27]; rfl) (by decide) ?_
    refine lv_aload_n hx hb dX10_readLine_111 rfl (lv_at hl 0 rfl) ?_
    refine r_cVi (k := 6) (As := []) (rest := []) ⟨hx, hb, hml, hown, hts⟩ hK hP hN hS (c_X10_readDeaf l D cA ad hI σ0 τ0 hR) (cwV 0 hts gX10_readLine_X10_readDeaf rfl rfl rfl (by decide +kernel) ⟨by decide, by decide⟩) (rv_VText hK hP (by decide) (by decide)) rfl hl.1 rfl (Nat.le_of_ble_eq_true rfl) dX10_readLine_112 (Nat.zero_le _) (Nat.zero_le _) (fun r28 u28 H28 locs28 hp28 hP hS => ?_)
    obtain ⟨σ28, τ28⟩ := u28
    obtain ⟨hR, f28, hq28⟩ : P_X10_readDeaf σ0 r28 σ28 := hp28
    have hP : va_P D vwCl (gw cA ad σ28 τ28) H28 := hP
    have hF := hF.step f28 (by decide)
    exact r_zret hx hb hr hK hP hS hk (by omega) dX10_readLine_115 (show P_X10_readLine σ0 r28 σ28 from ⟨hR, hF, by omega⟩)
  by_cases c29 : (σ0 1 9).toInt = 12
  · refine lv_tableIn (off := 109) (tgt := 116) hx hb dX10_readLine_7 (by omega) (by omega) (by rw [c29]; rfl) (by decide) ?_
    refine lv_aload_n hx hb dX10_readLine_116 rfl (lv_at hl 0 rfl) ?_
    refine r_cVi (k := 6) (As := []) (rest := []) ⟨hx, hb, hml, hown, hts⟩ hK hP hN hS (c_X10_readNeeds l D cA ad hI σ0 τ0 hR) (cwV 0 hts gX10_readLine_X10_readNeeds rfl rfl rfl (by decide +kernel) ⟨by decide, by decide⟩) (rv_VText hK hP (by decide) (by decide)) rfl hl.1 rfl (Nat.le_of_ble_eq_true rfl) dX10_readLine_117 (Nat.zero_le _) (Nat.zero_le _) (fun r30 u30 H30 locs30 hp30 hP hS => ?_)
    obtain ⟨σ30, τ30⟩ := u30
    obtain ⟨hR, f30, hq30⟩ : P_X10_readNeeds σ0 r30 σ30 := hp30
    have hP : va_P D vwCl (gw cA ad σ30 τ30) H30 := hP
    have hF := hF.step f30 (by decide)
    exact r_zret hx hb hr hK hP hS hk (by omega) dX10_readLine_120 (show P_X10_readLine σ0 r30 σ30 from ⟨hR, hF, by omega⟩)
  by_cases c31 : (σ0 1 9).toInt = 13
  · refine lv_tableIn (off := 114) (tgt := 121) hx hb dX10_readLine_7 (by omega) (by omega) (by rw [c31]; rfl) (by decide) ?_
    refine lv_aload_n hx hb dX10_readLine_121 rfl (lv_at hl 0 rfl) ?_
    refine r_cVi (k := 6) (As := []) (rest := []) ⟨hx, hb, hml, hown, hts⟩ hK hP hN hS (c_X10_readFlight l D cA ad hI σ0 τ0 hR) (cwV 0 hts gX10_readLine_X10_readFlight rfl rfl rfl (by decide +kernel) ⟨by decide, by decide⟩) (rv_VText hK hP (by decide) (by decide)) rfl hl.1 rfl (Nat.le_of_ble_eq_true rfl) dX10_readLine_122 (Nat.zero_le _) (Nat.zero_le _) (fun r32 u32 H32 locs32 hp32 hP hS => ?_)
    obtain ⟨σ32, τ32⟩ := u32
    obtain ⟨hR, f32, hq32⟩ : P_X10_readFlight σ0 r32 σ32 := hp32
    have hP : va_P D vwCl (gw cA ad σ32 τ32) H32 := hP
    have hF := hF.step f32 (by decide)
    exact r_zret hx hb hr hK hP hS hk (by omega) dX10_readLine_125 (show P_X10_readLine σ0 r32 σ32 from ⟨hR, hF, by omega⟩)
  refine lv_tableOut (tgt := 126) hx hb dX10_readLine_7 (by omega) (by decide) ?_
  refine lv_aload_n hx hb dX10_readLine_126 rfl (lv_at hl 0 rfl) ?_
  refine fg_10_0 (k := 6) hx hb hts in_X10_readLine_10 hown hK hP (by decide) (by decide) (hts _ lk_X10_readLine_9) dX10_readLine_127 ?_
  refine r_iconst hx hb dX10_readLine_130 (by decide) (fun z33 ez33 => ?_)
  refine r_cVi (k := 1) (As := [.int z33]) (rest := []) ⟨hx, hb, hml, hown, hts⟩ hK hP hN hS (c_X8_blame l D cA ad hI σ0 τ0 hR z33 (by omega)) (cwV 1 hts gX10_readLine_X8_blame rfl rfl rfl (by decide +kernel) ⟨by decide, by decide⟩) (rv_Tape hK hP (by decide) (by decide)) rfl hl.1 rfl (Nat.le_of_ble_eq_true rfl) dX10_readLine_131 (Nat.zero_le _) (Nat.zero_le _) (fun r34 u34 H34 locs34 hp34 hP hS => ?_)
  obtain ⟨σ34, τ34⟩ := u34
  obtain ⟨hR, f34, hq34⟩ : P_X8_blame σ0 z33 r34 σ34 := hp34
  have hP : va_P D vwCl (gw cA ad σ34 τ34) H34 := hP
  have hF := hF.step f34 (by decide)
  exact r_zret hx hb hr hK hP hS hk (by omega) dX10_readLine_134 (show P_X10_readLine σ0 r34 σ34 from ⟨hR, hF, by omega⟩)
theorem in_X8_take_8 : ∀ w ∈ u_ws RX8 TX8 15, w ∈ wsX8_take := by decide +kernel
theorem lk_X8_take_85 : Cond.fieldLink RX8 85 "CuckooShares$Tape" "token" "I" ∈ wsX8_take := by decide +kernel
abbrev L_X8_take : List Rc := [(1, 1, 7, 10), (1, 1, 13, 14)]
def P_X8_take (σ0 : Nat → Nat → Int32) (a1 : Int32) (r : Int32) (σ : Nat → Nat → Int32) : Prop := Rg σ ∧ Fr L_X8_take σ0 σ ∧ (0 ≤ r.toInt ∧ r.toInt ≤ 1)
set_option maxHeartbeats 4000000 in
theorem c_X8_take (l : Launch) (D : va_G) (cA : Nat → ClassId) (ad : Nat → Nat) (hI : Inj ad) (σ0 : Nat → Nat → Int32) (τ0 : Nat → Nat → Int64) (hR : Rg σ0) (a1 : Int32) (ha1 : 40 ≤ a1.toInt ∧ a1.toInt ≤ 45) : Met l yX8_take wsX8_take ({ frames := 1, cells := 0, slots := 0, locals := 21 } : Room) (WQc D cA ad [.ref (ad 1), .int a1] σ0 τ0) (va_Qi (fun (r : Int32) (u : SS) => P_X8_take σ0 a1 r u.1) (WB D cA ad) (AA ad)) 0 0 (AA ad) := by
  refine Met.ofW (cc := cX8_take) (maxL := 2) (ret := (some .boolean)) (by decide) rfl ?_
  intro p e s m args below meth c s₁ B hml hv
  obtain ⟨rfl, hP, hK, hN⟩ := hv
  have C : Cy p s m _ meth c cX8_take 2 wsX8_take RX8 D cA ad (some .boolean) := ⟨B.exec, B.bytes, hml, findClass_of_methodNamed B.named, atoms_spec (ws := wsX8_take) B.pre, hK, B.notSynchronized, B.returns, hI, hN⟩
  have hl := lv_entry ([.ref (ad 1), .int a1]) (n := 2) (Nat.le_of_ble_eq_true rfl)
  rw [lg_entry_eq]
  generalize (lg_sl ([.ref (ad 1), .int a1]) ++ List.replicate (2 - (lg_sl ([.ref (ad 1), .int a1])).length) Slot.unset).toArray = ls at hl ⊢
  have hl : lv_has ls 2 [(0, .ref (ad 1)), (1, .int a1)] := hl
  have hS : va_S (AA ad) s.heap s.heap [] := va_S.rf
  have hF : Fr L_X8_take σ0 σ0 := Fr.rf
  obtain ⟨hx, hb, _, hown, hts, _, hk, hr, _, _⟩ := C
  refine lv_aload_n hx hb dX8_take_0 rfl (lv_at hl 0 rfl) ?_
  refine fg_8_9 (k := 1) hx hb hts in_X8_take_8 hown hK hP (by decide) (by decide) (hts _ lk_X8_take_85) dX8_take_1 ?_
  refine lv_iload_n hx hb dX8_take_4 rfl (lv_at hl 1 rfl) ?_
  refine r_icmp_eq (tgt := 14) hx hb dX8_take_5 (by decide) (fun c1 => ?_) (fun c1 => ?_)
  · refine lv_aload_n hx hb dX8_take_14 rfl (lv_at hl 0 rfl) ?_
    refine r_cVv (k := 1) (As := []) (rest := []) ⟨hx, hb, hml, hown, hts⟩ hK hP hN hS (c_X8_next l D cA ad hI σ0 τ0 hR) (cwV 0 hts gX8_take_X8_next rfl rfl rfl (by decide +kernel) ⟨by decide, by decide⟩) (rv_Tape hK hP (by decide) (by decide)) rfl hl.1 rfl (Nat.le_of_ble_eq_true rfl) dX8_take_15 (Nat.zero_le _) (Nat.zero_le _) (fun u2 H2 locs2 hp2 hP hS => ?_)
    obtain ⟨σ2, τ2⟩ := u2
    obtain ⟨hR, f2⟩ : P_X8_next σ0 σ2 := hp2
    have hP : va_P D vwCl (gw cA ad σ2 τ2) H2 := hP
    have hF := hF.step f2 (by decide)
    refine r_iconst hx hb dX8_take_18 (by decide) (fun z3 ez3 => ?_)
    exact r_zret hx hb hr hK hP hS hk (by omega) dX8_take_19 (show P_X8_take σ0 a1 z3 σ2 from ⟨hR, hF, by omega⟩)
  · refine lv_aload_n hx hb dX8_take_8 rfl (lv_at hl 0 rfl) ?_
    refine r_iconst hx hb dX8_take_9 (by decide) (fun z4 ez4 => ?_)
    refine r_cVi (k := 1) (As := [.int z4]) (rest := []) ⟨hx, hb, hml, hown, hts⟩ hK hP hN hS (c_X8_blame l D cA ad hI σ0 τ0 hR z4 (by omega)) (cwV 1 hts gX8_take_X8_blame rfl rfl rfl (by decide +kernel) ⟨by decide, by decide⟩) (rv_Tape hK hP (by decide) (by decide)) rfl hl.1 rfl (Nat.le_of_ble_eq_true rfl) dX8_take_10 (Nat.zero_le _) (Nat.zero_le _) (fun r5 u5 H5 locs5 hp5 hP hS => ?_)
    obtain ⟨σ5, τ5⟩ := u5
    obtain ⟨hR, f5, hq5⟩ : P_X8_blame σ0 z4 r5 σ5 := hp5
    have hP : va_P D vwCl (gw cA ad σ5 τ5) H5 := hP
    have hF := hF.step f5 (by decide)
    exact r_zret hx hb hr hK hP hS hk (by omega) dX8_take_13 (show P_X8_take σ0 a1 r5 σ5 from ⟨hR, hF, by omega⟩)
theorem in_X9_clear_9 : ∀ w ∈ u_ws RX9 TX9 14, w ∈ wsX9_clear := by decide +kernel
theorem lk_X9_clear_36 : Cond.fieldLink RX9 36 "CuckooShares$Valley" "ridge" "I" ∈ wsX9_clear := by decide +kernel
theorem lk_X9_clear_40 : Cond.fieldLink RX9 40 "CuckooShares$Valley" "wheat" "I" ∈ wsX9_clear := by decide +kernel
theorem lk_X9_clear_43 : Cond.fieldLink RX9 43 "CuckooShares$Valley" "windWay" "I" ∈ wsX9_clear := by decide +kernel
theorem lk_X9_clear_46 : Cond.fieldLink RX9 46 "CuckooShares$Valley" "windForce" "I" ∈ wsX9_clear := by decide +kernel
theorem lk_X9_clear_49 : Cond.fieldLink RX9 49 "CuckooShares$Valley" "hills" "I" ∈ wsX9_clear := by decide +kernel
theorem lk_X9_clear_52 : Cond.fieldLink RX9 52 "CuckooShares$Valley" "men" "I" ∈ wsX9_clear := by decide +kernel
theorem lk_X9_clear_55 : Cond.fieldLink RX9 55 "CuckooShares$Valley" "flights" "I" ∈ wsX9_clear := by decide +kernel
abbrev L_X9_clear : List Rc := [(3, 3, 0, 6)]
def P_X9_clear (σ0 : Nat → Nat → Int32)  (σ : Nat → Nat → Int32) : Prop := Rg σ ∧ Fr L_X9_clear σ0 σ
set_option maxHeartbeats 4000000 in
theorem c_X9_clear (l : Launch) (D : va_G) (cA : Nat → ClassId) (ad : Nat → Nat) (hI : Inj ad) (σ0 : Nat → Nat → Int32) (τ0 : Nat → Nat → Int64) (hR : Rg σ0)   : Met l yX9_clear wsX9_clear ({ frames := 0, cells := 0, slots := 0, locals := 0 } : Room) (WQc D cA ad [.ref (ad 3)] σ0 τ0) (va_Qv (fun u : SS => P_X9_clear σ0 u.1) (WB D cA ad) (AA ad)) 0 0 (AA ad) := by
  refine Met.ofW (cc := cX9_clear) (maxL := 1) (ret := none) (by decide) rfl ?_
  intro p e s m args below meth c s₁ B hml hv
  obtain ⟨rfl, hP, hK, hN⟩ := hv
  have C : Cy p s m _ meth c cX9_clear 1 wsX9_clear RX9 D cA ad none := ⟨B.exec, B.bytes, hml, findClass_of_methodNamed B.named, atoms_spec (ws := wsX9_clear) B.pre, hK, B.notSynchronized, B.returns, hI, hN⟩
  have hl := lv_entry ([.ref (ad 3)]) (n := 1) (Nat.le_of_ble_eq_true rfl)
  rw [lg_entry_eq]
  generalize (lg_sl ([.ref (ad 3)]) ++ List.replicate (1 - (lg_sl ([.ref (ad 3)])).length) Slot.unset).toArray = ls at hl ⊢
  have hl : lv_has ls 1 [(0, .ref (ad 3))] := hl
  have hS : va_S (AA ad) s.heap s.heap [] := va_S.rf
  have hF : Fr L_X9_clear σ0 σ0 := Fr.rf
  obtain ⟨hx, hb, _, hown, hts, _, hk, hr, _, _⟩ := C
  refine lv_aload_n hx hb dX9_clear_0 rfl (lv_at hl 0 rfl) ?_
  refine r_bipush hx hb dX9_clear_1 (by decide) (fun z1 ez1 => ?_)
  refine fp_9_0 (k := 3) hx hb hts in_X9_clear_9 hown hK hP (by decide) (by decide) (hts _ lk_X9_clear_36) hI hR hS dX9_clear_3 (fun σ2 H2 locs2 u2 v2 hR hP hS => ?_)
  have hF := hF.puts u2 0 rfl (by decide) (by decide) (by decide) (by decide)
  refine lv_aload_n hx hb dX9_clear_6 rfl (lv_at hl 0 rfl) ?_
  refine r_bipush hx hb dX9_clear_7 (by decide) (fun z3 ez3 => ?_)
  refine fp_9_1 (k := 3) hx hb hts in_X9_clear_9 hown hK hP (by decide) (by decide) (hts _ lk_X9_clear_40) hI hR hS dX9_clear_9 (fun σ4 H4 locs4 u4 v4 hR hP hS => ?_)
  have hF := hF.puts u4 0 rfl (by decide) (by decide) (by decide) (by decide)
  refine lv_aload_n hx hb dX9_clear_12 rfl (lv_at hl 0 rfl) ?_
  refine r_iconst hx hb dX9_clear_13 (by decide) (fun z5 ez5 => ?_)
  refine fp_9_2 (k := 3) hx hb hts in_X9_clear_9 hown hK hP (by decide) (by decide) (hts _ lk_X9_clear_43) hI hR hS dX9_clear_14 (fun σ6 H6 locs6 u6 v6 hR hP hS => ?_)
  have hF := hF.puts u6 0 rfl (by decide) (by decide) (by decide) (by decide)
  refine lv_aload_n hx hb dX9_clear_17 rfl (lv_at hl 0 rfl) ?_
  refine r_iconst hx hb dX9_clear_18 (by decide) (fun z7 ez7 => ?_)
  refine fp_9_3 (k := 3) hx hb hts in_X9_clear_9 hown hK hP (by decide) (by decide) (hts _ lk_X9_clear_46) hI hR hS dX9_clear_19 (fun σ8 H8 locs8 u8 v8 hR hP hS => ?_)
  have hF := hF.puts u8 0 rfl (by decide) (by decide) (by decide) (by decide)
  refine lv_aload_n hx hb dX9_clear_22 rfl (lv_at hl 0 rfl) ?_
  refine r_iconst hx hb dX9_clear_23 (by decide) (fun z9 ez9 => ?_)
  refine fp_9_4 (k := 3) hx hb hts in_X9_clear_9 hown hK hP (by decide) (by decide) (hts _ lk_X9_clear_49) hI hR hS (by omega) dX9_clear_24 (fun σ10 H10 locs10 u10 v10 hR hP hS => ?_)
  have hF := hF.puts u10 0 rfl (by decide) (by decide) (by decide) (by decide)
  refine lv_aload_n hx hb dX9_clear_27 rfl (lv_at hl 0 rfl) ?_
  refine r_iconst hx hb dX9_clear_28 (by decide) (fun z11 ez11 => ?_)
  refine fp_9_5 (k := 3) hx hb hts in_X9_clear_9 hown hK hP (by decide) (by decide) (hts _ lk_X9_clear_52) hI hR hS (by omega) dX9_clear_29 (fun σ12 H12 locs12 u12 v12 hR hP hS => ?_)
  have hF := hF.puts u12 0 rfl (by decide) (by decide) (by decide) (by decide)
  refine lv_aload_n hx hb dX9_clear_32 rfl (lv_at hl 0 rfl) ?_
  refine r_iconst hx hb dX9_clear_33 (by decide) (fun z13 ez13 => ?_)
  refine fp_9_6 (k := 3) hx hb hts in_X9_clear_9 hown hK hP (by decide) (by decide) (hts _ lk_X9_clear_55) hI hR hS (by omega) dX9_clear_34 (fun σ14 H14 locs14 u14 v14 hR hP hS => ?_)
  have hF := hF.puts u14 0 rfl (by decide) (by decide) (by decide) (by decide)
  exact r_vret hx hb hr hK hP hS hk dX9_clear_37 (show P_X9_clear σ0 σ14 from ⟨hR, hF⟩)
theorem in_X9_hasMan_9 : ∀ w ∈ u_ws RX9 TX9 14, w ∈ wsX9_hasMan := by decide +kernel
theorem lk_X9_hasMan_52 : Cond.fieldLink RX9 52 "CuckooShares$Valley" "men" "I" ∈ wsX9_hasMan := by decide +kernel
abbrev L_X9_hasMan : List Rc := []
def P_X9_hasMan (σ0 : Nat → Nat → Int32) (k0 : Nat) (a1 : Int32) (r : Int32) (σ : Nat → Nat → Int32) : Prop := Rg σ ∧ Fr L_X9_hasMan σ0 σ ∧ (0 ≤ r.toInt ∧ r.toInt ≤ 1) ∧ (r.toInt = 0 ∨ (r.toInt = 1 ∧ 0 ≤ a1.toInt ∧ a1.toInt < (σ0 k0 5).toInt ∧ a1.toInt ≤ 7))
set_option maxHeartbeats 4000000 in
theorem c_X9_hasMan (l : Launch) (D : va_G) (cA : Nat → ClassId) (ad : Nat → Nat) (hI : Inj ad) (σ0 : Nat → Nat → Int32) (τ0 : Nat → Nat → Int64) (hR : Rg σ0) (k0 : Nat) (a1 : Int32) (hk0 : 2 ≤ k0 ∧ k0 ≤ 5) : Met l yX9_hasMan wsX9_hasMan ({ frames := 0, cells := 0, slots := 0, locals := 0 } : Room) (WQc D cA ad [.ref (ad k0), .int a1] σ0 τ0) (va_Qi (fun (r : Int32) (u : SS) => P_X9_hasMan σ0 k0 a1 r u.1) (WB D cA ad) (AA ad)) 0 0 (AA ad) := by
  refine Met.ofW (cc := cX9_hasMan) (maxL := 2) (ret := (some .boolean)) (by decide) rfl ?_
  intro p e s m args below meth c s₁ B hml hv
  obtain ⟨rfl, hP, hK, hN⟩ := hv
  have C : Cy p s m _ meth c cX9_hasMan 2 wsX9_hasMan RX9 D cA ad (some .boolean) := ⟨B.exec, B.bytes, hml, findClass_of_methodNamed B.named, atoms_spec (ws := wsX9_hasMan) B.pre, hK, B.notSynchronized, B.returns, hI, hN⟩
  have hl := lv_entry ([.ref (ad k0), .int a1]) (n := 2) (Nat.le_of_ble_eq_true rfl)
  rw [lg_entry_eq]
  generalize (lg_sl ([.ref (ad k0), .int a1]) ++ List.replicate (2 - (lg_sl ([.ref (ad k0), .int a1])).length) Slot.unset).toArray = ls at hl ⊢
  have hl : lv_has ls 2 [(0, .ref (ad k0)), (1, .int a1)] := hl
  have hS : va_S (AA ad) s.heap s.heap [] := va_S.rf
  have hF : Fr L_X9_hasMan σ0 σ0 := Fr.rf
  obtain ⟨hx, hb, _, hown, hts, _, hk, hr, _, _⟩ := C
  refine lv_iload_n hx hb dX9_hasMan_0 rfl (lv_at hl 1 rfl) ?_
  refine r_if_lt (tgt := 16) hx hb dX9_hasMan_1 (by decide) (fun c1 => ?_) (fun c1 => ?_)
  · refine r_iconst hx hb dX9_hasMan_16 (by decide) (fun z2 ez2 => ?_)
    exact r_zret hx hb hr hK hP hS hk (by omega) dX9_hasMan_17 (show P_X9_hasMan σ0 k0 a1 z2 σ0 from ⟨hR, hF, by omega, by omega⟩)
  · refine lv_iload_n hx hb dX9_hasMan_4 rfl (lv_at hl 1 rfl) ?_
    refine lv_aload_n hx hb dX9_hasMan_5 rfl (lv_at hl 0 rfl) ?_
    refine fg_9_5 (k := k0) hx hb hts in_X9_hasMan_9 hown hK hP (by omega) (by omega) (hts _ lk_X9_hasMan_52) dX9_hasMan_6 ?_
    have hr3 := rg_9_5 hR (k := k0) (by omega) (by omega)
    refine r_icmp_ge (tgt := 16) hx hb dX9_hasMan_9 (by decide) (fun c4 => ?_) (fun c4 => ?_)
    · refine r_iconst hx hb dX9_hasMan_16 (by decide) (fun z5 ez5 => ?_)
      exact r_zret hx hb hr hK hP hS hk (by omega) dX9_hasMan_17 (show P_X9_hasMan σ0 k0 a1 z5 σ0 from ⟨hR, hF, by omega, by omega⟩)
    · refine r_iconst hx hb dX9_hasMan_12 (by decide) (fun z6 ez6 => ?_)
      refine lv_goto (tgt := 17) hx hb dX9_hasMan_13 (by decide) ?_
      exact r_zret hx hb hr hK hP hS hk (by omega) dX9_hasMan_17 (show P_X9_hasMan σ0 k0 a1 z6 σ0 from ⟨hR, hF, by omega, by omega⟩)
theorem in_X9_noteEchoes_9 : ∀ w ∈ u_ws RX9 TX9 14, w ∈ wsX9_noteEchoes := by decide +kernel
theorem lk_X9_noteEchoes_23 : Cond.fieldLink RX9 23 "CuckooShares$Valley" "man" "[[I" ∈ wsX9_noteEchoes := by decide +kernel
theorem lk_X9_noteEchoes_32 : Cond.fieldLink RX9 32 "CuckooShares$Valley" "echo" "[I" ∈ wsX9_noteEchoes := by decide +kernel
theorem lk_X9_noteEchoes_52 : Cond.fieldLink RX9 52 "CuckooShares$Valley" "men" "I" ∈ wsX9_noteEchoes := by decide +kernel
abbrev L_X9_noteEchoes : List Rc := [(65, 65, 0, 7)]
def P_X9_noteEchoes (σ0 : Nat → Nat → Int32)  (σ : Nat → Nat → Int32) : Prop := Rg σ ∧ Fr L_X9_noteEchoes σ0 σ
def J_X9_noteEchoes_2 (p : Program) (l : Launch) (e : Env) (s : State) (m : MethodId) (args : Array Value) (below : List Frame) (meth : Method) (c : Code) (D : va_G) (cA : Nat → ClassId) (ad : Nat → Nat) (σ0 : Nat → Nat → Int32)  (n : Nat) : Prop := ∀ (σ : Nat → Nat → Int32) (τ : Nat → Nat → Int64) (H : Heap) (locs : List Loc) (x1 : Int32) (ls : Array Slot), Rg σ → Fr L_X9_noteEchoes σ0 σ → va_P D vwCl (gw cA ad σ τ) H → va_S (AA ad) s.heap H locs → (0 ≤ x1.toInt ∧ x1.toInt ≤ 8) → lv_has ls 3 [(0, .ref (ad 3)), (1, .int x1)] → 21 * (8 - x1.toInt) + 20 < (n : Int) → W p l e ({ frames := 1, cells := 0, slots := 0, locals := 21 } : Room) s m args below meth c H locs 0 0 (MQ below (va_Qv (fun u : SS => P_X9_noteEchoes σ0 u.1) (WB D cA ad) (AA ad)) args s 0 0 (AA ad)) (F0 m 2 ls [])
def J_X9_noteEchoes_43 (p : Program) (l : Launch) (e : Env) (s : State) (m : MethodId) (args : Array Value) (below : List Frame) (meth : Method) (c : Code) (D : va_G) (cA : Nat → ClassId) (ad : Nat → Nat) (σ0 : Nat → Nat → Int32)  (n : Nat) : Prop := ∀ (σ : Nat → Nat → Int32) (τ : Nat → Nat → Int64) (H : Heap) (locs : List Loc) (x1 : Int32) (ls : Array Slot), Rg σ → Fr L_X9_noteEchoes σ0 σ → va_P D vwCl (gw cA ad σ τ) H → va_S (AA ad) s.heap H locs → (0 ≤ x1.toInt ∧ x1.toInt ≤ 8) → (0 ≤ (σ 3 5).toInt ∧ (σ 3 5).toInt ≤ 8) → lv_has ls 3 [(0, .ref (ad 3)), (1, .int x1)] → 2 * (8 - x1.toInt) + 1 < (n : Int) → W p l e ({ frames := 1, cells := 0, slots := 0, locals := 21 } : Room) s m args below meth c H locs 0 0 (MQ below (va_Qv (fun u : SS => P_X9_noteEchoes σ0 u.1) (WB D cA ad) (AA ad)) args s 0 0 (AA ad)) (F0 m 43 ls [])
set_option maxHeartbeats 4000000 in
theorem B_X9_noteEchoes_2 (p : Program) (l : Launch) (e : Env) (s : State) (m : MethodId) (args : Array Value) (below : List Frame) (meth : Method) (c : Code) (D : va_G) (cA : Nat → ClassId) (ad : Nat → Nat) (σ0 : Nat → Nat → Int32)  (n : Nat) (C : Cy p s m args meth c cX9_noteEchoes 3 wsX9_noteEchoes RX9 D cA ad none)  (K2 : J_X9_noteEchoes_2 p l e s m args below meth c D cA ad σ0  n) (K43 : J_X9_noteEchoes_43 p l e s m args below meth c D cA ad σ0  n) : J_X9_noteEchoes_2 p l e s m args below meth c D cA ad σ0  (n + 1) := by
  obtain ⟨hx, hb, hml, hown, hts, hK, hk, hr, hI, hN⟩ := C
  intro σ τ H locs x1 ls hR hF hP hS hc0 hl hm
  refine lv_iload_n hx hb dX9_noteEchoes_2 rfl (lv_at hl 1 rfl) ?_
  refine lv_aload_n hx hb dX9_noteEchoes_3 rfl (lv_at hl 0 rfl) ?_
  refine fg_9_5 (k := 3) hx hb hts in_X9_noteEchoes_9 hown hK hP (by decide) (by decide) (hts _ lk_X9_noteEchoes_52) dX9_noteEchoes_4 ?_
  have hr1 := rg_9_5 hR (k := 3) (by decide) (by decide)
  refine r_icmp_ge (tgt := 41) hx hb dX9_noteEchoes_7 (by decide) (fun c2 => ?_) (fun c2 => ?_)
  · refine r_iconst hx hb dX9_noteEchoes_41 (by decide) (fun z3 ez3 => ?_)
    refine lv_istore_n (lv' := [(1, .int z3), (0, .ref (ad 3))]) hx hb dX9_noteEchoes_42 rfl hl (by decide) rfl (fun ls hl => ?_)
    exact K43 σ τ H locs z3 ls hR hF hP hS (by omega) (by omega) (lv_sub hl [1, 0] rfl) (by omega)
  · refine lv_aload_n hx hb dX9_noteEchoes_10 rfl (lv_at hl 0 rfl) ?_
    refine fg_9_13 (k := 3) hx hb hts in_X9_noteEchoes_9 hown hK hP (by decide) (by decide) (hts _ lk_X9_noteEchoes_32) dX9_noteEchoes_11 ?_
    refine lv_iload_n hx hb dX9_noteEchoes_14 rfl (lv_at hl 1 rfl) ?_
    refine lv_aload_n hx hb dX9_noteEchoes_15 rfl (lv_at hl 0 rfl) ?_
    refine fg_9_10 (k := 3) hx hb hts in_X9_noteEchoes_9 hown hK hP (by decide) (by decide) (hts _ lk_X9_noteEchoes_23) dX9_noteEchoes_16 ?_
    refine lv_iload_n hx hb dX9_noteEchoes_19 rfl (lv_at hl 1 rfl) ?_
    obtain ⟨j4, ej4⟩ : ∃ j : Nat, x1.toInt = (j : Int) := ⟨_, ti_nat (by omega)⟩
    refine ad_manA (k := 53) (j := j4) hx hb hK hP (by decide) (by decide) ej4 (by omega) dX9_noteEchoes_20 ?_
    refine r_iconst hx hb dX9_noteEchoes_21 (by decide) (fun z5 ez5 => ?_)
    refine ad_manR (k := 108 + j4) (j := 4) hx hb hK hP (by omega) (by omega) (by omega) (by omega) dX9_noteEchoes_22 ?_
    refine r_iconst hx hb dX9_noteEchoes_23 (by decide) (fun z6 ez6 => ?_)
    refine r_icmp_ne (tgt := 33) hx hb dX9_noteEchoes_24 (by decide) (fun c7 => ?_) (fun c7 => ?_)
    · refine r_iconst hx hb dX9_noteEchoes_33 (by decide) (fun z8 ez8 => ?_)
      refine as_echo (k := 65) (j := j4) hx hb hK hP hI hR hS (by decide) (by decide) ej4 (by omega) dX9_noteEchoes_34 (fun σ9 H9 locs9 u9 v9 hR hP hS => ?_)
      have hF := hF.puts u9 0 rfl (by decide) (by decide) (by omega) (by omega)
      have t10 : (σ9 3 5).toInt = (σ 3 5).toInt := congrArg Int32.toInt (u9 3 5 (by omega))
      refine r_iinc (k := 1) (lv1 := fun z11 => [(1, .int z11), (0, .ref (ad 3))]) hx hb dX9_noteEchoes_35 hl rfl (by decide) (fun _ => rfl) (by decide) (by omega) (fun z11 ls ez11 hl => ?_)
      refine lv_goto (tgt := 2) hx hb dX9_noteEchoes_38 (by decide) ?_
      exact K2 σ9 τ H9 locs9 z11 ls hR hF hP hS (by omega) (lv_sub hl [1, 0] rfl) (by omega)
    · refine r_iconst hx hb dX9_noteEchoes_27 (by decide) (fun z12 ez12 => ?_)
      refine lv_iload_n hx hb dX9_noteEchoes_28 rfl (lv_at hl 1 rfl) ?_
      refine r_ishlU hx hb dX9_noteEchoes_29 (fun z13 => ?_)
      refine lv_goto (tgt := 34) hx hb dX9_noteEchoes_30 (by decide) ?_
      refine as_echo (k := 65) (j := j4) hx hb hK hP hI hR hS (by decide) (by decide) ej4 (by omega) dX9_noteEchoes_34 (fun σ14 H14 locs14 u14 v14 hR hP hS => ?_)
      have hF := hF.puts u14 0 rfl (by decide) (by decide) (by omega) (by omega)
      have t15 : (σ14 3 5).toInt = (σ 3 5).toInt := congrArg Int32.toInt (u14 3 5 (by omega))
      refine r_iinc (k := 1) (lv1 := fun z16 => [(1, .int z16), (0, .ref (ad 3))]) hx hb dX9_noteEchoes_35 hl rfl (by decide) (fun _ => rfl) (by decide) (by omega) (fun z16 ls ez16 hl => ?_)
      refine lv_goto (tgt := 2) hx hb dX9_noteEchoes_38 (by decide) ?_
      exact K2 σ14 τ H14 locs14 z16 ls hR hF hP hS (by omega) (lv_sub hl [1, 0] rfl) (by omega)
set_option maxHeartbeats 4000000 in
theorem B_X9_noteEchoes_43 (p : Program) (l : Launch) (e : Env) (s : State) (m : MethodId) (args : Array Value) (below : List Frame) (meth : Method) (c : Code) (D : va_G) (cA : Nat → ClassId) (ad : Nat → Nat) (σ0 : Nat → Nat → Int32)  (n : Nat) (C : Cy p s m args meth c cX9_noteEchoes 3 wsX9_noteEchoes RX9 D cA ad none)  (K2 : J_X9_noteEchoes_2 p l e s m args below meth c D cA ad σ0  n) (K43 : J_X9_noteEchoes_43 p l e s m args below meth c D cA ad σ0  n) : J_X9_noteEchoes_43 p l e s m args below meth c D cA ad σ0  (n + 1) := by
  obtain ⟨hx, hb, hml, hown, hts, hK, hk, hr, hI, hN⟩ := C
  intro σ τ H locs x1 ls hR hF hP hS hc0 hc1 hl hm
  refine lv_iload_n hx hb dX9_noteEchoes_43 rfl (lv_at hl 1 rfl) ?_
  refine lv_aload_n hx hb dX9_noteEchoes_44 rfl (lv_at hl 0 rfl) ?_
  refine fg_9_5 (k := 3) hx hb hts in_X9_noteEchoes_9 hown hK hP (by decide) (by decide) (hts _ lk_X9_noteEchoes_52) dX9_noteEchoes_45 ?_
  refine r_icmp_ge (tgt := 98) hx hb dX9_noteEchoes_48 (by decide) (fun c1 => ?_) (fun c1 => ?_)
  · exact r_vret hx hb hr hK hP hS hk dX9_noteEchoes_98 (show P_X9_noteEchoes σ0 σ from ⟨hR, hF⟩)
  · refine lv_aload_n hx hb dX9_noteEchoes_51 rfl (lv_at hl 0 rfl) ?_
    refine fg_9_10 (k := 3) hx hb hts in_X9_noteEchoes_9 hown hK hP (by decide) (by decide) (hts _ lk_X9_noteEchoes_23) dX9_noteEchoes_52 ?_
    refine lv_iload_n hx hb dX9_noteEchoes_55 rfl (lv_at hl 1 rfl) ?_
    obtain ⟨j2, ej2⟩ : ∃ j : Nat, x1.toInt = (j : Int) := ⟨_, ti_nat (by omega)⟩
    refine ad_manA (k := 53) (j := j2) hx hb hK hP (by decide) (by decide) ej2 (by omega) dX9_noteEchoes_56 ?_
    refine r_iconst hx hb dX9_noteEchoes_57 (by decide) (fun z3 ez3 => ?_)
    refine ad_manR (k := 108 + j2) (j := 4) hx hb hK hP (by omega) (by omega) (by omega) (by omega) dX9_noteEchoes_58 ?_
    refine lv_istore_n (lv' := [(2, .int (σ (108 + j2) 4)), (0, .ref (ad 3)), (1, .int x1)]) hx hb dX9_noteEchoes_59 rfl hl (by decide) rfl (fun ls hl => ?_)
    refine lv_aload_n hx hb dX9_noteEchoes_60 rfl (lv_at hl 1 rfl) ?_
    refine lv_iload_n hx hb dX9_noteEchoes_61 rfl (lv_at hl 0 rfl) ?_
    refine r_cVi (k := 3) (As := [.int (σ (108 + j2) 4)]) (rest := []) ⟨hx, hb, hml, hown, hts⟩ hK hP hN hS (c_X9_hasMan l D cA ad hI σ τ hR 3 (σ (108 + j2) 4) ⟨by omega, by omega⟩) (cwV 1 hts gX9_noteEchoes_X9_hasMan rfl rfl rfl (by decide +kernel) ⟨by decide, by decide⟩) (rv_Valley hK hP (by decide) (by decide)) rfl hl.1 rfl (Nat.le_of_ble_eq_true rfl) dX9_noteEchoes_62 (Nat.zero_le _) (Nat.zero_le _) (fun r4 u4 H4 locs4 hp4 hP hS => ?_)
    obtain ⟨σ4, τ4⟩ := u4
    obtain ⟨hR, f4, hq4, hp4_0⟩ : P_X9_hasMan σ 3 (σ (108 + j2) 4) r4 σ4 := hp4
    have hP : va_P D vwCl (gw cA ad σ4 τ4) H4 := hP
    obtain rfl := Fr.nil f4
    refine r_if_eq (tgt := 92) hx hb dX9_noteEchoes_65 (by decide) (fun c5 => ?_) (fun c5 => ?_)
    · refine r_iinc (k := 2) (lv1 := fun z6 => [(1, .int z6), (2, .int (σ (108 + j2) 4)), (0, .ref (ad 3))]) hx hb dX9_noteEchoes_92 hl rfl (by decide) (fun _ => rfl) (by decide) (by omega) (fun z6 ls ez6 hl => ?_)
      refine lv_goto (tgt := 43) hx hb dX9_noteEchoes_95 (by decide) ?_
      exact K43 σ τ4 H4 locs4 z6 ls hR hF hP hS (by omega) (by omega) (lv_sub hl [2, 0] rfl) (by omega)
    · refine lv_aload_n hx hb dX9_noteEchoes_68 rfl (lv_at hl 1 rfl) ?_
      refine fg_9_10 (k := 3) hx hb hts in_X9_noteEchoes_9 hown hK hP (by decide) (by decide) (hts _ lk_X9_noteEchoes_23) dX9_noteEchoes_69 ?_
      refine lv_iload_n hx hb dX9_noteEchoes_72 rfl (lv_at hl 0 rfl) ?_
      obtain ⟨j7, ej7⟩ : ∃ j : Nat, (σ (108 + j2) 4).toInt = (j : Int) := ⟨_, ti_nat (by omega)⟩
      refine ad_manA (k := 53) (j := j7) hx hb hK hP (by decide) (by decide) ej7 (by omega) dX9_noteEchoes_73 ?_
      refine r_iconst hx hb dX9_noteEchoes_74 (by decide) (fun z8 ez8 => ?_)
      refine ad_manR (k := 108 + j7) (j := 4) hx hb hK hP (by omega) (by omega) (by omega) (by omega) dX9_noteEchoes_75 ?_
      refine r_iconst hx hb dX9_noteEchoes_76 (by decide) (fun z9 ez9 => ?_)
      refine r_icmp_ne (tgt := 92) hx hb dX9_noteEchoes_77 (by decide) (fun c10 => ?_) (fun c10 => ?_)
      · refine r_iinc (k := 2) (lv1 := fun z11 => [(1, .int z11), (2, .int (σ (108 + j2) 4)), (0, .ref (ad 3))]) hx hb dX9_noteEchoes_92 hl rfl (by decide) (fun _ => rfl) (by decide) (by omega) (fun z11 ls ez11 hl => ?_)
        refine lv_goto (tgt := 43) hx hb dX9_noteEchoes_95 (by decide) ?_
        exact K43 σ τ4 H4 locs4 z11 ls hR hF hP hS (by omega) (by omega) (lv_sub hl [2, 0] rfl) (by omega)
      · refine lv_aload_n hx hb dX9_noteEchoes_80 rfl (lv_at hl 1 rfl) ?_
        refine fg_9_13 (k := 3) hx hb hts in_X9_noteEchoes_9 hown hK hP (by decide) (by decide) (hts _ lk_X9_noteEchoes_32) dX9_noteEchoes_81 ?_
        refine lv_iload_n hx hb dX9_noteEchoes_84 rfl (lv_at hl 0 rfl) ?_
        refine lv_dup2_11 hx hb dX9_noteEchoes_85 rfl rfl ?_
        refine ad_echo (k := 65) (j := j7) hx hb hK hP (by decide) (by decide) ej7 (by omega) dX9_noteEchoes_86 ?_
        refine r_iconst hx hb dX9_noteEchoes_87 (by decide) (fun z12 ez12 => ?_)
        refine lv_iload_n hx hb dX9_noteEchoes_88 rfl (lv_at hl 2 rfl) ?_
        refine r_ishlU hx hb dX9_noteEchoes_89 (fun z13 => ?_)
        refine r_iorU hx hb dX9_noteEchoes_90 (fun z14 => ?_)
        refine as_echo (k := 65) (j := j7) hx hb hK hP hI hR hS (by decide) (by decide) ej7 (by omega) dX9_noteEchoes_91 (fun σ15 H15 locs15 u15 v15 hR hP hS => ?_)
        have hF := hF.puts u15 0 rfl (by decide) (by decide) (by omega) (by omega)
        have t16 : (σ15 3 5).toInt = (σ 3 5).toInt := congrArg Int32.toInt (u15 3 5 (by omega))
        refine r_iinc (k := 2) (lv1 := fun z17 => [(1, .int z17), (2, .int (σ (108 + j2) 4)), (0, .ref (ad 3))]) hx hb dX9_noteEchoes_92 hl rfl (by decide) (fun _ => rfl) (by decide) (by omega) (fun z17 ls ez17 hl => ?_)
        refine lv_goto (tgt := 43) hx hb dX9_noteEchoes_95 (by decide) ?_
        exact K43 σ15 τ4 H15 locs15 z17 ls hR hF hP hS (by omega) (by omega) (lv_sub hl [2, 0] rfl) (by omega)
theorem A_X9_noteEchoes (p : Program) (l : Launch) (e : Env) (s : State) (m : MethodId) (args : Array Value) (below : List Frame) (meth : Method) (c : Code) (D : va_G) (cA : Nat → ClassId) (ad : Nat → Nat) (σ0 : Nat → Nat → Int32)  (C : Cy p s m args meth c cX9_noteEchoes 3 wsX9_noteEchoes RX9 D cA ad none)  : ∀ n : Nat, J_X9_noteEchoes_2 p l e s m args below meth c D cA ad σ0  n ∧ J_X9_noteEchoes_43 p l e s m args below meth c D cA ad σ0  n := by
  intro n
  induction n with
  | zero =>
    exact ⟨(by intro σ τ H locs x1 ls hR hF hP hS hc0 hl hm; exfalso; omega), (by intro σ τ H locs x1 ls hR hF hP hS hc0 hc1 hl hm; exfalso; omega)⟩
  | succ n ih =>
    exact ⟨B_X9_noteEchoes_2 p l e s m args below meth c D cA ad σ0  n C  ih.1 ih.2, B_X9_noteEchoes_43 p l e s m args below meth c D cA ad σ0  n C  ih.1 ih.2⟩
set_option maxHeartbeats 4000000 in
theorem c_X9_noteEchoes (l : Launch) (D : va_G) (cA : Nat → ClassId) (ad : Nat → Nat) (hI : Inj ad) (σ0 : Nat → Nat → Int32) (τ0 : Nat → Nat → Int64) (hR : Rg σ0)   : Met l yX9_noteEchoes wsX9_noteEchoes ({ frames := 1, cells := 0, slots := 0, locals := 21 } : Room) (WQc D cA ad [.ref (ad 3)] σ0 τ0) (va_Qv (fun u : SS => P_X9_noteEchoes σ0 u.1) (WB D cA ad) (AA ad)) 0 0 (AA ad) := by
  refine Met.ofW (cc := cX9_noteEchoes) (maxL := 3) (ret := none) (by decide) rfl ?_
  intro p e s m args below meth c s₁ B hml hv
  obtain ⟨rfl, hP, hK, hN⟩ := hv
  have C : Cy p s m _ meth c cX9_noteEchoes 3 wsX9_noteEchoes RX9 D cA ad none := ⟨B.exec, B.bytes, hml, findClass_of_methodNamed B.named, atoms_spec (ws := wsX9_noteEchoes) B.pre, hK, B.notSynchronized, B.returns, hI, hN⟩
  have hl := lv_entry ([.ref (ad 3)]) (n := 3) (Nat.le_of_ble_eq_true rfl)
  rw [lg_entry_eq]
  generalize (lg_sl ([.ref (ad 3)]) ++ List.replicate (3 - (lg_sl ([.ref (ad 3)])).length) Slot.unset).toArray = ls at hl ⊢
  have hl : lv_has ls 3 [(0, .ref (ad 3))] := hl
  have hS : va_S (AA ad) s.heap s.heap [] := va_S.rf
  have hF : Fr L_X9_noteEchoes σ0 σ0 := Fr.rf
  have hA := A_X9_noteEchoes p l e s m _ below meth c D cA ad σ0  C  421
  have K2 := hA.1
  have K43 := hA.2
  clear hA
  obtain ⟨hx, hb, _, hown, hts, _, hk, hr, _, _⟩ := C
  refine r_iconst hx hb dX9_noteEchoes_0 (by decide) (fun z1 ez1 => ?_)
  refine lv_istore_n (lv' := [(1, .int z1), (0, .ref (ad 3))]) hx hb dX9_noteEchoes_1 rfl hl (by decide) rfl (fun ls hl => ?_)
  exact K2 σ0 τ0 s.heap [] z1 ls hR hF hP hS (by omega) (lv_sub hl [1, 0] rfl) (by omega)
theorem in_X10_read_10 : ∀ w ∈ u_ws RX10 TX10 5, w ∈ wsX10_read := by decide +kernel
theorem in_X10_read_8 : ∀ w ∈ u_ws RX8 TX8 15, w ∈ wsX10_read := by decide +kernel
theorem lk_X10_read_15 : Cond.fieldLink RX10 15 "CuckooShares$ValleyText" "into" "LCuckooShares$Valley;" ∈ wsX10_read := by decide +kernel
theorem lk_X10_read_24 : Cond.fieldLink RX10 24 "CuckooShares$ValleyText" "lines" "I" ∈ wsX10_read := by decide +kernel
theorem lk_X10_read_28 : Cond.fieldLink RX10 28 "CuckooShares$ValleyText" "wordsTold" "I" ∈ wsX10_read := by decide +kernel
theorem lk_X10_read_31 : Cond.fieldLink RX10 31 "CuckooShares$ValleyText" "fallsTold" "I" ∈ wsX10_read := by decide +kernel
theorem lk_X10_read_9 : Cond.fieldLink RX10 9 "CuckooShares$ValleyText" "tape" "LCuckooShares$Tape;" ∈ wsX10_read := by decide +kernel
abbrev L_X10_read : List Rc := [(3, 3, 0, 6), (6, 6, 2, 4), (65, 65, 0, 7), (1, 1, 7, 10), (1, 1, 12, 14), (136, 139, 0, 2), (76, 83, 0, 2), (108, 115, 0, 5), (148, 227, 0, 2)]
def P_X10_read (σ0 : Nat → Nat → Int32)  (r : Int32) (σ : Nat → Nat → Int32) : Prop := Rg σ ∧ Fr L_X10_read σ0 σ ∧ (0 ≤ r.toInt ∧ r.toInt ≤ 1)
def J_X10_read_22 (p : Program) (l : Launch) (e : Env) (s : State) (m : MethodId) (args : Array Value) (below : List Frame) (meth : Method) (c : Code) (D : va_G) (cA : Nat → ClassId) (ad : Nat → Nat) (σ0 : Nat → Nat → Int32)  (n : Nat) : Prop := ∀ (σ : Nat → Nat → Int32) (τ : Nat → Nat → Int64) (H : Heap) (locs : List Loc)  (ls : Array Slot), Rg σ → Fr L_X10_read σ0 σ → va_P D vwCl (gw cA ad σ τ) H → va_S (AA ad) s.heap H locs → (0 ≤ (σ 6 2).toInt ∧ (σ 6 2).toInt ≤ 940) → lv_has ls 1 [(0, .ref (ad 6))] → 2 * (940 - (σ 6 2).toInt) + 1 < (n : Int) → W p l e ({ frames := 6, cells := 0, slots := 0, locals := 128 } : Room) s m args below meth c H locs 0 0 (MQ below (va_Qi (fun (r : Int32) (u : SS) => P_X10_read σ0 r u.1) (WB D cA ad) (AA ad)) args s 0 0 (AA ad)) (F0 m 22 ls [])
set_option maxHeartbeats 4000000 in
theorem B_X10_read_22 (p : Program) (l : Launch) (e : Env) (s : State) (m : MethodId) (args : Array Value) (below : List Frame) (meth : Method) (c : Code) (D : va_G) (cA : Nat → ClassId) (ad : Nat → Nat) (σ0 : Nat → Nat → Int32)  (n : Nat) (C : Cy p s m args meth c cX10_read 1 wsX10_read RX10 D cA ad (some .boolean))  (K22 : J_X10_read_22 p l e s m args below meth c D cA ad σ0  n) : J_X10_read_22 p l e s m args below meth c D cA ad σ0  (n + 1) := by
  obtain ⟨hx, hb, hml, hown, hts, hK, hk, hr, hI, hN⟩ := C
  intro σ τ H locs ls hR hF hP hS hc0 hl hm
  refine lv_aload_n hx hb dX10_read_22 rfl (lv_at hl 0 rfl) ?_
  refine fg_10_0 (k := 6) hx hb hts in_X10_read_10 hown hK hP (by decide) (by decide) (hts _ lk_X10_read_9) dX10_read_23 ?_
  refine fgN_8_9 (k := 1) hx hb hts in_X10_read_8 hown hK hP (by decide) (by decide) (hN.use nw_10_34) dX10_read_26 ?_
  refine r_bipush hx hb dX10_read_29 (by decide) (fun z1 ez1 => ?_)
  refine r_icmp_eq (tgt := 78) hx hb dX10_read_31 (by decide) (fun c2 => ?_) (fun c2 => ?_)
  · refine lv_aload_n hx hb dX10_read_78 rfl (lv_at hl 0 rfl) ?_
    refine fg_10_1 (k := 6) hx hb hts in_X10_read_10 hown hK hP (by decide) (by decide) (hts _ lk_X10_read_15) dX10_read_79 ?_
    refine r_cVv (k := 3) (As := []) (rest := []) ⟨hx, hb, hml, hown, hts⟩ hK hP hN hS (c_X9_noteEchoes l D cA ad hI σ τ hR) (cwV 0 hts gX10_read_X9_noteEchoes rfl rfl rfl (by decide +kernel) ⟨by decide, by decide⟩) (rv_Valley hK hP (by decide) (by decide)) rfl hl.1 rfl (Nat.le_of_ble_eq_true rfl) dX10_read_82 (Nat.zero_le _) (Nat.zero_le _) (fun u3 H3 locs3 hp3 hP hS => ?_)
    obtain ⟨σ3, τ3⟩ := u3
    obtain ⟨hR, f3⟩ : P_X9_noteEchoes σ σ3 := hp3
    have hP : va_P D vwCl (gw cA ad σ3 τ3) H3 := hP
    have hF := hF.step f3 (by decide)
    have t4 : (σ3 6 2).toInt = (σ 6 2).toInt := congrArg Int32.toInt (f3.at 6 2 (by decide))
    refine r_iconst hx hb dX10_read_85 (by decide) (fun z5 ez5 => ?_)
    exact r_zret hx hb hr hK hP hS hk (by omega) dX10_read_86 (show P_X10_read σ0 z5 σ3 from ⟨hR, hF, by omega⟩)
  · refine lv_aload_n hx hb dX10_read_34 rfl (lv_at hl 0 rfl) ?_
    refine fg_10_2 (k := 6) hx hb hts in_X10_read_10 hown hK hP (by decide) (by decide) (hts _ lk_X10_read_24) dX10_read_35 ?_
    refine r_sipush hx hb dX10_read_38 (by decide) (fun z6 ez6 => ?_)
    refine r_icmp_ge (tgt := 78) hx hb dX10_read_41 (by decide) (fun c7 => ?_) (fun c7 => ?_)
    · refine lv_aload_n hx hb dX10_read_78 rfl (lv_at hl 0 rfl) ?_
      refine fg_10_1 (k := 6) hx hb hts in_X10_read_10 hown hK hP (by decide) (by decide) (hts _ lk_X10_read_15) dX10_read_79 ?_
      refine r_cVv (k := 3) (As := []) (rest := []) ⟨hx, hb, hml, hown, hts⟩ hK hP hN hS (c_X9_noteEchoes l D cA ad hI σ τ hR) (cwV 0 hts gX10_read_X9_noteEchoes rfl rfl rfl (by decide +kernel) ⟨by decide, by decide⟩) (rv_Valley hK hP (by decide) (by decide)) rfl hl.1 rfl (Nat.le_of_ble_eq_true rfl) dX10_read_82 (Nat.zero_le _) (Nat.zero_le _) (fun u8 H8 locs8 hp8 hP hS => ?_)
      obtain ⟨σ8, τ8⟩ := u8
      obtain ⟨hR, f8⟩ : P_X9_noteEchoes σ σ8 := hp8
      have hP : va_P D vwCl (gw cA ad σ8 τ8) H8 := hP
      have hF := hF.step f8 (by decide)
      have t9 : (σ8 6 2).toInt = (σ 6 2).toInt := congrArg Int32.toInt (f8.at 6 2 (by decide))
      refine r_iconst hx hb dX10_read_85 (by decide) (fun z10 ez10 => ?_)
      exact r_zret hx hb hr hK hP hS hk (by omega) dX10_read_86 (show P_X10_read σ0 z10 σ8 from ⟨hR, hF, by omega⟩)
    · refine lv_aload_n hx hb dX10_read_44 rfl (lv_at hl 0 rfl) ?_
      refine r_cVi (k := 6) (As := []) (rest := []) ⟨hx, hb, hml, hown, hts⟩ hK hP hN hS (c_X10_readLine l D cA ad hI σ τ hR) (cwV 0 hts gX10_read_X10_readLine rfl rfl rfl (by decide +kernel) ⟨by decide, by decide⟩) (rv_VText hK hP (by decide) (by decide)) rfl hl.1 rfl (Nat.le_of_ble_eq_true rfl) dX10_read_45 (Nat.zero_le _) (Nat.zero_le _) (fun r11 u11 H11 locs11 hp11 hP hS => ?_)
      obtain ⟨σ11, τ11⟩ := u11
      obtain ⟨hR, f11, hq11⟩ : P_X10_readLine σ r11 σ11 := hp11
      have hP : va_P D vwCl (gw cA ad σ11 τ11) H11 := hP
      have hF := hF.step f11 (by decide)
      have t12 : (σ11 6 2).toInt = (σ 6 2).toInt := congrArg Int32.toInt (f11.at 6 2 (by decide))
      refine r_if_eq (tgt := 63) hx hb dX10_read_48 (by decide) (fun c13 => ?_) (fun c13 => ?_)
      · refine r_iconst hx hb dX10_read_63 (by decide) (fun z14 ez14 => ?_)
        exact r_zret hx hb hr hK hP hS hk (by omega) dX10_read_64 (show P_X10_read σ0 z14 σ11 from ⟨hR, hF, by omega⟩)
      · refine lv_aload_n hx hb dX10_read_51 rfl (lv_at hl 0 rfl) ?_
        refine fg_10_0 (k := 6) hx hb hts in_X10_read_10 hown hK hP (by decide) (by decide) (hts _ lk_X10_read_9) dX10_read_52 ?_
        refine r_bipush hx hb dX10_read_55 (by decide) (fun z15 ez15 => ?_)
        refine r_cVi (k := 1) (As := [.int z15]) (rest := []) ⟨hx, hb, hml, hown, hts⟩ hK hP hN hS (c_X8_take l D cA ad hI σ11 τ11 hR z15 (by omega)) (cwV 1 hts gX10_read_X8_take rfl rfl rfl (by decide +kernel) ⟨by decide, by decide⟩) (rv_Tape hK hP (by decide) (by decide)) rfl hl.1 rfl (Nat.le_of_ble_eq_true rfl) dX10_read_57 (Nat.zero_le _) (Nat.zero_le _) (fun r16 u16 H16 locs16 hp16 hP hS => ?_)
        obtain ⟨σ16, τ16⟩ := u16
        obtain ⟨hR, f16, hq16⟩ : P_X8_take σ11 z15 r16 σ16 := hp16
        have hP : va_P D vwCl (gw cA ad σ16 τ16) H16 := hP
        have hF := hF.step f16 (by decide)
        have t17 : (σ16 6 2).toInt = (σ11 6 2).toInt := congrArg Int32.toInt (f16.at 6 2 (by decide))
        refine r_if_ne (tgt := 65) hx hb dX10_read_60 (by decide) (fun c18 => ?_) (fun c18 => ?_)
        · refine lv_aload_n hx hb dX10_read_65 rfl (lv_at hl 0 rfl) ?_
          refine lv_dup hx hb dX10_read_66 rfl ?_
          refine fg_10_2 (k := 6) hx hb hts in_X10_read_10 hown hK hP (by decide) (by decide) (hts _ lk_X10_read_24) dX10_read_67 ?_
          refine r_iconst hx hb dX10_read_70 (by decide) (fun z19 ez19 => ?_)
          refine r_iadd hx hb dX10_read_71 (by omega) (fun z20 ez20 => ?_)
          refine fp_10_2 (k := 6) hx hb hts in_X10_read_10 hown hK hP (by decide) (by decide) (hts _ lk_X10_read_24) hI hR hS (by omega) dX10_read_72 (fun σ21 H21 locs21 u21 v21 hR hP hS => ?_)
          have hF := hF.puts u21 1 rfl (by decide) (by decide) (by decide) (by decide)
          refine lv_goto (tgt := 22) hx hb dX10_read_75 (by decide) ?_
          exact K22 σ21 τ16 H21 locs21  ls hR hF hP hS (by omega) (lv_sub hl [0] rfl) (by omega)
        · refine r_iconst hx hb dX10_read_63 (by decide) (fun z22 ez22 => ?_)
          exact r_zret hx hb hr hK hP hS hk (by omega) dX10_read_64 (show P_X10_read σ0 z22 σ16 from ⟨hR, hF, by omega⟩)
theorem A_X10_read (p : Program) (l : Launch) (e : Env) (s : State) (m : MethodId) (args : Array Value) (below : List Frame) (meth : Method) (c : Code) (D : va_G) (cA : Nat → ClassId) (ad : Nat → Nat) (σ0 : Nat → Nat → Int32)  (C : Cy p s m args meth c cX10_read 1 wsX10_read RX10 D cA ad (some .boolean))  : ∀ n : Nat, J_X10_read_22 p l e s m args below meth c D cA ad σ0  n := by
  intro n
  induction n with
  | zero =>
    exact (by intro σ τ H locs ls hR hF hP hS hc0 hl hm; exfalso; omega)
  | succ n ih =>
    exact B_X10_read_22 p l e s m args below meth c D cA ad σ0  n C  ih
set_option maxHeartbeats 4000000 in
theorem c_X10_read (l : Launch) (D : va_G) (cA : Nat → ClassId) (ad : Nat → Nat) (hI : Inj ad) (σ0 : Nat → Nat → Int32) (τ0 : Nat → Nat → Int64) (hR : Rg σ0)   : Met l yX10_read wsX10_read ({ frames := 6, cells := 0, slots := 0, locals := 128 } : Room) (WQc D cA ad [.ref (ad 6)] σ0 τ0) (va_Qi (fun (r : Int32) (u : SS) => P_X10_read σ0 r u.1) (WB D cA ad) (AA ad)) 0 0 (AA ad) := by
  refine Met.ofW (cc := cX10_read) (maxL := 1) (ret := (some .boolean)) (by decide) rfl ?_
  intro p e s m args below meth c s₁ B hml hv
  obtain ⟨rfl, hP, hK, hN⟩ := hv
  have C : Cy p s m _ meth c cX10_read 1 wsX10_read RX10 D cA ad (some .boolean) := ⟨B.exec, B.bytes, hml, findClass_of_methodNamed B.named, atoms_spec (ws := wsX10_read) B.pre, hK, B.notSynchronized, B.returns, hI, hN⟩
  have hl := lv_entry ([.ref (ad 6)]) (n := 1) (Nat.le_of_ble_eq_true rfl)
  rw [lg_entry_eq]
  generalize (lg_sl ([.ref (ad 6)]) ++ List.replicate (1 - (lg_sl ([.ref (ad 6)])).length) Slot.unset).toArray = ls at hl ⊢
  have hl : lv_has ls 1 [(0, .ref (ad 6))] := hl
  have hS : va_S (AA ad) s.heap s.heap [] := va_S.rf
  have hF : Fr L_X10_read σ0 σ0 := Fr.rf
  have hA := A_X10_read p l e s m _ below meth c D cA ad σ0  C  3770
  have K22 := hA
  clear hA
  obtain ⟨hx, hb, _, hown, hts, _, hk, hr, _, _⟩ := C
  refine lv_aload_n hx hb dX10_read_0 rfl (lv_at hl 0 rfl) ?_
  refine fg_10_1 (k := 6) hx hb hts in_X10_read_10 hown hK hP (by decide) (by decide) (hts _ lk_X10_read_15) dX10_read_1 ?_
  refine r_cVv (k := 3) (As := []) (rest := []) ⟨hx, hb, hml, hown, hts⟩ hK hP hN hS (c_X9_clear l D cA ad hI σ0 τ0 hR) (cwV 0 hts gX10_read_X9_clear rfl rfl rfl (by decide +kernel) ⟨by decide, by decide⟩) (rv_Valley hK hP (by decide) (by decide)) rfl hl.1 rfl (Nat.le_of_ble_eq_true rfl) dX10_read_4 (Nat.zero_le _) (Nat.zero_le _) (fun u1 H1 locs1 hp1 hP hS => ?_)
  obtain ⟨σ1, τ1⟩ := u1
  obtain ⟨hR, f1⟩ : P_X9_clear σ0 σ1 := hp1
  have hP : va_P D vwCl (gw cA ad σ1 τ1) H1 := hP
  have hF := hF.step f1 (by decide)
  refine lv_aload_n hx hb dX10_read_7 rfl (lv_at hl 0 rfl) ?_
  refine r_iconst hx hb dX10_read_8 (by decide) (fun z2 ez2 => ?_)
  refine fp_10_2 (k := 6) hx hb hts in_X10_read_10 hown hK hP (by decide) (by decide) (hts _ lk_X10_read_24) hI hR hS (by omega) dX10_read_9 (fun σ3 H3 locs3 u3 v3 hR hP hS => ?_)
  have hF := hF.puts u3 1 rfl (by decide) (by decide) (by decide) (by decide)
  refine lv_aload_n hx hb dX10_read_12 rfl (lv_at hl 0 rfl) ?_
  refine r_iconst hx hb dX10_read_13 (by decide) (fun z4 ez4 => ?_)
  refine fp_10_3 (k := 6) hx hb hts in_X10_read_10 hown hK hP (by decide) (by decide) (hts _ lk_X10_read_28) hI hR hS dX10_read_14 (fun σ5 H5 locs5 u5 v5 hR hP hS => ?_)
  have hF := hF.puts u5 1 rfl (by decide) (by decide) (by decide) (by decide)
  have t6 : (σ5 6 2).toInt = (σ3 6 2).toInt := congrArg Int32.toInt (u5 6 2 (by omega))
  refine lv_aload_n hx hb dX10_read_17 rfl (lv_at hl 0 rfl) ?_
  refine r_iconst hx hb dX10_read_18 (by decide) (fun z7 ez7 => ?_)
  refine fp_10_4 (k := 6) hx hb hts in_X10_read_10 hown hK hP (by decide) (by decide) (hts _ lk_X10_read_31) hI hR hS dX10_read_19 (fun σ8 H8 locs8 u8 v8 hR hP hS => ?_)
  have hF := hF.puts u8 1 rfl (by decide) (by decide) (by decide) (by decide)
  have t9 : (σ8 6 2).toInt = (σ5 6 2).toInt := congrArg Int32.toInt (u8 6 2 (by omega))
  exact K22 σ8 τ1 H8 locs8  ls hR hF hP hS (by omega) (lv_sub hl [0] rfl) (by omega)
theorem in_X2_begin_2 : ∀ w ∈ u_ws RX2 TX2 7, w ∈ wsX2_begin := by decide +kernel
theorem in_X2_begin_9 : ∀ w ∈ u_ws RX9 TX9 14, w ∈ wsX2_begin := by decide +kernel
theorem lk_X2_begin_15 : Cond.fieldLink RX2 15 "CuckooShares$Days" "coins" "[I" ∈ wsX2_begin := by decide +kernel
theorem lk_X2_begin_18 : Cond.fieldLink RX2 18 "CuckooShares$Days" "sworn" "[I" ∈ wsX2_begin := by decide +kernel
theorem lk_X2_begin_21 : Cond.fieldLink RX2 21 "CuckooShares$Days" "store" "[I" ∈ wsX2_begin := by decide +kernel
theorem lk_X2_begin_24 : Cond.fieldLink RX2 24 "CuckooShares$Days" "flight" "I" ∈ wsX2_begin := by decide +kernel
theorem lk_X2_begin_28 : Cond.fieldLink RX2 28 "CuckooShares$Days" "year" "I" ∈ wsX2_begin := by decide +kernel
theorem lk_X2_begin_31 : Cond.fieldLink RX2 31 "CuckooShares$Days" "hour" "I" ∈ wsX2_begin := by decide +kernel
theorem lk_X2_begin_9 : Cond.fieldLink RX2 9 "CuckooShares$Days" "hill" "[I" ∈ wsX2_begin := by decide +kernel
abbrev L_X2_begin : List Rc := [(7, 7, 0, 2), (308, 308, 0, 7), (321, 321, 0, 7), (334, 334, 0, 7), (347, 347, 0, 7)]
def P_X2_begin (σ0 : Nat → Nat → Int32)  (σ : Nat → Nat → Int32) : Prop := Rg σ ∧ Fr L_X2_begin σ0 σ
def J_X2_begin_17 (p : Program) (l : Launch) (e : Env) (s : State) (m : MethodId) (args : Array Value) (below : List Frame) (meth : Method) (c : Code) (D : va_G) (cA : Nat → ClassId) (ad : Nat → Nat) (σ0 : Nat → Nat → Int32)  (n : Nat) : Prop := ∀ (σ : Nat → Nat → Int32) (τ : Nat → Nat → Int64) (H : Heap) (locs : List Loc) (x2 : Int32) (ls : Array Slot), Rg σ → Fr L_X2_begin σ0 σ → va_P D vwCl (gw cA ad σ τ) H → va_S (AA ad) s.heap H locs → (0 ≤ x2.toInt ∧ x2.toInt ≤ 8) → lv_has ls 3 [(0, .ref (ad 7)), (1, .ref (ad 2)), (2, .int x2)] → 2 * (8 - x2.toInt) + 1 < (n : Int) → W p l e ({ frames := 0, cells := 0, slots := 0, locals := 0 } : Room) s m args below meth c H locs 0 0 (MQ below (va_Qv (fun u : SS => P_X2_begin σ0 u.1) (WB D cA ad) (AA ad)) args s 0 0 (AA ad)) (F0 m 17 ls [])
set_option maxHeartbeats 4000000 in
theorem B_X2_begin_17 (p : Program) (l : Launch) (e : Env) (s : State) (m : MethodId) (args : Array Value) (below : List Frame) (meth : Method) (c : Code) (D : va_G) (cA : Nat → ClassId) (ad : Nat → Nat) (σ0 : Nat → Nat → Int32)  (n : Nat) (C : Cy p s m args meth c cX2_begin 3 wsX2_begin RX2 D cA ad none)  (K17 : J_X2_begin_17 p l e s m args below meth c D cA ad σ0  n) : J_X2_begin_17 p l e s m args below meth c D cA ad σ0  (n + 1) := by
  obtain ⟨hx, hb, hml, hown, hts, hK, hk, hr, hI, hN⟩ := C
  intro σ τ H locs x2 ls hR hF hP hS hc0 hl hm
  refine lv_iload_n hx hb dX2_begin_17 rfl (lv_at hl 2 rfl) ?_
  refine lv_aload_n hx hb dX2_begin_18 rfl (lv_at hl 1 rfl) ?_
  refine fgN_9_5 (k := 2) hx hb hts in_X2_begin_9 hown hK hP (by decide) (by decide) (hN.use nw_2_34) dX2_begin_19 ?_
  have hr1 := rg_9_5 hR (k := 2) (by decide) (by decide)
  refine r_icmp_ge (tgt := 73) hx hb dX2_begin_22 (by decide) (fun c2 => ?_) (fun c2 => ?_)
  · exact r_vret hx hb hr hK hP hS hk dX2_begin_73 (show P_X2_begin σ0 σ from ⟨hR, hF⟩)
  · refine lv_aload_n hx hb dX2_begin_25 rfl (lv_at hl 0 rfl) ?_
    refine fg_2_3 (k := 7) hx hb hts in_X2_begin_2 hown hK hP (by decide) (by decide) (hts _ lk_X2_begin_9) dX2_begin_26 ?_
    refine lv_iload_n hx hb dX2_begin_29 rfl (lv_at hl 2 rfl) ?_
    refine lv_aload_n hx hb dX2_begin_30 rfl (lv_at hl 1 rfl) ?_
    refine fgN_9_10 (k := 2) hx hb hts in_X2_begin_9 hown hK hP (by decide) (by decide) (hN.use nw_2_39) dX2_begin_31 ?_
    refine lv_iload_n hx hb dX2_begin_34 rfl (lv_at hl 2 rfl) ?_
    obtain ⟨j3, ej3⟩ : ∃ j : Nat, x2.toInt = (j : Int) := ⟨_, ti_nat (by omega)⟩
    refine ad_manA (k := 52) (j := j3) hx hb hK hP (by decide) (by decide) ej3 (by omega) dX2_begin_35 ?_
    refine r_iconst hx hb dX2_begin_36 (by decide) (fun z4 ez4 => ?_)
    refine ad_manR (k := 100 + j3) (j := 0) hx hb hK hP (by omega) (by omega) (by omega) (by omega) dX2_begin_37 ?_
    refine as_days8 (k := 308) (j := j3) hx hb hK hP hI hR hS (by decide) (by decide) ej3 (by omega) dX2_begin_38 (fun σ5 H5 locs5 u5 v5 hR hP hS => ?_)
    have hF := hF.puts u5 1 rfl (by decide) (by decide) (by omega) (by omega)
    refine lv_aload_n hx hb dX2_begin_39 rfl (lv_at hl 0 rfl) ?_
    refine fg_2_4 (k := 7) hx hb hts in_X2_begin_2 hown hK hP (by decide) (by decide) (hts _ lk_X2_begin_15) dX2_begin_40 ?_
    refine lv_iload_n hx hb dX2_begin_43 rfl (lv_at hl 2 rfl) ?_
    refine lv_aload_n hx hb dX2_begin_44 rfl (lv_at hl 1 rfl) ?_
    refine fgN_9_10 (k := 2) hx hb hts in_X2_begin_9 hown hK hP (by decide) (by decide) (hN.use nw_2_39) dX2_begin_45 ?_
    refine lv_iload_n hx hb dX2_begin_48 rfl (lv_at hl 2 rfl) ?_
    refine ad_manA (k := 52) (j := j3) hx hb hK hP (by decide) (by decide) ej3 (by omega) dX2_begin_49 ?_
    refine r_iconst hx hb dX2_begin_50 (by decide) (fun z6 ez6 => ?_)
    refine ad_manR (k := 100 + j3) (j := 2) hx hb hK hP (by omega) (by omega) (by omega) (by omega) dX2_begin_51 ?_
    refine as_days8 (k := 321) (j := j3) hx hb hK hP hI hR hS (by decide) (by decide) ej3 (by omega) dX2_begin_52 (fun σ7 H7 locs7 u7 v7 hR hP hS => ?_)
    have hF := hF.puts u7 2 rfl (by decide) (by decide) (by omega) (by omega)
    refine lv_aload_n hx hb dX2_begin_53 rfl (lv_at hl 0 rfl) ?_
    refine fg_2_5 (k := 7) hx hb hts in_X2_begin_2 hown hK hP (by decide) (by decide) (hts _ lk_X2_begin_18) dX2_begin_54 ?_
    refine lv_iload_n hx hb dX2_begin_57 rfl (lv_at hl 2 rfl) ?_
    refine r_iconst hx hb dX2_begin_58 (by decide) (fun z8 ez8 => ?_)
    refine as_days8 (k := 334) (j := j3) hx hb hK hP hI hR hS (by decide) (by decide) ej3 (by omega) dX2_begin_59 (fun σ9 H9 locs9 u9 v9 hR hP hS => ?_)
    have hF := hF.puts u9 3 rfl (by decide) (by decide) (by omega) (by omega)
    refine lv_aload_n hx hb dX2_begin_60 rfl (lv_at hl 0 rfl) ?_
    refine fg_2_6 (k := 7) hx hb hts in_X2_begin_2 hown hK hP (by decide) (by decide) (hts _ lk_X2_begin_21) dX2_begin_61 ?_
    refine lv_iload_n hx hb dX2_begin_64 rfl (lv_at hl 2 rfl) ?_
    refine r_iconst hx hb dX2_begin_65 (by decide) (fun z10 ez10 => ?_)
    refine as_days8 (k := 347) (j := j3) hx hb hK hP hI hR hS (by decide) (by decide) ej3 (by omega) dX2_begin_66 (fun σ11 H11 locs11 u11 v11 hR hP hS => ?_)
    have hF := hF.puts u11 4 rfl (by decide) (by decide) (by omega) (by omega)
    refine r_iinc (k := 2) (lv1 := fun z12 => [(2, .int z12), (0, .ref (ad 7)), (1, .ref (ad 2))]) hx hb dX2_begin_67 hl rfl (by decide) (fun _ => rfl) (by decide) (by omega) (fun z12 ls ez12 hl => ?_)
    refine lv_goto (tgt := 17) hx hb dX2_begin_70 (by decide) ?_
    exact K17 σ11 τ H11 locs11 z12 ls hR hF hP hS (by omega) (lv_sub hl [1, 2, 0] rfl) (by omega)
theorem A_X2_begin (p : Program) (l : Launch) (e : Env) (s : State) (m : MethodId) (args : Array Value) (below : List Frame) (meth : Method) (c : Code) (D : va_G) (cA : Nat → ClassId) (ad : Nat → Nat) (σ0 : Nat → Nat → Int32)  (C : Cy p s m args meth c cX2_begin 3 wsX2_begin RX2 D cA ad none)  : ∀ n : Nat, J_X2_begin_17 p l e s m args below meth c D cA ad σ0  n := by
  intro n
  induction n with
  | zero =>
    exact (by intro σ τ H locs x2 ls hR hF hP hS hc0 hl hm; exfalso; omega)
  | succ n ih =>
    exact B_X2_begin_17 p l e s m args below meth c D cA ad σ0  n C  ih
set_option maxHeartbeats 4000000 in
theorem c_X2_begin (l : Launch) (D : va_G) (cA : Nat → ClassId) (ad : Nat → Nat) (hI : Inj ad) (σ0 : Nat → Nat → Int32) (τ0 : Nat → Nat → Int64) (hR : Rg σ0)   : Met l yX2_begin wsX2_begin ({ frames := 0, cells := 0, slots := 0, locals := 0 } : Room) (WQc D cA ad [.ref (ad 7), .ref (ad 2)] σ0 τ0) (va_Qv (fun u : SS => P_X2_begin σ0 u.1) (WB D cA ad) (AA ad)) 0 0 (AA ad) := by
  refine Met.ofW (cc := cX2_begin) (maxL := 3) (ret := none) (by decide) rfl ?_
  intro p e s m args below meth c s₁ B hml hv
  obtain ⟨rfl, hP, hK, hN⟩ := hv
  have C : Cy p s m _ meth c cX2_begin 3 wsX2_begin RX2 D cA ad none := ⟨B.exec, B.bytes, hml, findClass_of_methodNamed B.named, atoms_spec (ws := wsX2_begin) B.pre, hK, B.notSynchronized, B.returns, hI, hN⟩
  have hl := lv_entry ([.ref (ad 7), .ref (ad 2)]) (n := 3) (Nat.le_of_ble_eq_true rfl)
  rw [lg_entry_eq]
  generalize (lg_sl ([.ref (ad 7), .ref (ad 2)]) ++ List.replicate (3 - (lg_sl ([.ref (ad 7), .ref (ad 2)])).length) Slot.unset).toArray = ls at hl ⊢
  have hl : lv_has ls 3 [(0, .ref (ad 7)), (1, .ref (ad 2))] := hl
  have hS : va_S (AA ad) s.heap s.heap [] := va_S.rf
  have hF : Fr L_X2_begin σ0 σ0 := Fr.rf
  have hA := A_X2_begin p l e s m _ below meth c D cA ad σ0  C  42
  have K17 := hA
  clear hA
  obtain ⟨hx, hb, _, hown, hts, _, hk, hr, _, _⟩ := C
  refine lv_aload_n hx hb dX2_begin_0 rfl (lv_at hl 0 rfl) ?_
  refine r_iconst hx hb dX2_begin_1 (by decide) (fun z1 ez1 => ?_)
  refine fp_2_0 (k := 7) hx hb hts in_X2_begin_2 hown hK hP (by decide) (by decide) (hts _ lk_X2_begin_28) hI hR hS dX2_begin_2 (fun σ2 H2 locs2 u2 v2 hR hP hS => ?_)
  have hF := hF.puts u2 0 rfl (by decide) (by decide) (by decide) (by decide)
  refine lv_aload_n hx hb dX2_begin_5 rfl (lv_at hl 0 rfl) ?_
  refine r_iconst hx hb dX2_begin_6 (by decide) (fun z3 ez3 => ?_)
  refine fp_2_1 (k := 7) hx hb hts in_X2_begin_2 hown hK hP (by decide) (by decide) (hts _ lk_X2_begin_24) hI hR hS dX2_begin_7 (fun σ4 H4 locs4 u4 v4 hR hP hS => ?_)
  have hF := hF.puts u4 0 rfl (by decide) (by decide) (by decide) (by decide)
  refine lv_aload_n hx hb dX2_begin_10 rfl (lv_at hl 0 rfl) ?_
  refine r_iconst hx hb dX2_begin_11 (by decide) (fun z5 ez5 => ?_)
  refine fp_2_2 (k := 7) hx hb hts in_X2_begin_2 hown hK hP (by decide) (by decide) (hts _ lk_X2_begin_31) hI hR hS dX2_begin_12 (fun σ6 H6 locs6 u6 v6 hR hP hS => ?_)
  have hF := hF.puts u6 0 rfl (by decide) (by decide) (by decide) (by decide)
  refine r_iconst hx hb dX2_begin_15 (by decide) (fun z7 ez7 => ?_)
  refine lv_istore_n (lv' := [(2, .int z7), (0, .ref (ad 7)), (1, .ref (ad 2))]) hx hb dX2_begin_16 rfl hl (by decide) rfl (fun ls hl => ?_)
  exact K17 σ6 τ0 H6 locs6 z7 ls hR hF hP hS (by omega) (lv_sub hl [1, 2, 0] rfl) (by omega)
theorem in_X3_clear_3 : ∀ w ∈ u_ws RX3 TX3 3, w ∈ wsX3_clear := by decide +kernel
theorem lk_X3_clear_18 : Cond.fieldLink RX3 18 "CuckooShares$History" "size" "I" ∈ wsX3_clear := by decide +kernel
abbrev L_X3_clear : List Rc := [(20, 20, 2, 2)]
def P_X3_clear (σ0 : Nat → Nat → Int32)  (σ : Nat → Nat → Int32) : Prop := Rg σ ∧ Fr L_X3_clear σ0 σ
set_option maxHeartbeats 4000000 in
theorem c_X3_clear (l : Launch) (D : va_G) (cA : Nat → ClassId) (ad : Nat → Nat) (hI : Inj ad) (σ0 : Nat → Nat → Int32) (τ0 : Nat → Nat → Int64) (hR : Rg σ0)   : Met l yX3_clear wsX3_clear ({ frames := 0, cells := 0, slots := 0, locals := 0 } : Room) (WQc D cA ad [.ref (ad 20)] σ0 τ0) (va_Qv (fun u : SS => P_X3_clear σ0 u.1) (WB D cA ad) (AA ad)) 0 0 (AA ad) := by
  refine Met.ofW (cc := cX3_clear) (maxL := 1) (ret := none) (by decide) rfl ?_
  intro p e s m args below meth c s₁ B hml hv
  obtain ⟨rfl, hP, hK, hN⟩ := hv
  have C : Cy p s m _ meth c cX3_clear 1 wsX3_clear RX3 D cA ad none := ⟨B.exec, B.bytes, hml, findClass_of_methodNamed B.named, atoms_spec (ws := wsX3_clear) B.pre, hK, B.notSynchronized, B.returns, hI, hN⟩
  have hl := lv_entry ([.ref (ad 20)]) (n := 1) (Nat.le_of_ble_eq_true rfl)
  rw [lg_entry_eq]
  generalize (lg_sl ([.ref (ad 20)]) ++ List.replicate (1 - (lg_sl ([.ref (ad 20)])).length) Slot.unset).toArray = ls at hl ⊢
  have hl : lv_has ls 1 [(0, .ref (ad 20))] := hl
  have hS : va_S (AA ad) s.heap s.heap [] := va_S.rf
  have hF : Fr L_X3_clear σ0 σ0 := Fr.rf
  obtain ⟨hx, hb, _, hown, hts, _, hk, hr, _, _⟩ := C
  refine lv_aload_n hx hb dX3_clear_0 rfl (lv_at hl 0 rfl) ?_
  refine r_iconst hx hb dX3_clear_1 (by decide) (fun z1 ez1 => ?_)
  refine fp_3_2 (k := 20) hx hb hts in_X3_clear_3 hown hK hP (by decide) (by decide) (hts _ lk_X3_clear_18) hI hR hS (by omega) dX3_clear_2 (fun σ2 H2 locs2 u2 v2 hR hP hS => ?_)
  have hF := hF.puts u2 0 rfl (by decide) (by decide) (by decide) (by decide)
  exact r_vret hx hb hr hK hP hS hk dX3_clear_5 (show P_X3_clear σ0 σ2 from ⟨hR, hF⟩)
theorem in_X6_clear_6 : ∀ w ∈ u_ws RX6 TX6 7, w ∈ wsX6_clear := by decide +kernel
theorem lk_X6_clear_24 : Cond.fieldLink RX6 24 "CuckooShares$Sentence" "told" "Z" ∈ wsX6_clear := by decide +kernel
theorem lk_X6_clear_28 : Cond.fieldLink RX6 28 "CuckooShares$Sentence" "ones" "I" ∈ wsX6_clear := by decide +kernel
theorem lk_X6_clear_32 : Cond.fieldLink RX6 32 "CuckooShares$Sentence" "steps" "I" ∈ wsX6_clear := by decide +kernel
abbrev L_X6_clear : List Rc := [(23, 24, 0, 2)]
def P_X6_clear (σ0 : Nat → Nat → Int32) (k0 : Nat) (σ : Nat → Nat → Int32) : Prop := Rg σ ∧ Fr L_X6_clear σ0 σ
set_option maxHeartbeats 4000000 in
theorem c_X6_clear (l : Launch) (D : va_G) (cA : Nat → ClassId) (ad : Nat → Nat) (hI : Inj ad) (σ0 : Nat → Nat → Int32) (τ0 : Nat → Nat → Int64) (hR : Rg σ0) (k0 : Nat) (hk0 : 23 ≤ k0 ∧ k0 ≤ 24) : Met l yX6_clear wsX6_clear ({ frames := 0, cells := 0, slots := 0, locals := 0 } : Room) (WQc D cA ad [.ref (ad k0)] σ0 τ0) (va_Qv (fun u : SS => P_X6_clear σ0 k0 u.1) (WB D cA ad) (AA ad)) 0 0 (AA ad) := by
  refine Met.ofW (cc := cX6_clear) (maxL := 1) (ret := none) (by decide) rfl ?_
  intro p e s m args below meth c s₁ B hml hv
  obtain ⟨rfl, hP, hK, hN⟩ := hv
  have C : Cy p s m _ meth c cX6_clear 1 wsX6_clear RX6 D cA ad none := ⟨B.exec, B.bytes, hml, findClass_of_methodNamed B.named, atoms_spec (ws := wsX6_clear) B.pre, hK, B.notSynchronized, B.returns, hI, hN⟩
  have hl := lv_entry ([.ref (ad k0)]) (n := 1) (Nat.le_of_ble_eq_true rfl)
  rw [lg_entry_eq]
  generalize (lg_sl ([.ref (ad k0)]) ++ List.replicate (1 - (lg_sl ([.ref (ad k0)])).length) Slot.unset).toArray = ls at hl ⊢
  have hl : lv_has ls 1 [(0, .ref (ad k0))] := hl
  have hS : va_S (AA ad) s.heap s.heap [] := va_S.rf
  have hF : Fr L_X6_clear σ0 σ0 := Fr.rf
  obtain ⟨hx, hb, _, hown, hts, _, hk, hr, _, _⟩ := C
  refine lv_aload_n hx hb dX6_clear_0 rfl (lv_at hl 0 rfl) ?_
  refine r_iconst hx hb dX6_clear_1 (by decide) (fun z1 ez1 => ?_)
  refine fp_6_0 (k := k0) hx hb hts in_X6_clear_6 hown hK hP (by omega) (by omega) (hts _ lk_X6_clear_24) hI hR hS (by omega) dX6_clear_2 (fun σ2 H2 locs2 u2 v2 hR hP hS => ?_)
  have hF := hF.puts u2 0 rfl (by omega) (by omega) (by decide) (by decide)
  refine lv_aload_n hx hb dX6_clear_5 rfl (lv_at hl 0 rfl) ?_
  refine r_iconst hx hb dX6_clear_6 (by decide) (fun z3 ez3 => ?_)
  refine fp_6_1 (k := k0) hx hb hts in_X6_clear_6 hown hK hP (by omega) (by omega) (hts _ lk_X6_clear_28) hI hR hS (by omega) dX6_clear_7 (fun σ4 H4 locs4 u4 v4 hR hP hS => ?_)
  have hF := hF.puts u4 0 rfl (by omega) (by omega) (by decide) (by decide)
  refine lv_aload_n hx hb dX6_clear_10 rfl (lv_at hl 0 rfl) ?_
  refine r_iconst hx hb dX6_clear_11 (by decide) (fun z5 ez5 => ?_)
  refine fp_6_2 (k := k0) hx hb hts in_X6_clear_6 hown hK hP (by omega) (by omega) (hts _ lk_X6_clear_32) hI hR hS (by omega) dX6_clear_12 (fun σ6 H6 locs6 u6 v6 hR hP hS => ?_)
  have hF := hF.puts u6 0 rfl (by omega) (by omega) (by decide) (by decide)
  exact r_vret hx hb hr hK hP hS hk dX6_clear_15 (show P_X6_clear σ0 k0 σ6 from ⟨hR, hF⟩)
theorem in_X8_byteAt_8 : ∀ w ∈ u_ws RX8 TX8 15, w ∈ wsX8_byteAt := by decide +kernel
theorem lk_X8_byteAt_9 : Cond.fieldLink RX8 9 "CuckooShares$Tape" "bytes" "[B" ∈ wsX8_byteAt := by decide +kernel
abbrev L_X8_byteAt : List Rc := []
def P_X8_byteAt (σ0 : Nat → Nat → Int32) (a1 : Int32) (r : Int32) (σ : Nat → Nat → Int32) : Prop := Rg σ ∧ Fr L_X8_byteAt σ0 σ ∧ (0 ≤ r.toInt ∧ r.toInt ≤ 255)
set_option maxHeartbeats 4000000 in
theorem c_X8_byteAt (l : Launch) (D : va_G) (cA : Nat → ClassId) (ad : Nat → Nat) (hI : Inj ad) (σ0 : Nat → Nat → Int32) (τ0 : Nat → Nat → Int64) (hR : Rg σ0) (a1 : Int32) (ha1 : 0 ≤ a1.toInt ∧ a1.toInt ≤ 939) : Met l yX8_byteAt wsX8_byteAt ({ frames := 0, cells := 0, slots := 0, locals := 0 } : Room) (WQc D cA ad [.ref (ad 1), .int a1] σ0 τ0) (va_Qi (fun (r : Int32) (u : SS) => P_X8_byteAt σ0 a1 r u.1) (WB D cA ad) (AA ad)) 0 0 (AA ad) := by
  refine Met.ofW (cc := cX8_byteAt) (maxL := 2) (ret := (some .int)) (by decide) rfl ?_
  intro p e s m args below meth c s₁ B hml hv
  obtain ⟨rfl, hP, hK, hN⟩ := hv
  have C : Cy p s m _ meth c cX8_byteAt 2 wsX8_byteAt RX8 D cA ad (some .int) := ⟨B.exec, B.bytes, hml, findClass_of_methodNamed B.named, atoms_spec (ws := wsX8_byteAt) B.pre, hK, B.notSynchronized, B.returns, hI, hN⟩
  have hl := lv_entry ([.ref (ad 1), .int a1]) (n := 2) (Nat.le_of_ble_eq_true rfl)
  rw [lg_entry_eq]
  generalize (lg_sl ([.ref (ad 1), .int a1]) ++ List.replicate (2 - (lg_sl ([.ref (ad 1), .int a1])).length) Slot.unset).toArray = ls at hl ⊢
  have hl : lv_has ls 2 [(0, .ref (ad 1)), (1, .int a1)] := hl
  have hS : va_S (AA ad) s.heap s.heap [] := va_S.rf
  have hF : Fr L_X8_byteAt σ0 σ0 := Fr.rf
  obtain ⟨hx, hb, _, hown, hts, _, hk, hr, _, _⟩ := C
  refine lv_iload_n hx hb dX8_byteAt_0 rfl (lv_at hl 1 rfl) ?_
  refine r_if_lt (tgt := 24) hx hb dX8_byteAt_1 (by decide) (fun c1 => ?_) (fun c1 => ?_)
  · exfalso; omega
  · refine lv_iload_n hx hb dX8_byteAt_4 rfl (lv_at hl 1 rfl) ?_
    refine r_sipush hx hb dX8_byteAt_5 (by decide) (fun z2 ez2 => ?_)
    refine r_icmp_ge (tgt := 24) hx hb dX8_byteAt_8 (by decide) (fun c3 => ?_) (fun c3 => ?_)
    · exfalso; omega
    · refine lv_aload_n hx hb dX8_byteAt_11 rfl (lv_at hl 0 rfl) ?_
      refine fg_8_0 (k := 1) hx hb hts in_X8_byteAt_8 hown hK hP (by decide) (by decide) (hts _ lk_X8_byteAt_9) dX8_byteAt_12 ?_
      refine lv_iload_n hx hb dX8_byteAt_15 rfl (lv_at hl 1 rfl) ?_
      obtain ⟨j4, ej4⟩ : ∃ j : Nat, a1.toInt = (j : Int) := ⟨_, ti_nat (by omega)⟩
      refine ad_bytes (k := 35) (j := j4) hx hb hK hP (by decide) (by decide) ej4 (by omega) dX8_byteAt_16 ?_
      refine r_sipush hx hb dX8_byteAt_17 (by decide) (fun z5 ez5 => ?_)
      refine r_iand (w := 255) hx hb 8 dX8_byteAt_20 (by omega) (by decide) (fun z6 ez6 => ?_)
      refine lv_goto (tgt := 25) hx hb dX8_byteAt_21 (by decide) ?_
      exact r_iret hx hb hr hK hP hS hk dX8_byteAt_25 (show P_X8_byteAt σ0 a1 z6 σ0 from ⟨hR, hF, by omega⟩)
abbrev L_X8_isBlank : List Rc := []
def P_X8_isBlank (σ0 : Nat → Nat → Int32) (a0 : Int32) (r : Int32) (σ : Nat → Nat → Int32) : Prop := Rg σ ∧ Fr L_X8_isBlank σ0 σ ∧ (0 ≤ r.toInt ∧ r.toInt ≤ 1)
set_option maxHeartbeats 4000000 in
theorem c_X8_isBlank (l : Launch) (D : va_G) (cA : Nat → ClassId) (ad : Nat → Nat) (hI : Inj ad) (σ0 : Nat → Nat → Int32) (τ0 : Nat → Nat → Int64) (hR : Rg σ0) (a0 : Int32) (ha0 : 0 ≤ a0.toInt ∧ a0.toInt ≤ 255) : Met l yX8_isBlank wsX8_isBlank ({ frames := 0, cells := 0, slots := 0, locals := 0 } : Room) (WQc D cA ad [.int a0] σ0 τ0) (va_Qi (fun (r : Int32) (u : SS) => P_X8_isBlank σ0 a0 r u.1) (WB D cA ad) (AA ad)) 0 0 (AA ad) := by
  refine Met.ofW (cc := cX8_isBlank) (maxL := 1) (ret := (some .boolean)) (by decide) rfl ?_
  intro p e s m args below meth c s₁ B hml hv
  obtain ⟨rfl, hP, hK, hN⟩ := hv
  have C : Cy p s m _ meth c cX8_isBlank 1 wsX8_isBlank RX8 D cA ad (some .boolean) := ⟨B.exec, B.bytes, hml, findClass_of_methodNamed B.named, atoms_spec (ws := wsX8_isBlank) B.pre, hK, B.notSynchronized, B.returns, hI, hN⟩
  have hl := lv_entry ([.int a0]) (n := 1) (Nat.le_of_ble_eq_true rfl)
  rw [lg_entry_eq]
  generalize (lg_sl ([.int a0]) ++ List.replicate (1 - (lg_sl ([.int a0])).length) Slot.unset).toArray = ls at hl ⊢
  have hl : lv_has ls 1 [(0, .int a0)] := hl
  have hS : va_S (AA ad) s.heap s.heap [] := va_S.rf
  have hF : Fr L_X8_isBlank σ0 σ0 := Fr.rf
  obtain ⟨hx, hb, _, hown, hts, _, hk, hr, _, _⟩ := C
  refine lv_iload_n hx hb dX8_isBlank_0 rfl (lv_at hl 0 rfl) ?_
  refine r_bipush hx hb dX8_isBlank_1 (by decide) (fun z1 ez1 => ?_)
  refine r_icmp_eq (tgt := 12) hx hb dX8_isBlank_3 (by decide) (fun c2 => ?_) (fun c2 => ?_)
  · refine r_iconst hx hb dX8_isBlank_12 (by decide) (fun z3 ez3 => ?_)
    refine lv_goto (tgt := 17) hx hb dX8_isBlank_13 (by decide) ?_
    exact r_zret hx hb hr hK hP hS hk (by omega) dX8_isBlank_17 (show P_X8_isBlank σ0 a0 z3 σ0 from ⟨hR, hF, by omega⟩)
  · refine lv_iload_n hx hb dX8_isBlank_6 rfl (lv_at hl 0 rfl) ?_
    refine r_bipush hx hb dX8_isBlank_7 (by decide) (fun z4 ez4 => ?_)
    refine r_icmp_ne (tgt := 16) hx hb dX8_isBlank_9 (by decide) (fun c5 => ?_) (fun c5 => ?_)
    · refine r_iconst hx hb dX8_isBlank_16 (by decide) (fun z6 ez6 => ?_)
      exact r_zret hx hb hr hK hP hS hk (by omega) dX8_isBlank_17 (show P_X8_isBlank σ0 a0 z6 σ0 from ⟨hR, hF, by omega⟩)
    · refine r_iconst hx hb dX8_isBlank_12 (by decide) (fun z7 ez7 => ?_)
      refine lv_goto (tgt := 17) hx hb dX8_isBlank_13 (by decide) ?_
      exact r_zret hx hb hr hK hP hS hk (by omega) dX8_isBlank_17 (show P_X8_isBlank σ0 a0 z7 σ0 from ⟨hR, hF, by omega⟩)
abbrev L_X8_isDigit : List Rc := []
def P_X8_isDigit (σ0 : Nat → Nat → Int32) (a0 : Int32) (r : Int32) (σ : Nat → Nat → Int32) : Prop := Rg σ ∧ Fr L_X8_isDigit σ0 σ ∧ (0 ≤ r.toInt ∧ r.toInt ≤ 1)
set_option maxHeartbeats 4000000 in
theorem c_X8_isDigit (l : Launch) (D : va_G) (cA : Nat → ClassId) (ad : Nat → Nat) (hI : Inj ad) (σ0 : Nat → Nat → Int32) (τ0 : Nat → Nat → Int64) (hR : Rg σ0) (a0 : Int32) (ha0 : 0 ≤ a0.toInt ∧ a0.toInt ≤ 255) : Met l yX8_isDigit wsX8_isDigit ({ frames := 0, cells := 0, slots := 0, locals := 0 } : Room) (WQc D cA ad [.int a0] σ0 τ0) (va_Qi (fun (r : Int32) (u : SS) => P_X8_isDigit σ0 a0 r u.1) (WB D cA ad) (AA ad)) 0 0 (AA ad) := by
  refine Met.ofW (cc := cX8_isDigit) (maxL := 1) (ret := (some .boolean)) (by decide) rfl ?_
  intro p e s m args below meth c s₁ B hml hv
  obtain ⟨rfl, hP, hK, hN⟩ := hv
  have C : Cy p s m _ meth c cX8_isDigit 1 wsX8_isDigit RX8 D cA ad (some .boolean) := ⟨B.exec, B.bytes, hml, findClass_of_methodNamed B.named, atoms_spec (ws := wsX8_isDigit) B.pre, hK, B.notSynchronized, B.returns, hI, hN⟩
  have hl := lv_entry ([.int a0]) (n := 1) (Nat.le_of_ble_eq_true rfl)
  rw [lg_entry_eq]
  generalize (lg_sl ([.int a0]) ++ List.replicate (1 - (lg_sl ([.int a0])).length) Slot.unset).toArray = ls at hl ⊢
  have hl : lv_has ls 1 [(0, .int a0)] := hl
  have hS : va_S (AA ad) s.heap s.heap [] := va_S.rf
  have hF : Fr L_X8_isDigit σ0 σ0 := Fr.rf
  obtain ⟨hx, hb, _, hown, hts, _, hk, hr, _, _⟩ := C
  refine lv_iload_n hx hb dX8_isDigit_0 rfl (lv_at hl 0 rfl) ?_
  refine r_bipush hx hb dX8_isDigit_1 (by decide) (fun z1 ez1 => ?_)
  refine r_icmp_lt (tgt := 16) hx hb dX8_isDigit_3 (by decide) (fun c2 => ?_) (fun c2 => ?_)
  · refine r_iconst hx hb dX8_isDigit_16 (by decide) (fun z3 ez3 => ?_)
    exact r_zret hx hb hr hK hP hS hk (by omega) dX8_isDigit_17 (show P_X8_isDigit σ0 a0 z3 σ0 from ⟨hR, hF, by omega⟩)
  · refine lv_iload_n hx hb dX8_isDigit_6 rfl (lv_at hl 0 rfl) ?_
    refine r_bipush hx hb dX8_isDigit_7 (by decide) (fun z4 ez4 => ?_)
    refine r_icmp_gt (tgt := 16) hx hb dX8_isDigit_9 (by decide) (fun c5 => ?_) (fun c5 => ?_)
    · refine r_iconst hx hb dX8_isDigit_16 (by decide) (fun z6 ez6 => ?_)
      exact r_zret hx hb hr hK hP hS hk (by omega) dX8_isDigit_17 (show P_X8_isDigit σ0 a0 z6 σ0 from ⟨hR, hF, by omega⟩)
    · refine r_iconst hx hb dX8_isDigit_12 (by decide) (fun z7 ez7 => ?_)
      refine lv_goto (tgt := 17) hx hb dX8_isDigit_13 (by decide) ?_
      exact r_zret hx hb hr hK hP hS hk (by omega) dX8_isDigit_17 (show P_X8_isDigit σ0 a0 z7 σ0 from ⟨hR, hF, by omega⟩)
abbrev L_X8_isInRun : List Rc := []
def P_X8_isInRun (σ0 : Nat → Nat → Int32) (a0 : Int32) (r : Int32) (σ : Nat → Nat → Int32) : Prop := Rg σ ∧ Fr L_X8_isInRun σ0 σ ∧ (0 ≤ r.toInt ∧ r.toInt ≤ 1)
set_option maxHeartbeats 4000000 in
theorem c_X8_isInRun (l : Launch) (D : va_G) (cA : Nat → ClassId) (ad : Nat → Nat) (hI : Inj ad) (σ0 : Nat → Nat → Int32) (τ0 : Nat → Nat → Int64) (hR : Rg σ0) (a0 : Int32) (ha0 : 0 ≤ a0.toInt ∧ a0.toInt ≤ 255) : Met l yX8_isInRun wsX8_isInRun ({ frames := 1, cells := 0, slots := 0, locals := 20 } : Room) (WQc D cA ad [.int a0] σ0 τ0) (va_Qi (fun (r : Int32) (u : SS) => P_X8_isInRun σ0 a0 r u.1) (WB D cA ad) (AA ad)) 0 0 (AA ad) := by
  refine Met.ofW (cc := cX8_isInRun) (maxL := 1) (ret := (some .boolean)) (by decide) rfl ?_
  intro p e s m args below meth c s₁ B hml hv
  obtain ⟨rfl, hP, hK, hN⟩ := hv
  have C : Cy p s m _ meth c cX8_isInRun 1 wsX8_isInRun RX8 D cA ad (some .boolean) := ⟨B.exec, B.bytes, hml, findClass_of_methodNamed B.named, atoms_spec (ws := wsX8_isInRun) B.pre, hK, B.notSynchronized, B.returns, hI, hN⟩
  have hl := lv_entry ([.int a0]) (n := 1) (Nat.le_of_ble_eq_true rfl)
  rw [lg_entry_eq]
  generalize (lg_sl ([.int a0]) ++ List.replicate (1 - (lg_sl ([.int a0])).length) Slot.unset).toArray = ls at hl ⊢
  have hl : lv_has ls 1 [(0, .int a0)] := hl
  have hS : va_S (AA ad) s.heap s.heap [] := va_S.rf
  have hF : Fr L_X8_isInRun σ0 σ0 := Fr.rf
  obtain ⟨hx, hb, _, hown, hts, _, hk, hr, _, _⟩ := C
  refine lv_iload_n hx hb dX8_isInRun_0 rfl (lv_at hl 0 rfl) ?_
  refine r_bipush hx hb dX8_isInRun_1 (by decide) (fun z1 ez1 => ?_)
  refine r_icmp_lt (tgt := 12) hx hb dX8_isInRun_3 (by decide) (fun c2 => ?_) (fun c2 => ?_)
  · refine lv_iload_n hx hb dX8_isInRun_12 rfl (lv_at hl 0 rfl) ?_
    refine r_cSi (As := [.int a0]) (rest := []) ⟨hx, hb, hml, hown, hts⟩ hK hP hN hS (c_X8_isDigit l D cA ad hI σ0 τ0 hR a0 (by omega)) (va_cwS 1 hts gX8_isInRun_X8_isDigit rfl rfl rfl (by decide +kernel) ⟨by decide, by decide⟩) rfl hl.1 rfl (Nat.le_of_ble_eq_true rfl) dX8_isInRun_13 (Nat.zero_le _) (Nat.zero_le _) (fun r3 u3 H3 locs3 hp3 hP hS => ?_)
    obtain ⟨σ3, τ3⟩ := u3
    obtain ⟨hR, f3, hq3⟩ : P_X8_isDigit σ0 a0 r3 σ3 := hp3
    have hP : va_P D vwCl (gw cA ad σ3 τ3) H3 := hP
    obtain rfl := Fr.nil f3
    refine r_if_eq (tgt := 23) hx hb dX8_isInRun_16 (by decide) (fun c4 => ?_) (fun c4 => ?_)
    · refine r_iconst hx hb dX8_isInRun_23 (by decide) (fun z5 ez5 => ?_)
      exact r_zret hx hb hr hK hP hS hk (by omega) dX8_isInRun_24 (show P_X8_isInRun σ0 a0 z5 σ0 from ⟨hR, hF, by omega⟩)
    · refine r_iconst hx hb dX8_isInRun_19 (by decide) (fun z6 ez6 => ?_)
      refine lv_goto (tgt := 24) hx hb dX8_isInRun_20 (by decide) ?_
      exact r_zret hx hb hr hK hP hS hk (by omega) dX8_isInRun_24 (show P_X8_isInRun σ0 a0 z6 σ0 from ⟨hR, hF, by omega⟩)
  · refine lv_iload_n hx hb dX8_isInRun_6 rfl (lv_at hl 0 rfl) ?_
    refine r_bipush hx hb dX8_isInRun_7 (by decide) (fun z7 ez7 => ?_)
    refine r_icmp_le (tgt := 19) hx hb dX8_isInRun_9 (by decide) (fun c8 => ?_) (fun c8 => ?_)
    · refine r_iconst hx hb dX8_isInRun_19 (by decide) (fun z9 ez9 => ?_)
      refine lv_goto (tgt := 24) hx hb dX8_isInRun_20 (by decide) ?_
      exact r_zret hx hb hr hK hP hS hk (by omega) dX8_isInRun_24 (show P_X8_isInRun σ0 a0 z9 σ0 from ⟨hR, hF, by omega⟩)
    · refine lv_iload_n hx hb dX8_isInRun_12 rfl (lv_at hl 0 rfl) ?_
      refine r_cSi (As := [.int a0]) (rest := []) ⟨hx, hb, hml, hown, hts⟩ hK hP hN hS (c_X8_isDigit l D cA ad hI σ0 τ0 hR a0 (by omega)) (va_cwS 1 hts gX8_isInRun_X8_isDigit rfl rfl rfl (by decide +kernel) ⟨by decide, by decide⟩) rfl hl.1 rfl (Nat.le_of_ble_eq_true rfl) dX8_isInRun_13 (Nat.zero_le _) (Nat.zero_le _) (fun r10 u10 H10 locs10 hp10 hP hS => ?_)
      obtain ⟨σ10, τ10⟩ := u10
      obtain ⟨hR, f10, hq10⟩ : P_X8_isDigit σ0 a0 r10 σ10 := hp10
      have hP : va_P D vwCl (gw cA ad σ10 τ10) H10 := hP
      obtain rfl := Fr.nil f10
      refine r_if_eq (tgt := 23) hx hb dX8_isInRun_16 (by decide) (fun c11 => ?_) (fun c11 => ?_)
      · refine r_iconst hx hb dX8_isInRun_23 (by decide) (fun z12 ez12 => ?_)
        exact r_zret hx hb hr hK hP hS hk (by omega) dX8_isInRun_24 (show P_X8_isInRun σ0 a0 z12 σ0 from ⟨hR, hF, by omega⟩)
      · refine r_iconst hx hb dX8_isInRun_19 (by decide) (fun z13 ez13 => ?_)
        refine lv_goto (tgt := 24) hx hb dX8_isInRun_20 (by decide) ?_
        exact r_zret hx hb hr hK hP hS hk (by omega) dX8_isInRun_24 (show P_X8_isInRun σ0 a0 z13 σ0 from ⟨hR, hF, by omega⟩)
theorem in_X8_note_8 : ∀ w ∈ u_ws RX8 TX8 15, w ∈ wsX8_note := by decide +kernel
theorem lk_X8_note_15 : Cond.fieldLink RX8 15 "CuckooShares$Tape" "tokens" "[I" ∈ wsX8_note := by decide +kernel
theorem lk_X8_note_19 : Cond.fieldLink RX8 19 "CuckooShares$Tape" "places" "[I" ∈ wsX8_note := by decide +kernel
theorem lk_X8_note_22 : Cond.fieldLink RX8 22 "CuckooShares$Tape" "numbers" "[I" ∈ wsX8_note := by decide +kernel
theorem lk_X8_note_25 : Cond.fieldLink RX8 25 "CuckooShares$Tape" "names" "[J" ∈ wsX8_note := by decide +kernel
theorem lk_X8_note_39 : Cond.fieldLink RX8 39 "CuckooShares$Tape" "tokensRead" "I" ∈ wsX8_note := by decide +kernel
abbrev L_X8_note : List Rc := [(36, 36, 0, 940), (37, 37, 0, 940), (38, 38, 0, 940), (1, 1, 6, 6)]
def P_X8_note (σ0 : Nat → Nat → Int32) (a1 : Int32) (a2 : Int32) (a3 : Int32) (a4 : Int64) (σ : Nat → Nat → Int32) : Prop := Rg σ ∧ Fr L_X8_note σ0 σ
set_option maxHeartbeats 4000000 in
theorem c_X8_note (l : Launch) (D : va_G) (cA : Nat → ClassId) (ad : Nat → Nat) (hI : Inj ad) (σ0 : Nat → Nat → Int32) (τ0 : Nat → Nat → Int64) (hR : Rg σ0) (a1 : Int32) (a2 : Int32) (a3 : Int32) (a4 : Int64) (ha1 : 0 ≤ a1.toInt ∧ a1.toInt ≤ 49) (ha2 : 0 ≤ a2.toInt ∧ a2.toInt ≤ 900) : Met l yX8_note wsX8_note ({ frames := 0, cells := 0, slots := 0, locals := 0 } : Room) (WQc D cA ad [.ref (ad 1), .int a1, .int a2, .int a3, .long a4] σ0 τ0) (va_Qv (fun u : SS => P_X8_note σ0 a1 a2 a3 a4 u.1) (WB D cA ad) (AA ad)) 0 0 (AA ad) := by
  refine Met.ofW (cc := cX8_note) (maxL := 6) (ret := none) (by decide) rfl ?_
  intro p e s m args below meth c s₁ B hml hv
  obtain ⟨rfl, hP, hK, hN⟩ := hv
  have C : Cy p s m _ meth c cX8_note 6 wsX8_note RX8 D cA ad none := ⟨B.exec, B.bytes, hml, findClass_of_methodNamed B.named, atoms_spec (ws := wsX8_note) B.pre, hK, B.notSynchronized, B.returns, hI, hN⟩
  have hl := lv_entry ([.ref (ad 1), .int a1, .int a2, .int a3, .long a4]) (n := 6) (Nat.le_of_ble_eq_true rfl)
  rw [lg_entry_eq]
  generalize (lg_sl ([.ref (ad 1), .int a1, .int a2, .int a3, .long a4]) ++ List.replicate (6 - (lg_sl ([.ref (ad 1), .int a1, .int a2, .int a3, .long a4])).length) Slot.unset).toArray = ls at hl ⊢
  have hl : lv_has ls 6 [(0, .ref (ad 1)), (1, .int a1), (2, .int a2), (3, .int a3), (4, .long a4)] := hl
  have hS : va_S (AA ad) s.heap s.heap [] := va_S.rf
  have hF : Fr L_X8_note σ0 σ0 := Fr.rf
  obtain ⟨hx, hb, _, hown, hts, _, hk, hr, _, _⟩ := C
  refine lv_aload_n hx hb dX8_note_0 rfl (lv_at hl 0 rfl) ?_
  refine fg_8_6 (k := 1) hx hb hts in_X8_note_8 hown hK hP (by decide) (by decide) (hts _ lk_X8_note_39) dX8_note_1 ?_
  have hr1 := rg_8_6 hR (k := 1) (by decide) (by decide)
  refine lv_aload_n hx hb dX8_note_4 rfl (lv_at hl 0 rfl) ?_
  refine fg_8_1 (k := 1) hx hb hts in_X8_note_8 hown hK hP (by decide) (by decide) (hts _ lk_X8_note_15) dX8_note_5 ?_
  refine al_tokens (k := 36) hx hb hK hP (by decide) (by decide) dX8_note_8 (fun z2 ez2 => ?_)
  refine r_icmp_ge (tgt := 63) hx hb dX8_note_9 (by decide) (fun c3 => ?_) (fun c3 => ?_)
  · exact r_vret hx hb hr hK hP hS hk dX8_note_63 (show P_X8_note σ0 a1 a2 a3 a4 σ0 from ⟨hR, hF⟩)
  · refine lv_aload_n hx hb dX8_note_12 rfl (lv_at hl 0 rfl) ?_
    refine fg_8_1 (k := 1) hx hb hts in_X8_note_8 hown hK hP (by decide) (by decide) (hts _ lk_X8_note_15) dX8_note_13 ?_
    refine lv_aload_n hx hb dX8_note_16 rfl (lv_at hl 0 rfl) ?_
    refine fg_8_6 (k := 1) hx hb hts in_X8_note_8 hown hK hP (by decide) (by decide) (hts _ lk_X8_note_39) dX8_note_17 ?_
    refine lv_iload_n hx hb dX8_note_20 rfl (lv_at hl 1 rfl) ?_
    obtain ⟨j4, ej4⟩ : ∃ j : Nat, (σ0 1 6).toInt = (j : Int) := ⟨_, ti_nat (by omega)⟩
    refine as_tokens (k := 36) (j := j4) hx hb hK hP hI hR hS (by decide) (by decide) ej4 (by omega) dX8_note_21 (fun σ5 H5 locs5 u5 v5 hR hP hS => ?_)
    have hF := hF.puts u5 0 rfl (by decide) (by decide) (by omega) (by omega)
    have t6 : (σ5 1 6).toInt = (σ0 1 6).toInt := congrArg Int32.toInt (u5 1 6 (by omega))
    refine lv_aload_n hx hb dX8_note_22 rfl (lv_at hl 0 rfl) ?_
    refine fg_8_2 (k := 1) hx hb hts in_X8_note_8 hown hK hP (by decide) (by decide) (hts _ lk_X8_note_19) dX8_note_23 ?_
    refine lv_aload_n hx hb dX8_note_26 rfl (lv_at hl 0 rfl) ?_
    refine fg_8_6 (k := 1) hx hb hts in_X8_note_8 hown hK hP (by decide) (by decide) (hts _ lk_X8_note_39) dX8_note_27 ?_
    refine lv_iload_n hx hb dX8_note_30 rfl (lv_at hl 2 rfl) ?_
    obtain ⟨j7, ej7⟩ : ∃ j : Nat, (σ5 1 6).toInt = (j : Int) := ⟨_, ti_nat (by omega)⟩
    refine as_tokens (k := 37) (j := j7) hx hb hK hP hI hR hS (by decide) (by decide) ej7 (by omega) dX8_note_31 (fun σ8 H8 locs8 u8 v8 hR hP hS => ?_)
    have hF := hF.puts u8 1 rfl (by decide) (by decide) (by omega) (by omega)
    have t9 : (σ8 1 6).toInt = (σ5 1 6).toInt := congrArg Int32.toInt (u8 1 6 (by omega))
    refine lv_aload_n hx hb dX8_note_32 rfl (lv_at hl 0 rfl) ?_
    refine fg_8_3 (k := 1) hx hb hts in_X8_note_8 hown hK hP (by decide) (by decide) (hts _ lk_X8_note_22) dX8_note_33 ?_
    refine lv_aload_n hx hb dX8_note_36 rfl (lv_at hl 0 rfl) ?_
    refine fg_8_6 (k := 1) hx hb hts in_X8_note_8 hown hK hP (by decide) (by decide) (hts _ lk_X8_note_39) dX8_note_37 ?_
    refine lv_iload_n hx hb dX8_note_40 rfl (lv_at hl 3 rfl) ?_
    obtain ⟨j10, ej10⟩ : ∃ j : Nat, (σ8 1 6).toInt = (j : Int) := ⟨_, ti_nat (by omega)⟩
    refine as_tokens (k := 38) (j := j10) hx hb hK hP hI hR hS (by decide) (by decide) ej10 (by omega) dX8_note_41 (fun σ11 H11 locs11 u11 v11 hR hP hS => ?_)
    have hF := hF.puts u11 2 rfl (by decide) (by decide) (by omega) (by omega)
    have t12 : (σ11 1 6).toInt = (σ8 1 6).toInt := congrArg Int32.toInt (u11 1 6 (by omega))
    refine lv_aload_n hx hb dX8_note_42 rfl (lv_at hl 0 rfl) ?_
    refine fg_8_4 (k := 1) hx hb hts in_X8_note_8 hown hK hP (by decide) (by decide) (hts _ lk_X8_note_25) dX8_note_43 ?_
    refine lv_aload_n hx hb dX8_note_46 rfl (lv_at hl 0 rfl) ?_
    refine fg_8_6 (k := 1) hx hb hts in_X8_note_8 hown hK hP (by decide) (by decide) (hts _ lk_X8_note_39) dX8_note_47 ?_
    refine lv_lload hx hb dX8_note_50 (lv_at hl 4 rfl) ?_
    obtain ⟨j13, ej13⟩ : ∃ j : Nat, (σ11 1 6).toInt = (j : Int) := ⟨_, ti_nat (by omega)⟩
    refine as_names (k := 39) (j := j13) hx hb hK hP hI hS (by decide) (by decide) ej13 (by omega) dX8_note_52 (fun τ14 H14 locs14 hP hS => ?_)
    refine lv_aload_n hx hb dX8_note_53 rfl (lv_at hl 0 rfl) ?_
    refine lv_dup hx hb dX8_note_54 rfl ?_
    refine fg_8_6 (k := 1) hx hb hts in_X8_note_8 hown hK hP (by decide) (by decide) (hts _ lk_X8_note_39) dX8_note_55 ?_
    refine r_iconst hx hb dX8_note_58 (by decide) (fun z15 ez15 => ?_)
    refine r_iadd hx hb dX8_note_59 (by omega) (fun z16 ez16 => ?_)
    refine fp_8_6 (k := 1) hx hb hts in_X8_note_8 hown hK hP (by decide) (by decide) (hts _ lk_X8_note_39) hI hR hS (by omega) dX8_note_60 (fun σ17 H17 locs17 u17 v17 hR hP hS => ?_)
    have hF := hF.puts u17 3 rfl (by decide) (by decide) (by decide) (by decide)
    exact r_vret hx hb hr hK hP hS hk dX8_note_63 (show P_X8_note σ0 a1 a2 a3 a4 σ17 from ⟨hR, hF⟩)
theorem lk_J0_coder_7d493_15 : Cond.fieldLink RJ0 15 "java/lang/String" "coder" "B" ∈ wsJ0_coder_7d493 := by decide +kernel
theorem lk_J0_coder_7d493_38 : Cond.fieldLink RJ0 38 "java/lang/String" "COMPACT_STRINGS" "Z" ∈ wsJ0_coder_7d493 := by decide +kernel
abbrev L_J0_coder_7d493_s0 : List Rc := []
def P_J0_coder_7d493_s0 (σ0 : Nat → Nat → Int32)  (r : Int32) (σ : Nat → Nat → Int32) : Prop := Rg σ ∧ Fr L_J0_coder_7d493_s0 σ0 σ ∧ (0 ≤ r.toInt ∧ r.toInt ≤ 0)
set_option maxHeartbeats 4000000 in
theorem c_J0_coder_7d493_s0 (l : Launch) (D : va_G) (cA : Nat → ClassId) (ad : Nat → Nat) (hI : Inj ad) (σ0 : Nat → Nat → Int32) (τ0 : Nat → Nat → Int64) (hR : Rg σ0)   : Met l yJ0_coder_7d493 wsJ0_coder_7d493 ({ frames := 0, cells := 0, slots := 0, locals := 0 } : Room) (WQc D cA ad [.ref (ad 407)] σ0 τ0) (va_Qi (fun (r : Int32) (u : SS) => P_J0_coder_7d493_s0 σ0 r u.1) (WB D cA ad) (AA ad)) 0 0 (AA ad) := by
  refine Met.ofW (cc := cJ0_coder_7d493) (maxL := 1) (ret := (some .byte)) (by decide) rfl ?_
  intro p e s m args below meth c s₁ B hml hv
  obtain ⟨rfl, hP, hK, hN⟩ := hv
  have C : Cy p s m _ meth c cJ0_coder_7d493 1 wsJ0_coder_7d493 RJ0 D cA ad (some .byte) := ⟨B.exec, B.bytes, hml, findClass_of_methodNamed B.named, atoms_spec (ws := wsJ0_coder_7d493) B.pre, hK, B.notSynchronized, B.returns, hI, hN⟩
  have hl := lv_entry ([.ref (ad 407)]) (n := 1) (Nat.le_of_ble_eq_true rfl)
  rw [lg_entry_eq]
  generalize (lg_sl ([.ref (ad 407)]) ++ List.replicate (1 - (lg_sl ([.ref (ad 407)])).length) Slot.unset).toArray = ls at hl ⊢
  have hl : lv_has ls 1 [(0, .ref (ad 407))] := hl
  have hS : va_S (AA ad) s.heap s.heap [] := va_S.rf
  have hF : Fr L_J0_coder_7d493_s0 σ0 σ0 := Fr.rf
  obtain ⟨hx, hb, _, hown, hts, _, hk, hr, _, _⟩ := C
  refine sz_cs hx hb hN hS hown (hts _ lk_J0_coder_7d493_38) dJ0_coder_7d493_0 (fun z1 ez1 => ?_)
  refine r_if_eq (tgt := 13) hx hb dJ0_coder_7d493_3 (by decide) (fun c2 => ?_) (fun c2 => ?_)
  · exfalso; omega
  · refine lv_aload_n hx hb dJ0_coder_7d493_6 rfl (lv_at hl 0 rfl) ?_
    refine sc_0 hx hb hN hS hown (hts _ lk_J0_coder_7d493_15) dJ0_coder_7d493_7 (fun z3 ez3 => ?_)
    refine lv_goto (tgt := 14) hx hb dJ0_coder_7d493_10 (by decide) ?_
    exact r_bret hx hb hr hK hP hS hk (by omega) dJ0_coder_7d493_14 (show P_J0_coder_7d493_s0 σ0 z3 σ0 from ⟨hR, hF, by omega⟩)
theorem lk_J0_length_8abf5_9 : Cond.fieldLink RJ0 9 "java/lang/String" "value" "[B" ∈ wsJ0_length_8abf5 := by decide +kernel
abbrev L_J0_length_8abf5_s0 : List Rc := []
def P_J0_length_8abf5_s0 (σ0 : Nat → Nat → Int32)  (r : Int32) (σ : Nat → Nat → Int32) : Prop := Rg σ ∧ Fr L_J0_length_8abf5_s0 σ0 σ ∧ (98 ≤ r.toInt ∧ r.toInt ≤ 98)
set_option maxHeartbeats 4000000 in
theorem c_J0_length_8abf5_s0 (l : Launch) (D : va_G) (cA : Nat → ClassId) (ad : Nat → Nat) (hI : Inj ad) (σ0 : Nat → Nat → Int32) (τ0 : Nat → Nat → Int64) (hR : Rg σ0)   : Met l yJ0_length_8abf5 wsJ0_length_8abf5 ({ frames := 1, cells := 0, slots := 0, locals := 20 } : Room) (WQc D cA ad [.ref (ad 407)] σ0 τ0) (va_Qi (fun (r : Int32) (u : SS) => P_J0_length_8abf5_s0 σ0 r u.1) (WB D cA ad) (AA ad)) 0 0 (AA ad) := by
  refine Met.ofW (cc := cJ0_length_8abf5) (maxL := 1) (ret := (some .int)) (by decide) rfl ?_
  intro p e s m args below meth c s₁ B hml hv
  obtain ⟨rfl, hP, hK, hN⟩ := hv
  have C : Cy p s m _ meth c cJ0_length_8abf5 1 wsJ0_length_8abf5 RJ0 D cA ad (some .int) := ⟨B.exec, B.bytes, hml, findClass_of_methodNamed B.named, atoms_spec (ws := wsJ0_length_8abf5) B.pre, hK, B.notSynchronized, B.returns, hI, hN⟩
  have hl := lv_entry ([.ref (ad 407)]) (n := 1) (Nat.le_of_ble_eq_true rfl)
  rw [lg_entry_eq]
  generalize (lg_sl ([.ref (ad 407)]) ++ List.replicate (1 - (lg_sl ([.ref (ad 407)])).length) Slot.unset).toArray = ls at hl ⊢
  have hl : lv_has ls 1 [(0, .ref (ad 407))] := hl
  have hS : va_S (AA ad) s.heap s.heap [] := va_S.rf
  have hF : Fr L_J0_length_8abf5_s0 σ0 σ0 := Fr.rf
  obtain ⟨hx, hb, _, hown, hts, _, hk, hr, _, _⟩ := C
  refine lv_aload_n hx hb dJ0_length_8abf5_0 rfl (lv_at hl 0 rfl) ?_
  refine sv_0 hx hb hN hS hown (hts _ lk_J0_length_8abf5_9) dJ0_length_8abf5_1 ?_
  refine sl_0 hx hb hN hS dJ0_length_8abf5_4 (fun z1 ez1 => ?_)
  refine lv_aload_n hx hb dJ0_length_8abf5_5 rfl (lv_at hl 0 rfl) ?_
  refine r_cVi (k := 407) (As := []) (rest := [.int z1]) ⟨hx, hb, hml, hown, hts⟩ hK hP hN hS (c_J0_coder_7d493_s0 l D cA ad hI σ0 τ0 hR) (cwV 0 hts gJ0_length_8abf5_J0_coder_7d493 rfl rfl rfl (by decide +kernel) ⟨by decide, by decide⟩) (so_0 hN hS) rfl hl.1 rfl (Nat.le_of_ble_eq_true rfl) dJ0_length_8abf5_6 (Nat.zero_le _) (Nat.zero_le _) (fun r2 u2 H2 locs2 hp2 hP hS => ?_)
  obtain ⟨σ2, τ2⟩ := u2
  obtain ⟨hR, f2, hq2⟩ : P_J0_coder_7d493_s0 σ0 r2 σ2 := hp2
  have hP : va_P D vwCl (gw cA ad σ2 τ2) H2 := hP
  obtain rfl := Fr.nil f2
  refine r_ishr0 hx hb dJ0_length_8abf5_9 (by omega) (fun z3 ez3 => ?_)
  exact r_iret hx hb hr hK hP hS hk dJ0_length_8abf5_10 (show P_J0_length_8abf5_s0 σ0 z3 σ0 from ⟨hR, hF, by omega⟩)
theorem lk_J0_isLatin1_aae02_15 : Cond.fieldLink RJ0 15 "java/lang/String" "coder" "B" ∈ wsJ0_isLatin1_aae02 := by decide +kernel
theorem lk_J0_isLatin1_aae02_38 : Cond.fieldLink RJ0 38 "java/lang/String" "COMPACT_STRINGS" "Z" ∈ wsJ0_isLatin1_aae02 := by decide +kernel
abbrev L_J0_isLatin1_aae02_s0 : List Rc := []
def P_J0_isLatin1_aae02_s0 (σ0 : Nat → Nat → Int32)  (r : Int32) (σ : Nat → Nat → Int32) : Prop := Rg σ ∧ Fr L_J0_isLatin1_aae02_s0 σ0 σ ∧ (1 ≤ r.toInt ∧ r.toInt ≤ 1)
set_option maxHeartbeats 4000000 in
theorem c_J0_isLatin1_aae02_s0 (l : Launch) (D : va_G) (cA : Nat → ClassId) (ad : Nat → Nat) (hI : Inj ad) (σ0 : Nat → Nat → Int32) (τ0 : Nat → Nat → Int64) (hR : Rg σ0)   : Met l yJ0_isLatin1_aae02 wsJ0_isLatin1_aae02 ({ frames := 0, cells := 0, slots := 0, locals := 0 } : Room) (WQc D cA ad [.ref (ad 407)] σ0 τ0) (va_Qi (fun (r : Int32) (u : SS) => P_J0_isLatin1_aae02_s0 σ0 r u.1) (WB D cA ad) (AA ad)) 0 0 (AA ad) := by
  refine Met.ofW (cc := cJ0_isLatin1_aae02) (maxL := 1) (ret := (some .boolean)) (by decide) rfl ?_
  intro p e s m args below meth c s₁ B hml hv
  obtain ⟨rfl, hP, hK, hN⟩ := hv
  have C : Cy p s m _ meth c cJ0_isLatin1_aae02 1 wsJ0_isLatin1_aae02 RJ0 D cA ad (some .boolean) := ⟨B.exec, B.bytes, hml, findClass_of_methodNamed B.named, atoms_spec (ws := wsJ0_isLatin1_aae02) B.pre, hK, B.notSynchronized, B.returns, hI, hN⟩
  have hl := lv_entry ([.ref (ad 407)]) (n := 1) (Nat.le_of_ble_eq_true rfl)
  rw [lg_entry_eq]
  generalize (lg_sl ([.ref (ad 407)]) ++ List.replicate (1 - (lg_sl ([.ref (ad 407)])).length) Slot.unset).toArray = ls at hl ⊢
  have hl : lv_has ls 1 [(0, .ref (ad 407))] := hl
  have hS : va_S (AA ad) s.heap s.heap [] := va_S.rf
  have hF : Fr L_J0_isLatin1_aae02_s0 σ0 σ0 := Fr.rf
  obtain ⟨hx, hb, _, hown, hts, _, hk, hr, _, _⟩ := C
  refine sz_cs hx hb hN hS hown (hts _ lk_J0_isLatin1_aae02_38) dJ0_isLatin1_aae02_0 (fun z1 ez1 => ?_)
  refine r_if_eq (tgt := 17) hx hb dJ0_isLatin1_aae02_3 (by decide) (fun c2 => ?_) (fun c2 => ?_)
  · exfalso; omega
  · refine lv_aload_n hx hb dJ0_isLatin1_aae02_6 rfl (lv_at hl 0 rfl) ?_
    refine sc_0 hx hb hN hS hown (hts _ lk_J0_isLatin1_aae02_15) dJ0_isLatin1_aae02_7 (fun z3 ez3 => ?_)
    refine r_if_ne (tgt := 17) hx hb dJ0_isLatin1_aae02_10 (by decide) (fun c4 => ?_) (fun c4 => ?_)
    · exfalso; omega
    · refine r_iconst hx hb dJ0_isLatin1_aae02_13 (by decide) (fun z5 ez5 => ?_)
      refine lv_goto (tgt := 18) hx hb dJ0_isLatin1_aae02_14 (by decide) ?_
      exact r_zret hx hb hr hK hP hS hk (by omega) dJ0_isLatin1_aae02_18 (show P_J0_isLatin1_aae02_s0 σ0 z5 σ0 from ⟨hR, hF, by omega⟩)
abbrev L_J3_checkIndex_8e157_l98_n : List Rc := []
def P_J3_checkIndex_8e157_l98_n (σ0 : Nat → Nat → Int32) (a0 : Int32) (a1 : Int32) (r : Int32) (σ : Nat → Nat → Int32) : Prop := Rg σ ∧ Fr L_J3_checkIndex_8e157_l98_n σ0 σ ∧ (0 ≤ r.toInt ∧ r.toInt ≤ 97)
set_option maxHeartbeats 4000000 in
theorem c_J3_checkIndex_8e157_l98_n (l : Launch) (D : va_G) (cA : Nat → ClassId) (ad : Nat → Nat) (hI : Inj ad) (σ0 : Nat → Nat → Int32) (τ0 : Nat → Nat → Int64) (hR : Rg σ0) (a0 : Int32) (a1 : Int32) (ha0 : 0 ≤ a0.toInt ∧ a0.toInt ≤ 97) (ha1 : 98 ≤ a1.toInt ∧ a1.toInt ≤ 98) : Met l yJ3_checkIndex_8e157 wsJ3_checkIndex_8e157 ({ frames := 0, cells := 0, slots := 0, locals := 0 } : Room) (WQc D cA ad [.int a0, .int a1, .null] σ0 τ0) (va_Qi (fun (r : Int32) (u : SS) => P_J3_checkIndex_8e157_l98_n σ0 a0 a1 r u.1) (WB D cA ad) (AA ad)) 0 0 (AA ad) := by
  refine Met.ofW (cc := cJ3_checkIndex_8e157) (maxL := 3) (ret := (some .int)) (by decide) rfl ?_
  intro p e s m args below meth c s₁ B hml hv
  obtain ⟨rfl, hP, hK, hN⟩ := hv
  have C : Cy p s m _ meth c cJ3_checkIndex_8e157 3 wsJ3_checkIndex_8e157 RJ3 D cA ad (some .int) := ⟨B.exec, B.bytes, hml, findClass_of_methodNamed B.named, atoms_spec (ws := wsJ3_checkIndex_8e157) B.pre, hK, B.notSynchronized, B.returns, hI, hN⟩
  have hl := lv_entry ([.int a0, .int a1, .null]) (n := 3) (Nat.le_of_ble_eq_true rfl)
  rw [lg_entry_eq]
  generalize (lg_sl ([.int a0, .int a1, .null]) ++ List.replicate (3 - (lg_sl ([.int a0, .int a1, .null])).length) Slot.unset).toArray = ls at hl ⊢
  have hl : lv_has ls 3 [(0, .int a0), (1, .int a1), (2, .null)] := hl
  have hS : va_S (AA ad) s.heap s.heap [] := va_S.rf
  have hF : Fr L_J3_checkIndex_8e157_l98_n σ0 σ0 := Fr.rf
  obtain ⟨hx, hb, _, hown, hts, _, hk, hr, _, _⟩ := C
  refine lv_iload_n hx hb dJ3_checkIndex_8e157_0 rfl (lv_at hl 0 rfl) ?_
  refine r_if_lt (tgt := 9) hx hb dJ3_checkIndex_8e157_1 (by decide) (fun c1 => ?_) (fun c1 => ?_)
  · exfalso; omega
  · refine lv_iload_n hx hb dJ3_checkIndex_8e157_4 rfl (lv_at hl 0 rfl) ?_
    refine lv_iload_n hx hb dJ3_checkIndex_8e157_5 rfl (lv_at hl 1 rfl) ?_
    refine r_icmp_lt (tgt := 16) hx hb dJ3_checkIndex_8e157_6 (by decide) (fun c2 => ?_) (fun c2 => ?_)
    · refine lv_iload_n hx hb dJ3_checkIndex_8e157_16 rfl (lv_at hl 0 rfl) ?_
      exact r_iret hx hb hr hK hP hS hk dJ3_checkIndex_8e157_17 (show P_J3_checkIndex_8e157_l98_n σ0 a0 a1 a0 σ0 from ⟨hR, hF, by omega⟩)
    · exfalso; omega
abbrev L_J3_checkIndex_8e157_l98_t : List Rc := []
def P_J3_checkIndex_8e157_l98_t (σ0 : Nat → Nat → Int32) (a0 : Int32) (a1 : Int32) (a2 : Nat) (r : Int32) (σ : Nat → Nat → Int32) : Prop := Rg σ ∧ Fr L_J3_checkIndex_8e157_l98_t σ0 σ ∧ (0 ≤ r.toInt ∧ r.toInt ≤ 97)
set_option maxHeartbeats 4000000 in
theorem c_J3_checkIndex_8e157_l98_t (l : Launch) (D : va_G) (cA : Nat → ClassId) (ad : Nat → Nat) (hI : Inj ad) (σ0 : Nat → Nat → Int32) (τ0 : Nat → Nat → Int64) (hR : Rg σ0) (a0 : Int32) (a1 : Int32) (a2 : Nat) (ha0 : 0 ≤ a0.toInt ∧ a0.toInt ≤ 97) (ha1 : 98 ≤ a1.toInt ∧ a1.toInt ≤ 98) : Met l yJ3_checkIndex_8e157 wsJ3_checkIndex_8e157 ({ frames := 0, cells := 0, slots := 0, locals := 0 } : Room) (WQc D cA ad [.int a0, .int a1, .ref a2] σ0 τ0) (va_Qi (fun (r : Int32) (u : SS) => P_J3_checkIndex_8e157_l98_t σ0 a0 a1 a2 r u.1) (WB D cA ad) (AA ad)) 0 0 (AA ad) := by
  refine Met.ofW (cc := cJ3_checkIndex_8e157) (maxL := 3) (ret := (some .int)) (by decide) rfl ?_
  intro p e s m args below meth c s₁ B hml hv
  obtain ⟨rfl, hP, hK, hN⟩ := hv
  have C : Cy p s m _ meth c cJ3_checkIndex_8e157 3 wsJ3_checkIndex_8e157 RJ3 D cA ad (some .int) := ⟨B.exec, B.bytes, hml, findClass_of_methodNamed B.named, atoms_spec (ws := wsJ3_checkIndex_8e157) B.pre, hK, B.notSynchronized, B.returns, hI, hN⟩
  have hl := lv_entry ([.int a0, .int a1, .ref a2]) (n := 3) (Nat.le_of_ble_eq_true rfl)
  rw [lg_entry_eq]
  generalize (lg_sl ([.int a0, .int a1, .ref a2]) ++ List.replicate (3 - (lg_sl ([.int a0, .int a1, .ref a2])).length) Slot.unset).toArray = ls at hl ⊢
  have hl : lv_has ls 3 [(0, .int a0), (1, .int a1), (2, .ref a2)] := hl
  have hS : va_S (AA ad) s.heap s.heap [] := va_S.rf
  have hF : Fr L_J3_checkIndex_8e157_l98_t σ0 σ0 := Fr.rf
  obtain ⟨hx, hb, _, hown, hts, _, hk, hr, _, _⟩ := C
  refine lv_iload_n hx hb dJ3_checkIndex_8e157_0 rfl (lv_at hl 0 rfl) ?_
  refine r_if_lt (tgt := 9) hx hb dJ3_checkIndex_8e157_1 (by decide) (fun c1 => ?_) (fun c1 => ?_)
  · exfalso; omega
  · refine lv_iload_n hx hb dJ3_checkIndex_8e157_4 rfl (lv_at hl 0 rfl) ?_
    refine lv_iload_n hx hb dJ3_checkIndex_8e157_5 rfl (lv_at hl 1 rfl) ?_
    refine r_icmp_lt (tgt := 16) hx hb dJ3_checkIndex_8e157_6 (by decide) (fun c2 => ?_) (fun c2 => ?_)
    · refine lv_iload_n hx hb dJ3_checkIndex_8e157_16 rfl (lv_at hl 0 rfl) ?_
      exact r_iret hx hb hr hK hP hS hk dJ3_checkIndex_8e157_17 (show P_J3_checkIndex_8e157_l98_t σ0 a0 a1 a2 a0 σ0 from ⟨hR, hF, by omega⟩)
    · exfalso; omega
theorem lk_J0_checkIndex_df160_1053 : Cond.fieldLink RJ0 1053 "jdk/internal/util/Preconditions" "SIOOBE_FORMATTER" "Ljava/util/function/BiFunction;" ∈ wsJ0_checkIndex_df160 := by decide +kernel
abbrev L_J0_checkIndex_df160_l98 : List Rc := []
def P_J0_checkIndex_df160_l98 (σ0 : Nat → Nat → Int32) (a0 : Int32) (a1 : Int32) (σ : Nat → Nat → Int32) : Prop := Rg σ ∧ Fr L_J0_checkIndex_df160_l98 σ0 σ
set_option maxHeartbeats 4000000 in
theorem c_J0_checkIndex_df160_l98 (l : Launch) (D : va_G) (cA : Nat → ClassId) (ad : Nat → Nat) (hI : Inj ad) (σ0 : Nat → Nat → Int32) (τ0 : Nat → Nat → Int64) (hR : Rg σ0) (a0 : Int32) (a1 : Int32) (ha0 : 0 ≤ a0.toInt ∧ a0.toInt ≤ 97) (ha1 : 98 ≤ a1.toInt ∧ a1.toInt ≤ 98) : Met l yJ0_checkIndex_df160 wsJ0_checkIndex_df160 ({ frames := 1, cells := 0, slots := 0, locals := 22 } : Room) (WQc D cA ad [.int a0, .int a1] σ0 τ0) (va_Qv (fun u : SS => P_J0_checkIndex_df160_l98 σ0 a0 a1 u.1) (WB D cA ad) (AA ad)) 0 0 (AA ad) := by
  refine Met.ofW (cc := cJ0_checkIndex_df160) (maxL := 2) (ret := none) (by decide) rfl ?_
  intro p e s m args below meth c s₁ B hml hv
  obtain ⟨rfl, hP, hK, hN⟩ := hv
  have C : Cy p s m _ meth c cJ0_checkIndex_df160 2 wsJ0_checkIndex_df160 RJ0 D cA ad none := ⟨B.exec, B.bytes, hml, findClass_of_methodNamed B.named, atoms_spec (ws := wsJ0_checkIndex_df160) B.pre, hK, B.notSynchronized, B.returns, hI, hN⟩
  have hl := lv_entry ([.int a0, .int a1]) (n := 2) (Nat.le_of_ble_eq_true rfl)
  rw [lg_entry_eq]
  generalize (lg_sl ([.int a0, .int a1]) ++ List.replicate (2 - (lg_sl ([.int a0, .int a1])).length) Slot.unset).toArray = ls at hl ⊢
  have hl : lv_has ls 2 [(0, .int a0), (1, .int a1)] := hl
  have hS : va_S (AA ad) s.heap s.heap [] := va_S.rf
  have hF : Fr L_J0_checkIndex_df160_l98 σ0 σ0 := Fr.rf
  obtain ⟨hx, hb, _, hown, hts, _, hk, hr, _, _⟩ := C
  refine lv_iload_n hx hb dJ0_checkIndex_df160_0 rfl (lv_at hl 0 rfl) ?_
  refine lv_iload_n hx hb dJ0_checkIndex_df160_1 rfl (lv_at hl 1 rfl) ?_
  refine sz_fm hx hb hN hS hown (hts _ lk_J0_checkIndex_df160_1053) dJ0_checkIndex_df160_2 ?_ (fun t1 => ?_)
  · refine r_cSi (As := [.int a0, .int a1, .null]) (rest := []) ⟨hx, hb, hml, hown, hts⟩ hK hP hN hS (c_J3_checkIndex_8e157_l98_n l D cA ad hI σ0 τ0 hR a0 a1 (by omega) (by omega)) (va_cwS 3 hts gJ0_checkIndex_df160_J3_checkIndex_8e157 rfl rfl rfl (by decide +kernel) ⟨by decide, by decide⟩) rfl hl.1 rfl (Nat.le_of_ble_eq_true rfl) dJ0_checkIndex_df160_5 (Nat.zero_le _) (Nat.zero_le _) (fun r2 u2 H2 locs2 hp2 hP hS => ?_)
    obtain ⟨σ2, τ2⟩ := u2
    obtain ⟨hR, f2, hq2⟩ : P_J3_checkIndex_8e157_l98_n σ0 a0 a1 r2 σ2 := hp2
    have hP : va_P D vwCl (gw cA ad σ2 τ2) H2 := hP
    obtain rfl := Fr.nil f2
    refine lv_pop hx hb dJ0_checkIndex_df160_8 rfl ?_
    exact r_vret hx hb hr hK hP hS hk dJ0_checkIndex_df160_9 (show P_J0_checkIndex_df160_l98 σ0 a0 a1 σ0 from ⟨hR, hF⟩)
  · refine r_cSi (As := [.int a0, .int a1, .ref t1]) (rest := []) ⟨hx, hb, hml, hown, hts⟩ hK hP hN hS (c_J3_checkIndex_8e157_l98_t l D cA ad hI σ0 τ0 hR a0 a1 t1 (by omega) (by omega)) (va_cwS 3 hts gJ0_checkIndex_df160_J3_checkIndex_8e157 rfl rfl rfl (by decide +kernel) ⟨by decide, by decide⟩) rfl hl.1 rfl (Nat.le_of_ble_eq_true rfl) dJ0_checkIndex_df160_5 (Nat.zero_le _) (Nat.zero_le _) (fun r3 u3 H3 locs3 hp3 hP hS => ?_)
    obtain ⟨σ3, τ3⟩ := u3
    obtain ⟨hR, f3, hq3⟩ : P_J3_checkIndex_8e157_l98_t σ0 a0 a1 t1 r3 σ3 := hp3
    have hP : va_P D vwCl (gw cA ad σ3 τ3) H3 := hP
    obtain rfl := Fr.nil f3
    refine lv_pop hx hb dJ0_checkIndex_df160_8 rfl ?_
    exact r_vret hx hb hr hK hP hS hk dJ0_checkIndex_df160_9 (show P_J0_checkIndex_df160_l98 σ0 a0 a1 σ0 from ⟨hR, hF⟩)
abbrev L_J1_charAt_3b067_s0 : List Rc := []
def P_J1_charAt_3b067_s0 (σ0 : Nat → Nat → Int32) (a1 : Int32) (r : Int32) (σ : Nat → Nat → Int32) : Prop := Rg σ ∧ Fr L_J1_charAt_3b067_s0 σ0 σ ∧ (0 ≤ r.toInt ∧ r.toInt ≤ 255)
set_option maxHeartbeats 4000000 in
theorem c_J1_charAt_3b067_s0 (l : Launch) (D : va_G) (cA : Nat → ClassId) (ad : Nat → Nat) (hI : Inj ad) (σ0 : Nat → Nat → Int32) (τ0 : Nat → Nat → Int64) (hR : Rg σ0) (a1 : Int32) (ha1 : 0 ≤ a1.toInt ∧ a1.toInt ≤ 97) : Met l yJ1_charAt_3b067 wsJ1_charAt_3b067 ({ frames := 2, cells := 0, slots := 0, locals := 43 } : Room) (WQc D cA ad [.ref (ad 414), .int a1] σ0 τ0) (va_Qi (fun (r : Int32) (u : SS) => P_J1_charAt_3b067_s0 σ0 a1 r u.1) (WB D cA ad) (AA ad)) 0 0 (AA ad) := by
  refine Met.ofW (cc := cJ1_charAt_3b067) (maxL := 2) (ret := (some .char)) (by decide) rfl ?_
  intro p e s m args below meth c s₁ B hml hv
  obtain ⟨rfl, hP, hK, hN⟩ := hv
  have C : Cy p s m _ meth c cJ1_charAt_3b067 2 wsJ1_charAt_3b067 RJ1 D cA ad (some .char) := ⟨B.exec, B.bytes, hml, findClass_of_methodNamed B.named, atoms_spec (ws := wsJ1_charAt_3b067) B.pre, hK, B.notSynchronized, B.returns, hI, hN⟩
  have hl := lv_entry ([.ref (ad 414), .int a1]) (n := 2) (Nat.le_of_ble_eq_true rfl)
  rw [lg_entry_eq]
  generalize (lg_sl ([.ref (ad 414), .int a1]) ++ List.replicate (2 - (lg_sl ([.ref (ad 414), .int a1])).length) Slot.unset).toArray = ls at hl ⊢
  have hl : lv_has ls 2 [(0, .ref (ad 414)), (1, .int a1)] := hl
  have hS : va_S (AA ad) s.heap s.heap [] := va_S.rf
  have hF : Fr L_J1_charAt_3b067_s0 σ0 σ0 := Fr.rf
  obtain ⟨hx, hb, _, hown, hts, _, hk, hr, _, _⟩ := C
  refine lv_iload_n hx hb dJ1_charAt_3b067_0 rfl (lv_at hl 1 rfl) ?_
  refine lv_aload_n hx hb dJ1_charAt_3b067_1 rfl (lv_at hl 0 rfl) ?_
  refine sl_0 hx hb hN hS dJ1_charAt_3b067_2 (fun z1 ez1 => ?_)
  refine r_cSv (As := [.int a1, .int z1]) (rest := []) ⟨hx, hb, hml, hown, hts⟩ hK hP hN hS (c_J0_checkIndex_df160_l98 l D cA ad hI σ0 τ0 hR a1 z1 (by omega) (by omega)) (va_cwS 2 hts gJ1_charAt_3b067_J0_checkIndex_df160 rfl rfl rfl (by decide +kernel) ⟨by decide, by decide⟩) rfl hl.1 rfl (Nat.le_of_ble_eq_true rfl) dJ1_charAt_3b067_3 (Nat.zero_le _) (Nat.zero_le _) (fun u2 H2 locs2 hp2 hP hS => ?_)
  obtain ⟨σ2, τ2⟩ := u2
  obtain ⟨hR, f2⟩ : P_J0_checkIndex_df160_l98 σ0 a1 z1 σ2 := hp2
  have hP : va_P D vwCl (gw cA ad σ2 τ2) H2 := hP
  obtain rfl := Fr.nil f2
  refine lv_aload_n hx hb dJ1_charAt_3b067_6 rfl (lv_at hl 0 rfl) ?_
  refine lv_iload_n hx hb dJ1_charAt_3b067_7 rfl (lv_at hl 1 rfl) ?_
  obtain ⟨j3, ej3⟩ : ∃ j : Nat, a1.toInt = (j : Int) := ⟨_, ti_nat (by omega)⟩
  refine sb_0 (j := j3) hx hb hN hS ej3 (by omega) dJ1_charAt_3b067_8 (fun z4 => ?_)
  refine r_sipush hx hb dJ1_charAt_3b067_9 (by decide) (fun z5 ez5 => ?_)
  refine r_iand (w := 255) hx hb 8 dJ1_charAt_3b067_12 (by omega) (by decide) (fun z6 ez6 => ?_)
  refine r_i2c hx hb dJ1_charAt_3b067_13 (by omega) (fun z7 ez7 => ?_)
  exact r_cret hx hb hr hK hP hS hk (by omega) dJ1_charAt_3b067_14 (show P_J1_charAt_3b067_s0 σ0 a1 z7 σ0 from ⟨hR, hF, by omega⟩)
theorem lk_J0_charAt_5068e_9 : Cond.fieldLink RJ0 9 "java/lang/String" "value" "[B" ∈ wsJ0_charAt_5068e := by decide +kernel
abbrev L_J0_charAt_5068e_s0 : List Rc := []
def P_J0_charAt_5068e_s0 (σ0 : Nat → Nat → Int32) (a1 : Int32) (r : Int32) (σ : Nat → Nat → Int32) : Prop := Rg σ ∧ Fr L_J0_charAt_5068e_s0 σ0 σ ∧ (0 ≤ r.toInt ∧ r.toInt ≤ 255)
set_option maxHeartbeats 4000000 in
theorem c_J0_charAt_5068e_s0 (l : Launch) (D : va_G) (cA : Nat → ClassId) (ad : Nat → Nat) (hI : Inj ad) (σ0 : Nat → Nat → Int32) (τ0 : Nat → Nat → Int64) (hR : Rg σ0) (a1 : Int32) (ha1 : 0 ≤ a1.toInt ∧ a1.toInt ≤ 97) : Met l yJ0_charAt_5068e wsJ0_charAt_5068e ({ frames := 3, cells := 0, slots := 0, locals := 64 } : Room) (WQc D cA ad [.ref (ad 407), .int a1] σ0 τ0) (va_Qi (fun (r : Int32) (u : SS) => P_J0_charAt_5068e_s0 σ0 a1 r u.1) (WB D cA ad) (AA ad)) 0 0 (AA ad) := by
  refine Met.ofW (cc := cJ0_charAt_5068e) (maxL := 2) (ret := (some .char)) (by decide) rfl ?_
  intro p e s m args below meth c s₁ B hml hv
  obtain ⟨rfl, hP, hK, hN⟩ := hv
  have C : Cy p s m _ meth c cJ0_charAt_5068e 2 wsJ0_charAt_5068e RJ0 D cA ad (some .char) := ⟨B.exec, B.bytes, hml, findClass_of_methodNamed B.named, atoms_spec (ws := wsJ0_charAt_5068e) B.pre, hK, B.notSynchronized, B.returns, hI, hN⟩
  have hl := lv_entry ([.ref (ad 407), .int a1]) (n := 2) (Nat.le_of_ble_eq_true rfl)
  rw [lg_entry_eq]
  generalize (lg_sl ([.ref (ad 407), .int a1]) ++ List.replicate (2 - (lg_sl ([.ref (ad 407), .int a1])).length) Slot.unset).toArray = ls at hl ⊢
  have hl : lv_has ls 2 [(0, .ref (ad 407)), (1, .int a1)] := hl
  have hS : va_S (AA ad) s.heap s.heap [] := va_S.rf
  have hF : Fr L_J0_charAt_5068e_s0 σ0 σ0 := Fr.rf
  obtain ⟨hx, hb, _, hown, hts, _, hk, hr, _, _⟩ := C
  refine lv_aload_n hx hb dJ0_charAt_5068e_0 rfl (lv_at hl 0 rfl) ?_
  refine r_cVi (k := 407) (As := []) (rest := []) ⟨hx, hb, hml, hown, hts⟩ hK hP hN hS (c_J0_isLatin1_aae02_s0 l D cA ad hI σ0 τ0 hR) (cwV 0 hts gJ0_charAt_5068e_J0_isLatin1_aae02 rfl rfl rfl (by decide +kernel) ⟨by decide, by decide⟩) (so_0 hN hS) rfl hl.1 rfl (Nat.le_of_ble_eq_true rfl) dJ0_charAt_5068e_1 (Nat.zero_le _) (Nat.zero_le _) (fun r1 u1 H1 locs1 hp1 hP hS => ?_)
  obtain ⟨σ1, τ1⟩ := u1
  obtain ⟨hR, f1, hq1⟩ : P_J0_isLatin1_aae02_s0 σ0 r1 σ1 := hp1
  have hP : va_P D vwCl (gw cA ad σ1 τ1) H1 := hP
  obtain rfl := Fr.nil f1
  refine r_if_eq (tgt := 16) hx hb dJ0_charAt_5068e_4 (by decide) (fun c2 => ?_) (fun c2 => ?_)
  · exfalso; omega
  · refine lv_aload_n hx hb dJ0_charAt_5068e_7 rfl (lv_at hl 0 rfl) ?_
    refine sv_0 hx hb hN hS hown (hts _ lk_J0_charAt_5068e_9) dJ0_charAt_5068e_8 ?_
    refine lv_iload_n hx hb dJ0_charAt_5068e_11 rfl (lv_at hl 1 rfl) ?_
    refine r_cSi (As := [.ref (ad 414), .int a1]) (rest := []) ⟨hx, hb, hml, hown, hts⟩ hK hP hN hS (c_J1_charAt_3b067_s0 l D cA ad hI σ0 τ1 hR a1 (by omega)) (va_cwS 2 hts gJ0_charAt_5068e_J1_charAt_3b067 rfl rfl rfl (by decide +kernel) ⟨by decide, by decide⟩) rfl hl.1 rfl (Nat.le_of_ble_eq_true rfl) dJ0_charAt_5068e_12 (Nat.zero_le _) (Nat.zero_le _) (fun r3 u3 H3 locs3 hp3 hP hS => ?_)
    obtain ⟨σ3, τ3⟩ := u3
    obtain ⟨hR, f3, hq3⟩ : P_J1_charAt_3b067_s0 σ0 a1 r3 σ3 := hp3
    have hP : va_P D vwCl (gw cA ad σ3 τ3) H3 := hP
    obtain rfl := Fr.nil f3
    exact r_cret hx hb hr hK hP hS hk (by omega) dJ0_charAt_5068e_15 (show P_J0_charAt_5068e_s0 σ0 a1 r3 σ0 from ⟨hR, hF, by omega⟩)
abbrev L_X8_isWord_s0 : List Rc := []
def P_X8_isWord_s0 (σ0 : Nat → Nat → Int32) (a2 : Int32) (a3 : Int32) (a4 : Int32) (r : Int32) (σ : Nat → Nat → Int32) : Prop := Rg σ ∧ Fr L_X8_isWord_s0 σ0 σ ∧ (0 ≤ r.toInt ∧ r.toInt ≤ 1)
def J_X8_isWord_s0_3 (p : Program) (l : Launch) (e : Env) (s : State) (m : MethodId) (args : Array Value) (below : List Frame) (meth : Method) (c : Code) (D : va_G) (cA : Nat → ClassId) (ad : Nat → Nat) (σ0 : Nat → Nat → Int32) (a2 : Int32) (a3 : Int32) (a4 : Int32) (n : Nat) : Prop := ∀ (σ : Nat → Nat → Int32) (τ : Nat → Nat → Int64) (H : Heap) (locs : List Loc) (x5 : Int32) (ls : Array Slot), Rg σ → Fr L_X8_isWord_s0 σ0 σ → va_P D vwCl (gw cA ad σ τ) H → va_S (AA ad) s.heap H locs → (0 ≤ x5.toInt ∧ x5.toInt ≤ 7) → lv_has ls 7 [(0, .ref (ad 1)), (1, .ref (ad 407)), (2, .int a2), (3, .int a3), (4, .int a4), (5, .int x5)] → 3 * (7 - x5.toInt) + 2 < (n : Int) → W p l e ({ frames := 4, cells := 0, slots := 0, locals := 85 } : Room) s m args below meth c H locs 0 0 (MQ below (va_Qi (fun (r : Int32) (u : SS) => P_X8_isWord_s0 σ0 a2 a3 a4 r u.1) (WB D cA ad) (AA ad)) args s 0 0 (AA ad)) (F0 m 3 ls [])
def J_X8_isWord_s0_32 (p : Program) (l : Launch) (e : Env) (s : State) (m : MethodId) (args : Array Value) (below : List Frame) (meth : Method) (c : Code) (D : va_G) (cA : Nat → ClassId) (ad : Nat → Nat) (σ0 : Nat → Nat → Int32) (a2 : Int32) (a3 : Int32) (a4 : Int32) (n : Nat) : Prop := ∀ (σ : Nat → Nat → Int32) (τ : Nat → Nat → Int64) (H : Heap) (locs : List Loc) (x5 : Int32) (w0 : Int32) (ls : Array Slot), Rg σ → Fr L_X8_isWord_s0 σ0 σ → va_P D vwCl (gw cA ad σ τ) H → va_S (AA ad) s.heap H locs → (0 ≤ x5.toInt ∧ x5.toInt ≤ 6) → (0 ≤ w0.toInt ∧ w0.toInt ≤ 255) → lv_has ls 7 [(0, .ref (ad 1)), (1, .ref (ad 407)), (2, .int a2), (3, .int a3), (4, .int a4), (5, .int x5)] → 3 * (7 - x5.toInt) + 1 < (n : Int) → W p l e ({ frames := 4, cells := 0, slots := 0, locals := 85 } : Room) s m args below meth c H locs 0 0 (MQ below (va_Qi (fun (r : Int32) (u : SS) => P_X8_isWord_s0 σ0 a2 a3 a4 r u.1) (WB D cA ad) (AA ad)) args s 0 0 (AA ad)) (F0 m 32 ls [.int w0])
set_option maxHeartbeats 4000000 in
theorem B_X8_isWord_s0_3 (p : Program) (l : Launch) (e : Env) (s : State) (m : MethodId) (args : Array Value) (below : List Frame) (meth : Method) (c : Code) (D : va_G) (cA : Nat → ClassId) (ad : Nat → Nat) (σ0 : Nat → Nat → Int32) (a2 : Int32) (a3 : Int32) (a4 : Int32) (n : Nat) (C : Cy p s m args meth c cX8_isWord 7 wsX8_isWord RX8 D cA ad (some .boolean)) (ha2 : 0 ≤ a2.toInt ∧ a2.toInt ≤ 13) (ha3 : 0 ≤ a3.toInt ∧ a3.toInt ≤ 899) (ha4 : 0 ≤ a4.toInt ∧ a4.toInt ≤ 940) (K3 : J_X8_isWord_s0_3 p l e s m args below meth c D cA ad σ0 a2 a3 a4 n) (K32 : J_X8_isWord_s0_32 p l e s m args below meth c D cA ad σ0 a2 a3 a4 n) : J_X8_isWord_s0_3 p l e s m args below meth c D cA ad σ0 a2 a3 a4 (n + 1) := by
  obtain ⟨hx, hb, hml, hown, hts, hK, hk, hr, hI, hN⟩ := C
  intro σ τ H locs x5 ls hR hF hP hS hc0 hl hm
  obtain rfl := Fr.nil hF
  refine lv_iload hx hb dX8_isWord_3 (lv_at hl 5 rfl) ?_
  refine r_bipush hx hb dX8_isWord_5 (by decide) (fun z1 ez1 => ?_)
  refine r_icmp_ge (tgt := 58) hx hb dX8_isWord_7 (by decide) (fun c2 => ?_) (fun c2 => ?_)
  · refine r_iconst hx hb dX8_isWord_58 (by decide) (fun z3 ez3 => ?_)
    exact r_zret hx hb hr hK hP hS hk (by omega) dX8_isWord_59 (show P_X8_isWord_s0 σ0 a2 a3 a4 z3 σ0 from ⟨hR, hF, by omega⟩)
  · refine lv_iload_n hx hb dX8_isWord_10 rfl (lv_at hl 3 rfl) ?_
    refine lv_iload hx hb dX8_isWord_11 (lv_at hl 5 rfl) ?_
    refine r_iadd hx hb dX8_isWord_13 (by omega) (fun z4 ez4 => ?_)
    refine lv_iload hx hb dX8_isWord_14 (lv_at hl 4 rfl) ?_
    refine r_icmp_ge (tgt := 30) hx hb dX8_isWord_16 (by decide) (fun c5 => ?_) (fun c5 => ?_)
    · refine r_bipush hx hb dX8_isWord_30 (by decide) (fun z6 ez6 => ?_)
      exact K32 σ0 τ H locs x5 z6 ls hR hF hP hS (by omega) (by omega) (lv_sub hl [0, 1, 2, 3, 4, 5] rfl) (by omega)
    · refine lv_aload_n hx hb dX8_isWord_19 rfl (lv_at hl 0 rfl) ?_
      refine lv_iload_n hx hb dX8_isWord_20 rfl (lv_at hl 3 rfl) ?_
      refine lv_iload hx hb dX8_isWord_21 (lv_at hl 5 rfl) ?_
      refine r_iadd hx hb dX8_isWord_23 (by omega) (fun z7 ez7 => ?_)
      refine r_cVi (k := 1) (As := [.int z7]) (rest := []) ⟨hx, hb, hml, hown, hts⟩ hK hP hN hS (c_X8_byteAt l D cA ad hI σ0 τ hR z7 (by omega)) (cwV 1 hts gX8_isWord_X8_byteAt rfl rfl rfl (by decide +kernel) ⟨by decide, by decide⟩) (rv_Tape hK hP (by decide) (by decide)) rfl hl.1 rfl (Nat.le_of_ble_eq_true rfl) dX8_isWord_24 (Nat.zero_le _) (Nat.zero_le _) (fun r8 u8 H8 locs8 hp8 hP hS => ?_)
      obtain ⟨σ8, τ8⟩ := u8
      obtain ⟨hR, f8, hq8⟩ : P_X8_byteAt σ0 z7 r8 σ8 := hp8
      have hP : va_P D vwCl (gw cA ad σ8 τ8) H8 := hP
      obtain rfl := Fr.nil f8
      refine lv_goto (tgt := 32) hx hb dX8_isWord_27 (by decide) ?_
      exact K32 σ0 τ8 H8 locs8 x5 r8 ls hR hF hP hS (by omega) (by omega) (lv_sub hl [0, 1, 2, 3, 4, 5] rfl) (by omega)
set_option maxHeartbeats 4000000 in
theorem B_X8_isWord_s0_32 (p : Program) (l : Launch) (e : Env) (s : State) (m : MethodId) (args : Array Value) (below : List Frame) (meth : Method) (c : Code) (D : va_G) (cA : Nat → ClassId) (ad : Nat → Nat) (σ0 : Nat → Nat → Int32) (a2 : Int32) (a3 : Int32) (a4 : Int32) (n : Nat) (C : Cy p s m args meth c cX8_isWord 7 wsX8_isWord RX8 D cA ad (some .boolean)) (ha2 : 0 ≤ a2.toInt ∧ a2.toInt ≤ 13) (ha3 : 0 ≤ a3.toInt ∧ a3.toInt ≤ 899) (ha4 : 0 ≤ a4.toInt ∧ a4.toInt ≤ 940) (K3 : J_X8_isWord_s0_3 p l e s m args below meth c D cA ad σ0 a2 a3 a4 n) (K32 : J_X8_isWord_s0_32 p l e s m args below meth c D cA ad σ0 a2 a3 a4 n) : J_X8_isWord_s0_32 p l e s m args below meth c D cA ad σ0 a2 a3 a4 (n + 1) := by
  obtain ⟨hx, hb, hml, hown, hts, hK, hk, hr, hI, hN⟩ := C
  intro σ τ H locs x5 w0 ls hR hF hP hS hc0 hc1 hl hm
  obtain rfl := Fr.nil hF
  refine lv_istore (lv' := [(6, .int w0), (0, .ref (ad 1)), (1, .ref (ad 407)), (2, .int a2), (3, .int a3), (4, .int a4), (5, .int x5)]) hx hb dX8_isWord_32 hl (by decide) rfl (fun ls hl => ?_)
  refine lv_aload_n hx hb dX8_isWord_34 rfl (lv_at hl 2 rfl) ?_
  refine lv_iload_n hx hb dX8_isWord_35 rfl (lv_at hl 3 rfl) ?_
  refine r_bipush hx hb dX8_isWord_36 (by decide) (fun z1 ez1 => ?_)
  refine r_imulR (n := 7) hx hb dX8_isWord_38 (by omega) (by omega) (fun z2 ez2 => ?_)
  refine lv_iload hx hb dX8_isWord_39 (lv_at hl 6 rfl) ?_
  refine r_iadd hx hb dX8_isWord_41 (by omega) (fun z3 ez3 => ?_)
  refine r_cVi (k := 407) (As := [.int z3]) (rest := []) ⟨hx, hb, hml, hown, hts⟩ hK hP hN hS (c_J0_charAt_5068e_s0 l D cA ad hI σ0 τ hR z3 (by omega)) (cwV 1 hts gX8_isWord_J0_charAt_5068e rfl rfl rfl (by decide +kernel) ⟨by decide, by decide⟩) (so_0 hN hS) rfl hl.1 rfl (Nat.le_of_ble_eq_true rfl) dX8_isWord_42 (Nat.zero_le _) (Nat.zero_le _) (fun r4 u4 H4 locs4 hp4 hP hS => ?_)
  obtain ⟨σ4, τ4⟩ := u4
  obtain ⟨hR, f4, hq4⟩ : P_J0_charAt_5068e_s0 σ0 z3 r4 σ4 := hp4
  have hP : va_P D vwCl (gw cA ad σ4 τ4) H4 := hP
  obtain rfl := Fr.nil f4
  refine lv_iload hx hb dX8_isWord_45 (lv_at hl 0 rfl) ?_
  refine r_icmp_eq (tgt := 52) hx hb dX8_isWord_47 (by decide) (fun c5 => ?_) (fun c5 => ?_)
  · refine r_iinc (k := 6) (lv1 := fun z6 => [(5, .int z6), (6, .int w0), (0, .ref (ad 1)), (1, .ref (ad 407)), (2, .int a2), (3, .int a3), (4, .int a4)]) hx hb dX8_isWord_52 hl rfl (by decide) (fun _ => rfl) (by decide) (by omega) (fun z6 ls ez6 hl => ?_)
    refine lv_goto (tgt := 3) hx hb dX8_isWord_55 (by decide) ?_
    exact K3 σ0 τ4 H4 locs4 z6 ls hR hF hP hS (by omega) (lv_sub hl [2, 3, 4, 5, 6, 0] rfl) (by omega)
  · refine r_iconst hx hb dX8_isWord_50 (by decide) (fun z7 ez7 => ?_)
    exact r_zret hx hb hr hK hP hS hk (by omega) dX8_isWord_51 (show P_X8_isWord_s0 σ0 a2 a3 a4 z7 σ0 from ⟨hR, hF, by omega⟩)
theorem A_X8_isWord_s0 (p : Program) (l : Launch) (e : Env) (s : State) (m : MethodId) (args : Array Value) (below : List Frame) (meth : Method) (c : Code) (D : va_G) (cA : Nat → ClassId) (ad : Nat → Nat) (σ0 : Nat → Nat → Int32) (a2 : Int32) (a3 : Int32) (a4 : Int32) (C : Cy p s m args meth c cX8_isWord 7 wsX8_isWord RX8 D cA ad (some .boolean)) (ha2 : 0 ≤ a2.toInt ∧ a2.toInt ≤ 13) (ha3 : 0 ≤ a3.toInt ∧ a3.toInt ≤ 899) (ha4 : 0 ≤ a4.toInt ∧ a4.toInt ≤ 940) : ∀ n : Nat, J_X8_isWord_s0_3 p l e s m args below meth c D cA ad σ0 a2 a3 a4 n ∧ J_X8_isWord_s0_32 p l e s m args below meth c D cA ad σ0 a2 a3 a4 n := by
  intro n
  induction n with
  | zero =>
    exact ⟨(by intro σ τ H locs x5 ls hR hF hP hS hc0 hl hm; exfalso; omega), (by intro σ τ H locs x5 w0 ls hR hF hP hS hc0 hc1 hl hm; exfalso; omega)⟩
  | succ n ih =>
    exact ⟨B_X8_isWord_s0_3 p l e s m args below meth c D cA ad σ0 a2 a3 a4 n C ha2 ha3 ha4 ih.1 ih.2, B_X8_isWord_s0_32 p l e s m args below meth c D cA ad σ0 a2 a3 a4 n C ha2 ha3 ha4 ih.1 ih.2⟩
set_option maxHeartbeats 4000000 in
theorem c_X8_isWord_s0 (l : Launch) (D : va_G) (cA : Nat → ClassId) (ad : Nat → Nat) (hI : Inj ad) (σ0 : Nat → Nat → Int32) (τ0 : Nat → Nat → Int64) (hR : Rg σ0) (a2 : Int32) (a3 : Int32) (a4 : Int32) (ha2 : 0 ≤ a2.toInt ∧ a2.toInt ≤ 13) (ha3 : 0 ≤ a3.toInt ∧ a3.toInt ≤ 899) (ha4 : 0 ≤ a4.toInt ∧ a4.toInt ≤ 940) : Met l yX8_isWord wsX8_isWord ({ frames := 4, cells := 0, slots := 0, locals := 85 } : Room) (WQc D cA ad [.ref (ad 1), .ref (ad 407), .int a2, .int a3, .int a4] σ0 τ0) (va_Qi (fun (r : Int32) (u : SS) => P_X8_isWord_s0 σ0 a2 a3 a4 r u.1) (WB D cA ad) (AA ad)) 0 0 (AA ad) := by
  refine Met.ofW (cc := cX8_isWord) (maxL := 7) (ret := (some .boolean)) (by decide) rfl ?_
  intro p e s m args below meth c s₁ B hml hv
  obtain ⟨rfl, hP, hK, hN⟩ := hv
  have C : Cy p s m _ meth c cX8_isWord 7 wsX8_isWord RX8 D cA ad (some .boolean) := ⟨B.exec, B.bytes, hml, findClass_of_methodNamed B.named, atoms_spec (ws := wsX8_isWord) B.pre, hK, B.notSynchronized, B.returns, hI, hN⟩
  have hl := lv_entry ([.ref (ad 1), .ref (ad 407), .int a2, .int a3, .int a4]) (n := 7) (Nat.le_of_ble_eq_true rfl)
  rw [lg_entry_eq]
  generalize (lg_sl ([.ref (ad 1), .ref (ad 407), .int a2, .int a3, .int a4]) ++ List.replicate (7 - (lg_sl ([.ref (ad 1), .ref (ad 407), .int a2, .int a3, .int a4])).length) Slot.unset).toArray = ls at hl ⊢
  have hl : lv_has ls 7 [(0, .ref (ad 1)), (1, .ref (ad 407)), (2, .int a2), (3, .int a3), (4, .int a4)] := hl
  have hS : va_S (AA ad) s.heap s.heap [] := va_S.rf
  have hF : Fr L_X8_isWord_s0 σ0 σ0 := Fr.rf
  have hA := A_X8_isWord_s0 p l e s m _ below meth c D cA ad σ0 a2 a3 a4 C ha2 ha3 ha4 55
  have K3 := hA.1
  have K32 := hA.2
  clear hA
  obtain ⟨hx, hb, _, hown, hts, _, hk, hr, _, _⟩ := C
  refine r_iconst hx hb dX8_isWord_0 (by decide) (fun z1 ez1 => ?_)
  refine lv_istore (lv' := [(5, .int z1), (0, .ref (ad 1)), (1, .ref (ad 407)), (2, .int a2), (3, .int a3), (4, .int a4)]) hx hb dX8_isWord_1 hl (by decide) rfl (fun ls hl => ?_)
  exact K3 σ0 τ0 s.heap [] z1 ls hR hF hP hS (by omega) (lv_sub hl [1, 2, 3, 4, 5, 0] rfl) (by omega)
abbrev L_X8_wordIn_s0 : List Rc := []
def P_X8_wordIn_s0 (σ0 : Nat → Nat → Int32) (a2 : Int32) (a3 : Int32) (r : Int32) (σ : Nat → Nat → Int32) : Prop := Rg σ ∧ Fr L_X8_wordIn_s0 σ0 σ ∧ (-1 ≤ r.toInt ∧ r.toInt ≤ 13)
def J_X8_wordIn_s0_3 (p : Program) (l : Launch) (e : Env) (s : State) (m : MethodId) (args : Array Value) (below : List Frame) (meth : Method) (c : Code) (D : va_G) (cA : Nat → ClassId) (ad : Nat → Nat) (σ0 : Nat → Nat → Int32) (a2 : Int32) (a3 : Int32) (n : Nat) : Prop := ∀ (σ : Nat → Nat → Int32) (τ : Nat → Nat → Int64) (H : Heap) (locs : List Loc) (x4 : Int32) (ls : Array Slot), Rg σ → Fr L_X8_wordIn_s0 σ0 σ → va_P D vwCl (gw cA ad σ τ) H → va_S (AA ad) s.heap H locs → (0 ≤ x4.toInt ∧ x4.toInt ≤ 19) → lv_has ls 5 [(0, .ref (ad 1)), (1, .ref (ad 407)), (2, .int a2), (3, .int a3), (4, .int x4)] → 2 * (19 - x4.toInt) + 1 < (n : Int) → W p l e ({ frames := 5, cells := 0, slots := 0, locals := 111 } : Room) s m args below meth c H locs 0 0 (MQ below (va_Qi (fun (r : Int32) (u : SS) => P_X8_wordIn_s0 σ0 a2 a3 r u.1) (WB D cA ad) (AA ad)) args s 0 0 (AA ad)) (F0 m 3 ls [])
set_option maxHeartbeats 4000000 in
theorem B_X8_wordIn_s0_3 (p : Program) (l : Launch) (e : Env) (s : State) (m : MethodId) (args : Array Value) (below : List Frame) (meth : Method) (c : Code) (D : va_G) (cA : Nat → ClassId) (ad : Nat → Nat) (σ0 : Nat → Nat → Int32) (a2 : Int32) (a3 : Int32) (n : Nat) (C : Cy p s m args meth c cX8_wordIn 5 wsX8_wordIn RX8 D cA ad (some .int)) (ha2 : 0 ≤ a2.toInt ∧ a2.toInt ≤ 899) (ha3 : 0 ≤ a3.toInt ∧ a3.toInt ≤ 940) (K3 : J_X8_wordIn_s0_3 p l e s m args below meth c D cA ad σ0 a2 a3 n) : J_X8_wordIn_s0_3 p l e s m args below meth c D cA ad σ0 a2 a3 (n + 1) := by
  obtain ⟨hx, hb, hml, hown, hts, hK, hk, hr, hI, hN⟩ := C
  intro σ τ H locs x4 ls hR hF hP hS hc0 hl hm
  obtain rfl := Fr.nil hF
  refine lv_iload hx hb dX8_wordIn_3 (lv_at hl 4 rfl) ?_
  refine r_iconst hx hb dX8_wordIn_5 (by decide) (fun z1 ez1 => ?_)
  refine r_iadd hx hb dX8_wordIn_6 (by omega) (fun z2 ez2 => ?_)
  refine r_bipush hx hb dX8_wordIn_7 (by decide) (fun z3 ez3 => ?_)
  refine r_imulR (n := 7) hx hb dX8_wordIn_9 (by omega) (by omega) (fun z4 ez4 => ?_)
  refine lv_aload_n hx hb dX8_wordIn_10 rfl (lv_at hl 1 rfl) ?_
  refine r_cVi (k := 407) (As := []) (rest := [.int z4]) ⟨hx, hb, hml, hown, hts⟩ hK hP hN hS (c_J0_length_8abf5_s0 l D cA ad hI σ0 τ hR) (cwV 0 hts gX8_wordIn_J0_length_8abf5 rfl rfl rfl (by decide +kernel) ⟨by decide, by decide⟩) (so_0 hN hS) rfl hl.1 rfl (Nat.le_of_ble_eq_true rfl) dX8_wordIn_11 (Nat.zero_le _) (Nat.zero_le _) (fun r5 u5 H5 locs5 hp5 hP hS => ?_)
  obtain ⟨σ5, τ5⟩ := u5
  obtain ⟨hR, f5, hq5⟩ : P_J0_length_8abf5_s0 σ0 r5 σ5 := hp5
  have hP : va_P D vwCl (gw cA ad σ5 τ5) H5 := hP
  obtain rfl := Fr.nil f5
  refine r_icmp_gt (tgt := 38) hx hb dX8_wordIn_14 (by decide) (fun c6 => ?_) (fun c6 => ?_)
  · refine r_iconst hx hb dX8_wordIn_38 (by decide) (fun z7 ez7 => ?_)
    exact r_iret hx hb hr hK hP hS hk dX8_wordIn_39 (show P_X8_wordIn_s0 σ0 a2 a3 z7 σ0 from ⟨hR, hF, by omega⟩)
  · refine lv_aload_n hx hb dX8_wordIn_17 rfl (lv_at hl 0 rfl) ?_
    refine lv_aload_n hx hb dX8_wordIn_18 rfl (lv_at hl 1 rfl) ?_
    refine lv_iload hx hb dX8_wordIn_19 (lv_at hl 4 rfl) ?_
    refine lv_iload_n hx hb dX8_wordIn_21 rfl (lv_at hl 2 rfl) ?_
    refine lv_iload_n hx hb dX8_wordIn_22 rfl (lv_at hl 3 rfl) ?_
    refine r_cVi (k := 1) (As := [.ref (ad 407), .int x4, .int a2, .int a3]) (rest := []) ⟨hx, hb, hml, hown, hts⟩ hK hP hN hS (c_X8_isWord_s0 l D cA ad hI σ0 τ5 hR x4 a2 a3 (by omega) (by omega) (by omega)) (cwV 4 hts gX8_wordIn_X8_isWord rfl rfl rfl (by decide +kernel) ⟨by decide, by decide⟩) (rv_Tape hK hP (by decide) (by decide)) rfl hl.1 rfl (Nat.le_of_ble_eq_true rfl) dX8_wordIn_23 (Nat.zero_le _) (Nat.zero_le _) (fun r8 u8 H8 locs8 hp8 hP hS => ?_)
    obtain ⟨σ8, τ8⟩ := u8
    obtain ⟨hR, f8, hq8⟩ : P_X8_isWord_s0 σ0 x4 a2 a3 r8 σ8 := hp8
    have hP : va_P D vwCl (gw cA ad σ8 τ8) H8 := hP
    obtain rfl := Fr.nil f8
    refine r_if_eq (tgt := 32) hx hb dX8_wordIn_26 (by decide) (fun c9 => ?_) (fun c9 => ?_)
    · refine r_iinc (k := 4) (lv1 := fun z10 => [(4, .int z10), (0, .ref (ad 1)), (1, .ref (ad 407)), (2, .int a2), (3, .int a3)]) hx hb dX8_wordIn_32 hl rfl (by decide) (fun _ => rfl) (by decide) (by omega) (fun z10 ls ez10 hl => ?_)
      refine lv_goto (tgt := 3) hx hb dX8_wordIn_35 (by decide) ?_
      exact K3 σ0 τ8 H8 locs8 z10 ls hR hF hP hS (by omega) (lv_sub hl [1, 2, 3, 4, 0] rfl) (by omega)
    · refine lv_iload hx hb dX8_wordIn_29 (lv_at hl 4 rfl) ?_
      exact r_iret hx hb hr hK hP hS hk dX8_wordIn_31 (show P_X8_wordIn_s0 σ0 a2 a3 x4 σ0 from ⟨hR, hF, by omega⟩)
theorem A_X8_wordIn_s0 (p : Program) (l : Launch) (e : Env) (s : State) (m : MethodId) (args : Array Value) (below : List Frame) (meth : Method) (c : Code) (D : va_G) (cA : Nat → ClassId) (ad : Nat → Nat) (σ0 : Nat → Nat → Int32) (a2 : Int32) (a3 : Int32) (C : Cy p s m args meth c cX8_wordIn 5 wsX8_wordIn RX8 D cA ad (some .int)) (ha2 : 0 ≤ a2.toInt ∧ a2.toInt ≤ 899) (ha3 : 0 ≤ a3.toInt ∧ a3.toInt ≤ 940) : ∀ n : Nat, J_X8_wordIn_s0_3 p l e s m args below meth c D cA ad σ0 a2 a3 n := by
  intro n
  induction n with
  | zero =>
    exact (by intro σ τ H locs x4 ls hR hF hP hS hc0 hl hm; exfalso; omega)
  | succ n ih =>
    exact B_X8_wordIn_s0_3 p l e s m args below meth c D cA ad σ0 a2 a3 n C ha2 ha3 ih
set_option maxHeartbeats 4000000 in
theorem c_X8_wordIn_s0 (l : Launch) (D : va_G) (cA : Nat → ClassId) (ad : Nat → Nat) (hI : Inj ad) (σ0 : Nat → Nat → Int32) (τ0 : Nat → Nat → Int64) (hR : Rg σ0) (a2 : Int32) (a3 : Int32) (ha2 : 0 ≤ a2.toInt ∧ a2.toInt ≤ 899) (ha3 : 0 ≤ a3.toInt ∧ a3.toInt ≤ 940) : Met l yX8_wordIn wsX8_wordIn ({ frames := 5, cells := 0, slots := 0, locals := 111 } : Room) (WQc D cA ad [.ref (ad 1), .ref (ad 407), .int a2, .int a3] σ0 τ0) (va_Qi (fun (r : Int32) (u : SS) => P_X8_wordIn_s0 σ0 a2 a3 r u.1) (WB D cA ad) (AA ad)) 0 0 (AA ad) := by
  refine Met.ofW (cc := cX8_wordIn) (maxL := 5) (ret := (some .int)) (by decide) rfl ?_
  intro p e s m args below meth c s₁ B hml hv
  obtain ⟨rfl, hP, hK, hN⟩ := hv
  have C : Cy p s m _ meth c cX8_wordIn 5 wsX8_wordIn RX8 D cA ad (some .int) := ⟨B.exec, B.bytes, hml, findClass_of_methodNamed B.named, atoms_spec (ws := wsX8_wordIn) B.pre, hK, B.notSynchronized, B.returns, hI, hN⟩
  have hl := lv_entry ([.ref (ad 1), .ref (ad 407), .int a2, .int a3]) (n := 5) (Nat.le_of_ble_eq_true rfl)
  rw [lg_entry_eq]
  generalize (lg_sl ([.ref (ad 1), .ref (ad 407), .int a2, .int a3]) ++ List.replicate (5 - (lg_sl ([.ref (ad 1), .ref (ad 407), .int a2, .int a3])).length) Slot.unset).toArray = ls at hl ⊢
  have hl : lv_has ls 5 [(0, .ref (ad 1)), (1, .ref (ad 407)), (2, .int a2), (3, .int a3)] := hl
  have hS : va_S (AA ad) s.heap s.heap [] := va_S.rf
  have hF : Fr L_X8_wordIn_s0 σ0 σ0 := Fr.rf
  have hA := A_X8_wordIn_s0 p l e s m _ below meth c D cA ad σ0 a2 a3 C ha2 ha3 86
  have K3 := hA
  clear hA
  obtain ⟨hx, hb, _, hown, hts, _, hk, hr, _, _⟩ := C
  refine r_iconst hx hb dX8_wordIn_0 (by decide) (fun z1 ez1 => ?_)
  refine lv_istore (lv' := [(4, .int z1), (0, .ref (ad 1)), (1, .ref (ad 407)), (2, .int a2), (3, .int a3)]) hx hb dX8_wordIn_1 hl (by decide) rfl (fun ls hl => ?_)
  exact K3 σ0 τ0 s.heap [] z1 ls hR hF hP hS (by omega) (lv_sub hl [1, 2, 3, 4, 0] rfl) (by omega)
abbrev L_J0_coder_7d493_s1 : List Rc := []
def P_J0_coder_7d493_s1 (σ0 : Nat → Nat → Int32)  (r : Int32) (σ : Nat → Nat → Int32) : Prop := Rg σ ∧ Fr L_J0_coder_7d493_s1 σ0 σ ∧ (0 ≤ r.toInt ∧ r.toInt ≤ 0)
set_option maxHeartbeats 4000000 in
theorem c_J0_coder_7d493_s1 (l : Launch) (D : va_G) (cA : Nat → ClassId) (ad : Nat → Nat) (hI : Inj ad) (σ0 : Nat → Nat → Int32) (τ0 : Nat → Nat → Int64) (hR : Rg σ0)   : Met l yJ0_coder_7d493 wsJ0_coder_7d493 ({ frames := 0, cells := 0, slots := 0, locals := 0 } : Room) (WQc D cA ad [.ref (ad 408)] σ0 τ0) (va_Qi (fun (r : Int32) (u : SS) => P_J0_coder_7d493_s1 σ0 r u.1) (WB D cA ad) (AA ad)) 0 0 (AA ad) := by
  refine Met.ofW (cc := cJ0_coder_7d493) (maxL := 1) (ret := (some .byte)) (by decide) rfl ?_
  intro p e s m args below meth c s₁ B hml hv
  obtain ⟨rfl, hP, hK, hN⟩ := hv
  have C : Cy p s m _ meth c cJ0_coder_7d493 1 wsJ0_coder_7d493 RJ0 D cA ad (some .byte) := ⟨B.exec, B.bytes, hml, findClass_of_methodNamed B.named, atoms_spec (ws := wsJ0_coder_7d493) B.pre, hK, B.notSynchronized, B.returns, hI, hN⟩
  have hl := lv_entry ([.ref (ad 408)]) (n := 1) (Nat.le_of_ble_eq_true rfl)
  rw [lg_entry_eq]
  generalize (lg_sl ([.ref (ad 408)]) ++ List.replicate (1 - (lg_sl ([.ref (ad 408)])).length) Slot.unset).toArray = ls at hl ⊢
  have hl : lv_has ls 1 [(0, .ref (ad 408))] := hl
  have hS : va_S (AA ad) s.heap s.heap [] := va_S.rf
  have hF : Fr L_J0_coder_7d493_s1 σ0 σ0 := Fr.rf
  obtain ⟨hx, hb, _, hown, hts, _, hk, hr, _, _⟩ := C
  refine sz_cs hx hb hN hS hown (hts _ lk_J0_coder_7d493_38) dJ0_coder_7d493_0 (fun z1 ez1 => ?_)
  refine r_if_eq (tgt := 13) hx hb dJ0_coder_7d493_3 (by decide) (fun c2 => ?_) (fun c2 => ?_)
  · exfalso; omega
  · refine lv_aload_n hx hb dJ0_coder_7d493_6 rfl (lv_at hl 0 rfl) ?_
    refine sc_1 hx hb hN hS hown (hts _ lk_J0_coder_7d493_15) dJ0_coder_7d493_7 (fun z3 ez3 => ?_)
    refine lv_goto (tgt := 14) hx hb dJ0_coder_7d493_10 (by decide) ?_
    exact r_bret hx hb hr hK hP hS hk (by omega) dJ0_coder_7d493_14 (show P_J0_coder_7d493_s1 σ0 z3 σ0 from ⟨hR, hF, by omega⟩)
abbrev L_J0_length_8abf5_s1 : List Rc := []
def P_J0_length_8abf5_s1 (σ0 : Nat → Nat → Int32)  (r : Int32) (σ : Nat → Nat → Int32) : Prop := Rg σ ∧ Fr L_J0_length_8abf5_s1 σ0 σ ∧ (42 ≤ r.toInt ∧ r.toInt ≤ 42)
set_option maxHeartbeats 4000000 in
theorem c_J0_length_8abf5_s1 (l : Launch) (D : va_G) (cA : Nat → ClassId) (ad : Nat → Nat) (hI : Inj ad) (σ0 : Nat → Nat → Int32) (τ0 : Nat → Nat → Int64) (hR : Rg σ0)   : Met l yJ0_length_8abf5 wsJ0_length_8abf5 ({ frames := 1, cells := 0, slots := 0, locals := 20 } : Room) (WQc D cA ad [.ref (ad 408)] σ0 τ0) (va_Qi (fun (r : Int32) (u : SS) => P_J0_length_8abf5_s1 σ0 r u.1) (WB D cA ad) (AA ad)) 0 0 (AA ad) := by
  refine Met.ofW (cc := cJ0_length_8abf5) (maxL := 1) (ret := (some .int)) (by decide) rfl ?_
  intro p e s m args below meth c s₁ B hml hv
  obtain ⟨rfl, hP, hK, hN⟩ := hv
  have C : Cy p s m _ meth c cJ0_length_8abf5 1 wsJ0_length_8abf5 RJ0 D cA ad (some .int) := ⟨B.exec, B.bytes, hml, findClass_of_methodNamed B.named, atoms_spec (ws := wsJ0_length_8abf5) B.pre, hK, B.notSynchronized, B.returns, hI, hN⟩
  have hl := lv_entry ([.ref (ad 408)]) (n := 1) (Nat.le_of_ble_eq_true rfl)
  rw [lg_entry_eq]
  generalize (lg_sl ([.ref (ad 408)]) ++ List.replicate (1 - (lg_sl ([.ref (ad 408)])).length) Slot.unset).toArray = ls at hl ⊢
  have hl : lv_has ls 1 [(0, .ref (ad 408))] := hl
  have hS : va_S (AA ad) s.heap s.heap [] := va_S.rf
  have hF : Fr L_J0_length_8abf5_s1 σ0 σ0 := Fr.rf
  obtain ⟨hx, hb, _, hown, hts, _, hk, hr, _, _⟩ := C
  refine lv_aload_n hx hb dJ0_length_8abf5_0 rfl (lv_at hl 0 rfl) ?_
  refine sv_1 hx hb hN hS hown (hts _ lk_J0_length_8abf5_9) dJ0_length_8abf5_1 ?_
  refine sl_1 hx hb hN hS dJ0_length_8abf5_4 (fun z1 ez1 => ?_)
  refine lv_aload_n hx hb dJ0_length_8abf5_5 rfl (lv_at hl 0 rfl) ?_
  refine r_cVi (k := 408) (As := []) (rest := [.int z1]) ⟨hx, hb, hml, hown, hts⟩ hK hP hN hS (c_J0_coder_7d493_s1 l D cA ad hI σ0 τ0 hR) (cwV 0 hts gJ0_length_8abf5_J0_coder_7d493 rfl rfl rfl (by decide +kernel) ⟨by decide, by decide⟩) (so_1 hN hS) rfl hl.1 rfl (Nat.le_of_ble_eq_true rfl) dJ0_length_8abf5_6 (Nat.zero_le _) (Nat.zero_le _) (fun r2 u2 H2 locs2 hp2 hP hS => ?_)
  obtain ⟨σ2, τ2⟩ := u2
  obtain ⟨hR, f2, hq2⟩ : P_J0_coder_7d493_s1 σ0 r2 σ2 := hp2
  have hP : va_P D vwCl (gw cA ad σ2 τ2) H2 := hP
  obtain rfl := Fr.nil f2
  refine r_ishr0 hx hb dJ0_length_8abf5_9 (by omega) (fun z3 ez3 => ?_)
  exact r_iret hx hb hr hK hP hS hk dJ0_length_8abf5_10 (show P_J0_length_8abf5_s1 σ0 z3 σ0 from ⟨hR, hF, by omega⟩)
abbrev L_J0_isLatin1_aae02_s1 : List Rc := []
def P_J0_isLatin1_aae02_s1 (σ0 : Nat → Nat → Int32)  (r : Int32) (σ : Nat → Nat → Int32) : Prop := Rg σ ∧ Fr L_J0_isLatin1_aae02_s1 σ0 σ ∧ (1 ≤ r.toInt ∧ r.toInt ≤ 1)
set_option maxHeartbeats 4000000 in
theorem c_J0_isLatin1_aae02_s1 (l : Launch) (D : va_G) (cA : Nat → ClassId) (ad : Nat → Nat) (hI : Inj ad) (σ0 : Nat → Nat → Int32) (τ0 : Nat → Nat → Int64) (hR : Rg σ0)   : Met l yJ0_isLatin1_aae02 wsJ0_isLatin1_aae02 ({ frames := 0, cells := 0, slots := 0, locals := 0 } : Room) (WQc D cA ad [.ref (ad 408)] σ0 τ0) (va_Qi (fun (r : Int32) (u : SS) => P_J0_isLatin1_aae02_s1 σ0 r u.1) (WB D cA ad) (AA ad)) 0 0 (AA ad) := by
  refine Met.ofW (cc := cJ0_isLatin1_aae02) (maxL := 1) (ret := (some .boolean)) (by decide) rfl ?_
  intro p e s m args below meth c s₁ B hml hv
  obtain ⟨rfl, hP, hK, hN⟩ := hv
  have C : Cy p s m _ meth c cJ0_isLatin1_aae02 1 wsJ0_isLatin1_aae02 RJ0 D cA ad (some .boolean) := ⟨B.exec, B.bytes, hml, findClass_of_methodNamed B.named, atoms_spec (ws := wsJ0_isLatin1_aae02) B.pre, hK, B.notSynchronized, B.returns, hI, hN⟩
  have hl := lv_entry ([.ref (ad 408)]) (n := 1) (Nat.le_of_ble_eq_true rfl)
  rw [lg_entry_eq]
  generalize (lg_sl ([.ref (ad 408)]) ++ List.replicate (1 - (lg_sl ([.ref (ad 408)])).length) Slot.unset).toArray = ls at hl ⊢
  have hl : lv_has ls 1 [(0, .ref (ad 408))] := hl
  have hS : va_S (AA ad) s.heap s.heap [] := va_S.rf
  have hF : Fr L_J0_isLatin1_aae02_s1 σ0 σ0 := Fr.rf
  obtain ⟨hx, hb, _, hown, hts, _, hk, hr, _, _⟩ := C
  refine sz_cs hx hb hN hS hown (hts _ lk_J0_isLatin1_aae02_38) dJ0_isLatin1_aae02_0 (fun z1 ez1 => ?_)
  refine r_if_eq (tgt := 17) hx hb dJ0_isLatin1_aae02_3 (by decide) (fun c2 => ?_) (fun c2 => ?_)
  · exfalso; omega
  · refine lv_aload_n hx hb dJ0_isLatin1_aae02_6 rfl (lv_at hl 0 rfl) ?_
    refine sc_1 hx hb hN hS hown (hts _ lk_J0_isLatin1_aae02_15) dJ0_isLatin1_aae02_7 (fun z3 ez3 => ?_)
    refine r_if_ne (tgt := 17) hx hb dJ0_isLatin1_aae02_10 (by decide) (fun c4 => ?_) (fun c4 => ?_)
    · exfalso; omega
    · refine r_iconst hx hb dJ0_isLatin1_aae02_13 (by decide) (fun z5 ez5 => ?_)
      refine lv_goto (tgt := 18) hx hb dJ0_isLatin1_aae02_14 (by decide) ?_
      exact r_zret hx hb hr hK hP hS hk (by omega) dJ0_isLatin1_aae02_18 (show P_J0_isLatin1_aae02_s1 σ0 z5 σ0 from ⟨hR, hF, by omega⟩)
abbrev L_J3_checkIndex_8e157_l42_n : List Rc := []
def P_J3_checkIndex_8e157_l42_n (σ0 : Nat → Nat → Int32) (a0 : Int32) (a1 : Int32) (r : Int32) (σ : Nat → Nat → Int32) : Prop := Rg σ ∧ Fr L_J3_checkIndex_8e157_l42_n σ0 σ ∧ (0 ≤ r.toInt ∧ r.toInt ≤ 41)
set_option maxHeartbeats 4000000 in
theorem c_J3_checkIndex_8e157_l42_n (l : Launch) (D : va_G) (cA : Nat → ClassId) (ad : Nat → Nat) (hI : Inj ad) (σ0 : Nat → Nat → Int32) (τ0 : Nat → Nat → Int64) (hR : Rg σ0) (a0 : Int32) (a1 : Int32) (ha0 : 0 ≤ a0.toInt ∧ a0.toInt ≤ 41) (ha1 : 42 ≤ a1.toInt ∧ a1.toInt ≤ 42) : Met l yJ3_checkIndex_8e157 wsJ3_checkIndex_8e157 ({ frames := 0, cells := 0, slots := 0, locals := 0 } : Room) (WQc D cA ad [.int a0, .int a1, .null] σ0 τ0) (va_Qi (fun (r : Int32) (u : SS) => P_J3_checkIndex_8e157_l42_n σ0 a0 a1 r u.1) (WB D cA ad) (AA ad)) 0 0 (AA ad) := by
  refine Met.ofW (cc := cJ3_checkIndex_8e157) (maxL := 3) (ret := (some .int)) (by decide) rfl ?_
  intro p e s m args below meth c s₁ B hml hv
  obtain ⟨rfl, hP, hK, hN⟩ := hv
  have C : Cy p s m _ meth c cJ3_checkIndex_8e157 3 wsJ3_checkIndex_8e157 RJ3 D cA ad (some .int) := ⟨B.exec, B.bytes, hml, findClass_of_methodNamed B.named, atoms_spec (ws := wsJ3_checkIndex_8e157) B.pre, hK, B.notSynchronized, B.returns, hI, hN⟩
  have hl := lv_entry ([.int a0, .int a1, .null]) (n := 3) (Nat.le_of_ble_eq_true rfl)
  rw [lg_entry_eq]
  generalize (lg_sl ([.int a0, .int a1, .null]) ++ List.replicate (3 - (lg_sl ([.int a0, .int a1, .null])).length) Slot.unset).toArray = ls at hl ⊢
  have hl : lv_has ls 3 [(0, .int a0), (1, .int a1), (2, .null)] := hl
  have hS : va_S (AA ad) s.heap s.heap [] := va_S.rf
  have hF : Fr L_J3_checkIndex_8e157_l42_n σ0 σ0 := Fr.rf
  obtain ⟨hx, hb, _, hown, hts, _, hk, hr, _, _⟩ := C
  refine lv_iload_n hx hb dJ3_checkIndex_8e157_0 rfl (lv_at hl 0 rfl) ?_
  refine r_if_lt (tgt := 9) hx hb dJ3_checkIndex_8e157_1 (by decide) (fun c1 => ?_) (fun c1 => ?_)
  · exfalso; omega
  · refine lv_iload_n hx hb dJ3_checkIndex_8e157_4 rfl (lv_at hl 0 rfl) ?_
    refine lv_iload_n hx hb dJ3_checkIndex_8e157_5 rfl (lv_at hl 1 rfl) ?_
    refine r_icmp_lt (tgt := 16) hx hb dJ3_checkIndex_8e157_6 (by decide) (fun c2 => ?_) (fun c2 => ?_)
    · refine lv_iload_n hx hb dJ3_checkIndex_8e157_16 rfl (lv_at hl 0 rfl) ?_
      exact r_iret hx hb hr hK hP hS hk dJ3_checkIndex_8e157_17 (show P_J3_checkIndex_8e157_l42_n σ0 a0 a1 a0 σ0 from ⟨hR, hF, by omega⟩)
    · exfalso; omega
abbrev L_J3_checkIndex_8e157_l42_t : List Rc := []
def P_J3_checkIndex_8e157_l42_t (σ0 : Nat → Nat → Int32) (a0 : Int32) (a1 : Int32) (a2 : Nat) (r : Int32) (σ : Nat → Nat → Int32) : Prop := Rg σ ∧ Fr L_J3_checkIndex_8e157_l42_t σ0 σ ∧ (0 ≤ r.toInt ∧ r.toInt ≤ 41)
set_option maxHeartbeats 4000000 in
theorem c_J3_checkIndex_8e157_l42_t (l : Launch) (D : va_G) (cA : Nat → ClassId) (ad : Nat → Nat) (hI : Inj ad) (σ0 : Nat → Nat → Int32) (τ0 : Nat → Nat → Int64) (hR : Rg σ0) (a0 : Int32) (a1 : Int32) (a2 : Nat) (ha0 : 0 ≤ a0.toInt ∧ a0.toInt ≤ 41) (ha1 : 42 ≤ a1.toInt ∧ a1.toInt ≤ 42) : Met l yJ3_checkIndex_8e157 wsJ3_checkIndex_8e157 ({ frames := 0, cells := 0, slots := 0, locals := 0 } : Room) (WQc D cA ad [.int a0, .int a1, .ref a2] σ0 τ0) (va_Qi (fun (r : Int32) (u : SS) => P_J3_checkIndex_8e157_l42_t σ0 a0 a1 a2 r u.1) (WB D cA ad) (AA ad)) 0 0 (AA ad) := by
  refine Met.ofW (cc := cJ3_checkIndex_8e157) (maxL := 3) (ret := (some .int)) (by decide) rfl ?_
  intro p e s m args below meth c s₁ B hml hv
  obtain ⟨rfl, hP, hK, hN⟩ := hv
  have C : Cy p s m _ meth c cJ3_checkIndex_8e157 3 wsJ3_checkIndex_8e157 RJ3 D cA ad (some .int) := ⟨B.exec, B.bytes, hml, findClass_of_methodNamed B.named, atoms_spec (ws := wsJ3_checkIndex_8e157) B.pre, hK, B.notSynchronized, B.returns, hI, hN⟩
  have hl := lv_entry ([.int a0, .int a1, .ref a2]) (n := 3) (Nat.le_of_ble_eq_true rfl)
  rw [lg_entry_eq]
  generalize (lg_sl ([.int a0, .int a1, .ref a2]) ++ List.replicate (3 - (lg_sl ([.int a0, .int a1, .ref a2])).length) Slot.unset).toArray = ls at hl ⊢
  have hl : lv_has ls 3 [(0, .int a0), (1, .int a1), (2, .ref a2)] := hl
  have hS : va_S (AA ad) s.heap s.heap [] := va_S.rf
  have hF : Fr L_J3_checkIndex_8e157_l42_t σ0 σ0 := Fr.rf
  obtain ⟨hx, hb, _, hown, hts, _, hk, hr, _, _⟩ := C
  refine lv_iload_n hx hb dJ3_checkIndex_8e157_0 rfl (lv_at hl 0 rfl) ?_
  refine r_if_lt (tgt := 9) hx hb dJ3_checkIndex_8e157_1 (by decide) (fun c1 => ?_) (fun c1 => ?_)
  · exfalso; omega
  · refine lv_iload_n hx hb dJ3_checkIndex_8e157_4 rfl (lv_at hl 0 rfl) ?_
    refine lv_iload_n hx hb dJ3_checkIndex_8e157_5 rfl (lv_at hl 1 rfl) ?_
    refine r_icmp_lt (tgt := 16) hx hb dJ3_checkIndex_8e157_6 (by decide) (fun c2 => ?_) (fun c2 => ?_)
    · refine lv_iload_n hx hb dJ3_checkIndex_8e157_16 rfl (lv_at hl 0 rfl) ?_
      exact r_iret hx hb hr hK hP hS hk dJ3_checkIndex_8e157_17 (show P_J3_checkIndex_8e157_l42_t σ0 a0 a1 a2 a0 σ0 from ⟨hR, hF, by omega⟩)
    · exfalso; omega
abbrev L_J0_checkIndex_df160_l42 : List Rc := []
def P_J0_checkIndex_df160_l42 (σ0 : Nat → Nat → Int32) (a0 : Int32) (a1 : Int32) (σ : Nat → Nat → Int32) : Prop := Rg σ ∧ Fr L_J0_checkIndex_df160_l42 σ0 σ
set_option maxHeartbeats 4000000 in
theorem c_J0_checkIndex_df160_l42 (l : Launch) (D : va_G) (cA : Nat → ClassId) (ad : Nat → Nat) (hI : Inj ad) (σ0 : Nat → Nat → Int32) (τ0 : Nat → Nat → Int64) (hR : Rg σ0) (a0 : Int32) (a1 : Int32) (ha0 : 0 ≤ a0.toInt ∧ a0.toInt ≤ 41) (ha1 : 42 ≤ a1.toInt ∧ a1.toInt ≤ 42) : Met l yJ0_checkIndex_df160 wsJ0_checkIndex_df160 ({ frames := 1, cells := 0, slots := 0, locals := 22 } : Room) (WQc D cA ad [.int a0, .int a1] σ0 τ0) (va_Qv (fun u : SS => P_J0_checkIndex_df160_l42 σ0 a0 a1 u.1) (WB D cA ad) (AA ad)) 0 0 (AA ad) := by
  refine Met.ofW (cc := cJ0_checkIndex_df160) (maxL := 2) (ret := none) (by decide) rfl ?_
  intro p e s m args below meth c s₁ B hml hv
  obtain ⟨rfl, hP, hK, hN⟩ := hv
  have C : Cy p s m _ meth c cJ0_checkIndex_df160 2 wsJ0_checkIndex_df160 RJ0 D cA ad none := ⟨B.exec, B.bytes, hml, findClass_of_methodNamed B.named, atoms_spec (ws := wsJ0_checkIndex_df160) B.pre, hK, B.notSynchronized, B.returns, hI, hN⟩
  have hl := lv_entry ([.int a0, .int a1]) (n := 2) (Nat.le_of_ble_eq_true rfl)
  rw [lg_entry_eq]
  generalize (lg_sl ([.int a0, .int a1]) ++ List.replicate (2 - (lg_sl ([.int a0, .int a1])).length) Slot.unset).toArray = ls at hl ⊢
  have hl : lv_has ls 2 [(0, .int a0), (1, .int a1)] := hl
  have hS : va_S (AA ad) s.heap s.heap [] := va_S.rf
  have hF : Fr L_J0_checkIndex_df160_l42 σ0 σ0 := Fr.rf
  obtain ⟨hx, hb, _, hown, hts, _, hk, hr, _, _⟩ := C
  refine lv_iload_n hx hb dJ0_checkIndex_df160_0 rfl (lv_at hl 0 rfl) ?_
  refine lv_iload_n hx hb dJ0_checkIndex_df160_1 rfl (lv_at hl 1 rfl) ?_
  refine sz_fm hx hb hN hS hown (hts _ lk_J0_checkIndex_df160_1053) dJ0_checkIndex_df160_2 ?_ (fun t1 => ?_)
  · refine r_cSi (As := [.int a0, .int a1, .null]) (rest := []) ⟨hx, hb, hml, hown, hts⟩ hK hP hN hS (c_J3_checkIndex_8e157_l42_n l D cA ad hI σ0 τ0 hR a0 a1 (by omega) (by omega)) (va_cwS 3 hts gJ0_checkIndex_df160_J3_checkIndex_8e157 rfl rfl rfl (by decide +kernel) ⟨by decide, by decide⟩) rfl hl.1 rfl (Nat.le_of_ble_eq_true rfl) dJ0_checkIndex_df160_5 (Nat.zero_le _) (Nat.zero_le _) (fun r2 u2 H2 locs2 hp2 hP hS => ?_)
    obtain ⟨σ2, τ2⟩ := u2
    obtain ⟨hR, f2, hq2⟩ : P_J3_checkIndex_8e157_l42_n σ0 a0 a1 r2 σ2 := hp2
    have hP : va_P D vwCl (gw cA ad σ2 τ2) H2 := hP
    obtain rfl := Fr.nil f2
    refine lv_pop hx hb dJ0_checkIndex_df160_8 rfl ?_
    exact r_vret hx hb hr hK hP hS hk dJ0_checkIndex_df160_9 (show P_J0_checkIndex_df160_l42 σ0 a0 a1 σ0 from ⟨hR, hF⟩)
  · refine r_cSi (As := [.int a0, .int a1, .ref t1]) (rest := []) ⟨hx, hb, hml, hown, hts⟩ hK hP hN hS (c_J3_checkIndex_8e157_l42_t l D cA ad hI σ0 τ0 hR a0 a1 t1 (by omega) (by omega)) (va_cwS 3 hts gJ0_checkIndex_df160_J3_checkIndex_8e157 rfl rfl rfl (by decide +kernel) ⟨by decide, by decide⟩) rfl hl.1 rfl (Nat.le_of_ble_eq_true rfl) dJ0_checkIndex_df160_5 (Nat.zero_le _) (Nat.zero_le _) (fun r3 u3 H3 locs3 hp3 hP hS => ?_)
    obtain ⟨σ3, τ3⟩ := u3
    obtain ⟨hR, f3, hq3⟩ : P_J3_checkIndex_8e157_l42_t σ0 a0 a1 t1 r3 σ3 := hp3
    have hP : va_P D vwCl (gw cA ad σ3 τ3) H3 := hP
    obtain rfl := Fr.nil f3
    refine lv_pop hx hb dJ0_checkIndex_df160_8 rfl ?_
    exact r_vret hx hb hr hK hP hS hk dJ0_checkIndex_df160_9 (show P_J0_checkIndex_df160_l42 σ0 a0 a1 σ0 from ⟨hR, hF⟩)
abbrev L_J1_charAt_3b067_s1 : List Rc := []
def P_J1_charAt_3b067_s1 (σ0 : Nat → Nat → Int32) (a1 : Int32) (r : Int32) (σ : Nat → Nat → Int32) : Prop := Rg σ ∧ Fr L_J1_charAt_3b067_s1 σ0 σ ∧ (0 ≤ r.toInt ∧ r.toInt ≤ 255)
set_option maxHeartbeats 4000000 in
theorem c_J1_charAt_3b067_s1 (l : Launch) (D : va_G) (cA : Nat → ClassId) (ad : Nat → Nat) (hI : Inj ad) (σ0 : Nat → Nat → Int32) (τ0 : Nat → Nat → Int64) (hR : Rg σ0) (a1 : Int32) (ha1 : 0 ≤ a1.toInt ∧ a1.toInt ≤ 41) : Met l yJ1_charAt_3b067 wsJ1_charAt_3b067 ({ frames := 2, cells := 0, slots := 0, locals := 43 } : Room) (WQc D cA ad [.ref (ad 415), .int a1] σ0 τ0) (va_Qi (fun (r : Int32) (u : SS) => P_J1_charAt_3b067_s1 σ0 a1 r u.1) (WB D cA ad) (AA ad)) 0 0 (AA ad) := by
  refine Met.ofW (cc := cJ1_charAt_3b067) (maxL := 2) (ret := (some .char)) (by decide) rfl ?_
  intro p e s m args below meth c s₁ B hml hv
  obtain ⟨rfl, hP, hK, hN⟩ := hv
  have C : Cy p s m _ meth c cJ1_charAt_3b067 2 wsJ1_charAt_3b067 RJ1 D cA ad (some .char) := ⟨B.exec, B.bytes, hml, findClass_of_methodNamed B.named, atoms_spec (ws := wsJ1_charAt_3b067) B.pre, hK, B.notSynchronized, B.returns, hI, hN⟩
  have hl := lv_entry ([.ref (ad 415), .int a1]) (n := 2) (Nat.le_of_ble_eq_true rfl)
  rw [lg_entry_eq]
  generalize (lg_sl ([.ref (ad 415), .int a1]) ++ List.replicate (2 - (lg_sl ([.ref (ad 415), .int a1])).length) Slot.unset).toArray = ls at hl ⊢
  have hl : lv_has ls 2 [(0, .ref (ad 415)), (1, .int a1)] := hl
  have hS : va_S (AA ad) s.heap s.heap [] := va_S.rf
  have hF : Fr L_J1_charAt_3b067_s1 σ0 σ0 := Fr.rf
  obtain ⟨hx, hb, _, hown, hts, _, hk, hr, _, _⟩ := C
  refine lv_iload_n hx hb dJ1_charAt_3b067_0 rfl (lv_at hl 1 rfl) ?_
  refine lv_aload_n hx hb dJ1_charAt_3b067_1 rfl (lv_at hl 0 rfl) ?_
  refine sl_1 hx hb hN hS dJ1_charAt_3b067_2 (fun z1 ez1 => ?_)
  refine r_cSv (As := [.int a1, .int z1]) (rest := []) ⟨hx, hb, hml, hown, hts⟩ hK hP hN hS (c_J0_checkIndex_df160_l42 l D cA ad hI σ0 τ0 hR a1 z1 (by omega) (by omega)) (va_cwS 2 hts gJ1_charAt_3b067_J0_checkIndex_df160 rfl rfl rfl (by decide +kernel) ⟨by decide, by decide⟩) rfl hl.1 rfl (Nat.le_of_ble_eq_true rfl) dJ1_charAt_3b067_3 (Nat.zero_le _) (Nat.zero_le _) (fun u2 H2 locs2 hp2 hP hS => ?_)
  obtain ⟨σ2, τ2⟩ := u2
  obtain ⟨hR, f2⟩ : P_J0_checkIndex_df160_l42 σ0 a1 z1 σ2 := hp2
  have hP : va_P D vwCl (gw cA ad σ2 τ2) H2 := hP
  obtain rfl := Fr.nil f2
  refine lv_aload_n hx hb dJ1_charAt_3b067_6 rfl (lv_at hl 0 rfl) ?_
  refine lv_iload_n hx hb dJ1_charAt_3b067_7 rfl (lv_at hl 1 rfl) ?_
  obtain ⟨j3, ej3⟩ : ∃ j : Nat, a1.toInt = (j : Int) := ⟨_, ti_nat (by omega)⟩
  refine sb_1 (j := j3) hx hb hN hS ej3 (by omega) dJ1_charAt_3b067_8 (fun z4 => ?_)
  refine r_sipush hx hb dJ1_charAt_3b067_9 (by decide) (fun z5 ez5 => ?_)
  refine r_iand (w := 255) hx hb 8 dJ1_charAt_3b067_12 (by omega) (by decide) (fun z6 ez6 => ?_)
  refine r_i2c hx hb dJ1_charAt_3b067_13 (by omega) (fun z7 ez7 => ?_)
  exact r_cret hx hb hr hK hP hS hk (by omega) dJ1_charAt_3b067_14 (show P_J1_charAt_3b067_s1 σ0 a1 z7 σ0 from ⟨hR, hF, by omega⟩)
abbrev L_J0_charAt_5068e_s1 : List Rc := []
def P_J0_charAt_5068e_s1 (σ0 : Nat → Nat → Int32) (a1 : Int32) (r : Int32) (σ : Nat → Nat → Int32) : Prop := Rg σ ∧ Fr L_J0_charAt_5068e_s1 σ0 σ ∧ (0 ≤ r.toInt ∧ r.toInt ≤ 255)
set_option maxHeartbeats 4000000 in
theorem c_J0_charAt_5068e_s1 (l : Launch) (D : va_G) (cA : Nat → ClassId) (ad : Nat → Nat) (hI : Inj ad) (σ0 : Nat → Nat → Int32) (τ0 : Nat → Nat → Int64) (hR : Rg σ0) (a1 : Int32) (ha1 : 0 ≤ a1.toInt ∧ a1.toInt ≤ 41) : Met l yJ0_charAt_5068e wsJ0_charAt_5068e ({ frames := 3, cells := 0, slots := 0, locals := 64 } : Room) (WQc D cA ad [.ref (ad 408), .int a1] σ0 τ0) (va_Qi (fun (r : Int32) (u : SS) => P_J0_charAt_5068e_s1 σ0 a1 r u.1) (WB D cA ad) (AA ad)) 0 0 (AA ad) := by
  refine Met.ofW (cc := cJ0_charAt_5068e) (maxL := 2) (ret := (some .char)) (by decide) rfl ?_
  intro p e s m args below meth c s₁ B hml hv
  obtain ⟨rfl, hP, hK, hN⟩ := hv
  have C : Cy p s m _ meth c cJ0_charAt_5068e 2 wsJ0_charAt_5068e RJ0 D cA ad (some .char) := ⟨B.exec, B.bytes, hml, findClass_of_methodNamed B.named, atoms_spec (ws := wsJ0_charAt_5068e) B.pre, hK, B.notSynchronized, B.returns, hI, hN⟩
  have hl := lv_entry ([.ref (ad 408), .int a1]) (n := 2) (Nat.le_of_ble_eq_true rfl)
  rw [lg_entry_eq]
  generalize (lg_sl ([.ref (ad 408), .int a1]) ++ List.replicate (2 - (lg_sl ([.ref (ad 408), .int a1])).length) Slot.unset).toArray = ls at hl ⊢
  have hl : lv_has ls 2 [(0, .ref (ad 408)), (1, .int a1)] := hl
  have hS : va_S (AA ad) s.heap s.heap [] := va_S.rf
  have hF : Fr L_J0_charAt_5068e_s1 σ0 σ0 := Fr.rf
  obtain ⟨hx, hb, _, hown, hts, _, hk, hr, _, _⟩ := C
  refine lv_aload_n hx hb dJ0_charAt_5068e_0 rfl (lv_at hl 0 rfl) ?_
  refine r_cVi (k := 408) (As := []) (rest := []) ⟨hx, hb, hml, hown, hts⟩ hK hP hN hS (c_J0_isLatin1_aae02_s1 l D cA ad hI σ0 τ0 hR) (cwV 0 hts gJ0_charAt_5068e_J0_isLatin1_aae02 rfl rfl rfl (by decide +kernel) ⟨by decide, by decide⟩) (so_1 hN hS) rfl hl.1 rfl (Nat.le_of_ble_eq_true rfl) dJ0_charAt_5068e_1 (Nat.zero_le _) (Nat.zero_le _) (fun r1 u1 H1 locs1 hp1 hP hS => ?_)
  obtain ⟨σ1, τ1⟩ := u1
  obtain ⟨hR, f1, hq1⟩ : P_J0_isLatin1_aae02_s1 σ0 r1 σ1 := hp1
  have hP : va_P D vwCl (gw cA ad σ1 τ1) H1 := hP
  obtain rfl := Fr.nil f1
  refine r_if_eq (tgt := 16) hx hb dJ0_charAt_5068e_4 (by decide) (fun c2 => ?_) (fun c2 => ?_)
  · exfalso; omega
  · refine lv_aload_n hx hb dJ0_charAt_5068e_7 rfl (lv_at hl 0 rfl) ?_
    refine sv_1 hx hb hN hS hown (hts _ lk_J0_charAt_5068e_9) dJ0_charAt_5068e_8 ?_
    refine lv_iload_n hx hb dJ0_charAt_5068e_11 rfl (lv_at hl 1 rfl) ?_
    refine r_cSi (As := [.ref (ad 415), .int a1]) (rest := []) ⟨hx, hb, hml, hown, hts⟩ hK hP hN hS (c_J1_charAt_3b067_s1 l D cA ad hI σ0 τ1 hR a1 (by omega)) (va_cwS 2 hts gJ0_charAt_5068e_J1_charAt_3b067 rfl rfl rfl (by decide +kernel) ⟨by decide, by decide⟩) rfl hl.1 rfl (Nat.le_of_ble_eq_true rfl) dJ0_charAt_5068e_12 (Nat.zero_le _) (Nat.zero_le _) (fun r3 u3 H3 locs3 hp3 hP hS => ?_)
    obtain ⟨σ3, τ3⟩ := u3
    obtain ⟨hR, f3, hq3⟩ : P_J1_charAt_3b067_s1 σ0 a1 r3 σ3 := hp3
    have hP : va_P D vwCl (gw cA ad σ3 τ3) H3 := hP
    obtain rfl := Fr.nil f3
    exact r_cret hx hb hr hK hP hS hk (by omega) dJ0_charAt_5068e_15 (show P_J0_charAt_5068e_s1 σ0 a1 r3 σ0 from ⟨hR, hF, by omega⟩)
abbrev L_X8_isWord_s1 : List Rc := []
def P_X8_isWord_s1 (σ0 : Nat → Nat → Int32) (a2 : Int32) (a3 : Int32) (a4 : Int32) (r : Int32) (σ : Nat → Nat → Int32) : Prop := Rg σ ∧ Fr L_X8_isWord_s1 σ0 σ ∧ (0 ≤ r.toInt ∧ r.toInt ≤ 1)
def J_X8_isWord_s1_3 (p : Program) (l : Launch) (e : Env) (s : State) (m : MethodId) (args : Array Value) (below : List Frame) (meth : Method) (c : Code) (D : va_G) (cA : Nat → ClassId) (ad : Nat → Nat) (σ0 : Nat → Nat → Int32) (a2 : Int32) (a3 : Int32) (a4 : Int32) (n : Nat) : Prop := ∀ (σ : Nat → Nat → Int32) (τ : Nat → Nat → Int64) (H : Heap) (locs : List Loc) (x5 : Int32) (ls : Array Slot), Rg σ → Fr L_X8_isWord_s1 σ0 σ → va_P D vwCl (gw cA ad σ τ) H → va_S (AA ad) s.heap H locs → (0 ≤ x5.toInt ∧ x5.toInt ≤ 7) → lv_has ls 7 [(0, .ref (ad 1)), (1, .ref (ad 408)), (2, .int a2), (3, .int a3), (4, .int a4), (5, .int x5)] → 3 * (7 - x5.toInt) + 2 < (n : Int) → W p l e ({ frames := 4, cells := 0, slots := 0, locals := 85 } : Room) s m args below meth c H locs 0 0 (MQ below (va_Qi (fun (r : Int32) (u : SS) => P_X8_isWord_s1 σ0 a2 a3 a4 r u.1) (WB D cA ad) (AA ad)) args s 0 0 (AA ad)) (F0 m 3 ls [])
def J_X8_isWord_s1_32 (p : Program) (l : Launch) (e : Env) (s : State) (m : MethodId) (args : Array Value) (below : List Frame) (meth : Method) (c : Code) (D : va_G) (cA : Nat → ClassId) (ad : Nat → Nat) (σ0 : Nat → Nat → Int32) (a2 : Int32) (a3 : Int32) (a4 : Int32) (n : Nat) : Prop := ∀ (σ : Nat → Nat → Int32) (τ : Nat → Nat → Int64) (H : Heap) (locs : List Loc) (x5 : Int32) (w0 : Int32) (ls : Array Slot), Rg σ → Fr L_X8_isWord_s1 σ0 σ → va_P D vwCl (gw cA ad σ τ) H → va_S (AA ad) s.heap H locs → (0 ≤ x5.toInt ∧ x5.toInt ≤ 6) → (0 ≤ w0.toInt ∧ w0.toInt ≤ 255) → lv_has ls 7 [(0, .ref (ad 1)), (1, .ref (ad 408)), (2, .int a2), (3, .int a3), (4, .int a4), (5, .int x5)] → 3 * (7 - x5.toInt) + 1 < (n : Int) → W p l e ({ frames := 4, cells := 0, slots := 0, locals := 85 } : Room) s m args below meth c H locs 0 0 (MQ below (va_Qi (fun (r : Int32) (u : SS) => P_X8_isWord_s1 σ0 a2 a3 a4 r u.1) (WB D cA ad) (AA ad)) args s 0 0 (AA ad)) (F0 m 32 ls [.int w0])
set_option maxHeartbeats 4000000 in
theorem B_X8_isWord_s1_3 (p : Program) (l : Launch) (e : Env) (s : State) (m : MethodId) (args : Array Value) (below : List Frame) (meth : Method) (c : Code) (D : va_G) (cA : Nat → ClassId) (ad : Nat → Nat) (σ0 : Nat → Nat → Int32) (a2 : Int32) (a3 : Int32) (a4 : Int32) (n : Nat) (C : Cy p s m args meth c cX8_isWord 7 wsX8_isWord RX8 D cA ad (some .boolean)) (ha2 : 0 ≤ a2.toInt ∧ a2.toInt ≤ 5) (ha3 : 0 ≤ a3.toInt ∧ a3.toInt ≤ 899) (ha4 : 0 ≤ a4.toInt ∧ a4.toInt ≤ 940) (K3 : J_X8_isWord_s1_3 p l e s m args below meth c D cA ad σ0 a2 a3 a4 n) (K32 : J_X8_isWord_s1_32 p l e s m args below meth c D cA ad σ0 a2 a3 a4 n) : J_X8_isWord_s1_3 p l e s m args below meth c D cA ad σ0 a2 a3 a4 (n + 1) := by
  obtain ⟨hx, hb, hml, hown, hts, hK, hk, hr, hI, hN⟩ := C
  intro σ τ H locs x5 ls hR hF hP hS hc0 hl hm
  obtain rfl := Fr.nil hF
  refine lv_iload hx hb dX8_isWord_3 (lv_at hl 5 rfl) ?_
  refine r_bipush hx hb dX8_isWord_5 (by decide) (fun z1 ez1 => ?_)
  refine r_icmp_ge (tgt := 58) hx hb dX8_isWord_7 (by decide) (fun c2 => ?_) (fun c2 => ?_)
  · refine r_iconst hx hb dX8_isWord_58 (by decide) (fun z3 ez3 => ?_)
    exact r_zret hx hb hr hK hP hS hk (by omega) dX8_isWord_59 (show P_X8_isWord_s1 σ0 a2 a3 a4 z3 σ0 from ⟨hR, hF, by omega⟩)
  · refine lv_iload_n hx hb dX8_isWord_10 rfl (lv_at hl 3 rfl) ?_
    refine lv_iload hx hb dX8_isWord_11 (lv_at hl 5 rfl) ?_
    refine r_iadd hx hb dX8_isWord_13 (by omega) (fun z4 ez4 => ?_)
    refine lv_iload hx hb dX8_isWord_14 (lv_at hl 4 rfl) ?_
    refine r_icmp_ge (tgt := 30) hx hb dX8_isWord_16 (by decide) (fun c5 => ?_) (fun c5 => ?_)
    · refine r_bipush hx hb dX8_isWord_30 (by decide) (fun z6 ez6 => ?_)
      exact K32 σ0 τ H locs x5 z6 ls hR hF hP hS (by omega) (by omega) (lv_sub hl [0, 1, 2, 3, 4, 5] rfl) (by omega)
    · refine lv_aload_n hx hb dX8_isWord_19 rfl (lv_at hl 0 rfl) ?_
      refine lv_iload_n hx hb dX8_isWord_20 rfl (lv_at hl 3 rfl) ?_
      refine lv_iload hx hb dX8_isWord_21 (lv_at hl 5 rfl) ?_
      refine r_iadd hx hb dX8_isWord_23 (by omega) (fun z7 ez7 => ?_)
      refine r_cVi (k := 1) (As := [.int z7]) (rest := []) ⟨hx, hb, hml, hown, hts⟩ hK hP hN hS (c_X8_byteAt l D cA ad hI σ0 τ hR z7 (by omega)) (cwV 1 hts gX8_isWord_X8_byteAt rfl rfl rfl (by decide +kernel) ⟨by decide, by decide⟩) (rv_Tape hK hP (by decide) (by decide)) rfl hl.1 rfl (Nat.le_of_ble_eq_true rfl) dX8_isWord_24 (Nat.zero_le _) (Nat.zero_le _) (fun r8 u8 H8 locs8 hp8 hP hS => ?_)
      obtain ⟨σ8, τ8⟩ := u8
      obtain ⟨hR, f8, hq8⟩ : P_X8_byteAt σ0 z7 r8 σ8 := hp8
      have hP : va_P D vwCl (gw cA ad σ8 τ8) H8 := hP
      obtain rfl := Fr.nil f8
      refine lv_goto (tgt := 32) hx hb dX8_isWord_27 (by decide) ?_
      exact K32 σ0 τ8 H8 locs8 x5 r8 ls hR hF hP hS (by omega) (by omega) (lv_sub hl [0, 1, 2, 3, 4, 5] rfl) (by omega)
set_option maxHeartbeats 4000000 in
theorem B_X8_isWord_s1_32 (p : Program) (l : Launch) (e : Env) (s : State) (m : MethodId) (args : Array Value) (below : List Frame) (meth : Method) (c : Code) (D : va_G) (cA : Nat → ClassId) (ad : Nat → Nat) (σ0 : Nat → Nat → Int32) (a2 : Int32) (a3 : Int32) (a4 : Int32) (n : Nat) (C : Cy p s m args meth c cX8_isWord 7 wsX8_isWord RX8 D cA ad (some .boolean)) (ha2 : 0 ≤ a2.toInt ∧ a2.toInt ≤ 5) (ha3 : 0 ≤ a3.toInt ∧ a3.toInt ≤ 899) (ha4 : 0 ≤ a4.toInt ∧ a4.toInt ≤ 940) (K3 : J_X8_isWord_s1_3 p l e s m args below meth c D cA ad σ0 a2 a3 a4 n) (K32 : J_X8_isWord_s1_32 p l e s m args below meth c D cA ad σ0 a2 a3 a4 n) : J_X8_isWord_s1_32 p l e s m args below meth c D cA ad σ0 a2 a3 a4 (n + 1) := by
  obtain ⟨hx, hb, hml, hown, hts, hK, hk, hr, hI, hN⟩ := C
  intro σ τ H locs x5 w0 ls hR hF hP hS hc0 hc1 hl hm
  obtain rfl := Fr.nil hF
  refine lv_istore (lv' := [(6, .int w0), (0, .ref (ad 1)), (1, .ref (ad 408)), (2, .int a2), (3, .int a3), (4, .int a4), (5, .int x5)]) hx hb dX8_isWord_32 hl (by decide) rfl (fun ls hl => ?_)
  refine lv_aload_n hx hb dX8_isWord_34 rfl (lv_at hl 2 rfl) ?_
  refine lv_iload_n hx hb dX8_isWord_35 rfl (lv_at hl 3 rfl) ?_
  refine r_bipush hx hb dX8_isWord_36 (by decide) (fun z1 ez1 => ?_)
  refine r_imulR (n := 7) hx hb dX8_isWord_38 (by omega) (by omega) (fun z2 ez2 => ?_)
  refine lv_iload hx hb dX8_isWord_39 (lv_at hl 6 rfl) ?_
  refine r_iadd hx hb dX8_isWord_41 (by omega) (fun z3 ez3 => ?_)
  refine r_cVi (k := 408) (As := [.int z3]) (rest := []) ⟨hx, hb, hml, hown, hts⟩ hK hP hN hS (c_J0_charAt_5068e_s1 l D cA ad hI σ0 τ hR z3 (by omega)) (cwV 1 hts gX8_isWord_J0_charAt_5068e rfl rfl rfl (by decide +kernel) ⟨by decide, by decide⟩) (so_1 hN hS) rfl hl.1 rfl (Nat.le_of_ble_eq_true rfl) dX8_isWord_42 (Nat.zero_le _) (Nat.zero_le _) (fun r4 u4 H4 locs4 hp4 hP hS => ?_)
  obtain ⟨σ4, τ4⟩ := u4
  obtain ⟨hR, f4, hq4⟩ : P_J0_charAt_5068e_s1 σ0 z3 r4 σ4 := hp4
  have hP : va_P D vwCl (gw cA ad σ4 τ4) H4 := hP
  obtain rfl := Fr.nil f4
  refine lv_iload hx hb dX8_isWord_45 (lv_at hl 0 rfl) ?_
  refine r_icmp_eq (tgt := 52) hx hb dX8_isWord_47 (by decide) (fun c5 => ?_) (fun c5 => ?_)
  · refine r_iinc (k := 6) (lv1 := fun z6 => [(5, .int z6), (6, .int w0), (0, .ref (ad 1)), (1, .ref (ad 408)), (2, .int a2), (3, .int a3), (4, .int a4)]) hx hb dX8_isWord_52 hl rfl (by decide) (fun _ => rfl) (by decide) (by omega) (fun z6 ls ez6 hl => ?_)
    refine lv_goto (tgt := 3) hx hb dX8_isWord_55 (by decide) ?_
    exact K3 σ0 τ4 H4 locs4 z6 ls hR hF hP hS (by omega) (lv_sub hl [2, 3, 4, 5, 6, 0] rfl) (by omega)
  · refine r_iconst hx hb dX8_isWord_50 (by decide) (fun z7 ez7 => ?_)
    exact r_zret hx hb hr hK hP hS hk (by omega) dX8_isWord_51 (show P_X8_isWord_s1 σ0 a2 a3 a4 z7 σ0 from ⟨hR, hF, by omega⟩)
theorem A_X8_isWord_s1 (p : Program) (l : Launch) (e : Env) (s : State) (m : MethodId) (args : Array Value) (below : List Frame) (meth : Method) (c : Code) (D : va_G) (cA : Nat → ClassId) (ad : Nat → Nat) (σ0 : Nat → Nat → Int32) (a2 : Int32) (a3 : Int32) (a4 : Int32) (C : Cy p s m args meth c cX8_isWord 7 wsX8_isWord RX8 D cA ad (some .boolean)) (ha2 : 0 ≤ a2.toInt ∧ a2.toInt ≤ 5) (ha3 : 0 ≤ a3.toInt ∧ a3.toInt ≤ 899) (ha4 : 0 ≤ a4.toInt ∧ a4.toInt ≤ 940) : ∀ n : Nat, J_X8_isWord_s1_3 p l e s m args below meth c D cA ad σ0 a2 a3 a4 n ∧ J_X8_isWord_s1_32 p l e s m args below meth c D cA ad σ0 a2 a3 a4 n := by
  intro n
  induction n with
  | zero =>
    exact ⟨(by intro σ τ H locs x5 ls hR hF hP hS hc0 hl hm; exfalso; omega), (by intro σ τ H locs x5 w0 ls hR hF hP hS hc0 hc1 hl hm; exfalso; omega)⟩
  | succ n ih =>
    exact ⟨B_X8_isWord_s1_3 p l e s m args below meth c D cA ad σ0 a2 a3 a4 n C ha2 ha3 ha4 ih.1 ih.2, B_X8_isWord_s1_32 p l e s m args below meth c D cA ad σ0 a2 a3 a4 n C ha2 ha3 ha4 ih.1 ih.2⟩
set_option maxHeartbeats 4000000 in
theorem c_X8_isWord_s1 (l : Launch) (D : va_G) (cA : Nat → ClassId) (ad : Nat → Nat) (hI : Inj ad) (σ0 : Nat → Nat → Int32) (τ0 : Nat → Nat → Int64) (hR : Rg σ0) (a2 : Int32) (a3 : Int32) (a4 : Int32) (ha2 : 0 ≤ a2.toInt ∧ a2.toInt ≤ 5) (ha3 : 0 ≤ a3.toInt ∧ a3.toInt ≤ 899) (ha4 : 0 ≤ a4.toInt ∧ a4.toInt ≤ 940) : Met l yX8_isWord wsX8_isWord ({ frames := 4, cells := 0, slots := 0, locals := 85 } : Room) (WQc D cA ad [.ref (ad 1), .ref (ad 408), .int a2, .int a3, .int a4] σ0 τ0) (va_Qi (fun (r : Int32) (u : SS) => P_X8_isWord_s1 σ0 a2 a3 a4 r u.1) (WB D cA ad) (AA ad)) 0 0 (AA ad) := by
  refine Met.ofW (cc := cX8_isWord) (maxL := 7) (ret := (some .boolean)) (by decide) rfl ?_
  intro p e s m args below meth c s₁ B hml hv
  obtain ⟨rfl, hP, hK, hN⟩ := hv
  have C : Cy p s m _ meth c cX8_isWord 7 wsX8_isWord RX8 D cA ad (some .boolean) := ⟨B.exec, B.bytes, hml, findClass_of_methodNamed B.named, atoms_spec (ws := wsX8_isWord) B.pre, hK, B.notSynchronized, B.returns, hI, hN⟩
  have hl := lv_entry ([.ref (ad 1), .ref (ad 408), .int a2, .int a3, .int a4]) (n := 7) (Nat.le_of_ble_eq_true rfl)
  rw [lg_entry_eq]
  generalize (lg_sl ([.ref (ad 1), .ref (ad 408), .int a2, .int a3, .int a4]) ++ List.replicate (7 - (lg_sl ([.ref (ad 1), .ref (ad 408), .int a2, .int a3, .int a4])).length) Slot.unset).toArray = ls at hl ⊢
  have hl : lv_has ls 7 [(0, .ref (ad 1)), (1, .ref (ad 408)), (2, .int a2), (3, .int a3), (4, .int a4)] := hl
  have hS : va_S (AA ad) s.heap s.heap [] := va_S.rf
  have hF : Fr L_X8_isWord_s1 σ0 σ0 := Fr.rf
  have hA := A_X8_isWord_s1 p l e s m _ below meth c D cA ad σ0 a2 a3 a4 C ha2 ha3 ha4 55
  have K3 := hA.1
  have K32 := hA.2
  clear hA
  obtain ⟨hx, hb, _, hown, hts, _, hk, hr, _, _⟩ := C
  refine r_iconst hx hb dX8_isWord_0 (by decide) (fun z1 ez1 => ?_)
  refine lv_istore (lv' := [(5, .int z1), (0, .ref (ad 1)), (1, .ref (ad 408)), (2, .int a2), (3, .int a3), (4, .int a4)]) hx hb dX8_isWord_1 hl (by decide) rfl (fun ls hl => ?_)
  exact K3 σ0 τ0 s.heap [] z1 ls hR hF hP hS (by omega) (lv_sub hl [1, 2, 3, 4, 5, 0] rfl) (by omega)
