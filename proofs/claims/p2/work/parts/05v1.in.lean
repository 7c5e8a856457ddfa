theorem in_X10_readNeeds_10 : ∀ w ∈ u_ws RX10 TX10 5, w ∈ wsX10_readNeeds := by decide +kernel
theorem in_X10_readNeeds_9 : ∀ w ∈ u_ws RX9 TX9 14, w ∈ wsX10_readNeeds := by decide +kernel
theorem lk_X10_readNeeds_15 : Cond.fieldLink RX10 15 "CuckooShares$ValleyText" "into" "LCuckooShares$Valley;" ∈ wsX10_readNeeds := by decide +kernel
abbrev L_X10_readNeeds : List Rc := [(1, 1, 7, 10), (1, 1, 12, 14), (108, 115, 1, 5)]
def P_X10_readNeeds (σ0 : Nat → Nat → Int32)  (r : Int32) (σ : Nat → Nat → Int32) : Prop := Rg σ ∧ Fr L_X10_readNeeds σ0 σ ∧ (0 ≤ r.toInt ∧ r.toInt ≤ 1)
set_option maxHeartbeats 4000000 in
theorem c_X10_readNeeds (l : Launch) (D : va_G) (cA : Nat → ClassId) (ad : Nat → Nat) (hI : Inj ad) (σ0 : Nat → Nat → Int32) (τ0 : Nat → Nat → Int64) (hR : Rg σ0)   : Met l yX10_readNeeds wsX10_readNeeds ({ frames := 4, cells := 0, slots := 0, locals := 86 } : Room) (WQc D cA ad [.ref (ad 6)] σ0 τ0) (va_Qi (fun (r : Int32) (u : SS) => P_X10_readNeeds σ0 r u.1) (WB D cA ad) (AA ad)) 0 0 (AA ad) := by
  refine Met.ofW (cc := cX10_readNeeds) (maxL := 2) (ret := (some .boolean)) (by decide) rfl ?_
  intro p e s m args below meth c s₁ B hml hv
  obtain ⟨rfl, hP, hK, hN⟩ := hv
  have C : Cy p s m _ meth c cX10_readNeeds 2 wsX10_readNeeds RX10 D cA ad (some .boolean) := ⟨B.exec, B.bytes, hml, findClass_of_methodNamed B.named, atoms_spec (ws := wsX10_readNeeds) B.pre, hK, B.notSynchronized, B.returns, hI, hN⟩
  have hl := lv_entry ([.ref (ad 6)]) (n := 2) (Nat.le_of_ble_eq_true rfl)
  rw [lg_entry_eq]
  generalize (lg_sl ([.ref (ad 6)]) ++ List.replicate (2 - (lg_sl ([.ref (ad 6)])).length) Slot.unset).toArray = ls at hl ⊢
  have hl : lv_has ls 2 [(0, .ref (ad 6))] := hl
  have hS : va_S (AA ad) s.heap s.heap [] := va_S.rf
  have hF : Fr L_X10_readNeeds σ0 σ0 := Fr.rf
  obtain ⟨hx, hb, _, hown, hts, _, hk, hr, _, _⟩ := C
  refine lv_aload_n hx hb dX10_readNeeds_0 rfl (lv_at hl 0 rfl) ?_
  refine r_iconst hx hb dX10_readNeeds_1 (by decide) (fun z1 ez1 => ?_)
  refine r_iconst hx hb dX10_readNeeds_2 (by decide) (fun z2 ez2 => ?_)
  refine r_cVi (k := 6) (As := [.int z1, .int z2]) (rest := []) ⟨hx, hb, hml, hown, hts⟩ hK hP hN hS (c_X10_takeManOnce l D cA ad hI σ0 τ0 hR z1 z2 ⟨by omega, by omega⟩ ⟨by omega, by omega⟩) (cwV 2 hts gX10_readNeeds_X10_takeManOnce rfl rfl rfl (by decide +kernel) ⟨by decide, by decide⟩) (rv_VText hK hP (by decide) (by decide)) rfl hl.1 rfl (Nat.le_of_ble_eq_true rfl) dX10_readNeeds_3 (Nat.zero_le _) (Nat.zero_le _) (fun r3 u3 H3 locs3 hp3 hP hS => ?_)
  obtain ⟨σ3, τ3⟩ := u3
  obtain ⟨hR, f3, hq3⟩ : P_X10_takeManOnce σ0 z1 z2 r3 σ3 := hp3
  have hP : va_P D vwCl (gw cA ad σ3 τ3) H3 := hP
  have hF := hF.step f3 (by decide)
  refine lv_istore_n (lv' := [(1, .int r3), (0, .ref (ad 6))]) hx hb dX10_readNeeds_6 rfl hl (by decide) rfl (fun ls hl => ?_)
  refine lv_iload_n hx hb dX10_readNeeds_7 rfl (lv_at hl 0 rfl) ?_
  refine r_iconst hx hb dX10_readNeeds_8 (by decide) (fun z4 ez4 => ?_)
  refine r_icmp_eq (tgt := 37) hx hb dX10_readNeeds_9 (by decide) (fun c5 => ?_) (fun c5 => ?_)
  · refine r_iconst hx hb dX10_readNeeds_37 (by decide) (fun z6 ez6 => ?_)
    exact r_zret hx hb hr hK hP hS hk (by omega) dX10_readNeeds_38 (show P_X10_readNeeds σ0 z6 σ3 from ⟨hR, hF, ⟨by omega, by omega⟩⟩)
  · refine lv_aload_n hx hb dX10_readNeeds_12 rfl (lv_at hl 1 rfl) ?_
    refine lv_aload_n hx hb dX10_readNeeds_13 rfl (lv_at hl 1 rfl) ?_
    refine fg_10_1 (k := 6) hx hb hts in_X10_readNeeds_10 hown hK hP (by decide) (by decide) (hts _ lk_X10_readNeeds_15) dX10_readNeeds_14 ?_
    refine fgN_9_10 (k := 3) hx hb hts in_X10_readNeeds_9 hown hK hP (by decide) (by decide) (hN.use nw_10_144) dX10_readNeeds_17 ?_
    refine lv_iload_n hx hb dX10_readNeeds_20 rfl (lv_at hl 0 rfl) ?_
    obtain ⟨j7, ej7⟩ : ∃ j : Nat, r3.toInt = (j : Int) := ⟨_, ti_nat (by omega)⟩
    refine ad_manA (k := 53) (j := j7) hx hb hK hP (by decide) (by decide) ej7 (by omega) dX10_readNeeds_21 ?_
    refine r_iconst hx hb dX10_readNeeds_22 (by decide) (fun z8 ez8 => ?_)
    refine r_iconst hx hb dX10_readNeeds_23 (by decide) (fun z9 ez9 => ?_)
    refine r_sipush hx hb dX10_readNeeds_24 (by decide) (fun z10 ez10 => ?_)
    refine r_cVi (k := 6) (As := [.ref (ad (108 + j7)), .int z8, .int z9, .int z10]) (rest := []) ⟨hx, hb, hml, hown, hts⟩ hK hP hN hS (c_X10_readInto_manR l D cA ad hI σ3 τ3 hR (108 + j7) z8 z9 z10 ⟨by omega, by omega⟩ ⟨by omega, by omega⟩ ⟨by omega, by omega⟩ ⟨by omega, by omega⟩) (cwV 4 hts gX10_readNeeds_X10_readInto rfl rfl rfl (by decide +kernel) ⟨by decide, by decide⟩) (rv_VText hK hP (by decide) (by decide)) rfl hl.1 rfl (Nat.le_of_ble_eq_true rfl) dX10_readNeeds_27 (Nat.zero_le _) (Nat.zero_le _) (fun r11 u11 H11 locs11 hp11 hP hS => ?_)
    obtain ⟨σ11, τ11⟩ := u11
    obtain ⟨hR, f11, hq11⟩ : P_X10_readInto_manR σ3 (108 + j7) z8 z9 z10 r11 σ11 := hp11
    have hP : va_P D vwCl (gw cA ad σ11 τ11) H11 := hP
    have hF := hF.step f11 (by decide)
    refine r_if_eq (tgt := 37) hx hb dX10_readNeeds_30 (by decide) (fun c12 => ?_) (fun c12 => ?_)
    · refine r_iconst hx hb dX10_readNeeds_37 (by decide) (fun z13 ez13 => ?_)
      exact r_zret hx hb hr hK hP hS hk (by omega) dX10_readNeeds_38 (show P_X10_readNeeds σ0 z13 σ11 from ⟨hR, hF, ⟨by omega, by omega⟩⟩)
    · refine r_iconst hx hb dX10_readNeeds_33 (by decide) (fun z14 ez14 => ?_)
      refine lv_goto (tgt := 38) hx hb dX10_readNeeds_34 (by decide) ?_
      exact r_zret hx hb hr hK hP hS hk (by omega) dX10_readNeeds_38 (show P_X10_readNeeds σ0 z14 σ11 from ⟨hR, hF, ⟨by omega, by omega⟩⟩)
theorem in_X10_readOld_10 : ∀ w ∈ u_ws RX10 TX10 5, w ∈ wsX10_readOld := by decide +kernel
theorem in_X10_readOld_9 : ∀ w ∈ u_ws RX9 TX9 14, w ∈ wsX10_readOld := by decide +kernel
theorem lk_X10_readOld_15 : Cond.fieldLink RX10 15 "CuckooShares$ValleyText" "into" "LCuckooShares$Valley;" ∈ wsX10_readOld := by decide +kernel
abbrev L_X10_readOld : List Rc := [(1, 1, 7, 10), (1, 1, 13, 14), (108, 115, 3, 3)]
def P_X10_readOld (σ0 : Nat → Nat → Int32)  (r : Int32) (σ : Nat → Nat → Int32) : Prop := Rg σ ∧ Fr L_X10_readOld σ0 σ ∧ (0 ≤ r.toInt ∧ r.toInt ≤ 1)
set_option maxHeartbeats 4000000 in
theorem c_X10_readOld (l : Launch) (D : va_G) (cA : Nat → ClassId) (ad : Nat → Nat) (hI : Inj ad) (σ0 : Nat → Nat → Int32) (τ0 : Nat → Nat → Int64) (hR : Rg σ0)   : Met l yX10_readOld wsX10_readOld ({ frames := 4, cells := 0, slots := 0, locals := 86 } : Room) (WQc D cA ad [.ref (ad 6)] σ0 τ0) (va_Qi (fun (r : Int32) (u : SS) => P_X10_readOld σ0 r u.1) (WB D cA ad) (AA ad)) 0 0 (AA ad) := by
  refine Met.ofW (cc := cX10_readOld) (maxL := 2) (ret := (some .boolean)) (by decide) rfl ?_
  intro p e s m args below meth c s₁ B hml hv
  obtain ⟨rfl, hP, hK, hN⟩ := hv
  have C : Cy p s m _ meth c cX10_readOld 2 wsX10_readOld RX10 D cA ad (some .boolean) := ⟨B.exec, B.bytes, hml, findClass_of_methodNamed B.named, atoms_spec (ws := wsX10_readOld) B.pre, hK, B.notSynchronized, B.returns, hI, hN⟩
  have hl := lv_entry ([.ref (ad 6)]) (n := 2) (Nat.le_of_ble_eq_true rfl)
  rw [lg_entry_eq]
  generalize (lg_sl ([.ref (ad 6)]) ++ List.replicate (2 - (lg_sl ([.ref (ad 6)])).length) Slot.unset).toArray = ls at hl ⊢
  have hl : lv_has ls 2 [(0, .ref (ad 6))] := hl
  have hS : va_S (AA ad) s.heap s.heap [] := va_S.rf
  have hF : Fr L_X10_readOld σ0 σ0 := Fr.rf
  obtain ⟨hx, hb, _, hown, hts, _, hk, hr, _, _⟩ := C
  refine lv_aload_n hx hb dX10_readOld_0 rfl (lv_at hl 0 rfl) ?_
  refine r_iconst hx hb dX10_readOld_1 (by decide) (fun z1 ez1 => ?_)
  refine r_iconst hx hb dX10_readOld_2 (by decide) (fun z2 ez2 => ?_)
  refine r_cVi (k := 6) (As := [.int z1, .int z2]) (rest := []) ⟨hx, hb, hml, hown, hts⟩ hK hP hN hS (c_X10_takeManOnce l D cA ad hI σ0 τ0 hR z1 z2 ⟨by omega, by omega⟩ ⟨by omega, by omega⟩) (cwV 2 hts gX10_readOld_X10_takeManOnce rfl rfl rfl (by decide +kernel) ⟨by decide, by decide⟩) (rv_VText hK hP (by decide) (by decide)) rfl hl.1 rfl (Nat.le_of_ble_eq_true rfl) dX10_readOld_3 (Nat.zero_le _) (Nat.zero_le _) (fun r3 u3 H3 locs3 hp3 hP hS => ?_)
  obtain ⟨σ3, τ3⟩ := u3
  obtain ⟨hR, f3, hq3⟩ : P_X10_takeManOnce σ0 z1 z2 r3 σ3 := hp3
  have hP : va_P D vwCl (gw cA ad σ3 τ3) H3 := hP
  have hF := hF.step f3 (by decide)
  refine lv_istore_n (lv' := [(1, .int r3), (0, .ref (ad 6))]) hx hb dX10_readOld_6 rfl hl (by decide) rfl (fun ls hl => ?_)
  refine lv_iload_n hx hb dX10_readOld_7 rfl (lv_at hl 0 rfl) ?_
  refine r_iconst hx hb dX10_readOld_8 (by decide) (fun z4 ez4 => ?_)
  refine r_icmp_ne (tgt := 14) hx hb dX10_readOld_9 (by decide) (fun c5 => ?_) (fun c5 => ?_)
  · refine lv_aload_n hx hb dX10_readOld_14 rfl (lv_at hl 1 rfl) ?_
    refine fg_10_1 (k := 6) hx hb hts in_X10_readOld_10 hown hK hP (by decide) (by decide) (hts _ lk_X10_readOld_15) dX10_readOld_15 ?_
    refine fgN_9_10 (k := 3) hx hb hts in_X10_readOld_9 hown hK hP (by decide) (by decide) (hN.use nw_10_144) dX10_readOld_18 ?_
    refine lv_iload_n hx hb dX10_readOld_21 rfl (lv_at hl 0 rfl) ?_
    obtain ⟨j6, ej6⟩ : ∃ j : Nat, r3.toInt = (j : Int) := ⟨_, ti_nat (by omega)⟩
    refine ad_manA (k := 53) (j := j6) hx hb hK hP (by decide) (by decide) ej6 (by omega) dX10_readOld_22 ?_
    refine r_iconst hx hb dX10_readOld_23 (by decide) (fun z7 ez7 => ?_)
    refine r_iconst hx hb dX10_readOld_24 (by decide) (fun z8 ez8 => ?_)
    refine as_manR (k := 108 + j6) (j := 3) hx hb hK hP hI hR hS (by omega) (by omega) (by omega) (by omega) dX10_readOld_25 (fun σ9 H9 locs9 u9 v9 hR hP hS => ?_)
    have hF := hF.puts u9 2 rfl (by omega) (by omega) (by decide) (by decide)
    refine r_iconst hx hb dX10_readOld_26 (by decide) (fun z10 ez10 => ?_)
    exact r_zret hx hb hr hK hP hS hk (by omega) dX10_readOld_27 (show P_X10_readOld σ0 z10 σ9 from ⟨hR, hF, ⟨by omega, by omega⟩⟩)
  · refine r_iconst hx hb dX10_readOld_12 (by decide) (fun z11 ez11 => ?_)
    exact r_zret hx hb hr hK hP hS hk (by omega) dX10_readOld_13 (show P_X10_readOld σ0 z11 σ3 from ⟨hR, hF, ⟨by omega, by omega⟩⟩)
theorem in_X10_takeOnce_10 : ∀ w ∈ u_ws RX10 TX10 5, w ∈ wsX10_takeOnce := by decide +kernel
theorem in_X10_takeOnce_8 : ∀ w ∈ u_ws RX8 TX8 15, w ∈ wsX10_takeOnce := by decide +kernel
theorem lk_X10_takeOnce_28 : Cond.fieldLink RX10 28 "CuckooShares$ValleyText" "wordsTold" "I" ∈ wsX10_takeOnce := by decide +kernel
theorem lk_X10_takeOnce_9 : Cond.fieldLink RX10 9 "CuckooShares$ValleyText" "tape" "LCuckooShares$Tape;" ∈ wsX10_takeOnce := by decide +kernel
abbrev L_X10_takeOnce : List Rc := [(6, 6, 3, 3), (1, 1, 7, 10), (1, 1, 13, 14)]
def P_X10_takeOnce (σ0 : Nat → Nat → Int32)  (r : Int32) (σ : Nat → Nat → Int32) : Prop := Rg σ ∧ Fr L_X10_takeOnce σ0 σ ∧ (0 ≤ r.toInt ∧ r.toInt ≤ 1)
set_option maxHeartbeats 4000000 in
theorem c_X10_takeOnce (l : Launch) (D : va_G) (cA : Nat → ClassId) (ad : Nat → Nat) (hI : Inj ad) (σ0 : Nat → Nat → Int32) (τ0 : Nat → Nat → Int64) (hR : Rg σ0)   : Met l yX10_takeOnce wsX10_takeOnce ({ frames := 1, cells := 0, slots := 0, locals := 21 } : Room) (WQc D cA ad [.ref (ad 6)] σ0 τ0) (va_Qi (fun (r : Int32) (u : SS) => P_X10_takeOnce σ0 r u.1) (WB D cA ad) (AA ad)) 0 0 (AA ad) := by
  refine Met.ofW (cc := cX10_takeOnce) (maxL := 2) (ret := (some .boolean)) (by decide) rfl ?_
  intro p e s m args below meth c s₁ B hml hv
  obtain ⟨rfl, hP, hK, hN⟩ := hv
  have C : Cy p s m _ meth c cX10_takeOnce 2 wsX10_takeOnce RX10 D cA ad (some .boolean) := ⟨B.exec, B.bytes, hml, findClass_of_methodNamed B.named, atoms_spec (ws := wsX10_takeOnce) B.pre, hK, B.notSynchronized, B.returns, hI, hN⟩
  have hl := lv_entry ([.ref (ad 6)]) (n := 2) (Nat.le_of_ble_eq_true rfl)
  rw [lg_entry_eq]
  generalize (lg_sl ([.ref (ad 6)]) ++ List.replicate (2 - (lg_sl ([.ref (ad 6)])).length) Slot.unset).toArray = ls at hl ⊢
  have hl : lv_has ls 2 [(0, .ref (ad 6))] := hl
  have hS : va_S (AA ad) s.heap s.heap [] := va_S.rf
  have hF : Fr L_X10_takeOnce σ0 σ0 := Fr.rf
  obtain ⟨hx, hb, _, hown, hts, _, hk, hr, _, _⟩ := C
  refine r_iconst hx hb dX10_takeOnce_0 (by decide) (fun z1 ez1 => ?_)
  refine lv_aload_n hx hb dX10_takeOnce_1 rfl (lv_at hl 0 rfl) ?_
  refine fg_10_0 (k := 6) hx hb hts in_X10_takeOnce_10 hown hK hP (by decide) (by decide) (hts _ lk_X10_takeOnce_9) dX10_takeOnce_2 ?_
  refine fgN_8_9 (k := 1) hx hb hts in_X10_takeOnce_8 hown hK hP (by decide) (by decide) (hN.use nw_10_34) dX10_takeOnce_5 ?_
  refine r_ishlU hx hb dX10_takeOnce_8 (fun z2 => ?_)
  refine lv_istore_n (lv' := [(1, .int z2), (0, .ref (ad 6))]) hx hb dX10_takeOnce_9 rfl hl (by decide) rfl (fun ls hl => ?_)
  refine lv_aload_n hx hb dX10_takeOnce_10 rfl (lv_at hl 1 rfl) ?_
  refine fg_10_3 (k := 6) hx hb hts in_X10_takeOnce_10 hown hK hP (by decide) (by decide) (hts _ lk_X10_takeOnce_28) dX10_takeOnce_11 ?_
  refine lv_iload_n hx hb dX10_takeOnce_14 rfl (lv_at hl 0 rfl) ?_
  refine r_iandU hx hb dX10_takeOnce_15 (fun z3 => ?_)
  refine r_if_eq (tgt := 28) hx hb dX10_takeOnce_16 (by decide) (fun c4 => ?_) (fun c4 => ?_)
  · refine lv_aload_n hx hb dX10_takeOnce_28 rfl (lv_at hl 1 rfl) ?_
    refine lv_dup hx hb dX10_takeOnce_29 rfl ?_
    refine fg_10_3 (k := 6) hx hb hts in_X10_takeOnce_10 hown hK hP (by decide) (by decide) (hts _ lk_X10_takeOnce_28) dX10_takeOnce_30 ?_
    refine lv_iload_n hx hb dX10_takeOnce_33 rfl (lv_at hl 0 rfl) ?_
    refine r_iorU hx hb dX10_takeOnce_34 (fun z5 => ?_)
    refine fp_10_3 (k := 6) hx hb hts in_X10_takeOnce_10 hown hK hP (by decide) (by decide) (hts _ lk_X10_takeOnce_28) hI hR hS dX10_takeOnce_35 (fun σ6 H6 locs6 u6 v6 hR hP hS => ?_)
    have hF := hF.puts u6 0 rfl (by decide) (by decide) (by decide) (by decide)
    refine lv_aload_n hx hb dX10_takeOnce_38 rfl (lv_at hl 1 rfl) ?_
    refine fg_10_0 (k := 6) hx hb hts in_X10_takeOnce_10 hown hK hP (by decide) (by decide) (hts _ lk_X10_takeOnce_9) dX10_takeOnce_39 ?_
    refine r_cVv (k := 1) (As := []) (rest := []) ⟨hx, hb, hml, hown, hts⟩ hK hP hN hS (c_X8_next l D cA ad hI σ6 τ0 hR) (cwV 0 hts gX10_takeOnce_X8_next rfl rfl rfl (by decide +kernel) ⟨by decide, by decide⟩) (rv_Tape hK hP (by decide) (by decide)) rfl hl.1 rfl (Nat.le_of_ble_eq_true rfl) dX10_takeOnce_42 (Nat.zero_le _) (Nat.zero_le _) (fun u7 H7 locs7 hp7 hP hS => ?_)
    obtain ⟨σ7, τ7⟩ := u7
    obtain ⟨hR, f7⟩ : P_X8_next σ6 σ7 := hp7
    have hP : va_P D vwCl (gw cA ad σ7 τ7) H7 := hP
    have hF := hF.step f7 (by decide)
    have t8 : (σ7 6 3).toInt = (σ6 6 3).toInt := congrArg Int32.toInt (f7.at 6 3 (by decide))
    refine r_iconst hx hb dX10_takeOnce_45 (by decide) (fun z9 ez9 => ?_)
    exact r_zret hx hb hr hK hP hS hk (by omega) dX10_takeOnce_46 (show P_X10_takeOnce σ0 z9 σ7 from ⟨hR, hF, ⟨by omega, by omega⟩⟩)
  · refine lv_aload_n hx hb dX10_takeOnce_19 rfl (lv_at hl 1 rfl) ?_
    refine fg_10_0 (k := 6) hx hb hts in_X10_takeOnce_10 hown hK hP (by decide) (by decide) (hts _ lk_X10_takeOnce_9) dX10_takeOnce_20 ?_
    refine r_iconst hx hb dX10_takeOnce_23 (by decide) (fun z10 ez10 => ?_)
    refine r_cVi (k := 1) (As := [.int z10]) (rest := []) ⟨hx, hb, hml, hown, hts⟩ hK hP hN hS (c_X8_blame l D cA ad hI σ0 τ0 hR z10 ⟨by omega, by omega⟩) (cwV 1 hts gX10_takeOnce_X8_blame rfl rfl rfl (by decide +kernel) ⟨by decide, by decide⟩) (rv_Tape hK hP (by decide) (by decide)) rfl hl.1 rfl (Nat.le_of_ble_eq_true rfl) dX10_takeOnce_24 (Nat.zero_le _) (Nat.zero_le _) (fun r11 u11 H11 locs11 hp11 hP hS => ?_)
    obtain ⟨σ11, τ11⟩ := u11
    obtain ⟨hR, f11, hq11⟩ : P_X8_blame σ0 z10 r11 σ11 := hp11
    have hP : va_P D vwCl (gw cA ad σ11 τ11) H11 := hP
    have hF := hF.step f11 (by decide)
    have t12 : (σ11 6 3).toInt = (σ0 6 3).toInt := congrArg Int32.toInt (f11.at 6 3 (by decide))
    exact r_zret hx hb hr hK hP hS hk (by omega) dX10_takeOnce_27 (show P_X10_takeOnce σ0 r11 σ11 from ⟨hR, hF, ⟨by omega, by omega⟩⟩)
theorem in_X10_readRidge_10 : ∀ w ∈ u_ws RX10 TX10 5, w ∈ wsX10_readRidge := by decide +kernel
theorem in_X10_readRidge_8 : ∀ w ∈ u_ws RX8 TX8 15, w ∈ wsX10_readRidge := by decide +kernel
theorem in_X10_readRidge_9 : ∀ w ∈ u_ws RX9 TX9 14, w ∈ wsX10_readRidge := by decide +kernel
theorem lk_X10_readRidge_15 : Cond.fieldLink RX10 15 "CuckooShares$ValleyText" "into" "LCuckooShares$Valley;" ∈ wsX10_readRidge := by decide +kernel
theorem lk_X10_readRidge_9 : Cond.fieldLink RX10 9 "CuckooShares$ValleyText" "tape" "LCuckooShares$Tape;" ∈ wsX10_readRidge := by decide +kernel
abbrev L_X10_readRidge : List Rc := [(6, 6, 3, 3), (1, 1, 7, 10), (1, 1, 12, 14), (3, 3, 0, 0)]
def P_X10_readRidge (σ0 : Nat → Nat → Int32)  (r : Int32) (σ : Nat → Nat → Int32) : Prop := Rg σ ∧ Fr L_X10_readRidge σ0 σ ∧ (0 ≤ r.toInt ∧ r.toInt ≤ 1)
set_option maxHeartbeats 4000000 in
theorem c_X10_readRidge (l : Launch) (D : va_G) (cA : Nat → ClassId) (ad : Nat → Nat) (hI : Inj ad) (σ0 : Nat → Nat → Int32) (τ0 : Nat → Nat → Int64) (hR : Rg σ0)   : Met l yX10_readRidge wsX10_readRidge ({ frames := 2, cells := 0, slots := 0, locals := 43 } : Room) (WQc D cA ad [.ref (ad 6)] σ0 τ0) (va_Qi (fun (r : Int32) (u : SS) => P_X10_readRidge σ0 r u.1) (WB D cA ad) (AA ad)) 0 0 (AA ad) := by
  refine Met.ofW (cc := cX10_readRidge) (maxL := 1) (ret := (some .boolean)) (by decide) rfl ?_
  intro p e s m args below meth c s₁ B hml hv
  obtain ⟨rfl, hP, hK, hN⟩ := hv
  have C : Cy p s m _ meth c cX10_readRidge 1 wsX10_readRidge RX10 D cA ad (some .boolean) := ⟨B.exec, B.bytes, hml, findClass_of_methodNamed B.named, atoms_spec (ws := wsX10_readRidge) B.pre, hK, B.notSynchronized, B.returns, hI, hN⟩
  have hl := lv_entry ([.ref (ad 6)]) (n := 1) (Nat.le_of_ble_eq_true rfl)
  rw [lg_entry_eq]
  generalize (lg_sl ([.ref (ad 6)]) ++ List.replicate (1 - (lg_sl ([.ref (ad 6)])).length) Slot.unset).toArray = ls at hl ⊢
  have hl : lv_has ls 1 [(0, .ref (ad 6))] := hl
  have hS : va_S (AA ad) s.heap s.heap [] := va_S.rf
  have hF : Fr L_X10_readRidge σ0 σ0 := Fr.rf
  obtain ⟨hx, hb, _, hown, hts, _, hk, hr, _, _⟩ := C
  refine lv_aload_n hx hb dX10_readRidge_0 rfl (lv_at hl 0 rfl) ?_
  refine r_cVi (k := 6) (As := []) (rest := []) ⟨hx, hb, hml, hown, hts⟩ hK hP hN hS (c_X10_takeOnce l D cA ad hI σ0 τ0 hR) (cwV 0 hts gX10_readRidge_X10_takeOnce rfl rfl rfl (by decide +kernel) ⟨by decide, by decide⟩) (rv_VText hK hP (by decide) (by decide)) rfl hl.1 rfl (Nat.le_of_ble_eq_true rfl) dX10_readRidge_1 (Nat.zero_le _) (Nat.zero_le _) (fun r1 u1 H1 locs1 hp1 hP hS => ?_)
  obtain ⟨σ1, τ1⟩ := u1
  obtain ⟨hR, f1, hq1⟩ : P_X10_takeOnce σ0 r1 σ1 := hp1
  have hP : va_P D vwCl (gw cA ad σ1 τ1) H1 := hP
  have hF := hF.step f1 (by decide)
  refine r_if_eq (tgt := 20) hx hb dX10_readRidge_4 (by decide) (fun c2 => ?_) (fun c2 => ?_)
  · refine r_iconst hx hb dX10_readRidge_20 (by decide) (fun z3 ez3 => ?_)
    exact r_zret hx hb hr hK hP hS hk (by omega) dX10_readRidge_21 (show P_X10_readRidge σ0 z3 σ1 from ⟨hR, hF, ⟨by omega, by omega⟩⟩)
  · refine lv_aload_n hx hb dX10_readRidge_7 rfl (lv_at hl 0 rfl) ?_
    refine fg_10_0 (k := 6) hx hb hts in_X10_readRidge_10 hown hK hP (by decide) (by decide) (hts _ lk_X10_readRidge_9) dX10_readRidge_8 ?_
    refine r_iconst hx hb dX10_readRidge_11 (by decide) (fun z4 ez4 => ?_)
    refine r_bipush hx hb dX10_readRidge_12 (by decide) (fun z5 ez5 => ?_)
    refine r_cVi (k := 1) (As := [.int z4, .int z5]) (rest := []) ⟨hx, hb, hml, hown, hts⟩ hK hP hN hS (c_X8_takeNumber l D cA ad hI σ1 τ1 hR z4 z5 ⟨by omega, by omega⟩) (cwV 2 hts gX10_readRidge_X8_takeNumber rfl rfl rfl (by decide +kernel) ⟨by decide, by decide⟩) (rv_Tape hK hP (by decide) (by decide)) rfl hl.1 rfl (Nat.le_of_ble_eq_true rfl) dX10_readRidge_14 (Nat.zero_le _) (Nat.zero_le _) (fun r6 u6 H6 locs6 hp6 hP hS => ?_)
    obtain ⟨σ6, τ6⟩ := u6
    obtain ⟨hR, f6, hq6⟩ : P_X8_takeNumber σ1 z4 z5 r6 σ6 := hp6
    have hP : va_P D vwCl (gw cA ad σ6 τ6) H6 := hP
    have hF := hF.step f6 (by decide)
    refine r_if_ne (tgt := 22) hx hb dX10_readRidge_17 (by decide) (fun c7 => ?_) (fun c7 => ?_)
    · refine lv_aload_n hx hb dX10_readRidge_22 rfl (lv_at hl 0 rfl) ?_
      refine fg_10_1 (k := 6) hx hb hts in_X10_readRidge_10 hown hK hP (by decide) (by decide) (hts _ lk_X10_readRidge_15) dX10_readRidge_23 ?_
      refine lv_aload_n hx hb dX10_readRidge_26 rfl (lv_at hl 0 rfl) ?_
      refine fg_10_0 (k := 6) hx hb hts in_X10_readRidge_10 hown hK hP (by decide) (by decide) (hts _ lk_X10_readRidge_9) dX10_readRidge_27 ?_
      refine fgN_8_12 (k := 1) hx hb hts in_X10_readRidge_8 hown hK hP (by decide) (by decide) (hN.use nw_10_93) dX10_readRidge_30 ?_
      refine fpN_9_0 (k := 3) hx hb hts in_X10_readRidge_9 hown hK hP (by decide) (by decide) (hN.use nw_10_96) hI hR hS dX10_readRidge_33 (fun σ8 H8 locs8 u8 v8 hR hP hS => ?_)
      have hF := hF.puts u8 3 rfl (by decide) (by decide) (by decide) (by decide)
      refine r_iconst hx hb dX10_readRidge_36 (by decide) (fun z9 ez9 => ?_)
      exact r_zret hx hb hr hK hP hS hk (by omega) dX10_readRidge_37 (show P_X10_readRidge σ0 z9 σ8 from ⟨hR, hF, ⟨by omega, by omega⟩⟩)
    · refine r_iconst hx hb dX10_readRidge_20 (by decide) (fun z10 ez10 => ?_)
      exact r_zret hx hb hr hK hP hS hk (by omega) dX10_readRidge_21 (show P_X10_readRidge σ0 z10 σ6 from ⟨hR, hF, ⟨by omega, by omega⟩⟩)
theorem in_X10_readWheat_10 : ∀ w ∈ u_ws RX10 TX10 5, w ∈ wsX10_readWheat := by decide +kernel
theorem in_X10_readWheat_8 : ∀ w ∈ u_ws RX8 TX8 15, w ∈ wsX10_readWheat := by decide +kernel
theorem in_X10_readWheat_9 : ∀ w ∈ u_ws RX9 TX9 14, w ∈ wsX10_readWheat := by decide +kernel
theorem lk_X10_readWheat_15 : Cond.fieldLink RX10 15 "CuckooShares$ValleyText" "into" "LCuckooShares$Valley;" ∈ wsX10_readWheat := by decide +kernel
theorem lk_X10_readWheat_9 : Cond.fieldLink RX10 9 "CuckooShares$ValleyText" "tape" "LCuckooShares$Tape;" ∈ wsX10_readWheat := by decide +kernel
abbrev L_X10_readWheat : List Rc := [(6, 6, 3, 3), (1, 1, 7, 10), (1, 1, 12, 14), (3, 3, 1, 1)]
def P_X10_readWheat (σ0 : Nat → Nat → Int32)  (r : Int32) (σ : Nat → Nat → Int32) : Prop := Rg σ ∧ Fr L_X10_readWheat σ0 σ ∧ (0 ≤ r.toInt ∧ r.toInt ≤ 1)
set_option maxHeartbeats 4000000 in
theorem c_X10_readWheat (l : Launch) (D : va_G) (cA : Nat → ClassId) (ad : Nat → Nat) (hI : Inj ad) (σ0 : Nat → Nat → Int32) (τ0 : Nat → Nat → Int64) (hR : Rg σ0)   : Met l yX10_readWheat wsX10_readWheat ({ frames := 2, cells := 0, slots := 0, locals := 43 } : Room) (WQc D cA ad [.ref (ad 6)] σ0 τ0) (va_Qi (fun (r : Int32) (u : SS) => P_X10_readWheat σ0 r u.1) (WB D cA ad) (AA ad)) 0 0 (AA ad) := by
  refine Met.ofW (cc := cX10_readWheat) (maxL := 1) (ret := (some .boolean)) (by decide) rfl ?_
  intro p e s m args below meth c s₁ B hml hv
  obtain ⟨rfl, hP, hK, hN⟩ := hv
  have C : Cy p s m _ meth c cX10_readWheat 1 wsX10_readWheat RX10 D cA ad (some .boolean) := ⟨B.exec, B.bytes, hml, findClass_of_methodNamed B.named, atoms_spec (ws := wsX10_readWheat) B.pre, hK, B.notSynchronized, B.returns, hI, hN⟩
  have hl := lv_entry ([.ref (ad 6)]) (n := 1) (Nat.le_of_ble_eq_true rfl)
  rw [lg_entry_eq]
  generalize (lg_sl ([.ref (ad 6)]) ++ List.replicate (1 - (lg_sl ([.ref (ad 6)])).length) Slot.unset).toArray = ls at hl ⊢
  have hl : lv_has ls 1 [(0, .ref (ad 6))] := hl
  have hS : va_S (AA ad) s.heap s.heap [] := va_S.rf
  have hF : Fr L_X10_readWheat σ0 σ0 := Fr.rf
  obtain ⟨hx, hb, _, hown, hts, _, hk, hr, _, _⟩ := C
  refine lv_aload_n hx hb dX10_readWheat_0 rfl (lv_at hl 0 rfl) ?_
  refine r_cVi (k := 6) (As := []) (rest := []) ⟨hx, hb, hml, hown, hts⟩ hK hP hN hS (c_X10_takeOnce l D cA ad hI σ0 τ0 hR) (cwV 0 hts gX10_readWheat_X10_takeOnce rfl rfl rfl (by decide +kernel) ⟨by decide, by decide⟩) (rv_VText hK hP (by decide) (by decide)) rfl hl.1 rfl (Nat.le_of_ble_eq_true rfl) dX10_readWheat_1 (Nat.zero_le _) (Nat.zero_le _) (fun r1 u1 H1 locs1 hp1 hP hS => ?_)
  obtain ⟨σ1, τ1⟩ := u1
  obtain ⟨hR, f1, hq1⟩ : P_X10_takeOnce σ0 r1 σ1 := hp1
  have hP : va_P D vwCl (gw cA ad σ1 τ1) H1 := hP
  have hF := hF.step f1 (by decide)
  refine r_if_eq (tgt := 21) hx hb dX10_readWheat_4 (by decide) (fun c2 => ?_) (fun c2 => ?_)
  · refine r_iconst hx hb dX10_readWheat_21 (by decide) (fun z3 ez3 => ?_)
    exact r_zret hx hb hr hK hP hS hk (by omega) dX10_readWheat_22 (show P_X10_readWheat σ0 z3 σ1 from ⟨hR, hF, ⟨by omega, by omega⟩⟩)
  · refine lv_aload_n hx hb dX10_readWheat_7 rfl (lv_at hl 0 rfl) ?_
    refine fg_10_0 (k := 6) hx hb hts in_X10_readWheat_10 hown hK hP (by decide) (by decide) (hts _ lk_X10_readWheat_9) dX10_readWheat_8 ?_
    refine r_iconst hx hb dX10_readWheat_11 (by decide) (fun z4 ez4 => ?_)
    refine r_sipush hx hb dX10_readWheat_12 (by decide) (fun z5 ez5 => ?_)
    refine r_cVi (k := 1) (As := [.int z4, .int z5]) (rest := []) ⟨hx, hb, hml, hown, hts⟩ hK hP hN hS (c_X8_takeNumber l D cA ad hI σ1 τ1 hR z4 z5 ⟨by omega, by omega⟩) (cwV 2 hts gX10_readWheat_X8_takeNumber rfl rfl rfl (by decide +kernel) ⟨by decide, by decide⟩) (rv_Tape hK hP (by decide) (by decide)) rfl hl.1 rfl (Nat.le_of_ble_eq_true rfl) dX10_readWheat_15 (Nat.zero_le _) (Nat.zero_le _) (fun r6 u6 H6 locs6 hp6 hP hS => ?_)
    obtain ⟨σ6, τ6⟩ := u6
    obtain ⟨hR, f6, hq6⟩ : P_X8_takeNumber σ1 z4 z5 r6 σ6 := hp6
    have hP : va_P D vwCl (gw cA ad σ6 τ6) H6 := hP
    have hF := hF.step f6 (by decide)
    refine r_if_ne (tgt := 23) hx hb dX10_readWheat_18 (by decide) (fun c7 => ?_) (fun c7 => ?_)
    · refine lv_aload_n hx hb dX10_readWheat_23 rfl (lv_at hl 0 rfl) ?_
      refine fg_10_1 (k := 6) hx hb hts in_X10_readWheat_10 hown hK hP (by decide) (by decide) (hts _ lk_X10_readWheat_15) dX10_readWheat_24 ?_
      refine lv_aload_n hx hb dX10_readWheat_27 rfl (lv_at hl 0 rfl) ?_
      refine fg_10_0 (k := 6) hx hb hts in_X10_readWheat_10 hown hK hP (by decide) (by decide) (hts _ lk_X10_readWheat_9) dX10_readWheat_28 ?_
      refine fgN_8_12 (k := 1) hx hb hts in_X10_readWheat_8 hown hK hP (by decide) (by decide) (hN.use nw_10_93) dX10_readWheat_31 ?_
      refine fpN_9_1 (k := 3) hx hb hts in_X10_readWheat_9 hown hK hP (by decide) (by decide) (hN.use nw_10_99) hI hR hS dX10_readWheat_34 (fun σ8 H8 locs8 u8 v8 hR hP hS => ?_)
      have hF := hF.puts u8 3 rfl (by decide) (by decide) (by decide) (by decide)
      refine r_iconst hx hb dX10_readWheat_37 (by decide) (fun z9 ez9 => ?_)
      exact r_zret hx hb hr hK hP hS hk (by omega) dX10_readWheat_38 (show P_X10_readWheat σ0 z9 σ8 from ⟨hR, hF, ⟨by omega, by omega⟩⟩)
    · refine r_iconst hx hb dX10_readWheat_21 (by decide) (fun z10 ez10 => ?_)
      exact r_zret hx hb hr hK hP hS hk (by omega) dX10_readWheat_22 (show P_X10_readWheat σ0 z10 σ6 from ⟨hR, hF, ⟨by omega, by omega⟩⟩)
theorem in_X10_readWind_10 : ∀ w ∈ u_ws RX10 TX10 5, w ∈ wsX10_readWind := by decide +kernel
theorem in_X10_readWind_8 : ∀ w ∈ u_ws RX8 TX8 15, w ∈ wsX10_readWind := by decide +kernel
theorem in_X10_readWind_9 : ∀ w ∈ u_ws RX9 TX9 14, w ∈ wsX10_readWind := by decide +kernel
theorem lk_X10_readWind_15 : Cond.fieldLink RX10 15 "CuckooShares$ValleyText" "into" "LCuckooShares$Valley;" ∈ wsX10_readWind := by decide +kernel
theorem lk_X10_readWind_9 : Cond.fieldLink RX10 9 "CuckooShares$ValleyText" "tape" "LCuckooShares$Tape;" ∈ wsX10_readWind := by decide +kernel
abbrev L_X10_readWind : List Rc := [(6, 6, 3, 3), (1, 1, 7, 10), (1, 1, 12, 14), (3, 3, 2, 3)]
def P_X10_readWind (σ0 : Nat → Nat → Int32)  (r : Int32) (σ : Nat → Nat → Int32) : Prop := Rg σ ∧ Fr L_X10_readWind σ0 σ ∧ (0 ≤ r.toInt ∧ r.toInt ≤ 1)
set_option maxHeartbeats 4000000 in
theorem c_X10_readWind (l : Launch) (D : va_G) (cA : Nat → ClassId) (ad : Nat → Nat) (hI : Inj ad) (σ0 : Nat → Nat → Int32) (τ0 : Nat → Nat → Int64) (hR : Rg σ0)   : Met l yX10_readWind wsX10_readWind ({ frames := 2, cells := 0, slots := 0, locals := 43 } : Room) (WQc D cA ad [.ref (ad 6)] σ0 τ0) (va_Qi (fun (r : Int32) (u : SS) => P_X10_readWind σ0 r u.1) (WB D cA ad) (AA ad)) 0 0 (AA ad) := by
  refine Met.ofW (cc := cX10_readWind) (maxL := 1) (ret := (some .boolean)) (by decide) rfl ?_
  intro p e s m args below meth c s₁ B hml hv
  obtain ⟨rfl, hP, hK, hN⟩ := hv
  have C : Cy p s m _ meth c cX10_readWind 1 wsX10_readWind RX10 D cA ad (some .boolean) := ⟨B.exec, B.bytes, hml, findClass_of_methodNamed B.named, atoms_spec (ws := wsX10_readWind) B.pre, hK, B.notSynchronized, B.returns, hI, hN⟩
  have hl := lv_entry ([.ref (ad 6)]) (n := 1) (Nat.le_of_ble_eq_true rfl)
  rw [lg_entry_eq]
  generalize (lg_sl ([.ref (ad 6)]) ++ List.replicate (1 - (lg_sl ([.ref (ad 6)])).length) Slot.unset).toArray = ls at hl ⊢
  have hl : lv_has ls 1 [(0, .ref (ad 6))] := hl
  have hS : va_S (AA ad) s.heap s.heap [] := va_S.rf
  have hF : Fr L_X10_readWind σ0 σ0 := Fr.rf
  obtain ⟨hx, hb, _, hown, hts, _, hk, hr, _, _⟩ := C
  refine lv_aload_n hx hb dX10_readWind_0 rfl (lv_at hl 0 rfl) ?_
  refine r_cVi (k := 6) (As := []) (rest := []) ⟨hx, hb, hml, hown, hts⟩ hK hP hN hS (c_X10_takeOnce l D cA ad hI σ0 τ0 hR) (cwV 0 hts gX10_readWind_X10_takeOnce rfl rfl rfl (by decide +kernel) ⟨by decide, by decide⟩) (rv_VText hK hP (by decide) (by decide)) rfl hl.1 rfl (Nat.le_of_ble_eq_true rfl) dX10_readWind_1 (Nat.zero_le _) (Nat.zero_le _) (fun r1 u1 H1 locs1 hp1 hP hS => ?_)
  obtain ⟨σ1, τ1⟩ := u1
  obtain ⟨hR, f1, hq1⟩ : P_X10_takeOnce σ0 r1 σ1 := hp1
  have hP : va_P D vwCl (gw cA ad σ1 τ1) H1 := hP
  have hF := hF.step f1 (by decide)
  refine r_if_ne (tgt := 9) hx hb dX10_readWind_4 (by decide) (fun c2 => ?_) (fun c2 => ?_)
  · refine lv_aload_n hx hb dX10_readWind_9 rfl (lv_at hl 0 rfl) ?_
    refine fg_10_0 (k := 6) hx hb hts in_X10_readWind_10 hown hK hP (by decide) (by decide) (hts _ lk_X10_readWind_9) dX10_readWind_10 ?_
    refine fgN_8_9 (k := 1) hx hb hts in_X10_readWind_8 hown hK hP (by decide) (by decide) (hN.use nw_10_34) dX10_readWind_13 ?_
    refine r_iconst hx hb dX10_readWind_16 (by decide) (fun z3 ez3 => ?_)
    refine r_icmp_lt (tgt := 32) hx hb dX10_readWind_17 (by decide) (fun c4 => ?_) (fun c4 => ?_)
    · refine lv_aload_n hx hb dX10_readWind_32 rfl (lv_at hl 0 rfl) ?_
      refine fg_10_0 (k := 6) hx hb hts in_X10_readWind_10 hown hK hP (by decide) (by decide) (hts _ lk_X10_readWind_9) dX10_readWind_33 ?_
      refine r_iconst hx hb dX10_readWind_36 (by decide) (fun z5 ez5 => ?_)
      refine r_cVi (k := 1) (As := [.int z5]) (rest := []) ⟨hx, hb, hml, hown, hts⟩ hK hP hN hS (c_X8_blame l D cA ad hI σ1 τ1 hR z5 ⟨by omega, by omega⟩) (cwV 1 hts gX10_readWind_X8_blame rfl rfl rfl (by decide +kernel) ⟨by decide, by decide⟩) (rv_Tape hK hP (by decide) (by decide)) rfl hl.1 rfl (Nat.le_of_ble_eq_true rfl) dX10_readWind_37 (Nat.zero_le _) (Nat.zero_le _) (fun r6 u6 H6 locs6 hp6 hP hS => ?_)
      obtain ⟨σ6, τ6⟩ := u6
      obtain ⟨hR, f6, hq6⟩ : P_X8_blame σ1 z5 r6 σ6 := hp6
      have hP : va_P D vwCl (gw cA ad σ6 τ6) H6 := hP
      have hF := hF.step f6 (by decide)
      have t7 : (σ6 1 9).toInt = (σ1 1 9).toInt := congrArg Int32.toInt (f6.at 1 9 (by decide))
      exact r_zret hx hb hr hK hP hS hk (by omega) dX10_readWind_40 (show P_X10_readWind σ0 r6 σ6 from ⟨hR, hF, ⟨by omega, by omega⟩⟩)
    · refine lv_aload_n hx hb dX10_readWind_20 rfl (lv_at hl 0 rfl) ?_
      refine fg_10_0 (k := 6) hx hb hts in_X10_readWind_10 hown hK hP (by decide) (by decide) (hts _ lk_X10_readWind_9) dX10_readWind_21 ?_
      refine fgN_8_9 (k := 1) hx hb hts in_X10_readWind_8 hown hK hP (by decide) (by decide) (hN.use nw_10_34) dX10_readWind_24 ?_
      refine r_bipush hx hb dX10_readWind_27 (by decide) (fun z8 ez8 => ?_)
      refine r_icmp_le (tgt := 41) hx hb dX10_readWind_29 (by decide) (fun c9 => ?_) (fun c9 => ?_)
      · refine lv_aload_n hx hb dX10_readWind_41 rfl (lv_at hl 0 rfl) ?_
        refine fg_10_1 (k := 6) hx hb hts in_X10_readWind_10 hown hK hP (by decide) (by decide) (hts _ lk_X10_readWind_15) dX10_readWind_42 ?_
        refine lv_aload_n hx hb dX10_readWind_45 rfl (lv_at hl 0 rfl) ?_
        refine fg_10_0 (k := 6) hx hb hts in_X10_readWind_10 hown hK hP (by decide) (by decide) (hts _ lk_X10_readWind_9) dX10_readWind_46 ?_
        refine fgN_8_9 (k := 1) hx hb hts in_X10_readWind_8 hown hK hP (by decide) (by decide) (hN.use nw_10_34) dX10_readWind_49 ?_
        refine fpN_9_2 (k := 3) hx hb hts in_X10_readWind_9 hown hK hP (by decide) (by decide) (hN.use nw_10_102) hI hR hS dX10_readWind_52 (fun σ10 H10 locs10 u10 v10 hR hP hS => ?_)
        have hF := hF.puts u10 3 rfl (by decide) (by decide) (by decide) (by decide)
        have t11 : (σ10 1 9).toInt = (σ1 1 9).toInt := congrArg Int32.toInt (u10 1 9 (by omega))
        refine lv_aload_n hx hb dX10_readWind_55 rfl (lv_at hl 0 rfl) ?_
        refine fg_10_0 (k := 6) hx hb hts in_X10_readWind_10 hown hK hP (by decide) (by decide) (hts _ lk_X10_readWind_9) dX10_readWind_56 ?_
        refine r_cVv (k := 1) (As := []) (rest := []) ⟨hx, hb, hml, hown, hts⟩ hK hP hN hS (c_X8_next l D cA ad hI σ10 τ1 hR) (cwV 0 hts gX10_readWind_X8_next rfl rfl rfl (by decide +kernel) ⟨by decide, by decide⟩) (rv_Tape hK hP (by decide) (by decide)) rfl hl.1 rfl (Nat.le_of_ble_eq_true rfl) dX10_readWind_59 (Nat.zero_le _) (Nat.zero_le _) (fun u12 H12 locs12 hp12 hP hS => ?_)
        obtain ⟨σ12, τ12⟩ := u12
        obtain ⟨hR, f12⟩ : P_X8_next σ10 σ12 := hp12
        have hP : va_P D vwCl (gw cA ad σ12 τ12) H12 := hP
        have hF := hF.step f12 (by decide)
        refine lv_aload_n hx hb dX10_readWind_62 rfl (lv_at hl 0 rfl) ?_
        refine fg_10_0 (k := 6) hx hb hts in_X10_readWind_10 hown hK hP (by decide) (by decide) (hts _ lk_X10_readWind_9) dX10_readWind_63 ?_
        refine r_iconst hx hb dX10_readWind_66 (by decide) (fun z13 ez13 => ?_)
        refine r_bipush hx hb dX10_readWind_67 (by decide) (fun z14 ez14 => ?_)
        refine r_cVi (k := 1) (As := [.int z13, .int z14]) (rest := []) ⟨hx, hb, hml, hown, hts⟩ hK hP hN hS (c_X8_takeNumber l D cA ad hI σ12 τ12 hR z13 z14 ⟨by omega, by omega⟩) (cwV 2 hts gX10_readWind_X8_takeNumber rfl rfl rfl (by decide +kernel) ⟨by decide, by decide⟩) (rv_Tape hK hP (by decide) (by decide)) rfl hl.1 rfl (Nat.le_of_ble_eq_true rfl) dX10_readWind_69 (Nat.zero_le _) (Nat.zero_le _) (fun r15 u15 H15 locs15 hp15 hP hS => ?_)
        obtain ⟨σ15, τ15⟩ := u15
        obtain ⟨hR, f15, hq15⟩ : P_X8_takeNumber σ12 z13 z14 r15 σ15 := hp15
        have hP : va_P D vwCl (gw cA ad σ15 τ15) H15 := hP
        have hF := hF.step f15 (by decide)
        refine r_if_ne (tgt := 77) hx hb dX10_readWind_72 (by decide) (fun c16 => ?_) (fun c16 => ?_)
        · refine lv_aload_n hx hb dX10_readWind_77 rfl (lv_at hl 0 rfl) ?_
          refine fg_10_1 (k := 6) hx hb hts in_X10_readWind_10 hown hK hP (by decide) (by decide) (hts _ lk_X10_readWind_15) dX10_readWind_78 ?_
          refine lv_aload_n hx hb dX10_readWind_81 rfl (lv_at hl 0 rfl) ?_
          refine fg_10_0 (k := 6) hx hb hts in_X10_readWind_10 hown hK hP (by decide) (by decide) (hts _ lk_X10_readWind_9) dX10_readWind_82 ?_
          refine fgN_8_12 (k := 1) hx hb hts in_X10_readWind_8 hown hK hP (by decide) (by decide) (hN.use nw_10_93) dX10_readWind_85 ?_
          refine fpN_9_3 (k := 3) hx hb hts in_X10_readWind_9 hown hK hP (by decide) (by decide) (hN.use nw_10_105) hI hR hS dX10_readWind_88 (fun σ17 H17 locs17 u17 v17 hR hP hS => ?_)
          have hF := hF.puts u17 3 rfl (by decide) (by decide) (by decide) (by decide)
          refine r_iconst hx hb dX10_readWind_91 (by decide) (fun z18 ez18 => ?_)
          exact r_zret hx hb hr hK hP hS hk (by omega) dX10_readWind_92 (show P_X10_readWind σ0 z18 σ17 from ⟨hR, hF, ⟨by omega, by omega⟩⟩)
        · refine r_iconst hx hb dX10_readWind_75 (by decide) (fun z19 ez19 => ?_)
          exact r_zret hx hb hr hK hP hS hk (by omega) dX10_readWind_76 (show P_X10_readWind σ0 z19 σ15 from ⟨hR, hF, ⟨by omega, by omega⟩⟩)
      · refine lv_aload_n hx hb dX10_readWind_32 rfl (lv_at hl 0 rfl) ?_
        refine fg_10_0 (k := 6) hx hb hts in_X10_readWind_10 hown hK hP (by decide) (by decide) (hts _ lk_X10_readWind_9) dX10_readWind_33 ?_
        refine r_iconst hx hb dX10_readWind_36 (by decide) (fun z20 ez20 => ?_)
        refine r_cVi (k := 1) (As := [.int z20]) (rest := []) ⟨hx, hb, hml, hown, hts⟩ hK hP hN hS (c_X8_blame l D cA ad hI σ1 τ1 hR z20 ⟨by omega, by omega⟩) (cwV 1 hts gX10_readWind_X8_blame rfl rfl rfl (by decide +kernel) ⟨by decide, by decide⟩) (rv_Tape hK hP (by decide) (by decide)) rfl hl.1 rfl (Nat.le_of_ble_eq_true rfl) dX10_readWind_37 (Nat.zero_le _) (Nat.zero_le _) (fun r21 u21 H21 locs21 hp21 hP hS => ?_)
        obtain ⟨σ21, τ21⟩ := u21
        obtain ⟨hR, f21, hq21⟩ : P_X8_blame σ1 z20 r21 σ21 := hp21
        have hP : va_P D vwCl (gw cA ad σ21 τ21) H21 := hP
        have hF := hF.step f21 (by decide)
        have t22 : (σ21 1 9).toInt = (σ1 1 9).toInt := congrArg Int32.toInt (f21.at 1 9 (by decide))
        exact r_zret hx hb hr hK hP hS hk (by omega) dX10_readWind_40 (show P_X10_readWind σ0 r21 σ21 from ⟨hR, hF, ⟨by omega, by omega⟩⟩)
  · refine r_iconst hx hb dX10_readWind_7 (by decide) (fun z23 ez23 => ?_)
    exact r_zret hx hb hr hK hP hS hk (by omega) dX10_readWind_8 (show P_X10_readWind σ0 z23 σ1 from ⟨hR, hF, ⟨by omega, by omega⟩⟩)
theorem in_X10_readLine_10 : ∀ w ∈ u_ws RX10 TX10 5, w ∈ wsX10_readLine := by decide +kernel
theorem in_X10_readLine_8 : ∀ w ∈ u_ws RX8 TX8 15, w ∈ wsX10_readLine := by decide +kernel
theorem lk_X10_readLine_9 : Cond.fieldLink RX10 9 "CuckooShares$ValleyText" "tape" "LCuckooShares$Tape;" ∈ wsX10_readLine := by decide +kernel
abbrev L_X10_readLine : List Rc := [(1, 1, 7, 10), (1, 1, 12, 14), (6, 6, 3, 4), (3, 3, 0, 6), (136, 139, 0, 2), (76, 83, 0, 2), (108, 115, 0, 5), (148, 227, 0, 2)]
def P_X10_readLine (σ0 : Nat → Nat → Int32)  (r : Int32) (σ : Nat → Nat → Int32) : Prop := Rg σ ∧ Fr L_X10_readLine σ0 σ ∧ (0 ≤ r.toInt ∧ r.toInt ≤ 1)
set_option maxHeartbeats 4000000 in
theorem c_X10_readLine (l : Launch) (D : va_G) (cA : Nat → ClassId) (ad : Nat → Nat) (hI : Inj ad) (σ0 : Nat → Nat → Int32) (τ0 : Nat → Nat → Int64) (hR : Rg σ0)   : Met l yX10_readLine wsX10_readLine ({ frames := 5, cells := 0, slots := 0, locals := 108 } : Room) (WQc D cA ad [.ref (ad 6)] σ0 τ0) (va_Qi (fun (r : Int32) (u : SS) => P_X10_readLine σ0 r u.1) (WB D cA ad) (AA ad)) 0 0 (AA ad) := by
  refine Met.ofW (cc := cX10_readLine) (maxL := 1) (ret := (some .boolean)) (by decide) rfl ?_
  intro p e s m args below meth c s₁ B hml hv
  obtain ⟨rfl, hP, hK, hN⟩ := hv
  have C : Cy p s m _ meth c cX10_readLine 1 wsX10_readLine RX10 D cA ad (some .boolean) := ⟨B.exec, B.bytes, hml, findClass_of_methodNamed B.named, atoms_spec (ws := wsX10_readLine) B.pre, hK, B.notSynchronized, B.returns, hI, hN⟩
  have hl := lv_entry ([.ref (ad 6)]) (n := 1) (Nat.le_of_ble_eq_true rfl)
  rw [lg_entry_eq]
  generalize (lg_sl ([.ref (ad 6)]) ++ List.replicate (1 - (lg_sl ([.ref (ad 6)])).length) Slot.unset).toArray = ls at hl ⊢
  have hl : lv_has ls 1 [(0, .ref (ad 6))] := hl
  have hS : va_S (AA ad) s.heap s.heap [] := va_S.rf
  have hF : Fr L_X10_readLine σ0 σ0 := Fr.rf
  obtain ⟨hx, hb, _, hown, hts, _, hk, hr, _, _⟩ := C
  refine lv_aload_n hx hb dX10_readLine_0 rfl (lv_at hl 0 rfl) ?_
  refine fg_10_0 (k := 6) hx hb hts in_X10_readLine_10 hown hK hP (by decide) (by decide) (hts _ lk_X10_readLine_9) dX10_readLine_1 ?_
  refine fgN_8_9 (k := 1) hx hb hts in_X10_readLine_8 hown hK hP (by decide) (by decide) (hN.use nw_10_34) dX10_readLine_4 ?_
  by_cases c1 : (σ0 1 9).toInt = 0
  · refine lv_tableIn (off := 69) (tgt := 76) hx hb dX10_readLine_7 (by omega) (by omega) (by rw [c1]; rfl) (by decide) ?_
    refine lv_aload_n hx hb dX10_readLine_76 rfl (lv_at hl 0 rfl) ?_
    refine r_cVi (k := 6) (As := []) (rest := []) ⟨hx, hb, hml, hown, hts⟩ hK hP hN hS (c_X10_readRidge l D cA ad hI σ0 τ0 hR) (cwV 0 hts gX10_readLine_X10_readRidge rfl rfl rfl (by decide +kernel) ⟨by decide, by decide⟩) (rv_VText hK hP (by decide) (by decide)) rfl hl.1 rfl (Nat.le_of_ble_eq_true rfl) dX10_readLine_77 (Nat.zero_le _) (Nat.zero_le _) (fun r2 u2 H2 locs2 hp2 hP hS => ?_)
    obtain ⟨σ2, τ2⟩ := u2
    obtain ⟨hR, f2, hq2⟩ : P_X10_readRidge σ0 r2 σ2 := hp2
    have hP : va_P D vwCl (gw cA ad σ2 τ2) H2 := hP
    have hF := hF.step f2 (by decide)
    exact r_zret hx hb hr hK hP hS hk (by omega) dX10_readLine_80 (show P_X10_readLine σ0 r2 σ2 from ⟨hR, hF, ⟨by omega, by omega⟩⟩)
  by_cases c3 : (σ0 1 9).toInt = 1
  · refine lv_tableIn (off := 74) (tgt := 81) hx hb dX10_readLine_7 (by omega) (by omega) (by rw [c3]; rfl) (by decide) ?_
    refine lv_aload_n hx hb dX10_readLine_81 rfl (lv_at hl 0 rfl) ?_
    refine r_cVi (k := 6) (As := []) (rest := []) ⟨hx, hb, hml, hown, hts⟩ hK hP hN hS (c_X10_readWheat l D cA ad hI σ0 τ0 hR) (cwV 0 hts gX10_readLine_X10_readWheat rfl rfl rfl (by decide +kernel) ⟨by decide, by decide⟩) (rv_VText hK hP (by decide) (by decide)) rfl hl.1 rfl (Nat.le_of_ble_eq_true rfl) dX10_readLine_82 (Nat.zero_le _) (Nat.zero_le _) (fun r4 u4 H4 locs4 hp4 hP hS => ?_)
    obtain ⟨σ4, τ4⟩ := u4
    obtain ⟨hR, f4, hq4⟩ : P_X10_readWheat σ0 r4 σ4 := hp4
    have hP : va_P D vwCl (gw cA ad σ4 τ4) H4 := hP
    have hF := hF.step f4 (by decide)
    exact r_zret hx hb hr hK hP hS hk (by omega) dX10_readLine_85 (show P_X10_readLine σ0 r4 σ4 from ⟨hR, hF, ⟨by omega, by omega⟩⟩)
  by_cases c5 : (σ0 1 9).toInt = 2
  · refine lv_tableIn (off := 79) (tgt := 86) hx hb dX10_readLine_7 (by omega) (by omega) (by rw [c5]; rfl) (by decide) ?_
    refine lv_aload_n hx hb dX10_readLine_86 rfl (lv_at hl 0 rfl) ?_
    refine r_cVi (k := 6) (As := []) (rest := []) ⟨hx, hb, hml, hown, hts⟩ hK hP hN hS (c_X10_readWind l D cA ad hI σ0 τ0 hR) (cwV 0 hts gX10_readLine_X10_readWind rfl rfl rfl (by decide +kernel) ⟨by decide, by decide⟩) (rv_VText hK hP (by decide) (by decide)) rfl hl.1 rfl (Nat.le_of_ble_eq_true rfl) dX10_readLine_87 (Nat.zero_le _) (Nat.zero_le _) (fun r6 u6 H6 locs6 hp6 hP hS => ?_)
    obtain ⟨σ6, τ6⟩ := u6
    obtain ⟨hR, f6, hq6⟩ : P_X10_readWind σ0 r6 σ6 := hp6
    have hP : va_P D vwCl (gw cA ad σ6 τ6) H6 := hP
    have hF := hF.step f6 (by decide)
    exact r_zret hx hb hr hK hP hS hk (by omega) dX10_readLine_90 (show P_X10_readLine σ0 r6 σ6 from ⟨hR, hF, ⟨by omega, by omega⟩⟩)
  by_cases c7 : (σ0 1 9).toInt = 3
  · refine lv_tableIn (off := 119) (tgt := 126) hx hb dX10_readLine_7 (by omega) (by omega) (by rw [c7]; rfl) (by decide) ?_
    refine lv_aload_n hx hb dX10_readLine_126 rfl (lv_at hl 0 rfl) ?_
    refine fg_10_0 (k := 6) hx hb hts in_X10_readLine_10 hown hK hP (by decide) (by decide) (hts _ lk_X10_readLine_9) dX10_readLine_127 ?_
    refine r_iconst hx hb dX10_readLine_130 (by decide) (fun z8 ez8 => ?_)
    refine r_cVi (k := 1) (As := [.int z8]) (rest := []) ⟨hx, hb, hml, hown, hts⟩ hK hP hN hS (c_X8_blame l D cA ad hI σ0 τ0 hR z8 ⟨by omega, by omega⟩) (cwV 1 hts gX10_readLine_X8_blame rfl rfl rfl (by decide +kernel) ⟨by decide, by decide⟩) (rv_Tape hK hP (by decide) (by decide)) rfl hl.1 rfl (Nat.le_of_ble_eq_true rfl) dX10_readLine_131 (Nat.zero_le _) (Nat.zero_le _) (fun r9 u9 H9 locs9 hp9 hP hS => ?_)
    obtain ⟨σ9, τ9⟩ := u9
    obtain ⟨hR, f9, hq9⟩ : P_X8_blame σ0 z8 r9 σ9 := hp9
    have hP : va_P D vwCl (gw cA ad σ9 τ9) H9 := hP
    have hF := hF.step f9 (by decide)
    exact r_zret hx hb hr hK hP hS hk (by omega) dX10_readLine_134 (show P_X10_readLine σ0 r9 σ9 from ⟨hR, hF, ⟨by omega, by omega⟩⟩)
  by_cases c10 : (σ0 1 9).toInt = 4
  · refine lv_tableIn (off := 119) (tgt := 126) hx hb dX10_readLine_7 (by omega) (by omega) (by rw [c10]; rfl) (by decide) ?_
    refine lv_aload_n hx hb dX10_readLine_126 rfl (lv_at hl 0 rfl) ?_
    refine fg_10_0 (k := 6) hx hb hts in_X10_readLine_10 hown hK hP (by decide) (by decide) (hts _ lk_X10_readLine_9) dX10_readLine_127 ?_
    refine r_iconst hx hb dX10_readLine_130 (by decide) (fun z11 ez11 => ?_)
    refine r_cVi (k := 1) (As := [.int z11]) (rest := []) ⟨hx, hb, hml, hown, hts⟩ hK hP hN hS (c_X8_blame l D cA ad hI σ0 τ0 hR z11 ⟨by omega, by omega⟩) (cwV 1 hts gX10_readLine_X8_blame rfl rfl rfl (by decide +kernel) ⟨by decide, by decide⟩) (rv_Tape hK hP (by decide) (by decide)) rfl hl.1 rfl (Nat.le_of_ble_eq_true rfl) dX10_readLine_131 (Nat.zero_le _) (Nat.zero_le _) (fun r12 u12 H12 locs12 hp12 hP hS => ?_)
    obtain ⟨σ12, τ12⟩ := u12
    obtain ⟨hR, f12, hq12⟩ : P_X8_blame σ0 z11 r12 σ12 := hp12
    have hP : va_P D vwCl (gw cA ad σ12 τ12) H12 := hP
    have hF := hF.step f12 (by decide)
    exact r_zret hx hb hr hK hP hS hk (by omega) dX10_readLine_134 (show P_X10_readLine σ0 r12 σ12 from ⟨hR, hF, ⟨by omega, by omega⟩⟩)
  by_cases c13 : (σ0 1 9).toInt = 5
  · refine lv_tableIn (off := 119) (tgt := 126) hx hb dX10_readLine_7 (by omega) (by omega) (by rw [c13]; rfl) (by decide) ?_
    refine lv_aload_n hx hb dX10_readLine_126 rfl (lv_at hl 0 rfl) ?_
    refine fg_10_0 (k := 6) hx hb hts in_X10_readLine_10 hown hK hP (by decide) (by decide) (hts _ lk_X10_readLine_9) dX10_readLine_127 ?_
    refine r_iconst hx hb dX10_readLine_130 (by decide) (fun z14 ez14 => ?_)
    refine r_cVi (k := 1) (As := [.int z14]) (rest := []) ⟨hx, hb, hml, hown, hts⟩ hK hP hN hS (c_X8_blame l D cA ad hI σ0 τ0 hR z14 ⟨by omega, by omega⟩) (cwV 1 hts gX10_readLine_X8_blame rfl rfl rfl (by decide +kernel) ⟨by decide, by decide⟩) (rv_Tape hK hP (by decide) (by decide)) rfl hl.1 rfl (Nat.le_of_ble_eq_true rfl) dX10_readLine_131 (Nat.zero_le _) (Nat.zero_le _) (fun r15 u15 H15 locs15 hp15 hP hS => ?_)
    obtain ⟨σ15, τ15⟩ := u15
    obtain ⟨hR, f15, hq15⟩ : P_X8_blame σ0 z14 r15 σ15 := hp15
    have hP : va_P D vwCl (gw cA ad σ15 τ15) H15 := hP
    have hF := hF.step f15 (by decide)
    exact r_zret hx hb hr hK hP hS hk (by omega) dX10_readLine_134 (show P_X10_readLine σ0 r15 σ15 from ⟨hR, hF, ⟨by omega, by omega⟩⟩)
  by_cases c16 : (σ0 1 9).toInt = 6
  · refine lv_tableIn (off := 119) (tgt := 126) hx hb dX10_readLine_7 (by omega) (by omega) (by rw [c16]; rfl) (by decide) ?_
    refine lv_aload_n hx hb dX10_readLine_126 rfl (lv_at hl 0 rfl) ?_
    refine fg_10_0 (k := 6) hx hb hts in_X10_readLine_10 hown hK hP (by decide) (by decide) (hts _ lk_X10_readLine_9) dX10_readLine_127 ?_
    refine r_iconst hx hb dX10_readLine_130 (by decide) (fun z17 ez17 => ?_)
    refine r_cVi (k := 1) (As := [.int z17]) (rest := []) ⟨hx, hb, hml, hown, hts⟩ hK hP hN hS (c_X8_blame l D cA ad hI σ0 τ0 hR z17 ⟨by omega, by omega⟩) (cwV 1 hts gX10_readLine_X8_blame rfl rfl rfl (by decide +kernel) ⟨by decide, by decide⟩) (rv_Tape hK hP (by decide) (by decide)) rfl hl.1 rfl (Nat.le_of_ble_eq_true rfl) dX10_readLine_131 (Nat.zero_le _) (Nat.zero_le _) (fun r18 u18 H18 locs18 hp18 hP hS => ?_)
    obtain ⟨σ18, τ18⟩ := u18
    obtain ⟨hR, f18, hq18⟩ : P_X8_blame σ0 z17 r18 σ18 := hp18
    have hP : va_P D vwCl (gw cA ad σ18 τ18) H18 := hP
    have hF := hF.step f18 (by decide)
    exact r_zret hx hb hr hK hP hS hk (by omega) dX10_readLine_134 (show P_X10_readLine σ0 r18 σ18 from ⟨hR, hF, ⟨by omega, by omega⟩⟩)
  by_cases c19 : (σ0 1 9).toInt = 7
  · refine lv_tableIn (off := 84) (tgt := 91) hx hb dX10_readLine_7 (by omega) (by omega) (by rw [c19]; rfl) (by decide) ?_
    refine lv_aload_n hx hb dX10_readLine_91 rfl (lv_at hl 0 rfl) ?_
    refine r_cVi (k := 6) (As := []) (rest := []) ⟨hx, hb, hml, hown, hts⟩ hK hP hN hS (c_X10_readHill l D cA ad hI σ0 τ0 hR) (cwV 0 hts gX10_readLine_X10_readHill rfl rfl rfl (by decide +kernel) ⟨by decide, by decide⟩) (rv_VText hK hP (by decide) (by decide)) rfl hl.1 rfl (Nat.le_of_ble_eq_true rfl) dX10_readLine_92 (Nat.zero_le _) (Nat.zero_le _) (fun r20 u20 H20 locs20 hp20 hP hS => ?_)
    obtain ⟨σ20, τ20⟩ := u20
    obtain ⟨hR, f20, hq20⟩ : P_X10_readHill σ0 r20 σ20 := hp20
    have hP : va_P D vwCl (gw cA ad σ20 τ20) H20 := hP
    have hF := hF.step f20 (by decide)
    exact r_zret hx hb hr hK hP hS hk (by omega) dX10_readLine_95 (show P_X10_readLine σ0 r20 σ20 from ⟨hR, hF, ⟨by omega, by omega⟩⟩)
  by_cases c21 : (σ0 1 9).toInt = 8
  · refine lv_tableIn (off := 89) (tgt := 96) hx hb dX10_readLine_7 (by omega) (by omega) (by rw [c21]; rfl) (by decide) ?_
    refine lv_aload_n hx hb dX10_readLine_96 rfl (lv_at hl 0 rfl) ?_
    refine r_cVi (k := 6) (As := []) (rest := []) ⟨hx, hb, hml, hown, hts⟩ hK hP hN hS (c_X10_readFall l D cA ad hI σ0 τ0 hR) (cwV 0 hts gX10_readLine_X10_readFall rfl rfl rfl (by decide +kernel) ⟨by decide, by decide⟩) (rv_VText hK hP (by decide) (by decide)) rfl hl.1 rfl (Nat.le_of_ble_eq_true rfl) dX10_readLine_97 (Nat.zero_le _) (Nat.zero_le _) (fun r22 u22 H22 locs22 hp22 hP hS => ?_)
    obtain ⟨σ22, τ22⟩ := u22
    obtain ⟨hR, f22, hq22⟩ : P_X10_readFall σ0 r22 σ22 := hp22
    have hP : va_P D vwCl (gw cA ad σ22 τ22) H22 := hP
    have hF := hF.step f22 (by decide)
    exact r_zret hx hb hr hK hP hS hk (by omega) dX10_readLine_100 (show P_X10_readLine σ0 r22 σ22 from ⟨hR, hF, ⟨by omega, by omega⟩⟩)
  by_cases c23 : (σ0 1 9).toInt = 9
  · refine lv_tableIn (off := 94) (tgt := 101) hx hb dX10_readLine_7 (by omega) (by omega) (by rw [c23]; rfl) (by decide) ?_
    refine lv_aload_n hx hb dX10_readLine_101 rfl (lv_at hl 0 rfl) ?_
    refine r_cVi (k := 6) (As := []) (rest := []) ⟨hx, hb, hml, hown, hts⟩ hK hP hN hS (c_X10_readMan l D cA ad hI σ0 τ0 hR) (cwV 0 hts gX10_readLine_X10_readMan rfl rfl rfl (by decide +kernel) ⟨by decide, by decide⟩) (rv_VText hK hP (by decide) (by decide)) rfl hl.1 rfl (Nat.le_of_ble_eq_true rfl) dX10_readLine_102 (Nat.zero_le _) (Nat.zero_le _) (fun r24 u24 H24 locs24 hp24 hP hS => ?_)
    obtain ⟨σ24, τ24⟩ := u24
    obtain ⟨hR, f24, hq24⟩ : P_X10_readMan σ0 r24 σ24 := hp24
    have hP : va_P D vwCl (gw cA ad σ24 τ24) H24 := hP
    have hF := hF.step f24 (by decide)
    exact r_zret hx hb hr hK hP hS hk (by omega) dX10_readLine_105 (show P_X10_readLine σ0 r24 σ24 from ⟨hR, hF, ⟨by omega, by omega⟩⟩)
  by_cases c25 : (σ0 1 9).toInt = 10
  · refine lv_tableIn (off := 99) (tgt := 106) hx hb dX10_readLine_7 (by omega) (by omega) (by rw [c25]; rfl) (by decide) ?_
    refine lv_aload_n hx hb dX10_readLine_106 rfl (lv_at hl 0 rfl) ?_
    refine r_cVi (k := 6) (As := []) (rest := []) ⟨hx, hb, hml, hown, hts⟩ hK hP hN hS (c_X10_readOld l D cA ad hI σ0 τ0 hR) (cwV 0 hts gX10_readLine_X10_readOld rfl rfl rfl (by decide +kernel) ⟨by decide, by decide⟩) (rv_VText hK hP (by decide) (by decide)) rfl hl.1 rfl (Nat.le_of_ble_eq_true rfl) dX10_readLine_107 (Nat.zero_le _) (Nat.zero_le _) (fun r26 u26 H26 locs26 hp26 hP hS => ?_)
    obtain ⟨σ26, τ26⟩ := u26
    obtain ⟨hR, f26, hq26⟩ : P_X10_readOld σ0 r26 σ26 := hp26
    have hP : va_P D vwCl (gw cA ad σ26 τ26) H26 := hP
    have hF := hF.step f26 (by decide)
    exact r_zret hx hb hr hK hP hS hk (by omega) dX10_readLine_110 (show P_X10_readLine σ0 r26 σ26 from ⟨hR, hF, ⟨by omega, by omega⟩⟩)
  by_cases c27 : (σ0 1 9).toInt = 11
  · refine lv_tableIn (off := 104) (tgt := 111) hx hb dX10_readLine_7 (by omega) (by omega) (by rw [c27]; rfl) (by decide) ?_
    refine lv_aload_n hx hb dX10_readLine_111 rfl (lv_at hl 0 rfl) ?_
    refine r_cVi (k := 6) (As := []) (rest := []) ⟨hx, hb, hml, hown, hts⟩ hK hP hN hS (c_X10_readDeaf l D cA ad hI σ0 τ0 hR) (cwV 0 hts gX10_readLine_X10_readDeaf rfl rfl rfl (by decide +kernel) ⟨by decide, by decide⟩) (rv_VText hK hP (by decide) (by decide)) rfl hl.1 rfl (Nat.le_of_ble_eq_true rfl) dX10_readLine_112 (Nat.zero_le _) (Nat.zero_le _) (fun r28 u28 H28 locs28 hp28 hP hS => ?_)
    obtain ⟨σ28, τ28⟩ := u28
    obtain ⟨hR, f28, hq28⟩ : P_X10_readDeaf σ0 r28 σ28 := hp28
    have hP : va_P D vwCl (gw cA ad σ28 τ28) H28 := hP
    have hF := hF.step f28 (by decide)
    exact r_zret hx hb hr hK hP hS hk (by omega) dX10_readLine_115 (show P_X10_readLine σ0 r28 σ28 from ⟨hR, hF, ⟨by omega, by omega⟩⟩)
  by_cases c29 : (σ0 1 9).toInt = 12
  · refine lv_tableIn (off := 109) (tgt := 116) hx hb dX10_readLine_7 (by omega) (by omega) (by rw [c29]; rfl) (by decide) ?_
    refine lv_aload_n hx hb dX10_readLine_116 rfl (lv_at hl 0 rfl) ?_
    refine r_cVi (k := 6) (As := []) (rest := []) ⟨hx, hb, hml, hown, hts⟩ hK hP hN hS (c_X10_readNeeds l D cA ad hI σ0 τ0 hR) (cwV 0 hts gX10_readLine_X10_readNeeds rfl rfl rfl (by decide +kernel) ⟨by decide, by decide⟩) (rv_VText hK hP (by decide) (by decide)) rfl hl.1 rfl (Nat.le_of_ble_eq_true rfl) dX10_readLine_117 (Nat.zero_le _) (Nat.zero_le _) (fun r30 u30 H30 locs30 hp30 hP hS => ?_)
    obtain ⟨σ30, τ30⟩ := u30
    obtain ⟨hR, f30, hq30⟩ : P_X10_readNeeds σ0 r30 σ30 := hp30
    have hP : va_P D vwCl (gw cA ad σ30 τ30) H30 := hP
    have hF := hF.step f30 (by decide)
    exact r_zret hx hb hr hK hP hS hk (by omega) dX10_readLine_120 (show P_X10_readLine σ0 r30 σ30 from ⟨hR, hF, ⟨by omega, by omega⟩⟩)
  by_cases c31 : (σ0 1 9).toInt = 13
  · refine lv_tableIn (off := 114) (tgt := 121) hx hb dX10_readLine_7 (by omega) (by omega) (by rw [c31]; rfl) (by decide) ?_
    refine lv_aload_n hx hb dX10_readLine_121 rfl (lv_at hl 0 rfl) ?_
    refine r_cVi (k := 6) (As := []) (rest := []) ⟨hx, hb, hml, hown, hts⟩ hK hP hN hS (c_X10_readFlight l D cA ad hI σ0 τ0 hR) (cwV 0 hts gX10_readLine_X10_readFlight rfl rfl rfl (by decide +kernel) ⟨by decide, by decide⟩) (rv_VText hK hP (by decide) (by decide)) rfl hl.1 rfl (Nat.le_of_ble_eq_true rfl) dX10_readLine_122 (Nat.zero_le _) (Nat.zero_le _) (fun r32 u32 H32 locs32 hp32 hP hS => ?_)
    obtain ⟨σ32, τ32⟩ := u32
    obtain ⟨hR, f32, hq32⟩ : P_X10_readFlight σ0 r32 σ32 := hp32
    have hP : va_P D vwCl (gw cA ad σ32 τ32) H32 := hP
    have hF := hF.step f32 (by decide)
    exact r_zret hx hb hr hK hP hS hk (by omega) dX10_readLine_125 (show P_X10_readLine σ0 r32 σ32 from ⟨hR, hF, ⟨by omega, by omega⟩⟩)
  refine lv_tableOut (tgt := 126) hx hb dX10_readLine_7 (by omega) (by decide) ?_
  refine lv_aload_n hx hb dX10_readLine_126 rfl (lv_at hl 0 rfl) ?_
  refine fg_10_0 (k := 6) hx hb hts in_X10_readLine_10 hown hK hP (by decide) (by decide) (hts _ lk_X10_readLine_9) dX10_readLine_127 ?_
  refine r_iconst hx hb dX10_readLine_130 (by decide) (fun z33 ez33 => ?_)
  refine r_cVi (k := 1) (As := [.int z33]) (rest := []) ⟨hx, hb, hml, hown, hts⟩ hK hP hN hS (c_X8_blame l D cA ad hI σ0 τ0 hR z33 ⟨by omega, by omega⟩) (cwV 1 hts gX10_readLine_X8_blame rfl rfl rfl (by decide +kernel) ⟨by decide, by decide⟩) (rv_Tape hK hP (by decide) (by decide)) rfl hl.1 rfl (Nat.le_of_ble_eq_true rfl) dX10_readLine_131 (Nat.zero_le _) (Nat.zero_le _) (fun r34 u34 H34 locs34 hp34 hP hS => ?_)
  obtain ⟨σ34, τ34⟩ := u34
  obtain ⟨hR, f34, hq34⟩ : P_X8_blame σ0 z33 r34 σ34 := hp34
  have hP : va_P D vwCl (gw cA ad σ34 τ34) H34 := hP
  have hF := hF.step f34 (by decide)
  exact r_zret hx hb hr hK hP hS hk (by omega) dX10_readLine_134 (show P_X10_readLine σ0 r34 σ34 from ⟨hR, hF, ⟨by omega, by omega⟩⟩)
theorem in_X8_take_8 : ∀ w ∈ u_ws RX8 TX8 15, w ∈ wsX8_take := by decide +kernel
theorem lk_X8_take_85 : Cond.fieldLink RX8 85 "CuckooShares$Tape" "token" "I" ∈ wsX8_take := by decide +kernel
abbrev L_X8_take : List Rc := [(1, 1, 7, 10), (1, 1, 13, 14)]
def P_X8_take (σ0 : Nat → Nat → Int32) (a1 : Int32) (r : Int32) (σ : Nat → Nat → Int32) : Prop := Rg σ ∧ Fr L_X8_take σ0 σ ∧ (0 ≤ r.toInt ∧ r.toInt ≤ 1)
set_option maxHeartbeats 4000000 in
theorem c_X8_take (l : Launch) (D : va_G) (cA : Nat → ClassId) (ad : Nat → Nat) (hI : Inj ad) (σ0 : Nat → Nat → Int32) (τ0 : Nat → Nat → Int64) (hR : Rg σ0) (a1 : Int32) (ha1 : 40 ≤ a1.toInt ∧ a1.toInt ≤ 45) : Met l yX8_take wsX8_take ({ frames := 1, cells := 0, slots := 0, locals := 21 } : Room) (WQc D cA ad [.ref (ad 1), .int a1] σ0 τ0) (va_Qi (fun (r : Int32) (u : SS) => P_X8_take σ0 a1 r u.1) (WB D cA ad) (AA ad)) 0 0 (AA ad) := by
  refine Met.ofW (cc := cX8_take) (maxL := 2) (ret := (some .boolean)) (by decide) rfl ?_
  intro p e s m args below meth c s₁ B hml hv
  obtain ⟨rfl, hP, hK, hN⟩ := hv
  have C : Cy p s m _ meth c cX8_take 2 wsX8_take RX8 D cA ad (some .boolean) := ⟨B.exec, B.bytes, hml, findClass_of_methodNamed B.named, atoms_spec (ws := wsX8_take) B.pre, hK, B.notSynchronized, B.returns, hI, hN⟩
  have hl := lv_entry ([.ref (ad 1), .int a1]) (n := 2) (Nat.le_of_ble_eq_true rfl)
  rw [lg_entry_eq]
  generalize (lg_sl ([.ref (ad 1), .int a1]) ++ List.replicate (2 - (lg_sl ([.ref (ad 1), .int a1])).length) Slot.unset).toArray = ls at hl ⊢
  have hl : lv_has ls 2 [(0, .ref (ad 1)), (1, .int a1)] := hl
  have hS : va_S (AA ad) s.heap s.heap [] := va_S.rf
  have hF : Fr L_X8_take σ0 σ0 := Fr.rf
  obtain ⟨hx, hb, _, hown, hts, _, hk, hr, _, _⟩ := C
  refine lv_aload_n hx hb dX8_take_0 rfl (lv_at hl 0 rfl) ?_
  refine fg_8_9 (k := 1) hx hb hts in_X8_take_8 hown hK hP (by decide) (by decide) (hts _ lk_X8_take_85) dX8_take_1 ?_
  refine lv_iload_n hx hb dX8_take_4 rfl (lv_at hl 1 rfl) ?_
  refine r_icmp_eq (tgt := 14) hx hb dX8_take_5 (by decide) (fun c1 => ?_) (fun c1 => ?_)
  · refine lv_aload_n hx hb dX8_take_14 rfl (lv_at hl 0 rfl) ?_
    refine r_cVv (k := 1) (As := []) (rest := []) ⟨hx, hb, hml, hown, hts⟩ hK hP hN hS (c_X8_next l D cA ad hI σ0 τ0 hR) (cwV 0 hts gX8_take_X8_next rfl rfl rfl (by decide +kernel) ⟨by decide, by decide⟩) (rv_Tape hK hP (by decide) (by decide)) rfl hl.1 rfl (Nat.le_of_ble_eq_true rfl) dX8_take_15 (Nat.zero_le _) (Nat.zero_le _) (fun u2 H2 locs2 hp2 hP hS => ?_)
    obtain ⟨σ2, τ2⟩ := u2
    obtain ⟨hR, f2⟩ : P_X8_next σ0 σ2 := hp2
    have hP : va_P D vwCl (gw cA ad σ2 τ2) H2 := hP
    have hF := hF.step f2 (by decide)
    refine r_iconst hx hb dX8_take_18 (by decide) (fun z3 ez3 => ?_)
    exact r_zret hx hb hr hK hP hS hk (by omega) dX8_take_19 (show P_X8_take σ0 a1 z3 σ2 from ⟨hR, hF, ⟨by omega, by omega⟩⟩)
  · refine lv_aload_n hx hb dX8_take_8 rfl (lv_at hl 0 rfl) ?_
    refine r_iconst hx hb dX8_take_9 (by decide) (fun z4 ez4 => ?_)
    refine r_cVi (k := 1) (As := [.int z4]) (rest := []) ⟨hx, hb, hml, hown, hts⟩ hK hP hN hS (c_X8_blame l D cA ad hI σ0 τ0 hR z4 ⟨by omega, by omega⟩) (cwV 1 hts gX8_take_X8_blame rfl rfl rfl (by decide +kernel) ⟨by decide, by decide⟩) (rv_Tape hK hP (by decide) (by decide)) rfl hl.1 rfl (Nat.le_of_ble_eq_true rfl) dX8_take_10 (Nat.zero_le _) (Nat.zero_le _) (fun r5 u5 H5 locs5 hp5 hP hS => ?_)
    obtain ⟨σ5, τ5⟩ := u5
    obtain ⟨hR, f5, hq5⟩ : P_X8_blame σ0 z4 r5 σ5 := hp5
    have hP : va_P D vwCl (gw cA ad σ5 τ5) H5 := hP
    have hF := hF.step f5 (by decide)
    exact r_zret hx hb hr hK hP hS hk (by omega) dX8_take_13 (show P_X8_take σ0 a1 r5 σ5 from ⟨hR, hF, ⟨by omega, by omega⟩⟩)
theorem in_X9_clear_9 : ∀ w ∈ u_ws RX9 TX9 14, w ∈ wsX9_clear := by decide +kernel
theorem lk_X9_clear_36 : Cond.fieldLink RX9 36 "CuckooShares$Valley" "ridge" "I" ∈ wsX9_clear := by decide +kernel
theorem lk_X9_clear_40 : Cond.fieldLink RX9 40 "CuckooShares$Valley" "wheat" "I" ∈ wsX9_clear := by decide +kernel
theorem lk_X9_clear_43 : Cond.fieldLink RX9 43 "CuckooShares$Valley" "windWay" "I" ∈ wsX9_clear := by decide +kernel
theorem lk_X9_clear_46 : Cond.fieldLink RX9 46 "CuckooShares$Valley" "windForce" "I" ∈ wsX9_clear := by decide +kernel
theorem lk_X9_clear_49 : Cond.fieldLink RX9 49 "CuckooShares$Valley" "hills" "I" ∈ wsX9_clear := by decide +kernel
theorem lk_X9_clear_52 : Cond.fieldLink RX9 52 "CuckooShares$Valley" "men" "I" ∈ wsX9_clear := by decide +kernel
theorem lk_X9_clear_55 : Cond.fieldLink RX9 55 "CuckooShares$Valley" "flights" "I" ∈ wsX9_clear := by decide +kernel
abbrev L_X9_clear : List Rc := [(3, 3, 0, 6)]
def P_X9_clear (σ0 : Nat → Nat → Int32)  (σ : Nat → Nat → Int32) : Prop := Rg σ ∧ Fr L_X9_clear σ0 σ
set_option maxHeartbeats 4000000 in
theorem c_X9_clear (l : Launch) (D : va_G) (cA : Nat → ClassId) (ad : Nat → Nat) (hI : Inj ad) (σ0 : Nat → Nat → Int32) (τ0 : Nat → Nat → Int64) (hR : Rg σ0)   : Met l yX9_clear wsX9_clear ({ frames := 0, cells := 0, slots := 0, locals := 0 } : Room) (WQc D cA ad [.ref (ad 3)] σ0 τ0) (va_Qv (fun u : SS => P_X9_clear σ0 u.1) (WB D cA ad) (AA ad)) 0 0 (AA ad) := by
  refine Met.ofW (cc := cX9_clear) (maxL := 1) (ret := none) (by decide) rfl ?_
  intro p e s m args below meth c s₁ B hml hv
  obtain ⟨rfl, hP, hK, hN⟩ := hv
  have C : Cy p s m _ meth c cX9_clear 1 wsX9_clear RX9 D cA ad none := ⟨B.exec, B.bytes, hml, findClass_of_methodNamed B.named, atoms_spec (ws := wsX9_clear) B.pre, hK, B.notSynchronized, B.returns, hI, hN⟩
  have hl := lv_entry ([.ref (ad 3)]) (n := 1) (Nat.le_of_ble_eq_true rfl)
  rw [lg_entry_eq]
  generalize (lg_sl ([.ref (ad 3)]) ++ List.replicate (1 - (lg_sl ([.ref (ad 3)])).length) Slot.unset).toArray = ls at hl ⊢
  have hl : lv_has ls 1 [(0, .ref (ad 3))] := hl
  have hS : va_S (AA ad) s.heap s.heap [] := va_S.rf
  have hF : Fr L_X9_clear σ0 σ0 := Fr.rf
  obtain ⟨hx, hb, _, hown, hts, _, hk, hr, _, _⟩ := C
  refine lv_aload_n hx hb dX9_clear_0 rfl (lv_at hl 0 rfl) ?_
  refine r_bipush hx hb dX9_clear_1 (by decide) (fun z1 ez1 => ?_)
  refine fp_9_0 (k := 3) hx hb hts in_X9_clear_9 hown hK hP (by decide) (by decide) (hts _ lk_X9_clear_36) hI hR hS dX9_clear_3 (fun σ2 H2 locs2 u2 v2 hR hP hS => ?_)
  have hF := hF.puts u2 0 rfl (by decide) (by decide) (by decide) (by decide)
  refine lv_aload_n hx hb dX9_clear_6 rfl (lv_at hl 0 rfl) ?_
  refine r_bipush hx hb dX9_clear_7 (by decide) (fun z3 ez3 => ?_)
  refine fp_9_1 (k := 3) hx hb hts in_X9_clear_9 hown hK hP (by decide) (by decide) (hts _ lk_X9_clear_40) hI hR hS dX9_clear_9 (fun σ4 H4 locs4 u4 v4 hR hP hS => ?_)
  have hF := hF.puts u4 0 rfl (by decide) (by decide) (by decide) (by decide)
  refine lv_aload_n hx hb dX9_clear_12 rfl (lv_at hl 0 rfl) ?_
  refine r_iconst hx hb dX9_clear_13 (by decide) (fun z5 ez5 => ?_)
  refine fp_9_2 (k := 3) hx hb hts in_X9_clear_9 hown hK hP (by decide) (by decide) (hts _ lk_X9_clear_43) hI hR hS dX9_clear_14 (fun σ6 H6 locs6 u6 v6 hR hP hS => ?_)
  have hF := hF.puts u6 0 rfl (by decide) (by decide) (by decide) (by decide)
  refine lv_aload_n hx hb dX9_clear_17 rfl (lv_at hl 0 rfl) ?_
  refine r_iconst hx hb dX9_clear_18 (by decide) (fun z7 ez7 => ?_)
  refine fp_9_3 (k := 3) hx hb hts in_X9_clear_9 hown hK hP (by decide) (by decide) (hts _ lk_X9_clear_46) hI hR hS dX9_clear_19 (fun σ8 H8 locs8 u8 v8 hR hP hS => ?_)
  have hF := hF.puts u8 0 rfl (by decide) (by decide) (by decide) (by decide)
  refine lv_aload_n hx hb dX9_clear_22 rfl (lv_at hl 0 rfl) ?_
  refine r_iconst hx hb dX9_clear_23 (by decide) (fun z9 ez9 => ?_)
  refine fp_9_4 (k := 3) hx hb hts in_X9_clear_9 hown hK hP (by decide) (by decide) (hts _ lk_X9_clear_49) hI hR hS (by omega) dX9_clear_24 (fun σ10 H10 locs10 u10 v10 hR hP hS => ?_)
  have hF := hF.puts u10 0 rfl (by decide) (by decide) (by decide) (by decide)
  refine lv_aload_n hx hb dX9_clear_27 rfl (lv_at hl 0 rfl) ?_
  refine r_iconst hx hb dX9_clear_28 (by decide) (fun z11 ez11 => ?_)
  refine fp_9_5 (k := 3) hx hb hts in_X9_clear_9 hown hK hP (by decide) (by decide) (hts _ lk_X9_clear_52) hI hR hS (by omega) dX9_clear_29 (fun σ12 H12 locs12 u12 v12 hR hP hS => ?_)
  have hF := hF.puts u12 0 rfl (by decide) (by decide) (by decide) (by decide)
  refine lv_aload_n hx hb dX9_clear_32 rfl (lv_at hl 0 rfl) ?_
  refine r_iconst hx hb dX9_clear_33 (by decide) (fun z13 ez13 => ?_)
  refine fp_9_6 (k := 3) hx hb hts in_X9_clear_9 hown hK hP (by decide) (by decide) (hts _ lk_X9_clear_55) hI hR hS (by omega) dX9_clear_34 (fun σ14 H14 locs14 u14 v14 hR hP hS => ?_)
  have hF := hF.puts u14 0 rfl (by decide) (by decide) (by decide) (by decide)
  exact r_vret hx hb hr hK hP hS hk dX9_clear_37 (show P_X9_clear σ0 σ14 from ⟨hR, hF⟩)
theorem in_X9_hasMan_9 : ∀ w ∈ u_ws RX9 TX9 14, w ∈ wsX9_hasMan := by decide +kernel
theorem lk_X9_hasMan_52 : Cond.fieldLink RX9 52 "CuckooShares$Valley" "men" "I" ∈ wsX9_hasMan := by decide +kernel
abbrev L_X9_hasMan : List Rc := []
def P_X9_hasMan (σ0 : Nat → Nat → Int32) (k0 : Nat) (a1 : Int32) (r : Int32) (σ : Nat → Nat → Int32) : Prop := Rg σ ∧ Fr L_X9_hasMan σ0 σ ∧ (0 ≤ r.toInt ∧ r.toInt ≤ 1) ∧ (r.toInt = 0 ∨ (r.toInt = 1 ∧ 0 ≤ a1.toInt ∧ a1.toInt < (σ0 k0 5).toInt ∧ a1.toInt ≤ 7))
set_option maxHeartbeats 4000000 in
theorem c_X9_hasMan (l : Launch) (D : va_G) (cA : Nat → ClassId) (ad : Nat → Nat) (hI : Inj ad) (σ0 : Nat → Nat → Int32) (τ0 : Nat → Nat → Int64) (hR : Rg σ0) (k0 : Nat) (a1 : Int32) (hk0 : 2 ≤ k0 ∧ k0 ≤ 5) : Met l yX9_hasMan wsX9_hasMan ({ frames := 0, cells := 0, slots := 0, locals := 0 } : Room) (WQc D cA ad [.ref (ad k0), .int a1] σ0 τ0) (va_Qi (fun (r : Int32) (u : SS) => P_X9_hasMan σ0 k0 a1 r u.1) (WB D cA ad) (AA ad)) 0 0 (AA ad) := by
  refine Met.ofW (cc := cX9_hasMan) (maxL := 2) (ret := (some .boolean)) (by decide) rfl ?_
  intro p e s m args below meth c s₁ B hml hv
  obtain ⟨rfl, hP, hK, hN⟩ := hv
  have C : Cy p s m _ meth c cX9_hasMan 2 wsX9_hasMan RX9 D cA ad (some .boolean) := ⟨B.exec, B.bytes, hml, findClass_of_methodNamed B.named, atoms_spec (ws := wsX9_hasMan) B.pre, hK, B.notSynchronized, B.returns, hI, hN⟩
  have hl := lv_entry ([.ref (ad k0), .int a1]) (n := 2) (Nat.le_of_ble_eq_true rfl)
  rw [lg_entry_eq]
  generalize (lg_sl ([.ref (ad k0), .int a1]) ++ List.replicate (2 - (lg_sl ([.ref (ad k0), .int a1])).length) Slot.unset).toArray = ls at hl ⊢
  have hl : lv_has ls 2 [(0, .ref (ad k0)), (1, .int a1)] := hl
  have hS : va_S (AA ad) s.heap s.heap [] := va_S.rf
  have hF : Fr L_X9_hasMan σ0 σ0 := Fr.rf
  obtain ⟨hx, hb, _, hown, hts, _, hk, hr, _, _⟩ := C
  refine lv_iload_n hx hb dX9_hasMan_0 rfl (lv_at hl 1 rfl) ?_
  refine r_if_lt (tgt := 16) hx hb dX9_hasMan_1 (by decide) (fun c1 => ?_) (fun c1 => ?_)
  · refine r_iconst hx hb dX9_hasMan_16 (by decide) (fun z2 ez2 => ?_)
    exact r_zret hx hb hr hK hP hS hk (by omega) dX9_hasMan_17 (show P_X9_hasMan σ0 k0 a1 z2 σ0 from ⟨hR, hF, ⟨by omega, by omega⟩, by omega⟩)
  · refine lv_iload_n hx hb dX9_hasMan_4 rfl (lv_at hl 1 rfl) ?_
    refine lv_aload_n hx hb dX9_hasMan_5 rfl (lv_at hl 0 rfl) ?_
    refine fg_9_5 (k := k0) hx hb hts in_X9_hasMan_9 hown hK hP (by omega) (by omega) (hts _ lk_X9_hasMan_52) dX9_hasMan_6 ?_
    have hr3 := rg_9_5 hR (k := k0) (by omega) (by omega)
    refine r_icmp_ge (tgt := 16) hx hb dX9_hasMan_9 (by decide) (fun c4 => ?_) (fun c4 => ?_)
    · refine r_iconst hx hb dX9_hasMan_16 (by decide) (fun z5 ez5 => ?_)
      exact r_zret hx hb hr hK hP hS hk (by omega) dX9_hasMan_17 (show P_X9_hasMan σ0 k0 a1 z5 σ0 from ⟨hR, hF, ⟨by omega, by omega⟩, by omega⟩)
    · refine r_iconst hx hb dX9_hasMan_12 (by decide) (fun z6 ez6 => ?_)
      refine lv_goto (tgt := 17) hx hb dX9_hasMan_13 (by decide) ?_
      exact r_zret hx hb hr hK hP hS hk (by omega) dX9_hasMan_17 (show P_X9_hasMan σ0 k0 a1 z6 σ0 from ⟨hR, hF, ⟨by omega, by omega⟩, by omega⟩)
theorem in_X9_noteEchoes_9 : ∀ w ∈ u_ws RX9 TX9 14, w ∈ wsX9_noteEchoes := by decide +kernel
theorem lk_X9_noteEchoes_23 : Cond.fieldLink RX9 23 "CuckooShares$Valley" "man" "[[I" ∈ wsX9_noteEchoes := by decide +kernel
theorem lk_X9_noteEchoes_32 : Cond.fieldLink RX9 32 "CuckooShares$Valley" "echo" "[I" ∈ wsX9_noteEchoes := by decide +kernel
theorem lk_X9_noteEchoes_52 : Cond.fieldLink RX9 52 "CuckooShares$Valley" "men" "I" ∈ wsX9_noteEchoes := by decide +kernel
abbrev L_X9_noteEchoes : List Rc := [(65, 65, 0, 7)]
def P_X9_noteEchoes (σ0 : Nat → Nat → Int32)  (σ : Nat → Nat → Int32) : Prop := Rg σ ∧ Fr L_X9_noteEchoes σ0 σ
def J_X9_noteEchoes_2 (p : Program) (l : Launch) (e : Env) (s : State) (m : MethodId) (args : Array Value) (below : List Frame) (meth : Method) (c : Code) (D : va_G) (cA : Nat → ClassId) (ad : Nat → Nat) (σ0 : Nat → Nat → Int32)  (n : Nat) : Prop := ∀ (σ : Nat → Nat → Int32) (τ : Nat → Nat → Int64) (H : Heap) (locs : List Loc) (x1 : Int32) (ls : Array Slot), Rg σ → Fr L_X9_noteEchoes σ0 σ → va_P D vwCl (gw cA ad σ τ) H → va_S (AA ad) s.heap H locs → (0 ≤ x1.toInt ∧ x1.toInt ≤ 8) → lv_has ls 3 [(0, .ref (ad 3)), (1, .int x1)] → 21 * (8 - x1.toInt) + 20 < (n : Int) → W p l e ({ frames := 1, cells := 0, slots := 0, locals := 21 } : Room) s m args below meth c H locs 0 0 (MQ below (va_Qv (fun u : SS => P_X9_noteEchoes σ0 u.1) (WB D cA ad) (AA ad)) args s 0 0 (AA ad)) (F0 m 2 ls [])
def J_X9_noteEchoes_43 (p : Program) (l : Launch) (e : Env) (s : State) (m : MethodId) (args : Array Value) (below : List Frame) (meth : Method) (c : Code) (D : va_G) (cA : Nat → ClassId) (ad : Nat → Nat) (σ0 : Nat → Nat → Int32)  (n : Nat) : Prop := ∀ (σ : Nat → Nat → Int32) (τ : Nat → Nat → Int64) (H : Heap) (locs : List Loc) (x1 : Int32) (ls : Array Slot), Rg σ → Fr L_X9_noteEchoes σ0 σ → va_P D vwCl (gw cA ad σ τ) H → va_S (AA ad) s.heap H locs → (0 ≤ x1.toInt ∧ x1.toInt ≤ 8) → (0 ≤ (σ 3 5).toInt ∧ (σ 3 5).toInt ≤ 8) → lv_has ls 3 [(0, .ref (ad 3)), (1, .int x1)] → 2 * (8 - x1.toInt) + 1 < (n : Int) → W p l e ({ frames := 1, cells := 0, slots := 0, locals := 21 } : Room) s m args below meth c H locs 0 0 (MQ below (va_Qv (fun u : SS => P_X9_noteEchoes σ0 u.1) (WB D cA ad) (AA ad)) args s 0 0 (AA ad)) (F0 m 43 ls [])
set_option maxHeartbeats 4000000 in
theorem B_X9_noteEchoes_2 (p : Program) (l : Launch) (e : Env) (s : State) (m : MethodId) (args : Array Value) (below : List Frame) (meth : Method) (c : Code) (D : va_G) (cA : Nat → ClassId) (ad : Nat → Nat) (σ0 : Nat → Nat → Int32)  (n : Nat) (C : Cy p s m args meth c cX9_noteEchoes 3 wsX9_noteEchoes RX9 D cA ad none)  (K2 : J_X9_noteEchoes_2 p l e s m args below meth c D cA ad σ0  n) (K43 : J_X9_noteEchoes_43 p l e s m args below meth c D cA ad σ0  n) : J_X9_noteEchoes_2 p l e s m args below meth c D cA ad σ0  (n + 1) := by
  obtain ⟨hx, hb, hml, hown, hts, hK, hk, hr, hI, hN⟩ := C
  intro σ τ H locs x1 ls hR hF hP hS hc0 hl hm
  refine lv_iload_n hx hb dX9_noteEchoes_2 rfl (lv_at hl 1 rfl) ?_
  refine lv_aload_n hx hb dX9_noteEchoes_3 rfl (lv_at hl 0 rfl) ?_
  refine fg_9_5 (k := 3) hx hb hts in_X9_noteEchoes_9 hown hK hP (by decide) (by decide) (hts _ lk_X9_noteEchoes_52) dX9_noteEchoes_4 ?_
  have hr1 := rg_9_5 hR (k := 3) (by decide) (by decide)
  refine r_icmp_ge (tgt := 41) hx hb dX9_noteEchoes_7 (by decide) (fun c2 => ?_) (fun c2 => ?_)
  · refine r_iconst hx hb dX9_noteEchoes_41 (by decide) (fun z3 ez3 => ?_)
    refine lv_istore_n (lv' := [(1, .int z3), (0, .ref (ad 3))]) hx hb dX9_noteEchoes_42 rfl hl (by decide) rfl (fun ls hl => ?_)
    exact K43 σ τ H locs z3 ls hR hF hP hS (by omega) (by omega) (lv_sub hl [1, 0] rfl) (by omega)
  · refine lv_aload_n hx hb dX9_noteEchoes_10 rfl (lv_at hl 0 rfl) ?_
    refine fg_9_13 (k := 3) hx hb hts in_X9_noteEchoes_9 hown hK hP (by decide) (by decide) (hts _ lk_X9_noteEchoes_32) dX9_noteEchoes_11 ?_
    refine lv_iload_n hx hb dX9_noteEchoes_14 rfl (lv_at hl 1 rfl) ?_
    refine lv_aload_n hx hb dX9_noteEchoes_15 rfl (lv_at hl 0 rfl) ?_
    refine fg_9_10 (k := 3) hx hb hts in_X9_noteEchoes_9 hown hK hP (by decide) (by decide) (hts _ lk_X9_noteEchoes_23) dX9_noteEchoes_16 ?_
    refine lv_iload_n hx hb dX9_noteEchoes_19 rfl (lv_at hl 1 rfl) ?_
    obtain ⟨j4, ej4⟩ : ∃ j : Nat, x1.toInt = (j : Int) := ⟨_, ti_nat (by omega)⟩
    refine ad_manA (k := 53) (j := j4) hx hb hK hP (by decide) (by decide) ej4 (by omega) dX9_noteEchoes_20 ?_
    refine r_iconst hx hb dX9_noteEchoes_21 (by decide) (fun z5 ez5 => ?_)
    refine ad_manR (k := 108 + j4) (j := 4) hx hb hK hP (by omega) (by omega) (by omega) (by omega) dX9_noteEchoes_22 ?_
    refine r_iconst hx hb dX9_noteEchoes_23 (by decide) (fun z6 ez6 => ?_)
    refine r_icmp_ne (tgt := 33) hx hb dX9_noteEchoes_24 (by decide) (fun c7 => ?_) (fun c7 => ?_)
    · refine r_iconst hx hb dX9_noteEchoes_33 (by decide) (fun z8 ez8 => ?_)
      refine as_echo (k := 65) (j := j4) hx hb hK hP hI hR hS (by decide) (by decide) ej4 (by omega) dX9_noteEchoes_34 (fun σ9 H9 locs9 u9 v9 hR hP hS => ?_)
      have hF := hF.puts u9 0 rfl (by decide) (by decide) (by omega) (by omega)
      have t10 : (σ9 3 5).toInt = (σ 3 5).toInt := congrArg Int32.toInt (u9 3 5 (by omega))
      refine r_iinc (k := 1) (lv1 := fun z11 => [(1, .int z11), (0, .ref (ad 3))]) hx hb dX9_noteEchoes_35 hl rfl (by decide) (fun _ => rfl) (by decide) (by omega) (fun z11 ls ez11 hl => ?_)
      refine lv_goto (tgt := 2) hx hb dX9_noteEchoes_38 (by decide) ?_
      exact K2 σ9 τ H9 locs9 z11 ls hR hF hP hS (by omega) (lv_sub hl [1, 0] rfl) (by omega)
    · refine r_iconst hx hb dX9_noteEchoes_27 (by decide) (fun z12 ez12 => ?_)
      refine lv_iload_n hx hb dX9_noteEchoes_28 rfl (lv_at hl 1 rfl) ?_
      refine r_ishlU hx hb dX9_noteEchoes_29 (fun z13 => ?_)
      refine lv_goto (tgt := 34) hx hb dX9_noteEchoes_30 (by decide) ?_
      refine as_echo (k := 65) (j := j4) hx hb hK hP hI hR hS (by decide) (by decide) ej4 (by omega) dX9_noteEchoes_34 (fun σ14 H14 locs14 u14 v14 hR hP hS => ?_)
      have hF := hF.puts u14 0 rfl (by decide) (by decide) (by omega) (by omega)
      have t15 : (σ14 3 5).toInt = (σ 3 5).toInt := congrArg Int32.toInt (u14 3 5 (by omega))
      refine r_iinc (k := 1) (lv1 := fun z16 => [(1, .int z16), (0, .ref (ad 3))]) hx hb dX9_noteEchoes_35 hl rfl (by decide) (fun _ => rfl) (by decide) (by omega) (fun z16 ls ez16 hl => ?_)
      refine lv_goto (tgt := 2) hx hb dX9_noteEchoes_38 (by decide) ?_
      exact K2 σ14 τ H14 locs14 z16 ls hR hF hP hS (by omega) (lv_sub hl [1, 0] rfl) (by omega)
set_option maxHeartbeats 4000000 in
theorem B_X9_noteEchoes_43 (p : Program) (l : Launch) (e : Env) (s : State) (m : MethodId) (args : Array Value) (below : List Frame) (meth : Method) (c : Code) (D : va_G) (cA : Nat → ClassId) (ad : Nat → Nat) (σ0 : Nat → Nat → Int32)  (n : Nat) (C : Cy p s m args meth c cX9_noteEchoes 3 wsX9_noteEchoes RX9 D cA ad none)  (K2 : J_X9_noteEchoes_2 p l e s m args below meth c D cA ad σ0  n) (K43 : J_X9_noteEchoes_43 p l e s m args below meth c D cA ad σ0  n) : J_X9_noteEchoes_43 p l e s m args below meth c D cA ad σ0  (n + 1) := by
  obtain ⟨hx, hb, hml, hown, hts, hK, hk, hr, hI, hN⟩ := C
  intro σ τ H locs x1 ls hR hF hP hS hc0 hc1 hl hm
  refine lv_iload_n hx hb dX9_noteEchoes_43 rfl (lv_at hl 1 rfl) ?_
  refine lv_aload_n hx hb dX9_noteEchoes_44 rfl (lv_at hl 0 rfl) ?_
  refine fg_9_5 (k := 3) hx hb hts in_X9_noteEchoes_9 hown hK hP (by decide) (by decide) (hts _ lk_X9_noteEchoes_52) dX9_noteEchoes_45 ?_
  refine r_icmp_ge (tgt := 98) hx hb dX9_noteEchoes_48 (by decide) (fun c1 => ?_) (fun c1 => ?_)
  · exact r_vret hx hb hr hK hP hS hk dX9_noteEchoes_98 (show P_X9_noteEchoes σ0 σ from ⟨hR, hF⟩)
  · refine lv_aload_n hx hb dX9_noteEchoes_51 rfl (lv_at hl 0 rfl) ?_
    refine fg_9_10 (k := 3) hx hb hts in_X9_noteEchoes_9 hown hK hP (by decide) (by decide) (hts _ lk_X9_noteEchoes_23) dX9_noteEchoes_52 ?_
    refine lv_iload_n hx hb dX9_noteEchoes_55 rfl (lv_at hl 1 rfl) ?_
    obtain ⟨j2, ej2⟩ : ∃ j : Nat, x1.toInt = (j : Int) := ⟨_, ti_nat (by omega)⟩
    refine ad_manA (k := 53) (j := j2) hx hb hK hP (by decide) (by decide) ej2 (by omega) dX9_noteEchoes_56 ?_
    refine r_iconst hx hb dX9_noteEchoes_57 (by decide) (fun z3 ez3 => ?_)
    refine ad_manR (k := 108 + j2) (j := 4) hx hb hK hP (by omega) (by omega) (by omega) (by omega) dX9_noteEchoes_58 ?_
    refine lv_istore_n (lv' := [(2, .int (σ (108 + j2) 4)), (0, .ref (ad 3)), (1, .int x1)]) hx hb dX9_noteEchoes_59 rfl hl (by decide) rfl (fun ls hl => ?_)
    refine lv_aload_n hx hb dX9_noteEchoes_60 rfl (lv_at hl 1 rfl) ?_
    refine lv_iload_n hx hb dX9_noteEchoes_61 rfl (lv_at hl 0 rfl) ?_
    refine r_cVi (k := 3) (As := [.int (σ (108 + j2) 4)]) (rest := []) ⟨hx, hb, hml, hown, hts⟩ hK hP hN hS (c_X9_hasMan l D cA ad hI σ τ hR 3 (σ (108 + j2) 4) ⟨by omega, by omega⟩) (cwV 1 hts gX9_noteEchoes_X9_hasMan rfl rfl rfl (by decide +kernel) ⟨by decide, by decide⟩) (rv_Valley hK hP (by decide) (by decide)) rfl hl.1 rfl (Nat.le_of_ble_eq_true rfl) dX9_noteEchoes_62 (Nat.zero_le _) (Nat.zero_le _) (fun r4 u4 H4 locs4 hp4 hP hS => ?_)
    obtain ⟨σ4, τ4⟩ := u4
    obtain ⟨hR, f4, hq4, hp4_0⟩ : P_X9_hasMan σ 3 (σ (108 + j2) 4) r4 σ4 := hp4
    have hP : va_P D vwCl (gw cA ad σ4 τ4) H4 := hP
    obtain rfl := Fr.nil f4
    refine r_if_eq (tgt := 92) hx hb dX9_noteEchoes_65 (by decide) (fun c5 => ?_) (fun c5 => ?_)
    · refine r_iinc (k := 2) (lv1 := fun z6 => [(1, .int z6), (2, .int (σ (108 + j2) 4)), (0, .ref (ad 3))]) hx hb dX9_noteEchoes_92 hl rfl (by decide) (fun _ => rfl) (by decide) (by omega) (fun z6 ls ez6 hl => ?_)
      refine lv_goto (tgt := 43) hx hb dX9_noteEchoes_95 (by decide) ?_
      exact K43 σ τ4 H4 locs4 z6 ls hR hF hP hS (by omega) (by omega) (lv_sub hl [2, 0] rfl) (by omega)
    · refine lv_aload_n hx hb dX9_noteEchoes_68 rfl (lv_at hl 1 rfl) ?_
      refine fg_9_10 (k := 3) hx hb hts in_X9_noteEchoes_9 hown hK hP (by decide) (by decide) (hts _ lk_X9_noteEchoes_23) dX9_noteEchoes_69 ?_
      refine lv_iload_n hx hb dX9_noteEchoes_72 rfl (lv_at hl 0 rfl) ?_
      obtain ⟨j7, ej7⟩ : ∃ j : Nat, (σ (108 + j2) 4).toInt = (j : Int) := ⟨_, ti_nat (by omega)⟩
      refine ad_manA (k := 53) (j := j7) hx hb hK hP (by decide) (by decide) ej7 (by omega) dX9_noteEchoes_73 ?_
      refine r_iconst hx hb dX9_noteEchoes_74 (by decide) (fun z8 ez8 => ?_)
      refine ad_manR (k := 108 + j7) (j := 4) hx hb hK hP (by omega) (by omega) (by omega) (by omega) dX9_noteEchoes_75 ?_
      refine r_iconst hx hb dX9_noteEchoes_76 (by decide) (fun z9 ez9 => ?_)
      refine r_icmp_ne (tgt := 92) hx hb dX9_noteEchoes_77 (by decide) (fun c10 => ?_) (fun c10 => ?_)
      · refine r_iinc (k := 2) (lv1 := fun z11 => [(1, .int z11), (2, .int (σ (108 + j2) 4)), (0, .ref (ad 3))]) hx hb dX9_noteEchoes_92 hl rfl (by decide) (fun _ => rfl) (by decide) (by omega) (fun z11 ls ez11 hl => ?_)
        refine lv_goto (tgt := 43) hx hb dX9_noteEchoes_95 (by decide) ?_
        exact K43 σ τ4 H4 locs4 z11 ls hR hF hP hS (by omega) (by omega) (lv_sub hl [2, 0] rfl) (by omega)
      · refine lv_aload_n hx hb dX9_noteEchoes_80 rfl (lv_at hl 1 rfl) ?_
        refine fg_9_13 (k := 3) hx hb hts in_X9_noteEchoes_9 hown hK hP (by decide) (by decide) (hts _ lk_X9_noteEchoes_32) dX9_noteEchoes_81 ?_
        refine lv_iload_n hx hb dX9_noteEchoes_84 rfl (lv_at hl 0 rfl) ?_
        refine lv_dup2_11 hx hb dX9_noteEchoes_85 rfl rfl ?_
        refine ad_echo (k := 65) (j := j7) hx hb hK hP (by decide) (by decide) ej7 (by omega) dX9_noteEchoes_86 ?_
        refine r_iconst hx hb dX9_noteEchoes_87 (by decide) (fun z12 ez12 => ?_)
        refine lv_iload_n hx hb dX9_noteEchoes_88 rfl (lv_at hl 2 rfl) ?_
        refine r_ishlU hx hb dX9_noteEchoes_89 (fun z13 => ?_)
        refine r_iorU hx hb dX9_noteEchoes_90 (fun z14 => ?_)
        refine as_echo (k := 65) (j := j7) hx hb hK hP hI hR hS (by decide) (by decide) ej7 (by omega) dX9_noteEchoes_91 (fun σ15 H15 locs15 u15 v15 hR hP hS => ?_)
        have hF := hF.puts u15 0 rfl (by decide) (by decide) (by omega) (by omega)
        have t16 : (σ15 3 5).toInt = (σ 3 5).toInt := congrArg Int32.toInt (u15 3 5 (by omega))
        refine r_iinc (k := 2) (lv1 := fun z17 => [(1, .int z17), (2, .int (σ (108 + j2) 4)), (0, .ref (ad 3))]) hx hb dX9_noteEchoes_92 hl rfl (by decide) (fun _ => rfl) (by decide) (by omega) (fun z17 ls ez17 hl => ?_)
        refine lv_goto (tgt := 43) hx hb dX9_noteEchoes_95 (by decide) ?_
        exact K43 σ15 τ4 H15 locs15 z17 ls hR hF hP hS (by omega) (by omega) (lv_sub hl [2, 0] rfl) (by omega)
theorem A_X9_noteEchoes (p : Program) (l : Launch) (e : Env) (s : State) (m : MethodId) (args : Array Value) (below : List Frame) (meth : Method) (c : Code) (D : va_G) (cA : Nat → ClassId) (ad : Nat → Nat) (σ0 : Nat → Nat → Int32)  (C : Cy p s m args meth c cX9_noteEchoes 3 wsX9_noteEchoes RX9 D cA ad none)  : ∀ n : Nat, J_X9_noteEchoes_2 p l e s m args below meth c D cA ad σ0  n ∧ J_X9_noteEchoes_43 p l e s m args below meth c D cA ad σ0  n := by
  intro n
  induction n with
  | zero =>
    exact ⟨(by intro σ τ H locs x1 ls hR hF hP hS hc0 hl hm; exfalso; omega), (by intro σ τ H locs x1 ls hR hF hP hS hc0 hc1 hl hm; exfalso; omega)⟩
  | succ n ih =>
    exact ⟨B_X9_noteEchoes_2 p l e s m args below meth c D cA ad σ0  n C  ih.1 ih.2, B_X9_noteEchoes_43 p l e s m args below meth c D cA ad σ0  n C  ih.1 ih.2⟩
set_option maxHeartbeats 4000000 in
theorem c_X9_noteEchoes (l : Launch) (D : va_G) (cA : Nat → ClassId) (ad : Nat → Nat) (hI : Inj ad) (σ0 : Nat → Nat → Int32) (τ0 : Nat → Nat → Int64) (hR : Rg σ0)   : Met l yX9_noteEchoes wsX9_noteEchoes ({ frames := 1, cells := 0, slots := 0, locals := 21 } : Room) (WQc D cA ad [.ref (ad 3)] σ0 τ0) (va_Qv (fun u : SS => P_X9_noteEchoes σ0 u.1) (WB D cA ad) (AA ad)) 0 0 (AA ad) := by
  refine Met.ofW (cc := cX9_noteEchoes) (maxL := 3) (ret := none) (by decide) rfl ?_
  intro p e s m args below meth c s₁ B hml hv
  obtain ⟨rfl, hP, hK, hN⟩ := hv
  have C : Cy p s m _ meth c cX9_noteEchoes 3 wsX9_noteEchoes RX9 D cA ad none := ⟨B.exec, B.bytes, hml, findClass_of_methodNamed B.named, atoms_spec (ws := wsX9_noteEchoes) B.pre, hK, B.notSynchronized, B.returns, hI, hN⟩
  have hl := lv_entry ([.ref (ad 3)]) (n := 3) (Nat.le_of_ble_eq_true rfl)
  rw [lg_entry_eq]
  generalize (lg_sl ([.ref (ad 3)]) ++ List.replicate (3 - (lg_sl ([.ref (ad 3)])).length) Slot.unset).toArray = ls at hl ⊢
  have hl : lv_has ls 3 [(0, .ref (ad 3))] := hl
  have hS : va_S (AA ad) s.heap s.heap [] := va_S.rf
  have hF : Fr L_X9_noteEchoes σ0 σ0 := Fr.rf
  have hA := A_X9_noteEchoes p l e s m _ below meth c D cA ad σ0  C  421
  have K2 := hA.1
  have K43 := hA.2
  clear hA
  obtain ⟨hx, hb, _, hown, hts, _, hk, hr, _, _⟩ := C
  refine r_iconst hx hb dX9_noteEchoes_0 (by decide) (fun z1 ez1 => ?_)
  refine lv_istore_n (lv' := [(1, .int z1), (0, .ref (ad 3))]) hx hb dX9_noteEchoes_1 rfl hl (by decide) rfl (fun ls hl => ?_)
  exact K2 σ0 τ0 s.heap [] z1 ls hR hF hP hS (by omega) (lv_sub hl [1, 0] rfl) (by omega)
theorem in_X10_read_10 : ∀ w ∈ u_ws RX10 TX10 5, w ∈ wsX10_read := by decide +kernel
theorem in_X10_read_8 : ∀ w ∈ u_ws RX8 TX8 15, w ∈ wsX10_read := by decide +kernel
theorem lk_X10_read_15 : Cond.fieldLink RX10 15 "CuckooShares$ValleyText" "into" "LCuckooShares$Valley;" ∈ wsX10_read := by decide +kernel
theorem lk_X10_read_24 : Cond.fieldLink RX10 24 "CuckooShares$ValleyText" "lines" "I" ∈ wsX10_read := by decide +kernel
theorem lk_X10_read_28 : Cond.fieldLink RX10 28 "CuckooShares$ValleyText" "wordsTold" "I" ∈ wsX10_read := by decide +kernel
theorem lk_X10_read_31 : Cond.fieldLink RX10 31 "CuckooShares$ValleyText" "fallsTold" "I" ∈ wsX10_read := by decide +kernel
theorem lk_X10_read_9 : Cond.fieldLink RX10 9 "CuckooShares$ValleyText" "tape" "LCuckooShares$Tape;" ∈ wsX10_read := by decide +kernel
abbrev L_X10_read : List Rc := [(3, 3, 0, 6), (6, 6, 2, 4), (65, 65, 0, 7), (1, 1, 7, 10), (1, 1, 12, 14), (136, 139, 0, 2), (76, 83, 0, 2), (108, 115, 0, 5), (148, 227, 0, 2)]
def P_X10_read (σ0 : Nat → Nat → Int32)  (r : Int32) (σ : Nat → Nat → Int32) : Prop := Rg σ ∧ Fr L_X10_read σ0 σ ∧ (0 ≤ r.toInt ∧ r.toInt ≤ 1)
def J_X10_read_22 (p : Program) (l : Launch) (e : Env) (s : State) (m : MethodId) (args : Array Value) (below : List Frame) (meth : Method) (c : Code) (D : va_G) (cA : Nat → ClassId) (ad : Nat → Nat) (σ0 : Nat → Nat → Int32)  (n : Nat) : Prop := ∀ (σ : Nat → Nat → Int32) (τ : Nat → Nat → Int64) (H : Heap) (locs : List Loc)  (ls : Array Slot), Rg σ → Fr L_X10_read σ0 σ → va_P D vwCl (gw cA ad σ τ) H → va_S (AA ad) s.heap H locs → (0 ≤ (σ 6 2).toInt ∧ (σ 6 2).toInt ≤ 940) → lv_has ls 1 [(0, .ref (ad 6))] → 2 * (940 - (σ 6 2).toInt) + 1 < (n : Int) → W p l e ({ frames := 6, cells := 0, slots := 0, locals := 128 } : Room) s m args below meth c H locs 0 0 (MQ below (va_Qi (fun (r : Int32) (u : SS) => P_X10_read σ0 r u.1) (WB D cA ad) (AA ad)) args s 0 0 (AA ad)) (F0 m 22 ls [])
set_option maxHeartbeats 4000000 in
theorem B_X10_read_22 (p : Program) (l : Launch) (e : Env) (s : State) (m : MethodId) (args : Array Value) (below : List Frame) (meth : Method) (c : Code) (D : va_G) (cA : Nat → ClassId) (ad : Nat → Nat) (σ0 : Nat → Nat → Int32)  (n : Nat) (C : Cy p s m args meth c cX10_read 1 wsX10_read RX10 D cA ad (some .boolean))  (K22 : J_X10_read_22 p l e s m args below meth c D cA ad σ0  n) : J_X10_read_22 p l e s m args below meth c D cA ad σ0  (n + 1) := by
  obtain ⟨hx, hb, hml, hown, hts, hK, hk, hr, hI, hN⟩ := C
  intro σ τ H locs ls hR hF hP hS hc0 hl hm
  refine lv_aload_n hx hb dX10_read_22 rfl (lv_at hl 0 rfl) ?_
  refine fg_10_0 (k := 6) hx hb hts in_X10_read_10 hown hK hP (by decide) (by decide) (hts _ lk_X10_read_9) dX10_read_23 ?_
  refine fgN_8_9 (k := 1) hx hb hts in_X10_read_8 hown hK hP (by decide) (by decide) (hN.use nw_10_34) dX10_read_26 ?_
  refine r_bipush hx hb dX10_read_29 (by decide) (fun z1 ez1 => ?_)
  refine r_icmp_eq (tgt := 78) hx hb dX10_read_31 (by decide) (fun c2 => ?_) (fun c2 => ?_)
  · refine lv_aload_n hx hb dX10_read_78 rfl (lv_at hl 0 rfl) ?_
    refine fg_10_1 (k := 6) hx hb hts in_X10_read_10 hown hK hP (by decide) (by decide) (hts _ lk_X10_read_15) dX10_read_79 ?_
    refine r_cVv (k := 3) (As := []) (rest := []) ⟨hx, hb, hml, hown, hts⟩ hK hP hN hS (c_X9_noteEchoes l D cA ad hI σ τ hR) (cwV 0 hts gX10_read_X9_noteEchoes rfl rfl rfl (by decide +kernel) ⟨by decide, by decide⟩) (rv_Valley hK hP (by decide) (by decide)) rfl hl.1 rfl (Nat.le_of_ble_eq_true rfl) dX10_read_82 (Nat.zero_le _) (Nat.zero_le _) (fun u3 H3 locs3 hp3 hP hS => ?_)
    obtain ⟨σ3, τ3⟩ := u3
    obtain ⟨hR, f3⟩ : P_X9_noteEchoes σ σ3 := hp3
    have hP : va_P D vwCl (gw cA ad σ3 τ3) H3 := hP
    have hF := hF.step f3 (by decide)
    have t4 : (σ3 6 2).toInt = (σ 6 2).toInt := congrArg Int32.toInt (f3.at 6 2 (by decide))
    refine r_iconst hx hb dX10_read_85 (by decide) (fun z5 ez5 => ?_)
    exact r_zret hx hb hr hK hP hS hk (by omega) dX10_read_86 (show P_X10_read σ0 z5 σ3 from ⟨hR, hF, ⟨by omega, by omega⟩⟩)
  · refine lv_aload_n hx hb dX10_read_34 rfl (lv_at hl 0 rfl) ?_
    refine fg_10_2 (k := 6) hx hb hts in_X10_read_10 hown hK hP (by decide) (by decide) (hts _ lk_X10_read_24) dX10_read_35 ?_
    refine r_sipush hx hb dX10_read_38 (by decide) (fun z6 ez6 => ?_)
    refine r_icmp_ge (tgt := 78) hx hb dX10_read_41 (by decide) (fun c7 => ?_) (fun c7 => ?_)
    · refine lv_aload_n hx hb dX10_read_78 rfl (lv_at hl 0 rfl) ?_
      refine fg_10_1 (k := 6) hx hb hts in_X10_read_10 hown hK hP (by decide) (by decide) (hts _ lk_X10_read_15) dX10_read_79 ?_
      refine r_cVv (k := 3) (As := []) (rest := []) ⟨hx, hb, hml, hown, hts⟩ hK hP hN hS (c_X9_noteEchoes l D cA ad hI σ τ hR) (cwV 0 hts gX10_read_X9_noteEchoes rfl rfl rfl (by decide +kernel) ⟨by decide, by decide⟩) (rv_Valley hK hP (by decide) (by decide)) rfl hl.1 rfl (Nat.le_of_ble_eq_true rfl) dX10_read_82 (Nat.zero_le _) (Nat.zero_le _) (fun u8 H8 locs8 hp8 hP hS => ?_)
      obtain ⟨σ8, τ8⟩ := u8
      obtain ⟨hR, f8⟩ : P_X9_noteEchoes σ σ8 := hp8
      have hP : va_P D vwCl (gw cA ad σ8 τ8) H8 := hP
      have hF := hF.step f8 (by decide)
      have t9 : (σ8 6 2).toInt = (σ 6 2).toInt := congrArg Int32.toInt (f8.at 6 2 (by decide))
      refine r_iconst hx hb dX10_read_85 (by decide) (fun z10 ez10 => ?_)
      exact r_zret hx hb hr hK hP hS hk (by omega) dX10_read_86 (show P_X10_read σ0 z10 σ8 from ⟨hR, hF, ⟨by omega, by omega⟩⟩)
    · refine lv_aload_n hx hb dX10_read_44 rfl (lv_at hl 0 rfl) ?_
      refine r_cVi (k := 6) (As := []) (rest := []) ⟨hx, hb, hml, hown, hts⟩ hK hP hN hS (c_X10_readLine l D cA ad hI σ τ hR) (cwV 0 hts gX10_read_X10_readLine rfl rfl rfl (by decide +kernel) ⟨by decide, by decide⟩) (rv_VText hK hP (by decide) (by decide)) rfl hl.1 rfl (Nat.le_of_ble_eq_true rfl) dX10_read_45 (Nat.zero_le _) (Nat.zero_le _) (fun r11 u11 H11 locs11 hp11 hP hS => ?_)
      obtain ⟨σ11, τ11⟩ := u11
      obtain ⟨hR, f11, hq11⟩ : P_X10_readLine σ r11 σ11 := hp11
      have hP : va_P D vwCl (gw cA ad σ11 τ11) H11 := hP
      have hF := hF.step f11 (by decide)
      have t12 : (σ11 6 2).toInt = (σ 6 2).toInt := congrArg Int32.toInt (f11.at 6 2 (by decide))
      refine r_if_eq (tgt := 63) hx hb dX10_read_48 (by decide) (fun c13 => ?_) (fun c13 => ?_)
      · refine r_iconst hx hb dX10_read_63 (by decide) (fun z14 ez14 => ?_)
        exact r_zret hx hb hr hK hP hS hk (by omega) dX10_read_64 (show P_X10_read σ0 z14 σ11 from ⟨hR, hF, ⟨by omega, by omega⟩⟩)
      · refine lv_aload_n hx hb dX10_read_51 rfl (lv_at hl 0 rfl) ?_
        refine fg_10_0 (k := 6) hx hb hts in_X10_read_10 hown hK hP (by decide) (by decide) (hts _ lk_X10_read_9) dX10_read_52 ?_
        refine r_bipush hx hb dX10_read_55 (by decide) (fun z15 ez15 => ?_)
        refine r_cVi (k := 1) (As := [.int z15]) (rest := []) ⟨hx, hb, hml, hown, hts⟩ hK hP hN hS (c_X8_take l D cA ad hI σ11 τ11 hR z15 ⟨by omega, by omega⟩) (cwV 1 hts gX10_read_X8_take rfl rfl rfl (by decide +kernel) ⟨by decide, by decide⟩) (rv_Tape hK hP (by decide) (by decide)) rfl hl.1 rfl (Nat.le_of_ble_eq_true rfl) dX10_read_57 (Nat.zero_le _) (Nat.zero_le _) (fun r16 u16 H16 locs16 hp16 hP hS => ?_)
        obtain ⟨σ16, τ16⟩ := u16
        obtain ⟨hR, f16, hq16⟩ : P_X8_take σ11 z15 r16 σ16 := hp16
        have hP : va_P D vwCl (gw cA ad σ16 τ16) H16 := hP
        have hF := hF.step f16 (by decide)
        have t17 : (σ16 6 2).toInt = (σ11 6 2).toInt := congrArg Int32.toInt (f16.at 6 2 (by decide))
        refine r_if_ne (tgt := 65) hx hb dX10_read_60 (by decide) (fun c18 => ?_) (fun c18 => ?_)
        · refine lv_aload_n hx hb dX10_read_65 rfl (lv_at hl 0 rfl) ?_
          refine lv_dup hx hb dX10_read_66 rfl ?_
          refine fg_10_2 (k := 6) hx hb hts in_X10_read_10 hown hK hP (by decide) (by decide) (hts _ lk_X10_read_24) dX10_read_67 ?_
          refine r_iconst hx hb dX10_read_70 (by decide) (fun z19 ez19 => ?_)
          refine r_iadd hx hb dX10_read_71 (by omega) (fun z20 ez20 => ?_)
          refine fp_10_2 (k := 6) hx hb hts in_X10_read_10 hown hK hP (by decide) (by decide) (hts _ lk_X10_read_24) hI hR hS (by omega) dX10_read_72 (fun σ21 H21 locs21 u21 v21 hR hP hS => ?_)
          have hF := hF.puts u21 1 rfl (by decide) (by decide) (by decide) (by decide)
          refine lv_goto (tgt := 22) hx hb dX10_read_75 (by decide) ?_
          exact K22 σ21 τ16 H21 locs21  ls hR hF hP hS (by omega) (lv_sub hl [0] rfl) (by omega)
        · refine r_iconst hx hb dX10_read_63 (by decide) (fun z22 ez22 => ?_)
          exact r_zret hx hb hr hK hP hS hk (by omega) dX10_read_64 (show P_X10_read σ0 z22 σ16 from ⟨hR, hF, ⟨by omega, by omega⟩⟩)
theorem A_X10_read (p : Program) (l : Launch) (e : Env) (s : State) (m : MethodId) (args : Array Value) (below : List Frame) (meth : Method) (c : Code) (D : va_G) (cA : Nat → ClassId) (ad : Nat → Nat) (σ0 : Nat → Nat → Int32)  (C : Cy p s m args meth c cX10_read 1 wsX10_read RX10 D cA ad (some .boolean))  : ∀ n : Nat, J_X10_read_22 p l e s m args below meth c D cA ad σ0  n := by
  intro n
  induction n with
  | zero =>
    exact (by intro σ τ H locs ls hR hF hP hS hc0 hl hm; exfalso; omega)
  | succ n ih =>
    exact B_X10_read_22 p l e s m args below meth c D cA ad σ0  n C  ih
set_option maxHeartbeats 4000000 in
theorem c_X10_read (l : Launch) (D : va_G) (cA : Nat → ClassId) (ad : Nat → Nat) (hI : Inj ad) (σ0 : Nat → Nat → Int32) (τ0 : Nat → Nat → Int64) (hR : Rg σ0)   : Met l yX10_read wsX10_read ({ frames := 6, cells := 0, slots := 0, locals := 128 } : Room) (WQc D cA ad [.ref (ad 6)] σ0 τ0) (va_Qi (fun (r : Int32) (u : SS) => P_X10_read σ0 r u.1) (WB D cA ad) (AA ad)) 0 0 (AA ad) := by
  refine Met.ofW (cc := cX10_read) (maxL := 1) (ret := (some .boolean)) (by decide) rfl ?_
  intro p e s m args below meth c s₁ B hml hv
  obtain ⟨rfl, hP, hK, hN⟩ := hv
  have C : Cy p s m _ meth c cX10_read 1 wsX10_read RX10 D cA ad (some .boolean) := ⟨B.exec, B.bytes, hml, findClass_of_methodNamed B.named, atoms_spec (ws := wsX10_read) B.pre, hK, B.notSynchronized, B.returns, hI, hN⟩
  have hl := lv_entry ([.ref (ad 6)]) (n := 1) (Nat.le_of_ble_eq_true rfl)
  rw [lg_entry_eq]
  generalize (lg_sl ([.ref (ad 6)]) ++ List.replicate (1 - (lg_sl ([.ref (ad 6)])).length) Slot.unset).toArray = ls at hl ⊢
  have hl : lv_has ls 1 [(0, .ref (ad 6))] := hl
  have hS : va_S (AA ad) s.heap s.heap [] := va_S.rf
  have hF : Fr L_X10_read σ0 σ0 := Fr.rf
  have hA := A_X10_read p l e s m _ below meth c D cA ad σ0  C  3770
  have K22 := hA
  clear hA
  obtain ⟨hx, hb, _, hown, hts, _, hk, hr, _, _⟩ := C
  refine lv_aload_n hx hb dX10_read_0 rfl (lv_at hl 0 rfl) ?_
  refine fg_10_1 (k := 6) hx hb hts in_X10_read_10 hown hK hP (by decide) (by decide) (hts _ lk_X10_read_15) dX10_read_1 ?_
  refine r_cVv (k := 3) (As := []) (rest := []) ⟨hx, hb, hml, hown, hts⟩ hK hP hN hS (c_X9_clear l D cA ad hI σ0 τ0 hR) (cwV 0 hts gX10_read_X9_clear rfl rfl rfl (by decide +kernel) ⟨by decide, by decide⟩) (rv_Valley hK hP (by decide) (by decide)) rfl hl.1 rfl (Nat.le_of_ble_eq_true rfl) dX10_read_4 (Nat.zero_le _) (Nat.zero_le _) (fun u1 H1 locs1 hp1 hP hS => ?_)
  obtain ⟨σ1, τ1⟩ := u1
  obtain ⟨hR, f1⟩ : P_X9_clear σ0 σ1 := hp1
  have hP : va_P D vwCl (gw cA ad σ1 τ1) H1 := hP
  have hF := hF.step f1 (by decide)
  refine lv_aload_n hx hb dX10_read_7 rfl (lv_at hl 0 rfl) ?_
  refine r_iconst hx hb dX10_read_8 (by decide) (fun z2 ez2 => ?_)
  refine fp_10_2 (k := 6) hx hb hts in_X10_read_10 hown hK hP (by decide) (by decide) (hts _ lk_X10_read_24) hI hR hS (by omega) dX10_read_9 (fun σ3 H3 locs3 u3 v3 hR hP hS => ?_)
  have hF := hF.puts u3 1 rfl (by decide) (by decide) (by decide) (by decide)
  refine lv_aload_n hx hb dX10_read_12 rfl (lv_at hl 0 rfl) ?_
  refine r_iconst hx hb dX10_read_13 (by decide) (fun z4 ez4 => ?_)
  refine fp_10_3 (k := 6) hx hb hts in_X10_read_10 hown hK hP (by decide) (by decide) (hts _ lk_X10_read_28) hI hR hS dX10_read_14 (fun σ5 H5 locs5 u5 v5 hR hP hS => ?_)
  have hF := hF.puts u5 1 rfl (by decide) (by decide) (by decide) (by decide)
  have t6 : (σ5 6 2).toInt = (σ3 6 2).toInt := congrArg Int32.toInt (u5 6 2 (by omega))
  refine lv_aload_n hx hb dX10_read_17 rfl (lv_at hl 0 rfl) ?_
  refine r_iconst hx hb dX10_read_18 (by decide) (fun z7 ez7 => ?_)
  refine fp_10_4 (k := 6) hx hb hts in_X10_read_10 hown hK hP (by decide) (by decide) (hts _ lk_X10_read_31) hI hR hS dX10_read_19 (fun σ8 H8 locs8 u8 v8 hR hP hS => ?_)
  have hF := hF.puts u8 1 rfl (by decide) (by decide) (by decide) (by decide)
  have t9 : (σ8 6 2).toInt = (σ5 6 2).toInt := congrArg Int32.toInt (u8 6 2 (by omega))
  exact K22 σ8 τ1 H8 locs8  ls hR hF hP hS (by omega) (lv_sub hl [0] rfl) (by omega)
theorem in_X2_begin_2 : ∀ w ∈ u_ws RX2 TX2 7, w ∈ wsX2_begin := by decide +kernel
theorem in_X2_begin_9 : ∀ w ∈ u_ws RX9 TX9 14, w ∈ wsX2_begin := by decide +kernel
theorem lk_X2_begin_15 : Cond.fieldLink RX2 15 "CuckooShares$Days" "coins" "[I" ∈ wsX2_begin := by decide +kernel
theorem lk_X2_begin_18 : Cond.fieldLink RX2 18 "CuckooShares$Days" "sworn" "[I" ∈ wsX2_begin := by decide +kernel
theorem lk_X2_begin_21 : Cond.fieldLink RX2 21 "CuckooShares$Days" "store" "[I" ∈ wsX2_begin := by decide +kernel
theorem lk_X2_begin_24 : Cond.fieldLink RX2 24 "CuckooShares$Days" "flight" "I" ∈ wsX2_begin := by decide +kernel
theorem lk_X2_begin_28 : Cond.fieldLink RX2 28 "CuckooShares$Days" "year" "I" ∈ wsX2_begin := by decide +kernel
theorem lk_X2_begin_31 : Cond.fieldLink RX2 31 "CuckooShares$Days" "hour" "I" ∈ wsX2_begin := by decide +kernel
theorem lk_X2_begin_9 : Cond.fieldLink RX2 9 "CuckooShares$Days" "hill" "[I" ∈ wsX2_begin := by decide +kernel
abbrev L_X2_begin : List Rc := [(7, 7, 0, 2), (308, 308, 0, 7), (321, 321, 0, 7), (334, 334, 0, 7), (347, 347, 0, 7)]
def P_X2_begin (σ0 : Nat → Nat → Int32)  (σ : Nat → Nat → Int32) : Prop := Rg σ ∧ Fr L_X2_begin σ0 σ
def J_X2_begin_17 (p : Program) (l : Launch) (e : Env) (s : State) (m : MethodId) (args : Array Value) (below : List Frame) (meth : Method) (c : Code) (D : va_G) (cA : Nat → ClassId) (ad : Nat → Nat) (σ0 : Nat → Nat → Int32)  (n : Nat) : Prop := ∀ (σ : Nat → Nat → Int32) (τ : Nat → Nat → Int64) (H : Heap) (locs : List Loc) (x2 : Int32) (ls : Array Slot), Rg σ → Fr L_X2_begin σ0 σ → va_P D vwCl (gw cA ad σ τ) H → va_S (AA ad) s.heap H locs → (0 ≤ x2.toInt ∧ x2.toInt ≤ 8) → lv_has ls 3 [(0, .ref (ad 7)), (1, .ref (ad 2)), (2, .int x2)] → 2 * (8 - x2.toInt) + 1 < (n : Int) → W p l e ({ frames := 0, cells := 0, slots := 0, locals := 0 } : Room) s m args below meth c H locs 0 0 (MQ below (va_Qv (fun u : SS => P_X2_begin σ0 u.1) (WB D cA ad) (AA ad)) args s 0 0 (AA ad)) (F0 m 17 ls [])
set_option maxHeartbeats 4000000 in
theorem B_X2_begin_17 (p : Program) (l : Launch) (e : Env) (s : State) (m : MethodId) (args : Array Value) (below : List Frame) (meth : Method) (c : Code) (D : va_G) (cA : Nat → ClassId) (ad : Nat → Nat) (σ0 : Nat → Nat → Int32)  (n : Nat) (C : Cy p s m args meth c cX2_begin 3 wsX2_begin RX2 D cA ad none)  (K17 : J_X2_begin_17 p l e s m args below meth c D cA ad σ0  n) : J_X2_begin_17 p l e s m args below meth c D cA ad σ0  (n + 1) := by
  obtain ⟨hx, hb, hml, hown, hts, hK, hk, hr, hI, hN⟩ := C
  intro σ τ H locs x2 ls hR hF hP hS hc0 hl hm
  refine lv_iload_n hx hb dX2_begin_17 rfl (lv_at hl 2 rfl) ?_
  refine lv_aload_n hx hb dX2_begin_18 rfl (lv_at hl 1 rfl) ?_
  refine fgN_9_5 (k := 2) hx hb hts in_X2_begin_9 hown hK hP (by decide) (by decide) (hN.use nw_2_34) dX2_begin_19 ?_
  have hr1 := rg_9_5 hR (k := 2) (by decide) (by decide)
  refine r_icmp_ge (tgt := 73) hx hb dX2_begin_22 (by decide) (fun c2 => ?_) (fun c2 => ?_)
  · exact r_vret hx hb hr hK hP hS hk dX2_begin_73 (show P_X2_begin σ0 σ from ⟨hR, hF⟩)
  · refine lv_aload_n hx hb dX2_begin_25 rfl (lv_at hl 0 rfl) ?_
    refine fg_2_3 (k := 7) hx hb hts in_X2_begin_2 hown hK hP (by decide) (by decide) (hts _ lk_X2_begin_9) dX2_begin_26 ?_
    refine lv_iload_n hx hb dX2_begin_29 rfl (lv_at hl 2 rfl) ?_
    refine lv_aload_n hx hb dX2_begin_30 rfl (lv_at hl 1 rfl) ?_
    refine fgN_9_10 (k := 2) hx hb hts in_X2_begin_9 hown hK hP (by decide) (by decide) (hN.use nw_2_39) dX2_begin_31 ?_
    refine lv_iload_n hx hb dX2_begin_34 rfl (lv_at hl 2 rfl) ?_
    obtain ⟨j3, ej3⟩ : ∃ j : Nat, x2.toInt = (j : Int) := ⟨_, ti_nat (by omega)⟩
    refine ad_manA (k := 52) (j := j3) hx hb hK hP (by decide) (by decide) ej3 (by omega) dX2_begin_35 ?_
    refine r_iconst hx hb dX2_begin_36 (by decide) (fun z4 ez4 => ?_)
    refine ad_manR (k := 100 + j3) (j := 0) hx hb hK hP (by omega) (by omega) (by omega) (by omega) dX2_begin_37 ?_
    refine as_days8 (k := 308) (j := j3) hx hb hK hP hI hR hS (by decide) (by decide) ej3 (by omega) dX2_begin_38 (fun σ5 H5 locs5 u5 v5 hR hP hS => ?_)
    have hF := hF.puts u5 1 rfl (by decide) (by decide) (by omega) (by omega)
    refine lv_aload_n hx hb dX2_begin_39 rfl (lv_at hl 0 rfl) ?_
    refine fg_2_4 (k := 7) hx hb hts in_X2_begin_2 hown hK hP (by decide) (by decide) (hts _ lk_X2_begin_15) dX2_begin_40 ?_
    refine lv_iload_n hx hb dX2_begin_43 rfl (lv_at hl 2 rfl) ?_
    refine lv_aload_n hx hb dX2_begin_44 rfl (lv_at hl 1 rfl) ?_
    refine fgN_9_10 (k := 2) hx hb hts in_X2_begin_9 hown hK hP (by decide) (by decide) (hN.use nw_2_39) dX2_begin_45 ?_
    refine lv_iload_n hx hb dX2_begin_48 rfl (lv_at hl 2 rfl) ?_
    refine ad_manA (k := 52) (j := j3) hx hb hK hP (by decide) (by decide) ej3 (by omega) dX2_begin_49 ?_
    refine r_iconst hx hb dX2_begin_50 (by decide) (fun z6 ez6 => ?_)
    refine ad_manR (k := 100 + j3) (j := 2) hx hb hK hP (by omega) (by omega) (by omega) (by omega) dX2_begin_51 ?_
    refine as_days8 (k := 321) (j := j3) hx hb hK hP hI hR hS (by decide) (by decide) ej3 (by omega) dX2_begin_52 (fun σ7 H7 locs7 u7 v7 hR hP hS => ?_)
    have hF := hF.puts u7 2 rfl (by decide) (by decide) (by omega) (by omega)
    refine lv_aload_n hx hb dX2_begin_53 rfl (lv_at hl 0 rfl) ?_
    refine fg_2_5 (k := 7) hx hb hts in_X2_begin_2 hown hK hP (by decide) (by decide) (hts _ lk_X2_begin_18) dX2_begin_54 ?_
    refine lv_iload_n hx hb dX2_begin_57 rfl (lv_at hl 2 rfl) ?_
    refine r_iconst hx hb dX2_begin_58 (by decide) (fun z8 ez8 => ?_)
    refine as_days8 (k := 334) (j := j3) hx hb hK hP hI hR hS (by decide) (by decide) ej3 (by omega) dX2_begin_59 (fun σ9 H9 locs9 u9 v9 hR hP hS => ?_)
    have hF := hF.puts u9 3 rfl (by decide) (by decide) (by omega) (by omega)
    refine lv_aload_n hx hb dX2_begin_60 rfl (lv_at hl 0 rfl) ?_
    refine fg_2_6 (k := 7) hx hb hts in_X2_begin_2 hown hK hP (by decide) (by decide) (hts _ lk_X2_begin_21) dX2_begin_61 ?_
    refine lv_iload_n hx hb dX2_begin_64 rfl (lv_at hl 2 rfl) ?_
    refine r_iconst hx hb dX2_begin_65 (by decide) (fun z10 ez10 => ?_)
    refine as_days8 (k := 347) (j := j3) hx hb hK hP hI hR hS (by decide) (by decide) ej3 (by omega) dX2_begin_66 (fun σ11 H11 locs11 u11 v11 hR hP hS => ?_)
    have hF := hF.puts u11 4 rfl (by decide) (by decide) (by omega) (by omega)
    refine r_iinc (k := 2) (lv1 := fun z12 => [(2, .int z12), (0, .ref (ad 7)), (1, .ref (ad 2))]) hx hb dX2_begin_67 hl rfl (by decide) (fun _ => rfl) (by decide) (by omega) (fun z12 ls ez12 hl => ?_)
    refine lv_goto (tgt := 17) hx hb dX2_begin_70 (by decide) ?_
    exact K17 σ11 τ H11 locs11 z12 ls hR hF hP hS (by omega) (lv_sub hl [1, 2, 0] rfl) (by omega)
theorem A_X2_begin (p : Program) (l : Launch) (e : Env) (s : State) (m : MethodId) (args : Array Value) (below : List Frame) (meth : Method) (c : Code) (D : va_G) (cA : Nat → ClassId) (ad : Nat → Nat) (σ0 : Nat → Nat → Int32)  (C : Cy p s m args meth c cX2_begin 3 wsX2_begin RX2 D cA ad none)  : ∀ n : Nat, J_X2_begin_17 p l e s m args below meth c D cA ad σ0  n := by
  intro n
  induction n with
  | zero =>
    exact (by intro σ τ H locs x2 ls hR hF hP hS hc0 hl hm; exfalso; omega)
  | succ n ih =>
    exact B_X2_begin_17 p l e s m args below meth c D cA ad σ0  n C  ih
set_option maxHeartbeats 4000000 in
theorem c_X2_begin (l : Launch) (D : va_G) (cA : Nat → ClassId) (ad : Nat → Nat) (hI : Inj ad) (σ0 : Nat → Nat → Int32) (τ0 : Nat → Nat → Int64) (hR : Rg σ0)   : Met l yX2_begin wsX2_begin ({ frames := 0, cells := 0, slots := 0, locals := 0 } : Room) (WQc D cA ad [.ref (ad 7), .ref (ad 2)] σ0 τ0) (va_Qv (fun u : SS => P_X2_begin σ0 u.1) (WB D cA ad) (AA ad)) 0 0 (AA ad) := by
  refine Met.ofW (cc := cX2_begin) (maxL := 3) (ret := none) (by decide) rfl ?_
  intro p e s m args below meth c s₁ B hml hv
  obtain ⟨rfl, hP, hK, hN⟩ := hv
  have C : Cy p s m _ meth c cX2_begin 3 wsX2_begin RX2 D cA ad none := ⟨B.exec, B.bytes, hml, findClass_of_methodNamed B.named, atoms_spec (ws := wsX2_begin) B.pre, hK, B.notSynchronized, B.returns, hI, hN⟩
  have hl := lv_entry ([.ref (ad 7), .ref (ad 2)]) (n := 3) (Nat.le_of_ble_eq_true rfl)
  rw [lg_entry_eq]
  generalize (lg_sl ([.ref (ad 7), .ref (ad 2)]) ++ List.replicate (3 - (lg_sl ([.ref (ad 7), .ref (ad 2)])).length) Slot.unset).toArray = ls at hl ⊢
  have hl : lv_has ls 3 [(0, .ref (ad 7)), (1, .ref (ad 2))] := hl
  have hS : va_S (AA ad) s.heap s.heap [] := va_S.rf
  have hF : Fr L_X2_begin σ0 σ0 := Fr.rf
  have hA := A_X2_begin p l e s m _ below meth c D cA ad σ0  C  42
  have K17 := hA
  clear hA
  obtain ⟨hx, hb, _, hown, hts, _, hk, hr, _, _⟩ := C
  refine lv_aload_n hx hb dX2_begin_0 rfl (lv_at hl 0 rfl) ?_
  refine r_iconst hx hb dX2_begin_1 (by decide) (fun z1 ez1 => ?_)
  refine fp_2_0 (k := 7) hx hb hts in_X2_begin_2 hown hK hP (by decide) (by decide) (hts _ lk_X2_begin_28) hI hR hS dX2_begin_2 (fun σ2 H2 locs2 u2 v2 hR hP hS => ?_)
  have hF := hF.puts u2 0 rfl (by decide) (by decide) (by decide) (by decide)
  refine lv_aload_n hx hb dX2_begin_5 rfl (lv_at hl 0 rfl) ?_
  refine r_iconst hx hb dX2_begin_6 (by decide) (fun z3 ez3 => ?_)
  refine fp_2_1 (k := 7) hx hb hts in_X2_begin_2 hown hK hP (by decide) (by decide) (hts _ lk_X2_begin_24) hI hR hS dX2_begin_7 (fun σ4 H4 locs4 u4 v4 hR hP hS => ?_)
  have hF := hF.puts u4 0 rfl (by decide) (by decide) (by decide) (by decide)
  refine lv_aload_n hx hb dX2_begin_10 rfl (lv_at hl 0 rfl) ?_
  refine r_iconst hx hb dX2_begin_11 (by decide) (fun z5 ez5 => ?_)
  refine fp_2_2 (k := 7) hx hb hts in_X2_begin_2 hown hK hP (by decide) (by decide) (hts _ lk_X2_begin_31) hI hR hS dX2_begin_12 (fun σ6 H6 locs6 u6 v6 hR hP hS => ?_)
  have hF := hF.puts u6 0 rfl (by decide) (by decide) (by decide) (by decide)
  refine r_iconst hx hb dX2_begin_15 (by decide) (fun z7 ez7 => ?_)
  refine lv_istore_n (lv' := [(2, .int z7), (0, .ref (ad 7)), (1, .ref (ad 2))]) hx hb dX2_begin_16 rfl hl (by decide) rfl (fun ls hl => ?_)
  exact K17 σ6 τ0 H6 locs6 z7 ls hR hF hP hS (by omega) (lv_sub hl [1, 2, 0] rfl) (by omega)
theorem in_X3_clear_3 : ∀ w ∈ u_ws RX3 TX3 3, w ∈ wsX3_clear := by decide +kernel
theorem lk_X3_clear_18 : Cond.fieldLink RX3 18 "CuckooShares$History" "size" "I" ∈ wsX3_clear := by decide +kernel
abbrev L_X3_clear : List Rc := [(20, 20, 2, 2)]
def P_X3_clear (σ0 : Nat → Nat → Int32)  (σ : Nat → Nat → Int32) : Prop := Rg σ ∧ Fr L_X3_clear σ0 σ
set_option maxHeartbeats 4000000 in
theorem c_X3_clear (l : Launch) (D : va_G) (cA : Nat → ClassId) (ad : Nat → Nat) (hI : Inj ad) (σ0 : Nat → Nat → Int32) (τ0 : Nat → Nat → Int64) (hR : Rg σ0)   : Met l yX3_clear wsX3_clear ({ frames := 0, cells := 0, slots := 0, locals := 0 } : Room) (WQc D cA ad [.ref (ad 20)] σ0 τ0) (va_Qv (fun u : SS => P_X3_clear σ0 u.1) (WB D cA ad) (AA ad)) 0 0 (AA ad) := by
  refine Met.ofW (cc := cX3_clear) (maxL := 1) (ret := none) (by decide) rfl ?_
  intro p e s m args below meth c s₁ B hml hv
  obtain ⟨rfl, hP, hK, hN⟩ := hv
  have C : Cy p s m _ meth c cX3_clear 1 wsX3_clear RX3 D cA ad none := ⟨B.exec, B.bytes, hml, findClass_of_methodNamed B.named, atoms_spec (ws := wsX3_clear) B.pre, hK, B.notSynchronized, B.returns, hI, hN⟩
  have hl := lv_entry ([.ref (ad 20)]) (n := 1) (Nat.le_of_ble_eq_true rfl)
  rw [lg_entry_eq]
  generalize (lg_sl ([.ref (ad 20)]) ++ List.replicate (1 - (lg_sl ([.ref (ad 20)])).length) Slot.unset).toArray = ls at hl ⊢
  have hl : lv_has ls 1 [(0, .ref (ad 20))] := hl
  have hS : va_S (AA ad) s.heap s.heap [] := va_S.rf
  have hF : Fr L_X3_clear σ0 σ0 := Fr.rf
  obtain ⟨hx, hb, _, hown, hts, _, hk, hr, _, _⟩ := C
  refine lv_aload_n hx hb dX3_clear_0 rfl (lv_at hl 0 rfl) ?_
  refine r_iconst hx hb dX3_clear_1 (by decide) (fun z1 ez1 => ?_)
  refine fp_3_2 (k := 20) hx hb hts in_X3_clear_3 hown hK hP (by decide) (by decide) (hts _ lk_X3_clear_18) hI hR hS (by omega) dX3_clear_2 (fun σ2 H2 locs2 u2 v2 hR hP hS => ?_)
  have hF := hF.puts u2 0 rfl (by decide) (by decide) (by decide) (by decide)
  exact r_vret hx hb hr hK hP hS hk dX3_clear_5 (show P_X3_clear σ0 σ2 from ⟨hR, hF⟩)
theorem in_X6_clear_6 : ∀ w ∈ u_ws RX6 TX6 7, w ∈ wsX6_clear := by decide +kernel
theorem lk_X6_clear_24 : Cond.fieldLink RX6 24 "CuckooShares$Sentence" "told" "Z" ∈ wsX6_clear := by decide +kernel
theorem lk_X6_clear_28 : Cond.fieldLink RX6 28 "CuckooShares$Sentence" "ones" "I" ∈ wsX6_clear := by decide +kernel
theorem lk_X6_clear_32 : Cond.fieldLink RX6 32 "CuckooShares$Sentence" "steps" "I" ∈ wsX6_clear := by decide +kernel
abbrev L_X6_clear : List Rc := [(23, 24, 0, 2)]
def P_X6_clear (σ0 : Nat → Nat → Int32) (k0 : Nat) (σ : Nat → Nat → Int32) : Prop := Rg σ ∧ Fr L_X6_clear σ0 σ
set_option maxHeartbeats 4000000 in
theorem c_X6_clear (l : Launch) (D : va_G) (cA : Nat → ClassId) (ad : Nat → Nat) (hI : Inj ad) (σ0 : Nat → Nat → Int32) (τ0 : Nat → Nat → Int64) (hR : Rg σ0) (k0 : Nat) (hk0 : 23 ≤ k0 ∧ k0 ≤ 24) : Met l yX6_clear wsX6_clear ({ frames := 0, cells := 0, slots := 0, locals := 0 } : Room) (WQc D cA ad [.ref (ad k0)] σ0 τ0) (va_Qv (fun u : SS => P_X6_clear σ0 k0 u.1) (WB D cA ad) (AA ad)) 0 0 (AA ad) := by
  refine Met.ofW (cc := cX6_clear) (maxL := 1) (ret := none) (by decide) rfl ?_
  intro p e s m args below meth c s₁ B hml hv
  obtain ⟨rfl, hP, hK, hN⟩ := hv
  have C : Cy p s m _ meth c cX6_clear 1 wsX6_clear RX6 D cA ad none := ⟨B.exec, B.bytes, hml, findClass_of_methodNamed B.named, atoms_spec (ws := wsX6_clear) B.pre, hK, B.notSynchronized, B.returns, hI, hN⟩
  have hl := lv_entry ([.ref (ad k0)]) (n := 1) (Nat.le_of_ble_eq_true rfl)
  rw [lg_entry_eq]
  generalize (lg_sl ([.ref (ad k0)]) ++ List.replicate (1 - (lg_sl ([.ref (ad k0)])).length) Slot.unset).toArray = ls at hl ⊢
  have hl : lv_has ls 1 [(0, .ref (ad k0))] := hl
  have hS : va_S (AA ad) s.heap s.heap [] := va_S.rf
  have hF : Fr L_X6_clear σ0 σ0 := Fr.rf
  obtain ⟨hx, hb, _, hown, hts, _, hk, hr, _, _⟩ := C
  refine lv_aload_n hx hb dX6_clear_0 rfl (lv_at hl 0 rfl) ?_
  refine r_iconst hx hb dX6_clear_1 (by decide) (fun z1 ez1 => ?_)
  refine fp_6_0 (k := k0) hx hb hts in_X6_clear_6 hown hK hP (by omega) (by omega) (hts _ lk_X6_clear_24) hI hR hS (by omega) dX6_clear_2 (fun σ2 H2 locs2 u2 v2 hR hP hS => ?_)
  have hF := hF.puts u2 0 rfl (by omega) (by omega) (by decide) (by decide)
  refine lv_aload_n hx hb dX6_clear_5 rfl (lv_at hl 0 rfl) ?_
  refine r_iconst hx hb dX6_clear_6 (by decide) (fun z3 ez3 => ?_)
  refine fp_6_1 (k := k0) hx hb hts in_X6_clear_6 hown hK hP (by omega) (by omega) (hts _ lk_X6_clear_28) hI hR hS (by omega) dX6_clear_7 (fun σ4 H4 locs4 u4 v4 hR hP hS => ?_)
  have hF := hF.puts u4 0 rfl (by omega) (by omega) (by decide) (by decide)
  refine lv_aload_n hx hb dX6_clear_10 rfl (lv_at hl 0 rfl) ?_
  refine r_iconst hx hb dX6_clear_11 (by decide) (fun z5 ez5 => ?_)
  refine fp_6_2 (k := k0) hx hb hts in_X6_clear_6 hown hK hP (by omega) (by omega) (hts _ lk_X6_clear_32) hI hR hS (by omega) dX6_clear_12 (fun σ6 H6 locs6 u6 v6 hR hP hS => ?_)
  have hF := hF.puts u6 0 rfl (by omega) (by omega) (by decide) (by decide)
  exact r_vret hx hb hr hK hP hS hk dX6_clear_15 (show P_X6_clear σ0 k0 σ6 from ⟨hR, hF⟩)
theorem in_X8_byteAt_8 : ∀ w ∈ u_ws RX8 TX8 15, w ∈ wsX8_byteAt := by decide +kernel
theorem lk_X8_byteAt_9 : Cond.fieldLink RX8 9 "CuckooShares$Tape" "bytes" "[B" ∈ wsX8_byteAt := by decide +kernel
abbrev L_X8_byteAt : List Rc := []
def P_X8_byteAt (σ0 : Nat → Nat → Int32) (a1 : Int32) (r : Int32) (σ : Nat → Nat → Int32) : Prop := Rg σ ∧ Fr L_X8_byteAt σ0 σ ∧ (0 ≤ r.toInt ∧ r.toInt ≤ 255)
set_option maxHeartbeats 4000000 in
theorem c_X8_byteAt (l : Launch) (D : va_G) (cA : Nat → ClassId) (ad : Nat → Nat) (hI : Inj ad) (σ0 : Nat → Nat → Int32) (τ0 : Nat → Nat → Int64) (hR : Rg σ0) (a1 : Int32) (ha1 : 0 ≤ a1.toInt ∧ a1.toInt ≤ 939) : Met l yX8_byteAt wsX8_byteAt ({ frames := 0, cells := 0, slots := 0, locals := 0 } : Room) (WQc D cA ad [.ref (ad 1), .int a1] σ0 τ0) (va_Qi (fun (r : Int32) (u : SS) => P_X8_byteAt σ0 a1 r u.1) (WB D cA ad) (AA ad)) 0 0 (AA ad) := by
  refine Met.ofW (cc := cX8_byteAt) (maxL := 2) (ret := (some .int)) (by decide) rfl ?_
  intro p e s m args below meth c s₁ B hml hv
  obtain ⟨rfl, hP, hK, hN⟩ := hv
  have C : Cy p s m _ meth c cX8_byteAt 2 wsX8_byteAt RX8 D cA ad (some .int) := ⟨B.exec, B.bytes, hml, findClass_of_methodNamed B.named, atoms_spec (ws := wsX8_byteAt) B.pre, hK, B.notSynchronized, B.returns, hI, hN⟩
  have hl := lv_entry ([.ref (ad 1), .int a1]) (n := 2) (Nat.le_of_ble_eq_true rfl)
  rw [lg_entry_eq]
  generalize (lg_sl ([.ref (ad 1), .int a1]) ++ List.replicate (2 - (lg_sl ([.ref (ad 1), .int a1])).length) Slot.unset).toArray = ls at hl ⊢
  have hl : lv_has ls 2 [(0, .ref (ad 1)), (1, .int a1)] := hl
  have hS : va_S (AA ad) s.heap s.heap [] := va_S.rf
  have hF : Fr L_X8_byteAt σ0 σ0 := Fr.rf
  obtain ⟨hx, hb, _, hown, hts, _, hk, hr, _, _⟩ := C
  refine lv_iload_n hx hb dX8_byteAt_0 rfl (lv_at hl 1 rfl) ?_
  refine r_if_lt (tgt := 24) hx hb dX8_byteAt_1 (by decide) (fun c1 => ?_) (fun c1 => ?_)
  · exfalso; omega
  · refine lv_iload_n hx hb dX8_byteAt_4 rfl (lv_at hl 1 rfl) ?_
    refine r_sipush hx hb dX8_byteAt_5 (by decide) (fun z2 ez2 => ?_)
    refine r_icmp_ge (tgt := 24) hx hb dX8_byteAt_8 (by decide) (fun c3 => ?_) (fun c3 => ?_)
    · exfalso; omega
    · refine lv_aload_n hx hb dX8_byteAt_11 rfl (lv_at hl 0 rfl) ?_
      refine fg_8_0 (k := 1) hx hb hts in_X8_byteAt_8 hown hK hP (by decide) (by decide) (hts _ lk_X8_byteAt_9) dX8_byteAt_12 ?_
      refine lv_iload_n hx hb dX8_byteAt_15 rfl (lv_at hl 1 rfl) ?_
      obtain ⟨j4, ej4⟩ : ∃ j : Nat, a1.toInt = (j : Int) := ⟨_, ti_nat (by omega)⟩
      refine ad_bytes (k := 35) (j := j4) hx hb hK hP (by decide) (by decide) ej4 (by omega) dX8_byteAt_16 ?_
      refine r_sipush hx hb dX8_byteAt_17 (by decide) (fun z5 ez5 => ?_)
      refine r_iand (w := 255) hx hb 8 dX8_byteAt_20 (by omega) (by decide) (fun z6 ez6 => ?_)
      refine lv_goto (tgt := 25) hx hb dX8_byteAt_21 (by decide) ?_
      exact r_iret hx hb hr hK hP hS hk dX8_byteAt_25 (show P_X8_byteAt σ0 a1 z6 σ0 from ⟨hR, hF, ⟨by omega, by omega⟩⟩)
abbrev L_X8_isBlank : List Rc := []
def P_X8_isBlank (σ0 : Nat → Nat → Int32) (a0 : Int32) (r : Int32) (σ : Nat → Nat → Int32) : Prop := Rg σ ∧ Fr L_X8_isBlank σ0 σ ∧ (0 ≤ r.toInt ∧ r.toInt ≤ 1)
set_option maxHeartbeats 4000000 in
theorem c_X8_isBlank (l : Launch) (D : va_G) (cA : Nat → ClassId) (ad : Nat → Nat) (hI : Inj ad) (σ0 : Nat → Nat → Int32) (τ0 : Nat → Nat → Int64) (hR : Rg σ0) (a0 : Int32) (ha0 : 0 ≤ a0.toInt ∧ a0.toInt ≤ 255) : Met l yX8_isBlank wsX8_isBlank ({ frames := 0, cells := 0, slots := 0, locals := 0 } : Room) (WQc D cA ad [.int a0] σ0 τ0) (va_Qi (fun (r : Int32) (u : SS) => P_X8_isBlank σ0 a0 r u.1) (WB D cA ad) (AA ad)) 0 0 (AA ad) := by
  refine Met.ofW (cc := cX8_isBlank) (maxL := 1) (ret := (some .boolean)) (by decide) rfl ?_
  intro p e s m args below meth c s₁ B hml hv
  obtain ⟨rfl, hP, hK, hN⟩ := hv
  have C : Cy p s m _ meth c cX8_isBlank 1 wsX8_isBlank RX8 D cA ad (some .boolean) := ⟨B.exec, B.bytes, hml, findClass_of_methodNamed B.named, atoms_spec (ws := wsX8_isBlank) B.pre, hK, B.notSynchronized, B.returns, hI, hN⟩
  have hl := lv_entry ([.int a0]) (n := 1) (Nat.le_of_ble_eq_true rfl)
  rw [lg_entry_eq]
  generalize (lg_sl ([.int a0]) ++ List.replicate (1 - (lg_sl ([.int a0])).length) Slot.unset).toArray = ls at hl ⊢
  have hl : lv_has ls 1 [(0, .int a0)] := hl
  have hS : va_S (AA ad) s.heap s.heap [] := va_S.rf
  have hF : Fr L_X8_isBlank σ0 σ0 := Fr.rf
  obtain ⟨hx, hb, _, hown, hts, _, hk, hr, _, _⟩ := C
  refine lv_iload_n hx hb dX8_isBlank_0 rfl (lv_at hl 0 rfl) ?_
  refine r_bipush hx hb dX8_isBlank_1 (by decide) (fun z1 ez1 => ?_)
  refine r_icmp_eq (tgt := 12) hx hb dX8_isBlank_3 (by decide) (fun c2 => ?_) (fun c2 => ?_)
  · refine r_iconst hx hb dX8_isBlank_12 (by decide) (fun z3 ez3 => ?_)
    refine lv_goto (tgt := 17) hx hb dX8_isBlank_13 (by decide) ?_
    exact r_zret hx hb hr hK hP hS hk (by omega) dX8_isBlank_17 (show P_X8_isBlank σ0 a0 z3 σ0 from ⟨hR, hF, ⟨by omega, by omega⟩⟩)
  · refine lv_iload_n hx hb dX8_isBlank_6 rfl (lv_at hl 0 rfl) ?_
    refine r_bipush hx hb dX8_isBlank_7 (by decide) (fun z4 ez4 => ?_)
    refine r_icmp_ne (tgt := 16) hx hb dX8_isBlank_9 (by decide) (fun c5 => ?_) (fun c5 => ?_)
    · refine r_iconst hx hb dX8_isBlank_16 (by decide) (fun z6 ez6 => ?_)
      exact r_zret hx hb hr hK hP hS hk (by omega) dX8_isBlank_17 (show P_X8_isBlank σ0 a0 z6 σ0 from ⟨hR, hF, ⟨by omega, by omega⟩⟩)
    · refine r_iconst hx hb dX8_isBlank_12 (by decide) (fun z7 ez7 => ?_)
      refine lv_goto (tgt := 17) hx hb dX8_isBlank_13 (by decide) ?_
      exact r_zret hx hb hr hK hP hS hk (by omega) dX8_isBlank_17 (show P_X8_isBlank σ0 a0 z7 σ0 from ⟨hR, hF, ⟨by omega, by omega⟩⟩)
abbrev L_X8_isDigit : List Rc := []
def P_X8_isDigit (σ0 : Nat → Nat → Int32) (a0 : Int32) (r : Int32) (σ : Nat → Nat → Int32) : Prop := Rg σ ∧ Fr L_X8_isDigit σ0 σ ∧ (0 ≤ r.toInt ∧ r.toInt ≤ 1)
set_option maxHeartbeats 4000000 in
theorem c_X8_isDigit (l : Launch) (D : va_G) (cA : Nat → ClassId) (ad : Nat → Nat) (hI : Inj ad) (σ0 : Nat → Nat → Int32) (τ0 : Nat → Nat → Int64) (hR : Rg σ0) (a0 : Int32) (ha0 : 0 ≤ a0.toInt ∧ a0.toInt ≤ 255) : Met l yX8_isDigit wsX8_isDigit ({ frames := 0, cells := 0, slots := 0, locals := 0 } : Room) (WQc D cA ad [.int a0] σ0 τ0) (va_Qi (fun (r : Int32) (u : SS) => P_X8_isDigit σ0 a0 r u.1) (WB D cA ad) (AA ad)) 0 0 (AA ad) := by
  refine Met.ofW (cc := cX8_isDigit) (maxL := 1) (ret := (some .boolean)) (by decide) rfl ?_
  intro p e s m args below meth c s₁ B hml hv
  obtain ⟨rfl, hP, hK, hN⟩ := hv
  have C : Cy p s m _ meth c cX8_isDigit 1 wsX8_isDigit RX8 D cA ad (some .boolean) := ⟨B.exec, B.bytes, hml, findClass_of_methodNamed B.named, atoms_spec (ws := wsX8_isDigit) B.pre, hK, B.notSynchronized, B.returns, hI, hN⟩
  have hl := lv_entry ([.int a0]) (n := 1) (Nat.le_of_ble_eq_true rfl)
  rw [lg_entry_eq]
  generalize (lg_sl ([.int a0]) ++ List.replicate (1 - (lg_sl ([.int a0])).length) Slot.unset).toArray = ls at hl ⊢
  have hl : lv_has ls 1 [(0, .int a0)] := hl
  have hS : va_S (AA ad) s.heap s.heap [] := va_S.rf
  have hF : Fr L_X8_isDigit σ0 σ0 := Fr.rf
  obtain ⟨hx, hb, _, hown, hts, _, hk, hr, _, _⟩ := C
  refine lv_iload_n hx hb dX8_isDigit_0 rfl (lv_at hl 0 rfl) ?_
  refine r_bipush hx hb dX8_isDigit_1 (by decide) (fun z1 ez1 => ?_)
  refine r_icmp_lt (tgt := 16) hx hb dX8_isDigit_3 (by decide) (fun c2 => ?_) (fun c2 => ?_)
  · refine r_iconst hx hb dX8_isDigit_16 (by decide) (fun z3 ez3 => ?_)
    exact r_zret hx hb hr hK hP hS hk (by omega) dX8_isDigit_17 (show P_X8_isDigit σ0 a0 z3 σ0 from ⟨hR, hF, ⟨by omega, by omega⟩⟩)
  · refine lv_iload_n hx hb dX8_isDigit_6 rfl (lv_at hl 0 rfl) ?_
    refine r_bipush hx hb dX8_isDigit_7 (by decide) (fun z4 ez4 => ?_)
    refine r_icmp_gt (tgt := 16) hx hb dX8_isDigit_9 (by decide) (fun c5 => ?_) (fun c5 => ?_)
    · refine r_iconst hx hb dX8_isDigit_16 (by decide) (fun z6 ez6 => ?_)
      exact r_zret hx hb hr hK hP hS hk (by omega) dX8_isDigit_17 (show P_X8_isDigit σ0 a0 z6 σ0 from ⟨hR, hF, ⟨by omega, by omega⟩⟩)
    · refine r_iconst hx hb dX8_isDigit_12 (by decide) (fun z7 ez7 => ?_)
      refine lv_goto (tgt := 17) hx hb dX8_isDigit_13 (by decide) ?_
      exact r_zret hx hb hr hK hP hS hk (by omega) dX8_isDigit_17 (show P_X8_isDigit σ0 a0 z7 σ0 from ⟨hR, hF, ⟨by omega, by omega⟩⟩)
abbrev L_X8_isInRun : List Rc := []
def P_X8_isInRun (σ0 : Nat → Nat → Int32) (a0 : Int32) (r : Int32) (σ : Nat → Nat → Int32) : Prop := Rg σ ∧ Fr L_X8_isInRun σ0 σ ∧ (0 ≤ r.toInt ∧ r.toInt ≤ 1)
set_option maxHeartbeats 4000000 in
theorem c_X8_isInRun (l : Launch) (D : va_G) (cA : Nat → ClassId) (ad : Nat → Nat) (hI : Inj ad) (σ0 : Nat → Nat → Int32) (τ0 : Nat → Nat → Int64) (hR : Rg σ0) (a0 : Int32) (ha0 : 0 ≤ a0.toInt ∧ a0.toInt ≤ 255) : Met l yX8_isInRun wsX8_isInRun ({ frames := 1, cells := 0, slots := 0, locals := 20 } : Room) (WQc D cA ad [.int a0] σ0 τ0) (va_Qi (fun (r : Int32) (u : SS) => P_X8_isInRun σ0 a0 r u.1) (WB D cA ad) (AA ad)) 0 0 (AA ad) := by
  refine Met.ofW (cc := cX8_isInRun) (maxL := 1) (ret := (some .boolean)) (by decide) rfl ?_
  intro p e s m args below meth c s₁ B hml hv
  obtain ⟨rfl, hP, hK, hN⟩ := hv
  have C : Cy p s m _ meth c cX8_isInRun 1 wsX8_isInRun RX8 D cA ad (some .boolean) := ⟨B.exec, B.bytes, hml, findClass_of_methodNamed B.named, atoms_spec (ws := wsX8_isInRun) B.pre, hK, B.notSynchronized, B.returns, hI, hN⟩
  have hl := lv_entry ([.int a0]) (n := 1) (Nat.le_of_ble_eq_true rfl)
  rw [lg_entry_eq]
  generalize (lg_sl ([.int a0]) ++ List.replicate (1 - (lg_sl ([.int a0])).length) Slot.unset).toArray = ls at hl ⊢
  have hl : lv_has ls 1 [(0, .int a0)] := hl
  have hS : va_S (AA ad) s.heap s.heap [] := va_S.rf
  have hF : Fr L_X8_isInRun σ0 σ0 := Fr.rf
  obtain ⟨hx, hb, _, hown, hts, _, hk, hr, _, _⟩ := C
  refine lv_iload_n hx hb dX8_isInRun_0 rfl (lv_at hl 0 rfl) ?_
  refine r_bipush hx hb dX8_isInRun_1 (by decide) (fun z1 ez1 => ?_)
  refine r_icmp_lt (tgt := 12) hx hb dX8_isInRun_3 (by decide) (fun c2 => ?_) (fun c2 => ?_)
  · refine lv_iload_n hx hb dX8_isInRun_12 rfl (lv_at hl 0 rfl) ?_
    refine r_cSi (As := [.int a0]) (rest := []) ⟨hx, hb, hml, hown, hts⟩ hK hP hN hS (c_X8_isDigit l D cA ad hI σ0 τ0 hR a0 ⟨by omega, by omega⟩) (cwS 1 hts gX8_isInRun_X8_isDigit rfl rfl rfl (by decide +kernel) ⟨by decide, by decide⟩) rfl hl.1 rfl (Nat.le_of_ble_eq_true rfl) dX8_isInRun_13 (Nat.zero_le _) (Nat.zero_le _) (fun r3 u3 H3 locs3 hp3 hP hS => ?_)
    obtain ⟨σ3, τ3⟩ := u3
    obtain ⟨hR, f3, hq3⟩ : P_X8_isDigit σ0 a0 r3 σ3 := hp3
    have hP : va_P D vwCl (gw cA ad σ3 τ3) H3 := hP
    obtain rfl := Fr.nil f3
    refine r_if_eq (tgt := 23) hx hb dX8_isInRun_16 (by decide) (fun c4 => ?_) (fun c4 => ?_)
    · refine r_iconst hx hb dX8_isInRun_23 (by decide) (fun z5 ez5 => ?_)
      exact r_zret hx hb hr hK hP hS hk (by omega) dX8_isInRun_24 (show P_X8_isInRun σ0 a0 z5 σ0 from ⟨hR, hF, ⟨by omega, by omega⟩⟩)
    · refine r_iconst hx hb dX8_isInRun_19 (by decide) (fun z6 ez6 => ?_)
      refine lv_goto (tgt := 24) hx hb dX8_isInRun_20 (by decide) ?_
      exact r_zret hx hb hr hK hP hS hk (by omega) dX8_isInRun_24 (show P_X8_isInRun σ0 a0 z6 σ0 from ⟨hR, hF, ⟨by omega, by omega⟩⟩)
  · refine lv_iload_n hx hb dX8_isInRun_6 rfl (lv_at hl 0 rfl) ?_
    refine r_bipush hx hb dX8_isInRun_7 (by decide) (fun z7 ez7 => ?_)
    refine r_icmp_le (tgt := 19) hx hb dX8_isInRun_9 (by decide) (fun c8 => ?_) (fun c8 => ?_)
    · refine r_iconst hx hb dX8_isInRun_19 (by decide) (fun z9 ez9 => ?_)
      refine lv_goto (tgt := 24) hx hb dX8_isInRun_20 (by decide) ?_
      exact r_zret hx hb hr hK hP hS hk (by omega) dX8_isInRun_24 (show P_X8_isInRun σ0 a0 z9 σ0 from ⟨hR, hF, ⟨by omega, by omega⟩⟩)
    · refine lv_iload_n hx hb dX8_isInRun_12 rfl (lv_at hl 0 rfl) ?_
      refine r_cSi (As := [.int a0]) (rest := []) ⟨hx, hb, hml, hown, hts⟩ hK hP hN hS (c_X8_isDigit l D cA ad hI σ0 τ0 hR a0 ⟨by omega, by omega⟩) (cwS 1 hts gX8_isInRun_X8_isDigit rfl rfl rfl (by decide +kernel) ⟨by decide, by decide⟩) rfl hl.1 rfl (Nat.le_of_ble_eq_true rfl) dX8_isInRun_13 (Nat.zero_le _) (Nat.zero_le _) (fun r10 u10 H10 locs10 hp10 hP hS => ?_)
      obtain ⟨σ10, τ10⟩ := u10
      obtain ⟨hR, f10, hq10⟩ : P_X8_isDigit σ0 a0 r10 σ10 := hp10
      have hP : va_P D vwCl (gw cA ad σ10 τ10) H10 := hP
      obtain rfl := Fr.nil f10
      refine r_if_eq (tgt := 23) hx hb dX8_isInRun_16 (by decide) (fun c11 => ?_) (fun c11 => ?_)
      · refine r_iconst hx hb dX8_isInRun_23 (by decide) (fun z12 ez12 => ?_)
        exact r_zret hx hb hr hK hP hS hk (by omega) dX8_isInRun_24 (show P_X8_isInRun σ0 a0 z12 σ0 from ⟨hR, hF, ⟨by omega, by omega⟩⟩)
      · refine r_iconst hx hb dX8_isInRun_19 (by decide) (fun z13 ez13 => ?_)
        refine lv_goto (tgt := 24) hx hb dX8_isInRun_20 (by decide) ?_
        exact r_zret hx hb hr hK hP hS hk (by omega) dX8_isInRun_24 (show P_X8_isInRun σ0 a0 z13 σ0 from ⟨hR, hF, ⟨by omega, by omega⟩⟩)
theorem in_X8_note_8 : ∀ w ∈ u_ws RX8 TX8 15, w ∈ wsX8_note := by decide +kernel
theorem lk_X8_note_15 : Cond.fieldLink RX8 15 "CuckooShares$Tape" "tokens" "[I" ∈ wsX8_note := by decide +kernel
theorem lk_X8_note_19 : Cond.fieldLink RX8 19 "CuckooShares$Tape" "places" "[I" ∈ wsX8_note := by decide +kernel
theorem lk_X8_note_22 : Cond.fieldLink RX8 22 "CuckooShares$Tape" "numbers" "[I" ∈ wsX8_note := by decide +kernel
theorem lk_X8_note_25 : Cond.fieldLink RX8 25 "CuckooShares$Tape" "names" "[J" ∈ wsX8_note := by decide +kernel
theorem lk_X8_note_39 : Cond.fieldLink RX8 39 "CuckooShares$Tape" "tokensRead" "I" ∈ wsX8_note := by decide +kernel
abbrev L_X8_note : List Rc := [(36, 36, 0, 940), (37, 37, 0, 940), (38, 38, 0, 940), (1, 1, 6, 6)]
def P_X8_note (σ0 : Nat → Nat → Int32) (a1 : Int32) (a2 : Int32) (a3 : Int32) (a4 : Int64) (σ : Nat → Nat → Int32) : Prop := Rg σ ∧ Fr L_X8_note σ0 σ
set_option maxHeartbeats 4000000 in
theorem c_X8_note (l : Launch) (D : va_G) (cA : Nat → ClassId) (ad : Nat → Nat) (hI : Inj ad) (σ0 : Nat → Nat → Int32) (τ0 : Nat → Nat → Int64) (hR : Rg σ0) (a1 : Int32) (a2 : Int32) (a3 : Int32) (a4 : Int64) (ha2 : 0 ≤ a2.toInt ∧ a2.toInt ≤ 900) : Met l yX8_note wsX8_note ({ frames := 0, cells := 0, slots := 0, locals := 0 } : Room) (WQc D cA ad [.ref (ad 1), .int a1, .int a2, .int a3, .long a4] σ0 τ0) (va_Qv (fun u : SS => P_X8_note σ0 a1 a2 a3 a4 u.1) (WB D cA ad) (AA ad)) 0 0 (AA ad) := by
  refine Met.ofW (cc := cX8_note) (maxL := 6) (ret := none) (by decide) rfl ?_
  intro p e s m args below meth c s₁ B hml hv
  obtain ⟨rfl, hP, hK, hN⟩ := hv
  have C : Cy p s m _ meth c cX8_note 6 wsX8_note RX8 D cA ad none := ⟨B.exec, B.bytes, hml, findClass_of_methodNamed B.named, atoms_spec (ws := wsX8_note) B.pre, hK, B.notSynchronized, B.returns, hI, hN⟩
  have hl := lv_entry ([.ref (ad 1), .int a1, .int a2, .int a3, .long a4]) (n := 6) (Nat.le_of_ble_eq_true rfl)
  rw [lg_entry_eq]
  generalize (lg_sl ([.ref (ad 1), .int a1, .int a2, .int a3, .long a4]) ++ List.replicate (6 - (lg_sl ([.ref (ad 1), .int a1, .int a2, .int a3, .long a4])).length) Slot.unset).toArray = ls at hl ⊢
  have hl : lv_has ls 6 [(0, .ref (ad 1)), (1, .int a1), (2, .int a2), (3, .int a3), (4, .long a4)] := hl
  have hS : va_S (AA ad) s.heap s.heap [] := va_S.rf
  have hF : Fr L_X8_note σ0 σ0 := Fr.rf
  obtain ⟨hx, hb, _, hown, hts, _, hk, hr, _, _⟩ := C
  refine lv_aload_n hx hb dX8_note_0 rfl (lv_at hl 0 rfl) ?_
  refine fg_8_6 (k := 1) hx hb hts in_X8_note_8 hown hK hP (by decide) (by decide) (hts _ lk_X8_note_39) dX8_note_1 ?_
  have hr1 := rg_8_6 hR (k := 1) (by decide) (by decide)
  refine lv_aload_n hx hb dX8_note_4 rfl (lv_at hl 0 rfl) ?_
  refine fg_8_1 (k := 1) hx hb hts in_X8_note_8 hown hK hP (by decide) (by decide) (hts _ lk_X8_note_15) dX8_note_5 ?_
  refine al_tokens (k := 36) hx hb hK hP (by decide) (by decide) dX8_note_8 (fun z2 ez2 => ?_)
  refine r_icmp_ge (tgt := 63) hx hb dX8_note_9 (by decide) (fun c3 => ?_) (fun c3 => ?_)
  · exact r_vret hx hb hr hK hP hS hk dX8_note_63 (show P_X8_note σ0 a1 a2 a3 a4 σ0 from ⟨hR, hF⟩)
  · refine lv_aload_n hx hb dX8_note_12 rfl (lv_at hl 0 rfl) ?_
    refine fg_8_1 (k := 1) hx hb hts in_X8_note_8 hown hK hP (by decide) (by decide) (hts _ lk_X8_note_15) dX8_note_13 ?_
    refine lv_aload_n hx hb dX8_note_16 rfl (lv_at hl 0 rfl) ?_
    refine fg_8_6 (k := 1) hx hb hts in_X8_note_8 hown hK hP (by decide) (by decide) (hts _ lk_X8_note_39) dX8_note_17 ?_
    refine lv_iload_n hx hb dX8_note_20 rfl (lv_at hl 1 rfl) ?_
    obtain ⟨j4, ej4⟩ : ∃ j : Nat, (σ0 1 6).toInt = (j : Int) := ⟨_, ti_nat (by omega)⟩
    refine as_tokens (k := 36) (j := j4) hx hb hK hP hI hR hS (by decide) (by decide) ej4 (by omega) dX8_note_21 (fun σ5 H5 locs5 u5 v5 hR hP hS => ?_)
    have hF := hF.puts u5 0 rfl (by decide) (by decide) (by omega) (by omega)
    have t6 : (σ5 1 6).toInt = (σ0 1 6).toInt := congrArg Int32.toInt (u5 1 6 (by omega))
    refine lv_aload_n hx hb dX8_note_22 rfl (lv_at hl 0 rfl) ?_
    refine fg_8_2 (k := 1) hx hb hts in_X8_note_8 hown hK hP (by decide) (by decide) (hts _ lk_X8_note_19) dX8_note_23 ?_
    refine lv_aload_n hx hb dX8_note_26 rfl (lv_at hl 0 rfl) ?_
    refine fg_8_6 (k := 1) hx hb hts in_X8_note_8 hown hK hP (by decide) (by decide) (hts _ lk_X8_note_39) dX8_note_27 ?_
    refine lv_iload_n hx hb dX8_note_30 rfl (lv_at hl 2 rfl) ?_
    obtain ⟨j7, ej7⟩ : ∃ j : Nat, (σ5 1 6).toInt = (j : Int) := ⟨_, ti_nat (by omega)⟩
    refine as_tokens (k := 37) (j := j7) hx hb hK hP hI hR hS (by decide) (by decide) ej7 (by omega) dX8_note_31 (fun σ8 H8 locs8 u8 v8 hR hP hS => ?_)
    have hF := hF.puts u8 1 rfl (by decide) (by decide) (by omega) (by omega)
    have t9 : (σ8 1 6).toInt = (σ5 1 6).toInt := congrArg Int32.toInt (u8 1 6 (by omega))
    refine lv_aload_n hx hb dX8_note_32 rfl (lv_at hl 0 rfl) ?_
    refine fg_8_3 (k := 1) hx hb hts in_X8_note_8 hown hK hP (by decide) (by decide) (hts _ lk_X8_note_22) dX8_note_33 ?_
    refine lv_aload_n hx hb dX8_note_36 rfl (lv_at hl 0 rfl) ?_
    refine fg_8_6 (k := 1) hx hb hts in_X8_note_8 hown hK hP (by decide) (by decide) (hts _ lk_X8_note_39) dX8_note_37 ?_
    refine lv_iload_n hx hb dX8_note_40 rfl (lv_at hl 3 rfl) ?_
    obtain ⟨j10, ej10⟩ : ∃ j : Nat, (σ8 1 6).toInt = (j : Int) := ⟨_, ti_nat (by omega)⟩
    refine as_tokens (k := 38) (j := j10) hx hb hK hP hI hR hS (by decide) (by decide) ej10 (by omega) dX8_note_41 (fun σ11 H11 locs11 u11 v11 hR hP hS => ?_)
    have hF := hF.puts u11 2 rfl (by decide) (by decide) (by omega) (by omega)
    have t12 : (σ11 1 6).toInt = (σ8 1 6).toInt := congrArg Int32.toInt (u11 1 6 (by omega))
    refine lv_aload_n hx hb dX8_note_42 rfl (lv_at hl 0 rfl) ?_
    refine fg_8_4 (k := 1) hx hb hts in_X8_note_8 hown hK hP (by decide) (by decide) (hts _ lk_X8_note_25) dX8_note_43 ?_
    refine lv_aload_n hx hb dX8_note_46 rfl (lv_at hl 0 rfl) ?_
    refine fg_8_6 (k := 1) hx hb hts in_X8_note_8 hown hK hP (by decide) (by decide) (hts _ lk_X8_note_39) dX8_note_47 ?_
    refine lv_lload hx hb dX8_note_50 (lv_at hl 4 rfl) ?_
    obtain ⟨j13, ej13⟩ : ∃ j : Nat, (σ11 1 6).toInt = (j : Int) := ⟨_, ti_nat (by omega)⟩
    refine as_names (k := 39) (j := j13) hx hb hK hP hI hS (by decide) (by decide) ej13 (by omega) dX8_note_52 (fun τ14 H14 locs14 hP hS => ?_)
    refine lv_aload_n hx hb dX8_note_53 rfl (lv_at hl 0 rfl) ?_
    refine lv_dup hx hb dX8_note_54 rfl ?_
    refine fg_8_6 (k := 1) hx hb hts in_X8_note_8 hown hK hP (by decide) (by decide) (hts _ lk_X8_note_39) dX8_note_55 ?_
    refine r_iconst hx hb dX8_note_58 (by decide) (fun z15 ez15 => ?_)
    refine r_iadd hx hb dX8_note_59 (by omega) (fun z16 ez16 => ?_)
    refine fp_8_6 (k := 1) hx hb hts in_X8_note_8 hown hK hP (by decide) (by decide) (hts _ lk_X8_note_39) hI hR hS (by omega) dX8_note_60 (fun σ17 H17 locs17 u17 v17 hR hP hS => ?_)
    have hF := hF.puts u17 3 rfl (by decide) (by decide) (by decide) (by decide)
    exact r_vret hx hb hr hK hP hS hk dX8_note_63 (show P_X8_note σ0 a1 a2 a3 a4 σ17 from ⟨hR, hF⟩)
theorem in_X8_scanRun_8 : ∀ w ∈ u_ws RX8 TX8 15, w ∈ wsX8_scanRun := by decide +kernel
theorem lk_X8_scanRun_29 : Cond.fieldLink RX8 29 "CuckooShares$Tape" "size" "I" ∈ wsX8_scanRun := by decide +kernel
theorem lk_X8_scanRun_78 : Cond.constantLong RX8 78 (27) ∈ wsX8_scanRun := by decide +kernel
theorem lk_X8_scanRun_80 : Cond.constantLong RX8 80 (97) ∈ wsX8_scanRun := by decide +kernel
abbrev L_X8_scanRun : List Rc := [(36, 36, 0, 940), (37, 37, 0, 940), (38, 38, 0, 940), (1, 1, 6, 6)]
def P_X8_scanRun (σ0 : Nat → Nat → Int32) (a1 : Int32) (r : Int32) (σ : Nat → Nat → Int32) : Prop := Rg σ ∧ Fr L_X8_scanRun σ0 σ ∧ (0 ≤ r.toInt ∧ r.toInt ≤ 940)
def J_X8_scanRun_13 (p : Program) (l : Launch) (e : Env) (s : State) (m : MethodId) (args : Array Value) (below : List Frame) (meth : Method) (c : Code) (D : va_G) (cA : Nat → ClassId) (ad : Nat → Nat) (σ0 : Nat → Nat → Int32) (a1 : Int32) (n : Nat) : Prop := ∀ (σ : Nat → Nat → Int32) (τ : Nat → Nat → Int64) (H : Heap) (locs : List Loc) (x2 : Int32) (x3 : Int32) (x4 : Int32) (y5 : Int64) (x7 : Int32) (ls : Array Slot), Rg σ → Fr L_X8_scanRun σ0 σ → va_P D vwCl (gw cA ad σ τ) H → va_S (AA ad) s.heap H locs → (0 ≤ x7.toInt ∧ x7.toInt ≤ 940) → lv_has ls 9 [(0, .ref (ad 1)), (1, .int a1), (2, .int x2), (3, .int x3), (4, .int x4), (5, .long y5), (7, .int x7)] → 4 * (940 - x7.toInt) + 3 < (n : Int) → W p l e ({ frames := 13, cells := 0, slots := 0, locals := 423 } : Room) s m args below meth c H locs 0 0 (MQ below (va_Qi (fun (r : Int32) (u : SS) => P_X8_scanRun σ0 a1 r u.1) (WB D cA ad) (AA ad)) args s 0 0 (AA ad)) (F0 m 13 ls [])
def J_X8_scanRun_96 (p : Program) (l : Launch) (e : Env) (s : State) (m : MethodId) (args : Array Value) (below : List Frame) (meth : Method) (c : Code) (D : va_G) (cA : Nat → ClassId) (ad : Nat → Nat) (σ0 : Nat → Nat → Int32) (a1 : Int32) (n : Nat) : Prop := ∀ (σ : Nat → Nat → Int32) (τ : Nat → Nat → Int64) (H : Heap) (locs : List Loc) (x2 : Int32) (x3 : Int32) (x4 : Int32) (y5 : Int64) (x7 : Int32) (ls : Array Slot), Rg σ → Fr L_X8_scanRun σ0 σ → va_P D vwCl (gw cA ad σ τ) H → va_S (AA ad) s.heap H locs → (0 ≤ x7.toInt ∧ x7.toInt ≤ 940) → lv_has ls 9 [(0, .ref (ad 1)), (1, .int a1), (2, .int x2), (3, .int x3), (4, .int x4), (5, .long y5), (7, .int x7)] → 2 < (n : Int) → W p l e ({ frames := 13, cells := 0, slots := 0, locals := 423 } : Room) s m args below meth c H locs 0 0 (MQ below (va_Qi (fun (r : Int32) (u : SS) => P_X8_scanRun σ0 a1 r u.1) (WB D cA ad) (AA ad)) args s 0 0 (AA ad)) (F0 m 96 ls [])
def J_X8_scanRun_116 (p : Program) (l : Launch) (e : Env) (s : State) (m : MethodId) (args : Array Value) (below : List Frame) (meth : Method) (c : Code) (D : va_G) (cA : Nat → ClassId) (ad : Nat → Nat) (σ0 : Nat → Nat → Int32) (a1 : Int32) (n : Nat) : Prop := ∀ (σ : Nat → Nat → Int32) (τ : Nat → Nat → Int64) (H : Heap) (locs : List Loc) (x2 : Int32) (x3 : Int32) (x4 : Int32) (y5 : Int64) (x7 : Int32) (x8 : Int32) (ls : Array Slot), Rg σ → Fr L_X8_scanRun σ0 σ → va_P D vwCl (gw cA ad σ τ) H → va_S (AA ad) s.heap H locs → (0 ≤ x7.toInt ∧ x7.toInt ≤ 940) → (49 ≤ x8.toInt ∧ x8.toInt ≤ 49) → lv_has ls 9 [(0, .ref (ad 1)), (1, .int a1), (2, .int x2), (3, .int x3), (4, .int x4), (5, .long y5), (7, .int x7), (8, .int x8)] → 1 < (n : Int) → W p l e ({ frames := 13, cells := 0, slots := 0, locals := 423 } : Room) s m args below meth c H locs 0 0 (MQ below (va_Qi (fun (r : Int32) (u : SS) => P_X8_scanRun σ0 a1 r u.1) (WB D cA ad) (AA ad)) args s 0 0 (AA ad)) (F0 m 116 ls [])
set_option maxHeartbeats 4000000 in
theorem B_X8_scanRun_13 (p : Program) (l : Launch) (e : Env) (s : State) (m : MethodId) (args : Array Value) (below : List Frame) (meth : Method) (c : Code) (D : va_G) (cA : Nat → ClassId) (ad : Nat → Nat) (σ0 : Nat → Nat → Int32) (a1 : Int32) (n : Nat) (C : Cy p s m args meth c cX8_scanRun 9 wsX8_scanRun RX8 D cA ad (some .int)) (ha1 : 0 ≤ a1.toInt ∧ a1.toInt ≤ 899) (K13 : J_X8_scanRun_13 p l e s m args below meth c D cA ad σ0 a1 n) (K96 : J_X8_scanRun_96 p l e s m args below meth c D cA ad σ0 a1 n) (K116 : J_X8_scanRun_116 p l e s m args below meth c D cA ad σ0 a1 n) : J_X8_scanRun_13 p l e s m args below meth c D cA ad σ0 a1 (n + 1) := by
  obtain ⟨hx, hb, hml, hown, hts, hK, hk, hr, hI, hN⟩ := C
  intro σ τ H locs x2 x3 x4 y5 x7 ls hR hF hP hS hc0 hl hm
  refine lv_iload hx hb dX8_scanRun_13 (lv_at hl 6 rfl) ?_
  refine lv_aload_n hx hb dX8_scanRun_15 rfl (lv_at hl 0 rfl) ?_
  refine fg_8_5 (k := 1) hx hb hts in_X8_scanRun_8 hown hK hP (by decide) (by decide) (hts _ lk_X8_scanRun_29) dX8_scanRun_16 ?_
  have hr1 := rg_8_5 hR (k := 1) (by decide) (by decide)
  refine r_icmp_ge (tgt := 96) hx hb dX8_scanRun_19 (by decide) (fun c2 => ?_) (fun c2 => ?_)
  · exact K96 σ τ H locs x2 x3 x4 y5 x7 ls hR hF hP hS (by omega) (lv_sub hl [0, 1, 2, 3, 4, 5, 6] rfl) (by omega)
  · refine lv_aload_n hx hb dX8_scanRun_22 rfl (lv_at hl 0 rfl) ?_
    refine lv_iload hx hb dX8_scanRun_23 (lv_at hl 6 rfl) ?_
    refine r_cVi (k := 1) (As := [.int x7]) (rest := []) ⟨hx, hb, hml, hown, hts⟩ hK hP hN hS (c_X8_byteAt l D cA ad hI σ τ hR x7 ⟨by omega, by omega⟩) (cwV 1 hts gX8_scanRun_X8_byteAt rfl rfl rfl (by decide +kernel) ⟨by decide, by decide⟩) (rv_Tape hK hP (by decide) (by decide)) rfl hl.1 rfl (Nat.le_of_ble_eq_true rfl) dX8_scanRun_25 (Nat.zero_le _) (Nat.zero_le _) (fun r3 u3 H3 locs3 hp3 hP hS => ?_)
    obtain ⟨σ3, τ3⟩ := u3
    obtain ⟨hR, f3, hq3⟩ : P_X8_byteAt σ x7 r3 σ3 := hp3
    have hP : va_P D vwCl (gw cA ad σ3 τ3) H3 := hP
    obtain rfl := Fr.nil f3
    refine r_cSi (As := [.int r3]) (rest := []) ⟨hx, hb, hml, hown, hts⟩ hK hP hN hS (c_X8_isInRun l D cA ad hI σ τ3 hR r3 ⟨by omega, by omega⟩) (cwS 1 hts gX8_scanRun_X8_isInRun rfl rfl rfl (by decide +kernel) ⟨by decide, by decide⟩) rfl hl.1 rfl (Nat.le_of_ble_eq_true rfl) dX8_scanRun_28 (Nat.zero_le _) (Nat.zero_le _) (fun r4 u4 H4 locs4 hp4 hP hS => ?_)
    obtain ⟨σ4, τ4⟩ := u4
    obtain ⟨hR, f4, hq4⟩ : P_X8_isInRun σ r3 r4 σ4 := hp4
    have hP : va_P D vwCl (gw cA ad σ4 τ4) H4 := hP
    obtain rfl := Fr.nil f4
    refine r_if_eq (tgt := 96) hx hb dX8_scanRun_31 (by decide) (fun c5 => ?_) (fun c5 => ?_)
    · exact K96 σ τ4 H4 locs4 x2 x3 x4 y5 x7 ls hR hF hP hS (by omega) (lv_sub hl [0, 1, 2, 3, 4, 5, 6] rfl) (by omega)
    · refine lv_aload_n hx hb dX8_scanRun_34 rfl (lv_at hl 0 rfl) ?_
      refine lv_iload hx hb dX8_scanRun_35 (lv_at hl 6 rfl) ?_
      refine r_cVi (k := 1) (As := [.int x7]) (rest := []) ⟨hx, hb, hml, hown, hts⟩ hK hP hN hS (c_X8_byteAt l D cA ad hI σ τ4 hR x7 ⟨by omega, by omega⟩) (cwV 1 hts gX8_scanRun_X8_byteAt rfl rfl rfl (by decide +kernel) ⟨by decide, by decide⟩) (rv_Tape hK hP (by decide) (by decide)) rfl hl.1 rfl (Nat.le_of_ble_eq_true rfl) dX8_scanRun_37 (Nat.zero_le _) (Nat.zero_le _) (fun r6 u6 H6 locs6 hp6 hP hS => ?_)
      obtain ⟨σ6, τ6⟩ := u6
      obtain ⟨hR, f6, hq6⟩ : P_X8_byteAt σ x7 r6 σ6 := hp6
      have hP : va_P D vwCl (gw cA ad σ6 τ6) H6 := hP
      obtain rfl := Fr.nil f6
      refine lv_istore (lv' := [(8, .int r6), (0, .ref (ad 1)), (1, .int a1), (2, .int x2), (3, .int x3), (4, .int x4), (5, .long y5), (7, .int x7)]) hx hb dX8_scanRun_40 hl (by decide) rfl (fun ls hl => ?_)
      refine lv_iload hx hb dX8_scanRun_42 (lv_at hl 0 rfl) ?_
      refine r_cSi (As := [.int r6]) (rest := []) ⟨hx, hb, hml, hown, hts⟩ hK hP hN hS (c_X8_isDigit l D cA ad hI σ τ6 hR r6 ⟨by omega, by omega⟩) (cwS 1 hts gX8_scanRun_X8_isDigit rfl rfl rfl (by decide +kernel) ⟨by decide, by decide⟩) rfl hl.1 rfl (Nat.le_of_ble_eq_true rfl) dX8_scanRun_44 (Nat.zero_le _) (Nat.zero_le _) (fun r7 u7 H7 locs7 hp7 hP hS => ?_)
      obtain ⟨σ7, τ7⟩ := u7
      obtain ⟨hR, f7, hq7⟩ : P_X8_isDigit σ r6 r7 σ7 := hp7
      have hP : va_P D vwCl (gw cA ad σ7 τ7) H7 := hP
      obtain rfl := Fr.nil f7
      refine r_if_eq (tgt := 69) hx hb dX8_scanRun_47 (by decide) (fun c8 => ?_) (fun c8 => ?_)
      · refine r_iincU (k := 3) (lv1 := fun z9 => [(2, .int z9), (8, .int r6), (0, .ref (ad 1)), (1, .int a1), (3, .int x3), (4, .int x4), (5, .long y5), (7, .int x7)]) hx hb dX8_scanRun_69 hl rfl (by decide) (fun _ => rfl) (fun z9 ls hl => ?_)
        refine lv_lload hx hb dX8_scanRun_72 (lv_at hl 6 rfl) ?_
        refine lv_ldc2 (v := 27) hx hb hown (hts _ lk_X8_scanRun_78) dX8_scanRun_74 ?_
        refine r_lmul hx hb dX8_scanRun_77 (fun z10 => ?_)
        refine lv_iload hx hb dX8_scanRun_78 (lv_at hl 1 rfl) ?_
        refine r_i2l hx hb dX8_scanRun_80 (fun z11 => ?_)
        refine r_ladd hx hb dX8_scanRun_81 (fun z12 => ?_)
        refine lv_ldc2 (v := 97) hx hb hown (hts _ lk_X8_scanRun_80) dX8_scanRun_82 ?_
        refine r_lsub hx hb dX8_scanRun_85 (fun z13 => ?_)
        refine lv_lconst (v := 1) hx hb dX8_scanRun_86 (by decide) ?_
        refine r_ladd hx hb dX8_scanRun_87 (fun z14 => ?_)
        refine lv_lstore (lv' := [(5, .long z14), (2, .int z9), (8, .int r6), (0, .ref (ad 1)), (1, .int a1), (3, .int x3), (4, .int x4), (7, .int x7)]) hx hb dX8_scanRun_88 hl (by decide) rfl (fun ls hl => ?_)
        refine r_iinc (k := 7) (lv1 := fun z15 => [(7, .int z15), (5, .long z14), (2, .int z9), (8, .int r6), (0, .ref (ad 1)), (1, .int a1), (3, .int x3), (4, .int x4)]) hx hb dX8_scanRun_90 hl rfl (by decide) (fun _ => rfl) (by decide) (by omega) (fun z15 ls ez15 hl => ?_)
        refine lv_goto (tgt := 13) hx hb dX8_scanRun_93 (by decide) ?_
        exact K13 σ τ7 H7 locs7 z9 x3 x4 z14 z15 ls hR hF hP hS (by omega) (lv_sub hl [4, 5, 2, 6, 7, 1, 0] rfl) (by omega)
      · refine r_iincU (k := 4) (lv1 := fun z16 => [(3, .int z16), (8, .int r6), (0, .ref (ad 1)), (1, .int a1), (2, .int x2), (4, .int x4), (5, .long y5), (7, .int x7)]) hx hb dX8_scanRun_50 hl rfl (by decide) (fun _ => rfl) (fun z16 ls hl => ?_)
        refine lv_iload hx hb dX8_scanRun_53 (lv_at hl 5 rfl) ?_
        refine r_bipush hx hb dX8_scanRun_55 (by decide) (fun z17 ez17 => ?_)
        refine r_imulU hx hb dX8_scanRun_57 (fun z18 => ?_)
        refine lv_iload hx hb dX8_scanRun_58 (lv_at hl 1 rfl) ?_
        refine r_iaddU hx hb dX8_scanRun_60 (fun z19 => ?_)
        refine r_bipush hx hb dX8_scanRun_61 (by decide) (fun z20 ez20 => ?_)
        refine r_isubU hx hb dX8_scanRun_63 (fun z21 => ?_)
        refine lv_istore (lv' := [(4, .int z21), (3, .int z16), (8, .int r6), (0, .ref (ad 1)), (1, .int a1), (2, .int x2), (5, .long y5), (7, .int x7)]) hx hb dX8_scanRun_64 hl (by decide) rfl (fun ls hl => ?_)
        refine lv_goto (tgt := 90) hx hb dX8_scanRun_66 (by decide) ?_
        refine r_iinc (k := 7) (lv1 := fun z22 => [(7, .int z22), (4, .int z21), (3, .int z16), (8, .int r6), (0, .ref (ad 1)), (1, .int a1), (2, .int x2), (5, .long y5)]) hx hb dX8_scanRun_90 hl rfl (by decide) (fun _ => rfl) (by decide) (by omega) (fun z22 ls ez22 hl => ?_)
        refine lv_goto (tgt := 13) hx hb dX8_scanRun_93 (by decide) ?_
        exact K13 σ τ7 H7 locs7 x2 z16 z21 y5 z22 ls hR hF hP hS (by omega) (lv_sub hl [4, 5, 6, 2, 1, 7, 0] rfl) (by omega)
set_option maxHeartbeats 4000000 in
theorem B_X8_scanRun_96 (p : Program) (l : Launch) (e : Env) (s : State) (m : MethodId) (args : Array Value) (below : List Frame) (meth : Method) (c : Code) (D : va_G) (cA : Nat → ClassId) (ad : Nat → Nat) (σ0 : Nat → Nat → Int32) (a1 : Int32) (n : Nat) (C : Cy p s m args meth c cX8_scanRun 9 wsX8_scanRun RX8 D cA ad (some .int)) (ha1 : 0 ≤ a1.toInt ∧ a1.toInt ≤ 899) (K13 : J_X8_scanRun_13 p l e s m args below meth c D cA ad σ0 a1 n) (K96 : J_X8_scanRun_96 p l e s m args below meth c D cA ad σ0 a1 n) (K116 : J_X8_scanRun_116 p l e s m args below meth c D cA ad σ0 a1 n) : J_X8_scanRun_96 p l e s m args below meth c D cA ad σ0 a1 (n + 1) := by
  obtain ⟨hx, hb, hml, hown, hts, hK, hk, hr, hI, hN⟩ := C
  intro σ τ H locs x2 x3 x4 y5 x7 ls hR hF hP hS hc0 hl hm
  refine r_bipush hx hb dX8_scanRun_96 (by decide) (fun z1 ez1 => ?_)
  refine lv_istore (lv' := [(8, .int z1), (0, .ref (ad 1)), (1, .int a1), (2, .int x2), (3, .int x3), (4, .int x4), (5, .long y5), (7, .int x7)]) hx hb dX8_scanRun_98 hl (by decide) rfl (fun ls hl => ?_)
  refine lv_iload_n hx hb dX8_scanRun_100 rfl (lv_at hl 3 rfl) ?_
  refine r_if_ne (tgt := 116) hx hb dX8_scanRun_101 (by decide) (fun c2 => ?_) (fun c2 => ?_)
  · exact K116 σ τ H locs x2 x3 x4 y5 x7 z1 ls hR hF hP hS (by omega) (by omega) (lv_sub hl [1, 2, 3, 4, 5, 6, 7, 0] rfl) (by omega)
  · refine lv_iload_n hx hb dX8_scanRun_104 rfl (lv_at hl 4 rfl) ?_
    refine r_iconst hx hb dX8_scanRun_105 (by decide) (fun z3 ez3 => ?_)
    refine r_icmp_gt (tgt := 116) hx hb dX8_scanRun_106 (by decide) (fun c4 => ?_) (fun c4 => ?_)
    · exact K116 σ τ H locs x2 x3 x4 y5 x7 z1 ls hR hF hP hS (by omega) (by omega) (lv_sub hl [1, 2, 3, 4, 5, 6, 7, 0] rfl) (by omega)
    · refine r_bipush hx hb dX8_scanRun_109 (by decide) (fun z5 ez5 => ?_)
      refine lv_istore (lv' := [(8, .int z5), (0, .ref (ad 1)), (1, .int a1), (2, .int x2), (3, .int x3), (4, .int x4), (5, .long y5), (7, .int x7)]) hx hb dX8_scanRun_111 hl (by decide) rfl (fun ls hl => ?_)
      refine lv_goto (tgt := 135) hx hb dX8_scanRun_113 (by decide) ?_
      refine lv_aload_n hx hb dX8_scanRun_135 rfl (lv_at hl 1 rfl) ?_
      refine lv_iload hx hb dX8_scanRun_136 (lv_at hl 0 rfl) ?_
      refine lv_iload_n hx hb dX8_scanRun_138 rfl (lv_at hl 2 rfl) ?_
      refine lv_iload hx hb dX8_scanRun_139 (lv_at hl 5 rfl) ?_
      refine lv_lload hx hb dX8_scanRun_141 (lv_at hl 6 rfl) ?_
      refine r_cVv (k := 1) (As := [.int z5, .int a1, .int x4, .long y5]) (rest := []) ⟨hx, hb, hml, hown, hts⟩ hK hP hN hS (c_X8_note l D cA ad hI σ τ hR z5 a1 x4 y5 ⟨by omega, by omega⟩) (cwV 4 hts gX8_scanRun_X8_note rfl rfl rfl (by decide +kernel) ⟨by decide, by decide⟩) (rv_Tape hK hP (by decide) (by decide)) rfl hl.1 rfl (Nat.le_of_ble_eq_true rfl) dX8_scanRun_143 (Nat.zero_le _) (Nat.zero_le _) (fun u6 H6 locs6 hp6 hP hS => ?_)
      obtain ⟨σ6, τ6⟩ := u6
      obtain ⟨hR, f6⟩ : P_X8_note σ z5 a1 x4 y5 σ6 := hp6
      have hP : va_P D vwCl (gw cA ad σ6 τ6) H6 := hP
      have hF := hF.step f6 (by decide)
      refine lv_iload hx hb dX8_scanRun_146 (lv_at hl 7 rfl) ?_
      exact r_iret hx hb hr hK hP hS hk dX8_scanRun_148 (show P_X8_scanRun σ0 a1 x7 σ6 from ⟨hR, hF, ⟨by omega, by omega⟩⟩)
set_option maxHeartbeats 4000000 in
theorem B_X8_scanRun_116 (p : Program) (l : Launch) (e : Env) (s : State) (m : MethodId) (args : Array Value) (below : List Frame) (meth : Method) (c : Code) (D : va_G) (cA : Nat → ClassId) (ad : Nat → Nat) (σ0 : Nat → Nat → Int32) (a1 : Int32) (n : Nat) (C : Cy p s m args meth c cX8_scanRun 9 wsX8_scanRun RX8 D cA ad (some .int)) (ha1 : 0 ≤ a1.toInt ∧ a1.toInt ≤ 899) (K13 : J_X8_scanRun_13 p l e s m args below meth c D cA ad σ0 a1 n) (K96 : J_X8_scanRun_96 p l e s m args below meth c D cA ad σ0 a1 n) (K116 : J_X8_scanRun_116 p l e s m args below meth c D cA ad σ0 a1 n) : J_X8_scanRun_116 p l e s m args below meth c D cA ad σ0 a1 (n + 1) := by
  obtain ⟨hx, hb, hml, hown, hts, hK, hk, hr, hI, hN⟩ := C
  intro σ τ H locs x2 x3 x4 y5 x7 x8 ls hR hF hP hS hc0 hc1 hl hm
  refine lv_iload_n hx hb dX8_scanRun_116 rfl (lv_at hl 3 rfl) ?_
  refine r_if_ne (tgt := 135) hx hb dX8_scanRun_117 (by decide) (fun c1 => ?_) (fun c1 => ?_)
  · refine lv_aload_n hx hb dX8_scanRun_135 rfl (lv_at hl 0 rfl) ?_
    refine lv_iload hx hb dX8_scanRun_136 (lv_at hl 7 rfl) ?_
    refine lv_iload_n hx hb dX8_scanRun_138 rfl (lv_at hl 1 rfl) ?_
    refine lv_iload hx hb dX8_scanRun_139 (lv_at hl 4 rfl) ?_
    refine lv_lload hx hb dX8_scanRun_141 (lv_at hl 5 rfl) ?_
    refine r_cVv (k := 1) (As := [.int x8, .int a1, .int x4, .long y5]) (rest := []) ⟨hx, hb, hml, hown, hts⟩ hK hP hN hS (c_X8_note l D cA ad hI σ τ hR x8 a1 x4 y5 ⟨by omega, by omega⟩) (cwV 4 hts gX8_scanRun_X8_note rfl rfl rfl (by decide +kernel) ⟨by decide, by decide⟩) (rv_Tape hK hP (by decide) (by decide)) rfl hl.1 rfl (Nat.le_of_ble_eq_true rfl) dX8_scanRun_143 (Nat.zero_le _) (Nat.zero_le _) (fun u2 H2 locs2 hp2 hP hS => ?_)
    obtain ⟨σ2, τ2⟩ := u2
    obtain ⟨hR, f2⟩ : P_X8_note σ x8 a1 x4 y5 σ2 := hp2
    have hP : va_P D vwCl (gw cA ad σ2 τ2) H2 := hP
    have hF := hF.step f2 (by decide)
    refine lv_iload hx hb dX8_scanRun_146 (lv_at hl 6 rfl) ?_
    exact r_iret hx hb hr hK hP hS hk dX8_scanRun_148 (show P_X8_scanRun σ0 a1 x7 σ2 from ⟨hR, hF, ⟨by omega, by omega⟩⟩)
  · refine lv_iload_n hx hb dX8_scanRun_120 rfl (lv_at hl 2 rfl) ?_
    refine r_bipush hx hb dX8_scanRun_121 (by decide) (fun z3 ez3 => ?_)
    refine r_icmp_gt (tgt := 135) hx hb dX8_scanRun_123 (by decide) (fun c4 => ?_) (fun c4 => ?_)
    · refine lv_aload_n hx hb dX8_scanRun_135 rfl (lv_at hl 0 rfl) ?_
      refine lv_iload hx hb dX8_scanRun_136 (lv_at hl 7 rfl) ?_
      refine lv_iload_n hx hb dX8_scanRun_138 rfl (lv_at hl 1 rfl) ?_
      refine lv_iload hx hb dX8_scanRun_139 (lv_at hl 4 rfl) ?_
      refine lv_lload hx hb dX8_scanRun_141 (lv_at hl 5 rfl) ?_
      refine r_cVv (k := 1) (As := [.int x8, .int a1, .int x4, .long y5]) (rest := []) ⟨hx, hb, hml, hown, hts⟩ hK hP hN hS (c_X8_note l D cA ad hI σ τ hR x8 a1 x4 y5 ⟨by omega, by omega⟩) (cwV 4 hts gX8_scanRun_X8_note rfl rfl rfl (by decide +kernel) ⟨by decide, by decide⟩) (rv_Tape hK hP (by decide) (by decide)) rfl hl.1 rfl (Nat.le_of_ble_eq_true rfl) dX8_scanRun_143 (Nat.zero_le _) (Nat.zero_le _) (fun u5 H5 locs5 hp5 hP hS => ?_)
      obtain ⟨σ5, τ5⟩ := u5
      obtain ⟨hR, f5⟩ : P_X8_note σ x8 a1 x4 y5 σ5 := hp5
      have hP : va_P D vwCl (gw cA ad σ5 τ5) H5 := hP
      have hF := hF.step f5 (by decide)
      refine lv_iload hx hb dX8_scanRun_146 (lv_at hl 6 rfl) ?_
      exact r_iret hx hb hr hK hP hS hk dX8_scanRun_148 (show P_X8_scanRun σ0 a1 x7 σ5 from ⟨hR, hF, ⟨by omega, by omega⟩⟩)
    · refine lv_aload_n hx hb dX8_scanRun_126 rfl (lv_at hl 0 rfl) ?_
      refine lv_iload_n hx hb dX8_scanRun_127 rfl (lv_at hl 1 rfl) ?_
      refine lv_iload hx hb dX8_scanRun_128 (lv_at hl 6 rfl) ?_
      refine r_cVi (k := 1) (As := [.int a1, .int x7]) (rest := []) ⟨hx, hb, hml, hown, hts⟩ hK hP hN hS (c_X8_wordToken l D cA ad hI σ τ hR a1 x7) (cwV 2 hts gX8_scanRun_X8_wordToken rfl rfl rfl (by decide +kernel) ⟨by decide, by decide⟩) (rv_Tape hK hP (by decide) (by decide)) rfl hl.1 rfl (Nat.le_of_ble_eq_true rfl) dX8_scanRun_130 (Nat.zero_le _) (Nat.zero_le _) (fun r6 u6 H6 locs6 hp6 hP hS => ?_)
      obtain ⟨σ6, τ6⟩ := u6
      obtain ⟨hR, f6⟩ : P_X8_wordToken σ a1 x7 r6 σ6 := hp6
      have hP : va_P D vwCl (gw cA ad σ6 τ6) H6 := hP
      obtain rfl := Fr.nil f6
      refine lv_istore (lv' := [(8, .int r6), (0, .ref (ad 1)), (1, .int a1), (2, .int x2), (3, .int x3), (4, .int x4), (5, .long y5), (7, .int x7)]) hx hb dX8_scanRun_133 hl (by decide) rfl (fun ls hl => ?_)
      refine lv_aload_n hx hb dX8_scanRun_135 rfl (lv_at hl 1 rfl) ?_
      refine lv_iload hx hb dX8_scanRun_136 (lv_at hl 0 rfl) ?_
      refine lv_iload_n hx hb dX8_scanRun_138 rfl (lv_at hl 2 rfl) ?_
      refine lv_iload hx hb dX8_scanRun_139 (lv_at hl 5 rfl) ?_
      refine lv_lload hx hb dX8_scanRun_141 (lv_at hl 6 rfl) ?_
      refine r_cVv (k := 1) (As := [.int r6, .int a1, .int x4, .long y5]) (rest := []) ⟨hx, hb, hml, hown, hts⟩ hK hP hN hS (c_X8_note l D cA ad hI σ τ6 hR r6 a1 x4 y5 ⟨by omega, by omega⟩) (cwV 4 hts gX8_scanRun_X8_note rfl rfl rfl (by decide +kernel) ⟨by decide, by decide⟩) (rv_Tape hK hP (by decide) (by decide)) rfl hl.1 rfl (Nat.le_of_ble_eq_true rfl) dX8_scanRun_143 (Nat.zero_le _) (Nat.zero_le _) (fun u7 H7 locs7 hp7 hP hS => ?_)
      obtain ⟨σ7, τ7⟩ := u7
      obtain ⟨hR, f7⟩ : P_X8_note σ r6 a1 x4 y5 σ7 := hp7
      have hP : va_P D vwCl (gw cA ad σ7 τ7) H7 := hP
      have hF := hF.step f7 (by decide)
      refine lv_iload hx hb dX8_scanRun_146 (lv_at hl 7 rfl) ?_
      exact r_iret hx hb hr hK hP hS hk dX8_scanRun_148 (show P_X8_scanRun σ0 a1 x7 σ7 from ⟨hR, hF, ⟨by omega, by omega⟩⟩)
theorem A_X8_scanRun (p : Program) (l : Launch) (e : Env) (s : State) (m : MethodId) (args : Array Value) (below : List Frame) (meth : Method) (c : Code) (D : va_G) (cA : Nat → ClassId) (ad : Nat → Nat) (σ0 : Nat → Nat → Int32) (a1 : Int32) (C : Cy p s m args meth c cX8_scanRun 9 wsX8_scanRun RX8 D cA ad (some .int)) (ha1 : 0 ≤ a1.toInt ∧ a1.toInt ≤ 899) : ∀ n : Nat, J_X8_scanRun_13 p l e s m args below meth c D cA ad σ0 a1 n ∧ J_X8_scanRun_96 p l e s m args below meth c D cA ad σ0 a1 n ∧ J_X8_scanRun_116 p l e s m args below meth c D cA ad σ0 a1 n := by
  intro n
  induction n with
  | zero =>
    exact ⟨(by intro σ τ H locs x2 x3 x4 y5 x7 ls hR hF hP hS hc0 hl hm; exfalso; omega), (by intro σ τ H locs x2 x3 x4 y5 x7 ls hR hF hP hS hc0 hl hm; exfalso; omega), (by intro σ τ H locs x2 x3 x4 y5 x7 x8 ls hR hF hP hS hc0 hc1 hl hm; exfalso; omega)⟩
  | succ n ih =>
    exact ⟨B_X8_scanRun_13 p l e s m args below meth c D cA ad σ0 a1 n C ha1 ih.1 ih.2.1 ih.2.2, B_X8_scanRun_96 p l e s m args below meth c D cA ad σ0 a1 n C ha1 ih.1 ih.2.1 ih.2.2, B_X8_scanRun_116 p l e s m args below meth c D cA ad σ0 a1 n C ha1 ih.1 ih.2.1 ih.2.2⟩
set_option maxHeartbeats 4000000 in
theorem c_X8_scanRun (l : Launch) (D : va_G) (cA : Nat → ClassId) (ad : Nat → Nat) (hI : Inj ad) (σ0 : Nat → Nat → Int32) (τ0 : Nat → Nat → Int64) (hR : Rg σ0) (a1 : Int32) (ha1 : 0 ≤ a1.toInt ∧ a1.toInt ≤ 899) : Met l yX8_scanRun wsX8_scanRun ({ frames := 13, cells := 0, slots := 0, locals := 423 } : Room) (WQc D cA ad [.ref (ad 1), .int a1] σ0 τ0) (va_Qi (fun (r : Int32) (u : SS) => P_X8_scanRun σ0 a1 r u.1) (WB D cA ad) (AA ad)) 0 0 (AA ad) := by
  refine Met.ofW (cc := cX8_scanRun) (maxL := 9) (ret := (some .int)) (by decide) rfl ?_
  intro p e s m args below meth c s₁ B hml hv
  obtain ⟨rfl, hP, hK, hN⟩ := hv
  have C : Cy p s m _ meth c cX8_scanRun 9 wsX8_scanRun RX8 D cA ad (some .int) := ⟨B.exec, B.bytes, hml, findClass_of_methodNamed B.named, atoms_spec (ws := wsX8_scanRun) B.pre, hK, B.notSynchronized, B.returns, hI, hN⟩
  have hl := lv_entry ([.ref (ad 1), .int a1]) (n := 9) (Nat.le_of_ble_eq_true rfl)
  rw [lg_entry_eq]
  generalize (lg_sl ([.ref (ad 1), .int a1]) ++ List.replicate (9 - (lg_sl ([.ref (ad 1), .int a1])).length) Slot.unset).toArray = ls at hl ⊢
  have hl : lv_has ls 9 [(0, .ref (ad 1)), (1, .int a1)] := hl
  have hS : va_S (AA ad) s.heap s.heap [] := va_S.rf
  have hF : Fr L_X8_scanRun σ0 σ0 := Fr.rf
  have hA := A_X8_scanRun p l e s m _ below meth c D cA ad σ0 a1 C ha1 7536
  have K13 := hA.1
  have K96 := hA.2.1
  have K116 := hA.2.2
  clear hA
  obtain ⟨hx, hb, _, hown, hts, _, hk, hr, _, _⟩ := C
  refine r_iconst hx hb dX8_scanRun_0 (by decide) (fun z1 ez1 => ?_)
  refine lv_istore_n (lv' := [(2, .int z1), (0, .ref (ad 1)), (1, .int a1)]) hx hb dX8_scanRun_1 rfl hl (by decide) rfl (fun ls hl => ?_)
  refine r_iconst hx hb dX8_scanRun_2 (by decide) (fun z2 ez2 => ?_)
  refine lv_istore_n (lv' := [(3, .int z2), (2, .int z1), (0, .ref (ad 1)), (1, .int a1)]) hx hb dX8_scanRun_3 rfl hl (by decide) rfl (fun ls hl => ?_)
  refine r_iconst hx hb dX8_scanRun_4 (by decide) (fun z3 ez3 => ?_)
  refine lv_istore (lv' := [(4, .int z3), (3, .int z2), (2, .int z1), (0, .ref (ad 1)), (1, .int a1)]) hx hb dX8_scanRun_5 hl (by decide) rfl (fun ls hl => ?_)
  refine lv_lconst (v := 0) hx hb dX8_scanRun_7 (by decide) ?_
  refine lv_lstore (lv' := [(5, .long (0)), (4, .int z3), (3, .int z2), (2, .int z1), (0, .ref (ad 1)), (1, .int a1)]) hx hb dX8_scanRun_8 hl (by decide) rfl (fun ls hl => ?_)
  refine lv_iload_n hx hb dX8_scanRun_10 rfl (lv_at hl 5 rfl) ?_
  refine lv_istore (lv' := [(7, .int a1), (5, .long (0)), (4, .int z3), (3, .int z2), (2, .int z1), (0, .ref (ad 1)), (1, .int a1)]) hx hb dX8_scanRun_11 hl (by decide) rfl (fun ls hl => ?_)
  exact K13 σ0 τ0 s.heap [] z1 z2 z3 (0) a1 ls hR hF hP hS (by omega) (lv_sub hl [5, 6, 4, 3, 2, 1, 0] rfl) (by omega)
abbrev L_X8_signToken : List Rc := []
def P_X8_signToken (σ0 : Nat → Nat → Int32) (a0 : Int32) (r : Int32) (σ : Nat → Nat → Int32) : Prop := Rg σ ∧ Fr L_X8_signToken σ0 σ ∧ (40 ≤ r.toInt ∧ r.toInt ≤ 49)
set_option maxHeartbeats 4000000 in
theorem c_X8_signToken (l : Launch) (D : va_G) (cA : Nat → ClassId) (ad : Nat → Nat) (hI : Inj ad) (σ0 : Nat → Nat → Int32) (τ0 : Nat → Nat → Int64) (hR : Rg σ0) (a0 : Int32) (ha0 : 0 ≤ a0.toInt ∧ a0.toInt ≤ 255) : Met l yX8_signToken wsX8_signToken ({ frames := 0, cells := 0, slots := 0, locals := 0 } : Room) (WQc D cA ad [.int a0] σ0 τ0) (va_Qi (fun (r : Int32) (u : SS) => P_X8_signToken σ0 a0 r u.1) (WB D cA ad) (AA ad)) 0 0 (AA ad) := by
  refine Met.ofW (cc := cX8_signToken) (maxL := 1) (ret := (some .int)) (by decide) rfl ?_
  intro p e s m args below meth c s₁ B hml hv
  obtain ⟨rfl, hP, hK, hN⟩ := hv
  have C : Cy p s m _ meth c cX8_signToken 1 wsX8_signToken RX8 D cA ad (some .int) := ⟨B.exec, B.bytes, hml, findClass_of_methodNamed B.named, atoms_spec (ws := wsX8_signToken) B.pre, hK, B.notSynchronized, B.returns, hI, hN⟩
  have hl := lv_entry ([.int a0]) (n := 1) (Nat.le_of_ble_eq_true rfl)
  rw [lg_entry_eq]
  generalize (lg_sl ([.int a0]) ++ List.replicate (1 - (lg_sl ([.int a0])).length) Slot.unset).toArray = ls at hl ⊢
  have hl : lv_has ls 1 [(0, .int a0)] := hl
  have hS : va_S (AA ad) s.heap s.heap [] := va_S.rf
  have hF : Fr L_X8_signToken σ0 σ0 := Fr.rf
  obtain ⟨hx, hb, _, hown, hts, _, hk, hr, _, _⟩ := C
  refine lv_iload_n hx hb dX8_signToken_0 rfl (lv_at hl 0 rfl) ?_
  by_cases c1 : a0.toInt = 40
  · refine lv_lookup (off := 71) (tgt := 72) hx hb dX8_signToken_1 (by decide) (by rw [c1]; rfl) (by decide) ?_
    refine r_bipush hx hb dX8_signToken_72 (by decide) (fun z2 ez2 => ?_)
    exact r_iret hx hb hr hK hP hS hk dX8_signToken_74 (show P_X8_signToken σ0 a0 z2 σ0 from ⟨hR, hF, ⟨by omega, by omega⟩⟩)
  by_cases c3 : a0.toInt = 41
  · refine lv_lookup (off := 74) (tgt := 75) hx hb dX8_signToken_1 (by decide) (by rw [c3]; rfl) (by decide) ?_
    refine r_bipush hx hb dX8_signToken_75 (by decide) (fun z4 ez4 => ?_)
    exact r_iret hx hb hr hK hP hS hk dX8_signToken_77 (show P_X8_signToken σ0 a0 z4 σ0 from ⟨hR, hF, ⟨by omega, by omega⟩⟩)
  by_cases c5 : a0.toInt = 59
  · refine lv_lookup (off := 59) (tgt := 60) hx hb dX8_signToken_1 (by decide) (by rw [c5]; rfl) (by decide) ?_
    refine r_bipush hx hb dX8_signToken_60 (by decide) (fun z6 ez6 => ?_)
    exact r_iret hx hb hr hK hP hS hk dX8_signToken_62 (show P_X8_signToken σ0 a0 z6 σ0 from ⟨hR, hF, ⟨by omega, by omega⟩⟩)
  by_cases c7 : a0.toInt = 60
  · refine lv_lookup (off := 62) (tgt := 63) hx hb dX8_signToken_1 (by decide) (by rw [c7]; rfl) (by decide) ?_
    refine r_bipush hx hb dX8_signToken_63 (by decide) (fun z8 ez8 => ?_)
    exact r_iret hx hb hr hK hP hS hk dX8_signToken_65 (show P_X8_signToken σ0 a0 z8 σ0 from ⟨hR, hF, ⟨by omega, by omega⟩⟩)
  by_cases c9 : a0.toInt = 61
  · refine lv_lookup (off := 65) (tgt := 66) hx hb dX8_signToken_1 (by decide) (by rw [c9]; rfl) (by decide) ?_
    refine r_bipush hx hb dX8_signToken_66 (by decide) (fun z10 ez10 => ?_)
    exact r_iret hx hb hr hK hP hS hk dX8_signToken_68 (show P_X8_signToken σ0 a0 z10 σ0 from ⟨hR, hF, ⟨by omega, by omega⟩⟩)
  by_cases c11 : a0.toInt = 62
  · refine lv_lookup (off := 68) (tgt := 69) hx hb dX8_signToken_1 (by decide) (by rw [c11]; rfl) (by decide) ?_
    refine r_bipush hx hb dX8_signToken_69 (by decide) (fun z12 ez12 => ?_)
    exact r_iret hx hb hr hK hP hS hk dX8_signToken_71 (show P_X8_signToken σ0 a0 z12 σ0 from ⟨hR, hF, ⟨by omega, by omega⟩⟩)
  refine lv_lookup (off := 77) (tgt := 78) hx hb dX8_signToken_1 (by decide) (by simp [Op.lookupswitch.offset, c1, Ne.symm c1, c3, Ne.symm c3, c5, Ne.symm c5, c7, Ne.symm c7, c9, Ne.symm c9, c11, Ne.symm c11]) (by decide) ?_
  refine r_bipush hx hb dX8_signToken_78 (by decide) (fun z13 ez13 => ?_)
  exact r_iret hx hb hr hK hP hS hk dX8_signToken_80 (show P_X8_signToken σ0 a0 z13 σ0 from ⟨hR, hF, ⟨by omega, by omega⟩⟩)
theorem in_X8_scan_8 : ∀ w ∈ u_ws RX8 TX8 15, w ∈ wsX8_scan := by decide +kernel
theorem lk_X8_scan_29 : Cond.fieldLink RX8 29 "CuckooShares$Tape" "size" "I" ∈ wsX8_scan := by decide +kernel
theorem lk_X8_scan_33 : Cond.fieldLink RX8 33 "CuckooShares$Tape" "fault" "I" ∈ wsX8_scan := by decide +kernel
theorem lk_X8_scan_36 : Cond.fieldLink RX8 36 "CuckooShares$Tape" "faultPlace" "I" ∈ wsX8_scan := by decide +kernel
theorem lk_X8_scan_39 : Cond.fieldLink RX8 39 "CuckooShares$Tape" "tokensRead" "I" ∈ wsX8_scan := by decide +kernel
theorem lk_X8_scan_63 : Cond.methodLink RX8 63 Lib.Math.min.name ∈ wsX8_scan := by decide +kernel
theorem lk_X8_scan_69 : Cond.fieldLink RX8 69 "CuckooShares$Tape" "tokensTaken" "I" ∈ wsX8_scan := by decide +kernel
theorem mi_X8_scan : Cond.initialized "java/lang/Math" ∈ wsX8_scan := by decide +kernel
theorem ms_X8_scan_min : Cond.static Lib.Math.min.name ∈ wsX8_scan := by decide +kernel
theorem mc_X8_scan_min : Cond.code Lib.Math.min.name Lib.Math.min.code 2 (some .int) ∈ wsX8_scan := by decide +kernel
abbrev L_X8_scan : List Rc := [(1, 1, 13, 14), (36, 36, 0, 940), (37, 37, 0, 940), (38, 38, 0, 940), (1, 1, 6, 10)]
def P_X8_scan (σ0 : Nat → Nat → Int32) (a1 : Int32) (σ : Nat → Nat → Int32) : Prop := Rg σ ∧ Fr L_X8_scan σ0 σ
def J_X8_scan_19 (p : Program) (l : Launch) (e : Env) (s : State) (m : MethodId) (args : Array Value) (below : List Frame) (meth : Method) (c : Code) (D : va_G) (cA : Nat → ClassId) (ad : Nat → Nat) (σ0 : Nat → Nat → Int32) (a1 : Int32) (n : Nat) : Prop := ∀ (σ : Nat → Nat → Int32) (τ : Nat → Nat → Int64) (H : Heap) (locs : List Loc) (x2 : Int32) (x3 : Int32) (ls : Array Slot), Rg σ → Fr L_X8_scan σ0 σ → va_P D vwCl (gw cA ad σ τ) H → va_S (AA ad) s.heap H locs → (0 ≤ x2.toInt ∧ x2.toInt ≤ 940) → (0 ≤ x3.toInt ∧ x3.toInt ≤ 940) → lv_has ls 5 [(0, .ref (ad 1)), (1, .int a1), (2, .int x2), (3, .int x3)] → 3 * (940 - x3.toInt) + 2 < (n : Int) → W p l e ({ frames := 14, cells := 0, slots := 0, locals := 451 } : Room) s m args below meth c H locs 0 0 (MQ below (va_Qv (fun u : SS => P_X8_scan σ0 a1 u.1) (WB D cA ad) (AA ad)) args s 0 0 (AA ad)) (F0 m 19 ls [])
def J_X8_scan_92 (p : Program) (l : Launch) (e : Env) (s : State) (m : MethodId) (args : Array Value) (below : List Frame) (meth : Method) (c : Code) (D : va_G) (cA : Nat → ClassId) (ad : Nat → Nat) (σ0 : Nat → Nat → Int32) (a1 : Int32) (n : Nat) : Prop := ∀ (σ : Nat → Nat → Int32) (τ : Nat → Nat → Int64) (H : Heap) (locs : List Loc) (x2 : Int32) (x3 : Int32) (ls : Array Slot), Rg σ → Fr L_X8_scan σ0 σ → va_P D vwCl (gw cA ad σ τ) H → va_S (AA ad) s.heap H locs → (0 ≤ x2.toInt ∧ x2.toInt ≤ 940) → (0 ≤ x3.toInt ∧ x3.toInt ≤ 940) → lv_has ls 5 [(0, .ref (ad 1)), (1, .int a1), (2, .int x2), (3, .int x3)] → 1 < (n : Int) → W p l e ({ frames := 14, cells := 0, slots := 0, locals := 451 } : Room) s m args below meth c H locs 0 0 (MQ below (va_Qv (fun u : SS => P_X8_scan σ0 a1 u.1) (WB D cA ad) (AA ad)) args s 0 0 (AA ad)) (F0 m 92 ls [])
set_option maxHeartbeats 4000000 in
theorem B_X8_scan_19 (p : Program) (l : Launch) (e : Env) (s : State) (m : MethodId) (args : Array Value) (below : List Frame) (meth : Method) (c : Code) (D : va_G) (cA : Nat → ClassId) (ad : Nat → Nat) (σ0 : Nat → Nat → Int32) (a1 : Int32) (n : Nat) (C : Cy p s m args meth c cX8_scan 5 wsX8_scan RX8 D cA ad none) (ha1 : 200 ≤ a1.toInt ∧ a1.toInt ≤ 900) (K19 : J_X8_scan_19 p l e s m args below meth c D cA ad σ0 a1 n) (K92 : J_X8_scan_92 p l e s m args below meth c D cA ad σ0 a1 n) : J_X8_scan_19 p l e s m args below meth c D cA ad σ0 a1 (n + 1) := by
  obtain ⟨hx, hb, hml, hown, hts, hK, hk, hr, hI, hN⟩ := C
  intro σ τ H locs x2 x3 ls hR hF hP hS hc0 hc1 hl hm
  refine lv_iload_n hx hb dX8_scan_19 rfl (lv_at hl 3 rfl) ?_
  refine r_sipush hx hb dX8_scan_20 (by decide) (fun z1 ez1 => ?_)
  refine r_icmp_ge (tgt := 92) hx hb dX8_scan_23 (by decide) (fun c2 => ?_) (fun c2 => ?_)
  · exact K92 σ τ H locs x2 x3 ls hR hF hP hS (by omega) (by omega) (lv_sub hl [0, 1, 2, 3] rfl) (by omega)
  · refine lv_iload_n hx hb dX8_scan_26 rfl (lv_at hl 2 rfl) ?_
    refine lv_aload_n hx hb dX8_scan_27 rfl (lv_at hl 0 rfl) ?_
    refine fg_8_5 (k := 1) hx hb hts in_X8_scan_8 hown hK hP (by decide) (by decide) (hts _ lk_X8_scan_29) dX8_scan_28 ?_
    have hr3 := rg_8_5 hR (k := 1) (by decide) (by decide)
    refine r_icmp_ge (tgt := 92) hx hb dX8_scan_31 (by decide) (fun c4 => ?_) (fun c4 => ?_)
    · exact K92 σ τ H locs x2 x3 ls hR hF hP hS (by omega) (by omega) (lv_sub hl [0, 1, 2, 3] rfl) (by omega)
    · refine lv_iload_n hx hb dX8_scan_34 rfl (lv_at hl 2 rfl) ?_
      refine lv_iload_n hx hb dX8_scan_35 rfl (lv_at hl 1 rfl) ?_
      refine r_icmp_ge (tgt := 92) hx hb dX8_scan_36 (by decide) (fun c5 => ?_) (fun c5 => ?_)
      · exact K92 σ τ H locs x2 x3 ls hR hF hP hS (by omega) (by omega) (lv_sub hl [0, 1, 2, 3] rfl) (by omega)
      · refine lv_aload_n hx hb dX8_scan_39 rfl (lv_at hl 0 rfl) ?_
        refine lv_iload_n hx hb dX8_scan_40 rfl (lv_at hl 2 rfl) ?_
        refine r_cVi (k := 1) (As := [.int x2]) (rest := []) ⟨hx, hb, hml, hown, hts⟩ hK hP hN hS (c_X8_byteAt l D cA ad hI σ τ hR x2 ⟨by omega, by omega⟩) (cwV 1 hts gX8_scan_X8_byteAt rfl rfl rfl (by decide +kernel) ⟨by decide, by decide⟩) (rv_Tape hK hP (by decide) (by decide)) rfl hl.1 rfl (Nat.le_of_ble_eq_true rfl) dX8_scan_41 (Nat.zero_le _) (Nat.zero_le _) (fun r6 u6 H6 locs6 hp6 hP hS => ?_)
        obtain ⟨σ6, τ6⟩ := u6
        obtain ⟨hR, f6, hq6⟩ : P_X8_byteAt σ x2 r6 σ6 := hp6
        have hP : va_P D vwCl (gw cA ad σ6 τ6) H6 := hP
        obtain rfl := Fr.nil f6
        refine lv_istore (lv' := [(4, .int r6), (0, .ref (ad 1)), (1, .int a1), (2, .int x2), (3, .int x3)]) hx hb dX8_scan_44 hl (by decide) rfl (fun ls hl => ?_)
        refine lv_iload hx hb dX8_scan_46 (lv_at hl 0 rfl) ?_
        refine r_cSi (As := [.int r6]) (rest := []) ⟨hx, hb, hml, hown, hts⟩ hK hP hN hS (c_X8_isInRun l D cA ad hI σ τ6 hR r6 ⟨by omega, by omega⟩) (cwS 1 hts gX8_scan_X8_isInRun rfl rfl rfl (by decide +kernel) ⟨by decide, by decide⟩) rfl hl.1 rfl (Nat.le_of_ble_eq_true rfl) dX8_scan_48 (Nat.zero_le _) (Nat.zero_le _) (fun r7 u7 H7 locs7 hp7 hP hS => ?_)
        obtain ⟨σ7, τ7⟩ := u7
        obtain ⟨hR, f7, hq7⟩ : P_X8_isInRun σ r6 r7 σ7 := hp7
        have hP : va_P D vwCl (gw cA ad σ7 τ7) H7 := hP
        obtain rfl := Fr.nil f7
        refine r_if_eq (tgt := 63) hx hb dX8_scan_51 (by decide) (fun c8 => ?_) (fun c8 => ?_)
        · refine lv_iload hx hb dX8_scan_63 (lv_at hl 0 rfl) ?_
          refine r_cSi (As := [.int r6]) (rest := []) ⟨hx, hb, hml, hown, hts⟩ hK hP hN hS (c_X8_isBlank l D cA ad hI σ τ7 hR r6 ⟨by omega, by omega⟩) (cwS 1 hts gX8_scan_X8_isBlank rfl rfl rfl (by decide +kernel) ⟨by decide, by decide⟩) rfl hl.1 rfl (Nat.le_of_ble_eq_true rfl) dX8_scan_65 (Nat.zero_le _) (Nat.zero_le _) (fun r9 u9 H9 locs9 hp9 hP hS => ?_)
          obtain ⟨σ9, τ9⟩ := u9
          obtain ⟨hR, f9, hq9⟩ : P_X8_isBlank σ r6 r9 σ9 := hp9
          have hP : va_P D vwCl (gw cA ad σ9 τ9) H9 := hP
          obtain rfl := Fr.nil f9
          refine r_if_ne (tgt := 83) hx hb dX8_scan_68 (by decide) (fun c10 => ?_) (fun c10 => ?_)
          · refine r_iinc (k := 3) (lv1 := fun z11 => [(2, .int z11), (4, .int r6), (0, .ref (ad 1)), (1, .int a1), (3, .int x3)]) hx hb dX8_scan_83 hl rfl (by decide) (fun _ => rfl) (by decide) (by omega) (fun z11 ls ez11 hl => ?_)
            refine r_iinc (k := 4) (lv1 := fun z12 => [(3, .int z12), (2, .int z11), (4, .int r6), (0, .ref (ad 1)), (1, .int a1)]) hx hb dX8_scan_86 hl rfl (by decide) (fun _ => rfl) (by decide) (by omega) (fun z12 ls ez12 hl => ?_)
            refine lv_goto (tgt := 19) hx hb dX8_scan_89 (by decide) ?_
            exact K19 σ τ9 H9 locs9 z11 z12 ls hR hF hP hS (by omega) (by omega) (lv_sub hl [3, 4, 1, 0] rfl) (by omega)
          · refine lv_aload_n hx hb dX8_scan_71 rfl (lv_at hl 1 rfl) ?_
            refine lv_iload hx hb dX8_scan_72 (lv_at hl 0 rfl) ?_
            refine r_cSi (As := [.int r6]) (rest := [.ref (ad 1)]) ⟨hx, hb, hml, hown, hts⟩ hK hP hN hS (c_X8_signToken l D cA ad hI σ τ9 hR r6 ⟨by omega, by omega⟩) (cwS 1 hts gX8_scan_X8_signToken rfl rfl rfl (by decide +kernel) ⟨by decide, by decide⟩) rfl hl.1 rfl (Nat.le_of_ble_eq_true rfl) dX8_scan_74 (Nat.zero_le _) (Nat.zero_le _) (fun r13 u13 H13 locs13 hp13 hP hS => ?_)
            obtain ⟨σ13, τ13⟩ := u13
            obtain ⟨hR, f13, hq13⟩ : P_X8_signToken σ r6 r13 σ13 := hp13
            have hP : va_P D vwCl (gw cA ad σ13 τ13) H13 := hP
            obtain rfl := Fr.nil f13
            refine lv_iload_n hx hb dX8_scan_77 rfl (lv_at hl 3 rfl) ?_
            refine r_iconst hx hb dX8_scan_78 (by decide) (fun z14 ez14 => ?_)
            refine lv_lconst (v := 0) hx hb dX8_scan_79 (by decide) ?_
            refine r_cVv (k := 1) (As := [.int r13, .int x2, .int z14, .long (0)]) (rest := []) ⟨hx, hb, hml, hown, hts⟩ hK hP hN hS (c_X8_note l D cA ad hI σ τ13 hR r13 x2 z14 (0) ⟨by omega, by omega⟩) (cwV 4 hts gX8_scan_X8_note rfl rfl rfl (by decide +kernel) ⟨by decide, by decide⟩) (rv_Tape hK hP (by decide) (by decide)) rfl hl.1 rfl (Nat.le_of_ble_eq_true rfl) dX8_scan_80 (Nat.zero_le _) (Nat.zero_le _) (fun u15 H15 locs15 hp15 hP hS => ?_)
            obtain ⟨σ15, τ15⟩ := u15
            obtain ⟨hR, f15⟩ : P_X8_note σ r13 x2 z14 (0) σ15 := hp15
            have hP : va_P D vwCl (gw cA ad σ15 τ15) H15 := hP
            have hF := hF.step f15 (by decide)
            have t16 : (σ15 1 5).toInt = (σ 1 5).toInt := congrArg Int32.toInt (f15.at 1 5 (by decide))
            refine r_iinc (k := 3) (lv1 := fun z17 => [(2, .int z17), (4, .int r6), (0, .ref (ad 1)), (1, .int a1), (3, .int x3)]) hx hb dX8_scan_83 hl rfl (by decide) (fun _ => rfl) (by decide) (by omega) (fun z17 ls ez17 hl => ?_)
            refine r_iinc (k := 4) (lv1 := fun z18 => [(3, .int z18), (2, .int z17), (4, .int r6), (0, .ref (ad 1)), (1, .int a1)]) hx hb dX8_scan_86 hl rfl (by decide) (fun _ => rfl) (by decide) (by omega) (fun z18 ls ez18 hl => ?_)
            refine lv_goto (tgt := 19) hx hb dX8_scan_89 (by decide) ?_
            exact K19 σ15 τ15 H15 locs15 z17 z18 ls hR hF hP hS (by omega) (by omega) (lv_sub hl [3, 4, 1, 0] rfl) (by omega)
        · refine lv_aload_n hx hb dX8_scan_54 rfl (lv_at hl 1 rfl) ?_
          refine lv_iload_n hx hb dX8_scan_55 rfl (lv_at hl 3 rfl) ?_
          refine r_cVi (k := 1) (As := [.int x2]) (rest := []) ⟨hx, hb, hml, hown, hts⟩ hK hP hN hS (c_X8_scanRun l D cA ad hI σ τ7 hR x2 ⟨by omega, by omega⟩) (cwV 1 hts gX8_scan_X8_scanRun rfl rfl rfl (by decide +kernel) ⟨by decide, by decide⟩) (rv_Tape hK hP (by decide) (by decide)) rfl hl.1 rfl (Nat.le_of_ble_eq_true rfl) dX8_scan_56 (Nat.zero_le _) (Nat.zero_le _) (fun r19 u19 H19 locs19 hp19 hP hS => ?_)
          obtain ⟨σ19, τ19⟩ := u19
          obtain ⟨hR, f19, hq19⟩ : P_X8_scanRun σ x2 r19 σ19 := hp19
          have hP : va_P D vwCl (gw cA ad σ19 τ19) H19 := hP
          have hF := hF.step f19 (by decide)
          have t20 : (σ19 1 5).toInt = (σ 1 5).toInt := congrArg Int32.toInt (f19.at 1 5 (by decide))
          refine lv_istore_n (lv' := [(2, .int r19), (4, .int r6), (0, .ref (ad 1)), (1, .int a1), (3, .int x3)]) hx hb dX8_scan_59 rfl hl (by decide) rfl (fun ls hl => ?_)
          refine lv_goto (tgt := 86) hx hb dX8_scan_60 (by decide) ?_
          refine r_iinc (k := 4) (lv1 := fun z21 => [(3, .int z21), (2, .int r19), (4, .int r6), (0, .ref (ad 1)), (1, .int a1)]) hx hb dX8_scan_86 hl rfl (by decide) (fun _ => rfl) (by decide) (by omega) (fun z21 ls ez21 hl => ?_)
          refine lv_goto (tgt := 19) hx hb dX8_scan_89 (by decide) ?_
          exact K19 σ19 τ19 H19 locs19 r19 z21 ls hR hF hP hS (by omega) (by omega) (lv_sub hl [3, 4, 1, 0] rfl) (by omega)
set_option maxHeartbeats 4000000 in
theorem B_X8_scan_92 (p : Program) (l : Launch) (e : Env) (s : State) (m : MethodId) (args : Array Value) (below : List Frame) (meth : Method) (c : Code) (D : va_G) (cA : Nat → ClassId) (ad : Nat → Nat) (σ0 : Nat → Nat → Int32) (a1 : Int32) (n : Nat) (C : Cy p s m args meth c cX8_scan 5 wsX8_scan RX8 D cA ad none) (ha1 : 200 ≤ a1.toInt ∧ a1.toInt ≤ 900) (K19 : J_X8_scan_19 p l e s m args below meth c D cA ad σ0 a1 n) (K92 : J_X8_scan_92 p l e s m args below meth c D cA ad σ0 a1 n) : J_X8_scan_92 p l e s m args below meth c D cA ad σ0 a1 (n + 1) := by
  obtain ⟨hx, hb, hml, hown, hts, hK, hk, hr, hI, hN⟩ := C
  intro σ τ H locs x2 x3 ls hR hF hP hS hc0 hc1 hl hm
  refine lv_aload_n hx hb dX8_scan_92 rfl (lv_at hl 0 rfl) ?_
  refine lv_aload_n hx hb dX8_scan_93 rfl (lv_at hl 0 rfl) ?_
  refine fg_8_5 (k := 1) hx hb hts in_X8_scan_8 hown hK hP (by decide) (by decide) (hts _ lk_X8_scan_29) dX8_scan_94 ?_
  have hr1 := rg_8_5 hR (k := 1) (by decide) (by decide)
  refine lv_iload_n hx hb dX8_scan_97 rfl (lv_at hl 1 rfl) ?_
  refine r_icmp_le (tgt := 106) hx hb dX8_scan_98 (by decide) (fun c2 => ?_) (fun c2 => ?_)
  · refine r_bipush hx hb dX8_scan_106 (by decide) (fun z3 ez3 => ?_)
    refine lv_aload_n hx hb dX8_scan_108 rfl (lv_at hl 0 rfl) ?_
    refine fg_8_5 (k := 1) hx hb hts in_X8_scan_8 hown hK hP (by decide) (by decide) (hts _ lk_X8_scan_29) dX8_scan_109 ?_
    refine lv_iload_n hx hb dX8_scan_112 rfl (lv_at hl 1 rfl) ?_
    refine r_mmin hx hb (by rw [hml]; exact hl.1.symm) hown (hts _ lk_X8_scan_63) (hts _ ms_X8_scan_min) (hts _ mi_X8_scan) (hts _ mc_X8_scan_min) (by decide) (Nat.le_of_ble_eq_true rfl) (Nat.zero_le _) (Nat.zero_le _) dX8_scan_113 (fun z5 ez5 => ?_)
    refine r_iconst hx hb dX8_scan_116 (by decide) (fun z6 ez6 => ?_)
    refine lv_lconst (v := 0) hx hb dX8_scan_117 (by decide) ?_
    refine r_cVv (k := 1) (As := [.int z3, .int z5, .int z6, .long (0)]) (rest := []) ⟨hx, hb, hml, hown, hts⟩ hK hP hN hS (c_X8_note l D cA ad hI σ τ hR z3 z5 z6 (0) ⟨by omega, by omega⟩) (cwV 4 hts gX8_scan_X8_note rfl rfl rfl (by decide +kernel) ⟨by decide, by decide⟩) (rv_Tape hK hP (by decide) (by decide)) rfl hl.1 rfl (Nat.le_of_ble_eq_true rfl) dX8_scan_118 (Nat.zero_le _) (Nat.zero_le _) (fun u7 H7 locs7 hp7 hP hS => ?_)
    obtain ⟨σ7, τ7⟩ := u7
    obtain ⟨hR, f7⟩ : P_X8_note σ z3 z5 z6 (0) σ7 := hp7
    have hP : va_P D vwCl (gw cA ad σ7 τ7) H7 := hP
    have hF := hF.step f7 (by decide)
    have t8 : (σ7 1 5).toInt = (σ 1 5).toInt := congrArg Int32.toInt (f7.at 1 5 (by decide))
    refine lv_aload_n hx hb dX8_scan_121 rfl (lv_at hl 0 rfl) ?_
    refine r_iconst hx hb dX8_scan_122 (by decide) (fun z9 ez9 => ?_)
    refine fp_8_7 (k := 1) hx hb hts in_X8_scan_8 hown hK hP (by decide) (by decide) (hts _ lk_X8_scan_69) hI hR hS (by omega) dX8_scan_123 (fun σ10 H10 locs10 u10 v10 hR hP hS => ?_)
    have hF := hF.puts u10 4 rfl (by decide) (by decide) (by decide) (by decide)
    have t11 : (σ10 1 5).toInt = (σ7 1 5).toInt := congrArg Int32.toInt (u10 1 5 (by omega))
    refine lv_aload_n hx hb dX8_scan_126 rfl (lv_at hl 0 rfl) ?_
    refine r_cVv (k := 1) (As := []) (rest := []) ⟨hx, hb, hml, hown, hts⟩ hK hP hN hS (c_X8_next l D cA ad hI σ10 τ7 hR) (cwV 0 hts gX8_scan_X8_next rfl rfl rfl (by decide +kernel) ⟨by decide, by decide⟩) (rv_Tape hK hP (by decide) (by decide)) rfl hl.1 rfl (Nat.le_of_ble_eq_true rfl) dX8_scan_127 (Nat.zero_le _) (Nat.zero_le _) (fun u12 H12 locs12 hp12 hP hS => ?_)
    obtain ⟨σ12, τ12⟩ := u12
    obtain ⟨hR, f12⟩ : P_X8_next σ10 σ12 := hp12
    have hP : va_P D vwCl (gw cA ad σ12 τ12) H12 := hP
    have hF := hF.step f12 (by decide)
    have t13 : (σ12 1 5).toInt = (σ10 1 5).toInt := congrArg Int32.toInt (f12.at 1 5 (by decide))
    exact r_vret hx hb hr hK hP hS hk dX8_scan_130 (show P_X8_scan σ0 a1 σ12 from ⟨hR, hF⟩)
  · refine r_bipush hx hb dX8_scan_101 (by decide) (fun z14 ez14 => ?_)
    refine lv_goto (tgt := 108) hx hb dX8_scan_103 (by decide) ?_
    refine lv_aload_n hx hb dX8_scan_108 rfl (lv_at hl 0 rfl) ?_
    refine fg_8_5 (k := 1) hx hb hts in_X8_scan_8 hown hK hP (by decide) (by decide) (hts _ lk_X8_scan_29) dX8_scan_109 ?_
    refine lv_iload_n hx hb dX8_scan_112 rfl (lv_at hl 1 rfl) ?_
    refine r_mmin hx hb (by rw [hml]; exact hl.1.symm) hown (hts _ lk_X8_scan_63) (hts _ ms_X8_scan_min) (hts _ mi_X8_scan) (hts _ mc_X8_scan_min) (by decide) (Nat.le_of_ble_eq_true rfl) (Nat.zero_le _) (Nat.zero_le _) dX8_scan_113 (fun z16 ez16 => ?_)
    refine r_iconst hx hb dX8_scan_116 (by decide) (fun z17 ez17 => ?_)
    refine lv_lconst (v := 0) hx hb dX8_scan_117 (by decide) ?_
    refine r_cVv (k := 1) (As := [.int z14, .int z16, .int z17, .long (0)]) (rest := []) ⟨hx, hb, hml, hown, hts⟩ hK hP hN hS (c_X8_note l D cA ad hI σ τ hR z14 z16 z17 (0) ⟨by omega, by omega⟩) (cwV 4 hts gX8_scan_X8_note rfl rfl rfl (by decide +kernel) ⟨by decide, by decide⟩) (rv_Tape hK hP (by decide) (by decide)) rfl hl.1 rfl (Nat.le_of_ble_eq_true rfl) dX8_scan_118 (Nat.zero_le _) (Nat.zero_le _) (fun u18 H18 locs18 hp18 hP hS => ?_)
    obtain ⟨σ18, τ18⟩ := u18
    obtain ⟨hR, f18⟩ : P_X8_note σ z14 z16 z17 (0) σ18 := hp18
    have hP : va_P D vwCl (gw cA ad σ18 τ18) H18 := hP
    have hF := hF.step f18 (by decide)
    have t19 : (σ18 1 5).toInt = (σ 1 5).toInt := congrArg Int32.toInt (f18.at 1 5 (by decide))
    refine lv_aload_n hx hb dX8_scan_121 rfl (lv_at hl 0 rfl) ?_
    refine r_iconst hx hb dX8_scan_122 (by decide) (fun z20 ez20 => ?_)
    refine fp_8_7 (k := 1) hx hb hts in_X8_scan_8 hown hK hP (by decide) (by decide) (hts _ lk_X8_scan_69) hI hR hS (by omega) dX8_scan_123 (fun σ21 H21 locs21 u21 v21 hR hP hS => ?_)
    have hF := hF.puts u21 4 rfl (by decide) (by decide) (by decide) (by decide)
    have t22 : (σ21 1 5).toInt = (σ18 1 5).toInt := congrArg Int32.toInt (u21 1 5 (by omega))
    refine lv_aload_n hx hb dX8_scan_126 rfl (lv_at hl 0 rfl) ?_
    refine r_cVv (k := 1) (As := []) (rest := []) ⟨hx, hb, hml, hown, hts⟩ hK hP hN hS (c_X8_next l D cA ad hI σ21 τ18 hR) (cwV 0 hts gX8_scan_X8_next rfl rfl rfl (by decide +kernel) ⟨by decide, by decide⟩) (rv_Tape hK hP (by decide) (by decide)) rfl hl.1 rfl (Nat.le_of_ble_eq_true rfl) dX8_scan_127 (Nat.zero_le _) (Nat.zero_le _) (fun u23 H23 locs23 hp23 hP hS => ?_)
    obtain ⟨σ23, τ23⟩ := u23
    obtain ⟨hR, f23⟩ : P_X8_next σ21 σ23 := hp23
    have hP : va_P D vwCl (gw cA ad σ23 τ23) H23 := hP
    have hF := hF.step f23 (by decide)
    have t24 : (σ23 1 5).toInt = (σ21 1 5).toInt := congrArg Int32.toInt (f23.at 1 5 (by decide))
    exact r_vret hx hb hr hK hP hS hk dX8_scan_130 (show P_X8_scan σ0 a1 σ23 from ⟨hR, hF⟩)
theorem A_X8_scan (p : Program) (l : Launch) (e : Env) (s : State) (m : MethodId) (args : Array Value) (below : List Frame) (meth : Method) (c : Code) (D : va_G) (cA : Nat → ClassId) (ad : Nat → Nat) (σ0 : Nat → Nat → Int32) (a1 : Int32) (C : Cy p s m args meth c cX8_scan 5 wsX8_scan RX8 D cA ad none) (ha1 : 200 ≤ a1.toInt ∧ a1.toInt ≤ 900) : ∀ n : Nat, J_X8_scan_19 p l e s m args below meth c D cA ad σ0 a1 n ∧ J_X8_scan_92 p l e s m args below meth c D cA ad σ0 a1 n := by
  intro n
  induction n with
  | zero =>
    exact ⟨(by intro σ τ H locs x2 x3 ls hR hF hP hS hc0 hc1 hl hm; exfalso; omega), (by intro σ τ H locs x2 x3 ls hR hF hP hS hc0 hc1 hl hm; exfalso; omega)⟩
  | succ n ih =>
    exact ⟨B_X8_scan_19 p l e s m args below meth c D cA ad σ0 a1 n C ha1 ih.1 ih.2, B_X8_scan_92 p l e s m args below meth c D cA ad σ0 a1 n C ha1 ih.1 ih.2⟩
set_option maxHeartbeats 4000000 in
theorem c_X8_scan (l : Launch) (D : va_G) (cA : Nat → ClassId) (ad : Nat → Nat) (hI : Inj ad) (σ0 : Nat → Nat → Int32) (τ0 : Nat → Nat → Int64) (hR : Rg σ0) (a1 : Int32) (ha1 : 200 ≤ a1.toInt ∧ a1.toInt ≤ 900) : Met l yX8_scan wsX8_scan ({ frames := 14, cells := 0, slots := 0, locals := 451 } : Room) (WQc D cA ad [.ref (ad 1), .int a1] σ0 τ0) (va_Qv (fun u : SS => P_X8_scan σ0 a1 u.1) (WB D cA ad) (AA ad)) 0 0 (AA ad) := by
  refine Met.ofW (cc := cX8_scan) (maxL := 5) (ret := none) (by decide) rfl ?_
  intro p e s m args below meth c s₁ B hml hv
  obtain ⟨rfl, hP, hK, hN⟩ := hv
  have C : Cy p s m _ meth c cX8_scan 5 wsX8_scan RX8 D cA ad none := ⟨B.exec, B.bytes, hml, findClass_of_methodNamed B.named, atoms_spec (ws := wsX8_scan) B.pre, hK, B.notSynchronized, B.returns, hI, hN⟩
  have hl := lv_entry ([.ref (ad 1), .int a1]) (n := 5) (Nat.le_of_ble_eq_true rfl)
  rw [lg_entry_eq]
  generalize (lg_sl ([.ref (ad 1), .int a1]) ++ List.replicate (5 - (lg_sl ([.ref (ad 1), .int a1])).length) Slot.unset).toArray = ls at hl ⊢
  have hl : lv_has ls 5 [(0, .ref (ad 1)), (1, .int a1)] := hl
  have hS : va_S (AA ad) s.heap s.heap [] := va_S.rf
  have hF : Fr L_X8_scan σ0 σ0 := Fr.rf
  have hA := A_X8_scan p l e s m _ below meth c D cA ad σ0 a1 C ha1 5653
  have K19 := hA.1
  have K92 := hA.2
  clear hA
  obtain ⟨hx, hb, _, hown, hts, _, hk, hr, _, _⟩ := C
  refine lv_aload_n hx hb dX8_scan_0 rfl (lv_at hl 0 rfl) ?_
  refine r_iconst hx hb dX8_scan_1 (by decide) (fun z1 ez1 => ?_)
  refine fp_8_13 (k := 1) hx hb hts in_X8_scan_8 hown hK hP (by decide) (by decide) (hts _ lk_X8_scan_33) hI hR hS dX8_scan_2 (fun σ2 H2 locs2 u2 v2 hR hP hS => ?_)
  have hF := hF.puts u2 0 rfl (by decide) (by decide) (by decide) (by decide)
  refine lv_aload_n hx hb dX8_scan_5 rfl (lv_at hl 0 rfl) ?_
  refine r_iconst hx hb dX8_scan_6 (by decide) (fun z3 ez3 => ?_)
  refine fp_8_14 (k := 1) hx hb hts in_X8_scan_8 hown hK hP (by decide) (by decide) (hts _ lk_X8_scan_36) hI hR hS dX8_scan_7 (fun σ4 H4 locs4 u4 v4 hR hP hS => ?_)
  have hF := hF.puts u4 0 rfl (by decide) (by decide) (by decide) (by decide)
  refine lv_aload_n hx hb dX8_scan_10 rfl (lv_at hl 0 rfl) ?_
  refine r_iconst hx hb dX8_scan_11 (by decide) (fun z5 ez5 => ?_)
  refine fp_8_6 (k := 1) hx hb hts in_X8_scan_8 hown hK hP (by decide) (by decide) (hts _ lk_X8_scan_39) hI hR hS (by omega) dX8_scan_12 (fun σ6 H6 locs6 u6 v6 hR hP hS => ?_)
  have hF := hF.puts u6 4 rfl (by decide) (by decide) (by decide) (by decide)
  refine r_iconst hx hb dX8_scan_15 (by decide) (fun z7 ez7 => ?_)
  refine lv_istore_n (lv' := [(2, .int z7), (0, .ref (ad 1)), (1, .int a1)]) hx hb dX8_scan_16 rfl hl (by decide) rfl (fun ls hl => ?_)
  refine r_iconst hx hb dX8_scan_17 (by decide) (fun z8 ez8 => ?_)
  refine lv_istore_n (lv' := [(3, .int z8), (2, .int z7), (0, .ref (ad 1)), (1, .int a1)]) hx hb dX8_scan_18 rfl hl (by decide) rfl (fun ls hl => ?_)
  exact K19 σ6 τ0 H6 locs6 z7 z8 ls hR hF hP hS (by omega) (by omega) (lv_sub hl [2, 3, 1, 0] rfl) (by omega)
theorem cn_X9_copyRows : Cond.native arraycopyName ∈ wsX9_copyRows := by decide +kernel
theorem cs_X9_copyRows : Cond.static arraycopyName ∈ wsX9_copyRows := by decide +kernel
theorem ci_X9_copyRows : Cond.initialized "java/lang/System" ∈ wsX9_copyRows := by decide +kernel
theorem lk_X9_copyRows_58 : Cond.methodLink RX9 58 arraycopyName ∈ wsX9_copyRows := by decide +kernel
theorem lk_X9_copyRows_68 : Cond.methodLink RX9 68 Lib.Math.min.name ∈ wsX9_copyRows := by decide +kernel
theorem mi_X9_copyRows : Cond.initialized "java/lang/Math" ∈ wsX9_copyRows := by decide +kernel
theorem ms_X9_copyRows_min : Cond.static Lib.Math.min.name ∈ wsX9_copyRows := by decide +kernel
theorem mc_X9_copyRows_min : Cond.code Lib.Math.min.name Lib.Math.min.code 2 (some .int) ∈ wsX9_copyRows := by decide +kernel
abbrev L_X9_copyRows_callA_callA : List Rc := [(148, 307, 0, 3)]
def P_X9_copyRows_callA_callA (σ0 : Nat → Nat → Int32) (k0 : Nat) (k1 : Nat) (a2 : Int32) (σ : Nat → Nat → Int32) : Prop := Rg σ ∧ Fr L_X9_copyRows_callA_callA σ0 σ
def J_X9_copyRows_callA_callA_2 (p : Program) (l : Launch) (e : Env) (s : State) (m : MethodId) (args : Array Value) (below : List Frame) (meth : Method) (c : Code) (D : va_G) (cA : Nat → ClassId) (ad : Nat → Nat) (σ0 : Nat → Nat → Int32) (k0 : Nat) (k1 : Nat) (a2 : Int32) (n : Nat) : Prop := ∀ (σ : Nat → Nat → Int32) (τ : Nat → Nat → Int64) (H : Heap) (locs : List Loc) (x3 : Int32) (ls : Array Slot), Rg σ → Fr L_X9_copyRows_callA_callA σ0 σ → va_P D vwCl (gw cA ad σ τ) H → va_S (AA ad) s.heap H locs → (0 ≤ x3.toInt ∧ x3.toInt ≤ 40) → lv_has ls 4 [(0, .ref (ad k0)), (1, .ref (ad k1)), (2, .int a2), (3, .int x3)] → 2 * (40 - x3.toInt) + 1 < (n : Int) → W p l e ({ frames := 1, cells := 0, slots := 0, locals := 60 } : Room) s m args below meth c H locs 0 0 (MQ below (va_Qv (fun u : SS => P_X9_copyRows_callA_callA σ0 k0 k1 a2 u.1) (WB D cA ad) (AA ad)) args s 0 0 (AA ad)) (F0 m 2 ls [])
set_option maxHeartbeats 4000000 in
theorem B_X9_copyRows_callA_callA_2 (p : Program) (l : Launch) (e : Env) (s : State) (m : MethodId) (args : Array Value) (below : List Frame) (meth : Method) (c : Code) (D : va_G) (cA : Nat → ClassId) (ad : Nat → Nat) (σ0 : Nat → Nat → Int32) (k0 : Nat) (k1 : Nat) (a2 : Int32) (n : Nat) (C : Cy p s m args meth c cX9_copyRows 4 wsX9_copyRows RX9 D cA ad none) (hk0 : 60 ≤ k0 ∧ k0 ≤ 63) (hk1 : 60 ≤ k1 ∧ k1 ≤ 63) (ha2 : 0 ≤ a2.toInt ∧ a2.toInt ≤ 40) (K2 : J_X9_copyRows_callA_callA_2 p l e s m args below meth c D cA ad σ0 k0 k1 a2 n) : J_X9_copyRows_callA_callA_2 p l e s m args below meth c D cA ad σ0 k0 k1 a2 (n + 1) := by
  obtain ⟨hx, hb, hml, hown, hts, hK, hk, hr, hI, hN⟩ := C
  intro σ τ H locs x3 ls hR hF hP hS hc0 hl hm
  refine lv_iload_n hx hb dX9_copyRows_2 rfl (lv_at hl 3 rfl) ?_
  refine lv_iload_n hx hb dX9_copyRows_3 rfl (lv_at hl 2 rfl) ?_
  refine r_icmp_ge (tgt := 47) hx hb dX9_copyRows_4 (by decide) (fun c1 => ?_) (fun c1 => ?_)
  · exact r_vret hx hb hr hK hP hS hk dX9_copyRows_47 (show P_X9_copyRows_callA_callA σ0 k0 k1 a2 σ from ⟨hR, hF⟩)
  · refine lv_iload_n hx hb dX9_copyRows_7 rfl (lv_at hl 3 rfl) ?_
    refine lv_aload_n hx hb dX9_copyRows_8 rfl (lv_at hl 0 rfl) ?_
    refine al_callA (k := k0) hx hb hK hP (by omega) (by omega) dX9_copyRows_9 (fun z2 ez2 => ?_)
    refine r_icmp_ge (tgt := 47) hx hb dX9_copyRows_10 (by decide) (fun c3 => ?_) (fun c3 => ?_)
    · exfalso; omega
    · refine lv_iload_n hx hb dX9_copyRows_13 rfl (lv_at hl 3 rfl) ?_
      refine lv_aload_n hx hb dX9_copyRows_14 rfl (lv_at hl 1 rfl) ?_
      refine al_callA (k := k1) hx hb hK hP (by omega) (by omega) dX9_copyRows_15 (fun z4 ez4 => ?_)
      refine r_icmp_ge (tgt := 47) hx hb dX9_copyRows_16 (by decide) (fun c5 => ?_) (fun c5 => ?_)
      · exfalso; omega
      · refine lv_aload_n hx hb dX9_copyRows_19 rfl (lv_at hl 0 rfl) ?_
        refine lv_iload_n hx hb dX9_copyRows_20 rfl (lv_at hl 3 rfl) ?_
        obtain ⟨j6, ej6⟩ : ∃ j : Nat, x3.toInt = (j : Int) := ⟨_, ti_nat (by omega)⟩
        refine ad_callA (k := k0) (j := j6) hx hb hK hP (by omega) (by omega) ej6 (by omega) dX9_copyRows_21 ?_
        refine r_iconst hx hb dX9_copyRows_22 (by decide) (fun z7 ez7 => ?_)
        refine lv_aload_n hx hb dX9_copyRows_23 rfl (lv_at hl 1 rfl) ?_
        refine lv_iload_n hx hb dX9_copyRows_24 rfl (lv_at hl 3 rfl) ?_
        refine ad_callA (k := k1) (j := j6) hx hb hK hP (by omega) (by omega) ej6 (by omega) dX9_copyRows_25 ?_
        refine r_iconst hx hb dX9_copyRows_26 (by decide) (fun z8 ez8 => ?_)
        refine lv_aload_n hx hb dX9_copyRows_27 rfl (lv_at hl 0 rfl) ?_
        refine lv_iload_n hx hb dX9_copyRows_28 rfl (lv_at hl 3 rfl) ?_
        refine ad_callA (k := k0) (j := j6) hx hb hK hP (by omega) (by omega) ej6 (by omega) dX9_copyRows_29 ?_
        refine al_callR (k := 40 * (k0 - 60) + 148 + j6) hx hb hK hP (by omega) (by omega) dX9_copyRows_30 (fun z9 ez9 => ?_)
        refine lv_aload_n hx hb dX9_copyRows_31 rfl (lv_at hl 1 rfl) ?_
        refine lv_iload_n hx hb dX9_copyRows_32 rfl (lv_at hl 3 rfl) ?_
        refine ad_callA (k := k1) (j := j6) hx hb hK hP (by omega) (by omega) ej6 (by omega) dX9_copyRows_33 ?_
        refine al_callR (k := 40 * (k1 - 60) + 148 + j6) hx hb hK hP (by omega) (by omega) dX9_copyRows_34 (fun z10 ez10 => ?_)
        refine r_mmin hx hb (by rw [hml]; exact hl.1.symm) hown (hts _ lk_X9_copyRows_68) (hts _ ms_X9_copyRows_min) (hts _ mi_X9_copyRows) (hts _ mc_X9_copyRows_min) (by decide) (Nat.le_of_ble_eq_true rfl) (Nat.zero_le _) (Nat.zero_le _) dX9_copyRows_35 (fun z12 ez12 => ?_)
        refine cp_callR (k := 40 * (k1 - 60) + 148 + j6) (q := 40 * (k0 - 60) + 148 + j6) hx hb (by rw [hml]; exact hl.1.symm) hown (hts _ lk_X9_copyRows_58) (hts _ cn_X9_copyRows) (hts _ cs_X9_copyRows) (hts _ ci_X9_copyRows) hK hP hI hR hS (by omega) (by omega) (by omega) (by omega) (by omega) (by omega) (by omega) (by decide) (Nat.le_of_ble_eq_true rfl) dX9_copyRows_38 (fun σ13 H13 locs13 u13 hR hP hS => ?_)
        have hF := hF.row u13 0 rfl (by omega) (by omega) (by decide) (by decide)
        refine r_iinc (k := 3) (lv1 := fun z14 => [(3, .int z14), (0, .ref (ad k0)), (1, .ref (ad k1)), (2, .int a2)]) hx hb dX9_copyRows_41 hl rfl (by decide) (fun _ => rfl) (by decide) (by omega) (fun z14 ls ez14 hl => ?_)
        refine lv_goto (tgt := 2) hx hb dX9_copyRows_44 (by decide) ?_
        exact K2 σ13 τ H13 locs13 z14 ls hR hF hP hS (by omega) (lv_sub hl [1, 2, 3, 0] rfl) (by omega)
theorem A_X9_copyRows_callA_callA (p : Program) (l : Launch) (e : Env) (s : State) (m : MethodId) (args : Array Value) (below : List Frame) (meth : Method) (c : Code) (D : va_G) (cA : Nat → ClassId) (ad : Nat → Nat) (σ0 : Nat → Nat → Int32) (k0 : Nat) (k1 : Nat) (a2 : Int32) (C : Cy p s m args meth c cX9_copyRows 4 wsX9_copyRows RX9 D cA ad none) (hk0 : 60 ≤ k0 ∧ k0 ≤ 63) (hk1 : 60 ≤ k1 ∧ k1 ≤ 63) (ha2 : 0 ≤ a2.toInt ∧ a2.toInt ≤ 40) : ∀ n : Nat, J_X9_copyRows_callA_callA_2 p l e s m args below meth c D cA ad σ0 k0 k1 a2 n := by
  intro n
  induction n with
  | zero =>
    exact (by intro σ τ H locs x3 ls hR hF hP hS hc0 hl hm; exfalso; omega)
  | succ n ih =>
    exact B_X9_copyRows_callA_callA_2 p l e s m args below meth c D cA ad σ0 k0 k1 a2 n C hk0 hk1 ha2 ih
set_option maxHeartbeats 4000000 in
theorem c_X9_copyRows_callA_callA (l : Launch) (D : va_G) (cA : Nat → ClassId) (ad : Nat → Nat) (hI : Inj ad) (σ0 : Nat → Nat → Int32) (τ0 : Nat → Nat → Int64) (hR : Rg σ0) (k0 : Nat) (k1 : Nat) (a2 : Int32) (hk0 : 60 ≤ k0 ∧ k0 ≤ 63) (hk1 : 60 ≤ k1 ∧ k1 ≤ 63) (ha2 : 0 ≤ a2.toInt ∧ a2.toInt ≤ 40) : Met l yX9_copyRows wsX9_copyRows ({ frames := 1, cells := 0, slots := 0, locals := 60 } : Room) (WQc D cA ad [.ref (ad k0), .ref (ad k1), .int a2] σ0 τ0) (va_Qv (fun u : SS => P_X9_copyRows_callA_callA σ0 k0 k1 a2 u.1) (WB D cA ad) (AA ad)) 0 0 (AA ad) := by
  refine Met.ofW (cc := cX9_copyRows) (maxL := 4) (ret := none) (by decide) rfl ?_
  intro p e s m args below meth c s₁ B hml hv
  obtain ⟨rfl, hP, hK, hN⟩ := hv
  have C : Cy p s m _ meth c cX9_copyRows 4 wsX9_copyRows RX9 D cA ad none := ⟨B.exec, B.bytes, hml, findClass_of_methodNamed B.named, atoms_spec (ws := wsX9_copyRows) B.pre, hK, B.notSynchronized, B.returns, hI, hN⟩
  have hl := lv_entry ([.ref (ad k0), .ref (ad k1), .int a2]) (n := 4) (Nat.le_of_ble_eq_true rfl)
  rw [lg_entry_eq]
  generalize (lg_sl ([.ref (ad k0), .ref (ad k1), .int a2]) ++ List.replicate (4 - (lg_sl ([.ref (ad k0), .ref (ad k1), .int a2])).length) Slot.unset).toArray = ls at hl ⊢
  have hl : lv_has ls 4 [(0, .ref (ad k0)), (1, .ref (ad k1)), (2, .int a2)] := hl
  have hS : va_S (AA ad) s.heap s.heap [] := va_S.rf
  have hF : Fr L_X9_copyRows_callA_callA σ0 σ0 := Fr.rf
  have hA := A_X9_copyRows_callA_callA p l e s m _ below meth c D cA ad σ0 k0 k1 a2 C hk0 hk1 ha2 170
  have K2 := hA
  clear hA
  obtain ⟨hx, hb, _, hown, hts, _, hk, hr, _, _⟩ := C
  refine r_iconst hx hb dX9_copyRows_0 (by decide) (fun z1 ez1 => ?_)
  refine lv_istore_n (lv' := [(3, .int z1), (0, .ref (ad k0)), (1, .ref (ad k1)), (2, .int a2)]) hx hb dX9_copyRows_1 rfl hl (by decide) rfl (fun ls hl => ?_)
  exact K2 σ0 τ0 s.heap [] z1 ls hR hF hP hS (by omega) (lv_sub hl [1, 2, 3, 0] rfl) (by omega)
abbrev L_X9_copyRows_flightA_flightA : List Rc := [(132, 147, 0, 3)]
def P_X9_copyRows_flightA_flightA (σ0 : Nat → Nat → Int32) (k0 : Nat) (k1 : Nat) (a2 : Int32) (σ : Nat → Nat → Int32) : Prop := Rg σ ∧ Fr L_X9_copyRows_flightA_flightA σ0 σ
def J_X9_copyRows_flightA_flightA_2 (p : Program) (l : Launch) (e : Env) (s : State) (m : MethodId) (args : Array Value) (below : List Frame) (meth : Method) (c : Code) (D : va_G) (cA : Nat → ClassId) (ad : Nat → Nat) (σ0 : Nat → Nat → Int32) (k0 : Nat) (k1 : Nat) (a2 : Int32) (n : Nat) : Prop := ∀ (σ : Nat → Nat → Int32) (τ : Nat → Nat → Int64) (H : Heap) (locs : List Loc) (x3 : Int32) (ls : Array Slot), Rg σ → Fr L_X9_copyRows_flightA_flightA σ0 σ → va_P D vwCl (gw cA ad σ τ) H → va_S (AA ad) s.heap H locs → (0 ≤ x3.toInt ∧ x3.toInt ≤ 4) → lv_has ls 4 [(0, .ref (ad k0)), (1, .ref (ad k1)), (2, .int a2), (3, .int x3)] → 2 * (4 - x3.toInt) + 1 < (n : Int) → W p l e ({ frames := 1, cells := 0, slots := 0, locals := 60 } : Room) s m args below meth c H locs 0 0 (MQ below (va_Qv (fun u : SS => P_X9_copyRows_flightA_flightA σ0 k0 k1 a2 u.1) (WB D cA ad) (AA ad)) args s 0 0 (AA ad)) (F0 m 2 ls [])
set_option maxHeartbeats 4000000 in
theorem B_X9_copyRows_flightA_flightA_2 (p : Program) (l : Launch) (e : Env) (s : State) (m : MethodId) (args : Array Value) (below : List Frame) (meth : Method) (c : Code) (D : va_G) (cA : Nat → ClassId) (ad : Nat → Nat) (σ0 : Nat → Nat → Int32) (k0 : Nat) (k1 : Nat) (a2 : Int32) (n : Nat) (C : Cy p s m args meth c cX9_copyRows 4 wsX9_copyRows RX9 D cA ad none) (hk0 : 56 ≤ k0 ∧ k0 ≤ 59) (hk1 : 56 ≤ k1 ∧ k1 ≤ 59) (ha2 : 0 ≤ a2.toInt ∧ a2.toInt ≤ 4) (K2 : J_X9_copyRows_flightA_flightA_2 p l e s m args below meth c D cA ad σ0 k0 k1 a2 n) : J_X9_copyRows_flightA_flightA_2 p l e s m args below meth c D cA ad σ0 k0 k1 a2 (n + 1) := by
  obtain ⟨hx, hb, hml, hown, hts, hK, hk, hr, hI, hN⟩ := C
  intro σ τ H locs x3 ls hR hF hP hS hc0 hl hm
  refine lv_iload_n hx hb dX9_copyRows_2 rfl (lv_at hl 3 rfl) ?_
  refine lv_iload_n hx hb dX9_copyRows_3 rfl (lv_at hl 2 rfl) ?_
  refine r_icmp_ge (tgt := 47) hx hb dX9_copyRows_4 (by decide) (fun c1 => ?_) (fun c1 => ?_)
  · exact r_vret hx hb hr hK hP hS hk dX9_copyRows_47 (show P_X9_copyRows_flightA_flightA σ0 k0 k1 a2 σ from ⟨hR, hF⟩)
  · refine lv_iload_n hx hb dX9_copyRows_7 rfl (lv_at hl 3 rfl) ?_
    refine lv_aload_n hx hb dX9_copyRows_8 rfl (lv_at hl 0 rfl) ?_
    refine al_flightA (k := k0) hx hb hK hP (by omega) (by omega) dX9_copyRows_9 (fun z2 ez2 => ?_)
    refine r_icmp_ge (tgt := 47) hx hb dX9_copyRows_10 (by decide) (fun c3 => ?_) (fun c3 => ?_)
    · exfalso; omega
    · refine lv_iload_n hx hb dX9_copyRows_13 rfl (lv_at hl 3 rfl) ?_
      refine lv_aload_n hx hb dX9_copyRows_14 rfl (lv_at hl 1 rfl) ?_
      refine al_flightA (k := k1) hx hb hK hP (by omega) (by omega) dX9_copyRows_15 (fun z4 ez4 => ?_)
      refine r_icmp_ge (tgt := 47) hx hb dX9_copyRows_16 (by decide) (fun c5 => ?_) (fun c5 => ?_)
      · exfalso; omega
      · refine lv_aload_n hx hb dX9_copyRows_19 rfl (lv_at hl 0 rfl) ?_
        refine lv_iload_n hx hb dX9_copyRows_20 rfl (lv_at hl 3 rfl) ?_
        obtain ⟨j6, ej6⟩ : ∃ j : Nat, x3.toInt = (j : Int) := ⟨_, ti_nat (by omega)⟩
        refine ad_flightA (k := k0) (j := j6) hx hb hK hP (by omega) (by omega) ej6 (by omega) dX9_copyRows_21 ?_
        refine r_iconst hx hb dX9_copyRows_22 (by decide) (fun z7 ez7 => ?_)
        refine lv_aload_n hx hb dX9_copyRows_23 rfl (lv_at hl 1 rfl) ?_
        refine lv_iload_n hx hb dX9_copyRows_24 rfl (lv_at hl 3 rfl) ?_
        refine ad_flightA (k := k1) (j := j6) hx hb hK hP (by omega) (by omega) ej6 (by omega) dX9_copyRows_25 ?_
        refine r_iconst hx hb dX9_copyRows_26 (by decide) (fun z8 ez8 => ?_)
        refine lv_aload_n hx hb dX9_copyRows_27 rfl (lv_at hl 0 rfl) ?_
        refine lv_iload_n hx hb dX9_copyRows_28 rfl (lv_at hl 3 rfl) ?_
        refine ad_flightA (k := k0) (j := j6) hx hb hK hP (by omega) (by omega) ej6 (by omega) dX9_copyRows_29 ?_
        refine al_flightR (k := 4 * (k0 - 56) + 132 + j6) hx hb hK hP (by omega) (by omega) dX9_copyRows_30 (fun z9 ez9 => ?_)
        refine lv_aload_n hx hb dX9_copyRows_31 rfl (lv_at hl 1 rfl) ?_
        refine lv_iload_n hx hb dX9_copyRows_32 rfl (lv_at hl 3 rfl) ?_
        refine ad_flightA (k := k1) (j := j6) hx hb hK hP (by omega) (by omega) ej6 (by omega) dX9_copyRows_33 ?_
        refine al_flightR (k := 4 * (k1 - 56) + 132 + j6) hx hb hK hP (by omega) (by omega) dX9_copyRows_34 (fun z10 ez10 => ?_)
        refine r_mmin hx hb (by rw [hml]; exact hl.1.symm) hown (hts _ lk_X9_copyRows_68) (hts _ ms_X9_copyRows_min) (hts _ mi_X9_copyRows) (hts _ mc_X9_copyRows_min) (by decide) (Nat.le_of_ble_eq_true rfl) (Nat.zero_le _) (Nat.zero_le _) dX9_copyRows_35 (fun z12 ez12 => ?_)
        refine cp_flightR (k := 4 * (k1 - 56) + 132 + j6) (q := 4 * (k0 - 56) + 132 + j6) hx hb (by rw [hml]; exact hl.1.symm) hown (hts _ lk_X9_copyRows_58) (hts _ cn_X9_copyRows) (hts _ cs_X9_copyRows) (hts _ ci_X9_copyRows) hK hP hI hR hS (by omega) (by omega) (by omega) (by omega) (by omega) (by omega) (by omega) (by decide) (Nat.le_of_ble_eq_true rfl) dX9_copyRows_38 (fun σ13 H13 locs13 u13 hR hP hS => ?_)
        have hF := hF.row u13 0 rfl (by omega) (by omega) (by decide) (by decide)
        refine r_iinc (k := 3) (lv1 := fun z14 => [(3, .int z14), (0, .ref (ad k0)), (1, .ref (ad k1)), (2, .int a2)]) hx hb dX9_copyRows_41 hl rfl (by decide) (fun _ => rfl) (by decide) (by omega) (fun z14 ls ez14 hl => ?_)
        refine lv_goto (tgt := 2) hx hb dX9_copyRows_44 (by decide) ?_
        exact K2 σ13 τ H13 locs13 z14 ls hR hF hP hS (by omega) (lv_sub hl [1, 2, 3, 0] rfl) (by omega)
theorem A_X9_copyRows_flightA_flightA (p : Program) (l : Launch) (e : Env) (s : State) (m : MethodId) (args : Array Value) (below : List Frame) (meth : Method) (c : Code) (D : va_G) (cA : Nat → ClassId) (ad : Nat → Nat) (σ0 : Nat → Nat → Int32) (k0 : Nat) (k1 : Nat) (a2 : Int32) (C : Cy p s m args meth c cX9_copyRows 4 wsX9_copyRows RX9 D cA ad none) (hk0 : 56 ≤ k0 ∧ k0 ≤ 59) (hk1 : 56 ≤ k1 ∧ k1 ≤ 59) (ha2 : 0 ≤ a2.toInt ∧ a2.toInt ≤ 4) : ∀ n : Nat, J_X9_copyRows_flightA_flightA_2 p l e s m args below meth c D cA ad σ0 k0 k1 a2 n := by
  intro n
  induction n with
  | zero =>
    exact (by intro σ τ H locs x3 ls hR hF hP hS hc0 hl hm; exfalso; omega)
  | succ n ih =>
    exact B_X9_copyRows_flightA_flightA_2 p l e s m args below meth c D cA ad σ0 k0 k1 a2 n C hk0 hk1 ha2 ih
set_option maxHeartbeats 4000000 in
theorem c_X9_copyRows_flightA_flightA (l : Launch) (D : va_G) (cA : Nat → ClassId) (ad : Nat → Nat) (hI : Inj ad) (σ0 : Nat → Nat → Int32) (τ0 : Nat → Nat → Int64) (hR : Rg σ0) (k0 : Nat) (k1 : Nat) (a2 : Int32) (hk0 : 56 ≤ k0 ∧ k0 ≤ 59) (hk1 : 56 ≤ k1 ∧ k1 ≤ 59) (ha2 : 0 ≤ a2.toInt ∧ a2.toInt ≤ 4) : Met l yX9_copyRows wsX9_copyRows ({ frames := 1, cells := 0, slots := 0, locals := 60 } : Room) (WQc D cA ad [.ref (ad k0), .ref (ad k1), .int a2] σ0 τ0) (va_Qv (fun u : SS => P_X9_copyRows_flightA_flightA σ0 k0 k1 a2 u.1) (WB D cA ad) (AA ad)) 0 0 (AA ad) := by
  refine Met.ofW (cc := cX9_copyRows) (maxL := 4) (ret := none) (by decide) rfl ?_
  intro p e s m args below meth c s₁ B hml hv
  obtain ⟨rfl, hP, hK, hN⟩ := hv
  have C : Cy p s m _ meth c cX9_copyRows 4 wsX9_copyRows RX9 D cA ad none := ⟨B.exec, B.bytes, hml, findClass_of_methodNamed B.named, atoms_spec (ws := wsX9_copyRows) B.pre, hK, B.notSynchronized, B.returns, hI, hN⟩
  have hl := lv_entry ([.ref (ad k0), .ref (ad k1), .int a2]) (n := 4) (Nat.le_of_ble_eq_true rfl)
  rw [lg_entry_eq]
  generalize (lg_sl ([.ref (ad k0), .ref (ad k1), .int a2]) ++ List.replicate (4 - (lg_sl ([.ref (ad k0), .ref (ad k1), .int a2])).length) Slot.unset).toArray = ls at hl ⊢
  have hl : lv_has ls 4 [(0, .ref (ad k0)), (1, .ref (ad k1)), (2, .int a2)] := hl
  have hS : va_S (AA ad) s.heap s.heap [] := va_S.rf
  have hF : Fr L_X9_copyRows_flightA_flightA σ0 σ0 := Fr.rf
  have hA := A_X9_copyRows_flightA_flightA p l e s m _ below meth c D cA ad σ0 k0 k1 a2 C hk0 hk1 ha2 26
  have K2 := hA
  clear hA
  obtain ⟨hx, hb, _, hown, hts, _, hk, hr, _, _⟩ := C
  refine r_iconst hx hb dX9_copyRows_0 (by decide) (fun z1 ez1 => ?_)
  refine lv_istore_n (lv' := [(3, .int z1), (0, .ref (ad k0)), (1, .ref (ad k1)), (2, .int a2)]) hx hb dX9_copyRows_1 rfl hl (by decide) rfl (fun ls hl => ?_)
  exact K2 σ0 τ0 s.heap [] z1 ls hR hF hP hS (by omega) (lv_sub hl [1, 2, 3, 0] rfl) (by omega)
