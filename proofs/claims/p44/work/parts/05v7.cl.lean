theorem in_X7_readOn_7 : ∀ w ∈ u_ws RX7 TX7 3, w ∈ wsX7_readOn := by decide +kernel
theorem lk_X7_readOn_15 : Cond.fieldLink RX7 15 "CuckooShares$SentenceText" "valley" "LCuckooShares$Valley;" ∈ wsX7_readOn := by decide +kernel
theorem lk_X7_readOn_19 : Cond.fieldLink RX7 19 "CuckooShares$SentenceText" "into" "LCuckooShares$Sentence;" ∈ wsX7_readOn := by decide +kernel
theorem lk_X7_readOn_9 : Cond.fieldLink RX7 9 "CuckooShares$SentenceText" "tape" "LCuckooShares$Tape;" ∈ wsX7_readOn := by decide +kernel
abbrev L_X7_readOn : List Rc := [(1, 1, 13, 14), (1, 1, 7, 10), (372, 372, 0, 39), (376, 376, 0, 39), (380, 380, 0, 39), (24, 24, 2, 2)]
abbrev LL_X7_readOn : List Rc := [(1, 1, 11, 11)]
def P_X7_readOn (σ0 : Nat → Nat → Int32) (τ0 : Nat → Nat → Int64)  (r : Int32) (σ : Nat → Nat → Int32) (τ : Nat → Nat → Int64) : Prop := Rg σ ∧ Fr L_X7_readOn σ0 σ ∧ FrL LL_X7_readOn τ0 τ ∧ (0 ≤ r.toInt ∧ r.toInt ≤ 1)
set_option maxHeartbeats 4000000 in
theorem c_X7_readOn (l : Launch) (D : va_G) (cA : Nat → ClassId) (ad : Nat → Nat) (hI : Inj ad) (σ0 : Nat → Nat → Int32) (τ0 : Nat → Nat → Int64) (hR : Rg σ0)   : Met l yX7_readOn wsX7_readOn ({ frames := 3, cells := 0, slots := 0, locals := 63 } : Room) (WQc D cA ad [.ref (ad 27)] σ0 τ0) (va_Qi (fun (r : Int32) (u : SS) => P_X7_readOn σ0 τ0 r u.1 u.2) (WB D cA ad) (AA ad)) 0 0 (AA ad) := by
  refine Met.ofW (cc := cX7_readOn) (maxL := 2) (ret := (some .boolean)) (by decide) rfl ?_
  intro p e s m args below meth c s₁ B hml hv
  obtain ⟨rfl, hP, hK, hN⟩ := hv
  have C : Cy p s m _ meth c cX7_readOn 2 wsX7_readOn RX7 D cA ad (some .boolean) := ⟨B.exec, B.bytes, hml, findClass_of_methodNamed B.named, atoms_spec (ws := wsX7_readOn) B.pre, hK, B.notSynchronized, B.returns, hI, hN⟩
  have hl := lv_entry ([.ref (ad 27)]) (n := 2) (Nat.le_of_ble_eq_true rfl)
  rw [lg_entry_eq]
  generalize (lg_sl ([.ref (ad 27)]) ++ List.replicate (2 - (lg_sl ([.ref (ad 27)])).length) Slot.unset).toArray = ls at hl ⊢
  have hl : lv_has ls 2 [(0, .ref (ad 27))] := hl
  have hS : va_S (AA ad) s.heap s.heap [] := va_S.rf
  have hF : Fr L_X7_readOn σ0 σ0 := Fr.rf
  have hFL : FrL LL_X7_readOn τ0 τ0 := FrL.rf
  obtain ⟨hx, hb, _, hown, hts, _, hk, hr, _, _⟩ := C
  refine lv_aload_n hx hb dX7_readOn_0 rfl (lv_at hl 0 rfl) ?_
  refine fg_7_0 (k := 27) hx hb hts in_X7_readOn_7 hown hK hP (by decide) (by decide) (hts _ lk_X7_readOn_9) dX7_readOn_1 ?_
  refine lv_aload_n hx hb dX7_readOn_4 rfl (lv_at hl 0 rfl) ?_
  refine fg_7_1 (k := 27) hx hb hts in_X7_readOn_7 hown hK hP (by decide) (by decide) (hts _ lk_X7_readOn_15) dX7_readOn_5 ?_
  refine r_cVi (k := 1) (As := [.ref (ad 2)]) (rest := []) ⟨hx, hb, hml, hown, hts⟩ hK hP hN hS (c_X8_hillHere l D cA ad hI σ0 τ0 hR) (cwV 1 hts gX7_readOn_X8_hillHere rfl rfl rfl (by decide +kernel) ⟨by decide, by decide⟩) (rv_Tape hK hP (by decide) (by decide)) rfl hl.1 rfl (Nat.le_of_ble_eq_true rfl) dX7_readOn_8 (Nat.zero_le _) (Nat.zero_le _) (fun r1 u1 H1 locs1 hp1 hP hS => ?_)
  obtain ⟨σ1, τ1⟩ := u1
  obtain ⟨hR, f1, fL1, hq1⟩ : P_X8_hillHere σ0 τ0 r1 σ1 τ1 := hp1
  have hP : va_P D vwCl (gw cA ad σ1 τ1) H1 := hP
  obtain rfl := FrL.nil fL1
  have hF := hF.step f1 (by decide)
  refine lv_istore_n (lv' := [(1, .int r1), (0, .ref (ad 27))]) hx hb dX7_readOn_11 rfl hl (by decide) rfl (fun ls hl => ?_)
  refine lv_iload_n hx hb dX7_readOn_12 rfl (lv_at hl 0 rfl) ?_
  refine r_iconst hx hb dX7_readOn_13 (by decide) (fun z2 ez2 => ?_)
  refine r_icmp_ne (tgt := 19) hx hb dX7_readOn_14 (by decide) (fun c3 => ?_) (fun c3 => ?_)
  · refine lv_aload_n hx hb dX7_readOn_19 rfl (lv_at hl 1 rfl) ?_
    refine fg_7_0 (k := 27) hx hb hts in_X7_readOn_7 hown hK hP (by decide) (by decide) (hts _ lk_X7_readOn_9) dX7_readOn_20 ?_
    refine r_cVv (k := 1) (As := []) (rest := []) ⟨hx, hb, hml, hown, hts⟩ hK hP hN hS (c_X8_next l D cA ad hI σ1 τ0 hR) (cwV 0 hts gX7_readOn_X8_next rfl rfl rfl (by decide +kernel) ⟨by decide, by decide⟩) (rv_Tape hK hP (by decide) (by decide)) rfl hl.1 rfl (Nat.le_of_ble_eq_true rfl) dX7_readOn_23 (Nat.zero_le _) (Nat.zero_le _) (fun u4 H4 locs4 hp4 hP hS => ?_)
    obtain ⟨σ4, τ4⟩ := u4
    obtain ⟨hR, f4, fL4⟩ : P_X8_next σ1 τ0 σ4 τ4 := hp4
    have hP : va_P D vwCl (gw cA ad σ4 τ4) H4 := hP
    have hFL := hFL.step fL4 (by decide)
    have hF := hF.step f4 (by decide)
    refine lv_aload_n hx hb dX7_readOn_26 rfl (lv_at hl 1 rfl) ?_
    refine fg_7_2 (k := 27) hx hb hts in_X7_readOn_7 hown hK hP (by decide) (by decide) (hts _ lk_X7_readOn_19) dX7_readOn_27 ?_
    refine r_bipush hx hb dX7_readOn_30 (by decide) (fun z5 ez5 => ?_)
    refine r_bipush hx hb dX7_readOn_32 (by decide) (fun z6 ez6 => ?_)
    refine lv_iload_n hx hb dX7_readOn_34 rfl (lv_at hl 0 rfl) ?_
    refine r_cVi (k := 24) (As := [.int z5, .int z6, .int r1]) (rest := []) ⟨hx, hb, hml, hown, hts⟩ hK hP hN hS (c_X6_add l D cA ad hI σ4 τ4 hR z5 z6 r1 (by omega)) (cwV 3 hts gX7_readOn_X6_add rfl rfl rfl (by decide +kernel) ⟨by decide, by decide⟩) (rv_Sent hK hP (by decide) (by decide)) rfl hl.1 rfl (Nat.le_of_ble_eq_true rfl) dX7_readOn_35 (Nat.zero_le _) (Nat.zero_le _) (fun r7 u7 H7 locs7 hp7 hP hS => ?_)
    obtain ⟨σ7, τ7⟩ := u7
    obtain ⟨hR, f7, fL7, hq7⟩ : P_X6_add σ4 τ4 z5 z6 r1 r7 σ7 τ7 := hp7
    have hP : va_P D vwCl (gw cA ad σ7 τ7) H7 := hP
    obtain rfl := FrL.nil fL7
    have hF := hF.step f7 (by decide)
    exact r_zret hx hb hr hK hP hS hk (by omega) dX7_readOn_38 (show P_X7_readOn σ0 τ0 r7 σ7 τ4 from ⟨hR, hF, hFL, by omega⟩)
  · refine r_iconst hx hb dX7_readOn_17 (by decide) (fun z8 ez8 => ?_)
    exact r_zret hx hb hr hK hP hS hk (by omega) dX7_readOn_18 (show P_X7_readOn σ0 τ0 z8 σ1 τ0 from ⟨hR, hF, hFL, by omega⟩)
abbrev L_X7_readOne_d8 : List Rc := [(1, 1, 7, 10), (372, 372, 0, 39), (376, 376, 0, 39), (380, 380, 0, 39), (24, 24, 1, 2), (1, 1, 12, 14)]
abbrev LL_X7_readOne_d8 : List Rc := [(1, 1, 11, 11)]
def P_X7_readOne_d8 (σ0 : Nat → Nat → Int32) (τ0 : Nat → Nat → Int64) (a1 : Int32) (r : Int32) (σ : Nat → Nat → Int32) (τ : Nat → Nat → Int64) : Prop := Rg σ ∧ Fr L_X7_readOne_d8 σ0 σ ∧ FrL LL_X7_readOne_d8 τ0 τ ∧ (0 ≤ r.toInt ∧ r.toInt ≤ 1)
set_option maxHeartbeats 4000000 in
theorem c_X7_readOne_d8 (l : Launch) (D : va_G) (cA : Nat → ClassId) (ad : Nat → Nat) (hI : Inj ad) (σ0 : Nat → Nat → Int32) (τ0 : Nat → Nat → Int64) (hR : Rg σ0) (a1 : Int32) (ha1 : 8 ≤ a1.toInt ∧ a1.toInt ≤ 8) : Met l yX7_readOne wsX7_readOne ({ frames := 4, cells := 0, slots := 0, locals := 87 } : Room) (WQc D cA ad [.ref (ad 27), .int a1] σ0 τ0) (va_Qi (fun (r : Int32) (u : SS) => P_X7_readOne_d8 σ0 τ0 a1 r u.1 u.2) (WB D cA ad) (AA ad)) 0 0 (AA ad) := by
  refine Met.ofW (cc := cX7_readOne) (maxL := 3) (ret := (some .boolean)) (by decide) rfl ?_
  intro p e s m args below meth c s₁ B hml hv
  obtain ⟨rfl, hP, hK, hN⟩ := hv
  have C : Cy p s m _ meth c cX7_readOne 3 wsX7_readOne RX7 D cA ad (some .boolean) := ⟨B.exec, B.bytes, hml, findClass_of_methodNamed B.named, atoms_spec (ws := wsX7_readOne) B.pre, hK, B.notSynchronized, B.returns, hI, hN⟩
  have hl := lv_entry ([.ref (ad 27), .int a1]) (n := 3) (Nat.le_of_ble_eq_true rfl)
  rw [lg_entry_eq]
  generalize (lg_sl ([.ref (ad 27), .int a1]) ++ List.replicate (3 - (lg_sl ([.ref (ad 27), .int a1])).length) Slot.unset).toArray = ls at hl ⊢
  have hl : lv_has ls 3 [(0, .ref (ad 27)), (1, .int a1)] := hl
  have hS : va_S (AA ad) s.heap s.heap [] := va_S.rf
  have hF : Fr L_X7_readOne_d8 σ0 σ0 := Fr.rf
  have hFL : FrL LL_X7_readOne_d8 τ0 τ0 := FrL.rf
  obtain ⟨hx, hb, _, hown, hts, _, hk, hr, _, _⟩ := C
  refine lv_aload_n hx hb dX7_readOne_0 rfl (lv_at hl 0 rfl) ?_
  refine fg_7_0 (k := 27) hx hb hts in_X7_readOne_7 hown hK hP (by decide) (by decide) (hts _ lk_X7_readOne_9) dX7_readOne_1 ?_
  refine fgN_8_9 (k := 1) hx hb hts in_X7_readOne_8 hown hK hP (by decide) (by decide) (hN.use nw_7_32) dX7_readOne_4 ?_
  refine lv_istore_n (lv' := [(2, .int (σ0 1 9)), (0, .ref (ad 27)), (1, .int a1)]) hx hb dX7_readOne_7 rfl hl (by decide) rfl (fun ls hl => ?_)
  refine lv_iload_n hx hb dX7_readOne_8 rfl (lv_at hl 0 rfl) ?_
  refine r_cSi (As := [.int (σ0 1 9)]) (rest := []) ⟨hx, hb, hml, hown, hts⟩ hK hP hN hS (c_X7_beginsOne l D cA ad hI σ0 τ0 hR (σ0 1 9)) (va_cwS 1 hts gX7_readOne_X7_beginsOne rfl rfl rfl (by decide +kernel) ⟨by decide, by decide⟩) rfl hl.1 rfl (Nat.le_of_ble_eq_true rfl) dX7_readOne_9 (Nat.zero_le _) (Nat.zero_le _) (fun r1 u1 H1 locs1 hp1 hP hS => ?_)
  obtain ⟨σ1, τ1⟩ := u1
  obtain ⟨hR, f1, fL1, hq1⟩ : P_X7_beginsOne σ0 τ0 (σ0 1 9) r1 σ1 τ1 := hp1
  have hP : va_P D vwCl (gw cA ad σ1 τ1) H1 := hP
  obtain rfl := FrL.nil fL1
  obtain rfl := Fr.nil f1
  refine r_if_ne (tgt := 24) hx hb dX7_readOne_12 (by decide) (fun c2 => ?_) (fun c2 => ?_)
  · refine lv_aload_n hx hb dX7_readOne_24 rfl (lv_at hl 1 rfl) ?_
    refine fg_7_2 (k := 27) hx hb hts in_X7_readOne_7 hown hK hP (by decide) (by decide) (hts _ lk_X7_readOne_19) dX7_readOne_25 ?_
    refine fgN_6_1 (k := 24) hx hb hts in_X7_readOne_6 hown hK hP (by decide) (by decide) (hN.use nw_7_61) dX7_readOne_28 ?_
    have hr3 := rg_6_1 hR (k := 24) (by decide) (by decide)
    refine r_bipush hx hb dX7_readOne_31 (by decide) (fun z4 ez4 => ?_)
    refine r_icmp_ge (tgt := 42) hx hb dX7_readOne_33 (by decide) (fun c5 => ?_) (fun c5 => ?_)
    · refine lv_aload_n hx hb dX7_readOne_42 rfl (lv_at hl 1 rfl) ?_
      refine fg_7_0 (k := 27) hx hb hts in_X7_readOne_7 hown hK hP (by decide) (by decide) (hts _ lk_X7_readOne_9) dX7_readOne_43 ?_
      refine r_iconst hx hb dX7_readOne_46 (by decide) (fun z6 ez6 => ?_)
      refine r_cVi (k := 1) (As := [.int z6]) (rest := []) ⟨hx, hb, hml, hown, hts⟩ hK hP hN hS (c_X8_blame l D cA ad hI σ0 τ0 hR z6 (by omega)) (cwV 1 hts gX7_readOne_X8_blame rfl rfl rfl (by decide +kernel) ⟨by decide, by decide⟩) (rv_Tape hK hP (by decide) (by decide)) rfl hl.1 rfl (Nat.le_of_ble_eq_true rfl) dX7_readOne_47 (Nat.zero_le _) (Nat.zero_le _) (fun r7 u7 H7 locs7 hp7 hP hS => ?_)
      obtain ⟨σ7, τ7⟩ := u7
      obtain ⟨hR, f7, fL7, hq7⟩ : P_X8_blame σ0 τ0 z6 r7 σ7 τ7 := hp7
      have hP : va_P D vwCl (gw cA ad σ7 τ7) H7 := hP
      obtain rfl := FrL.nil fL7
      have hF := hF.step f7 (by decide)
      have t8 : (σ7 24 1).toInt = (σ0 24 1).toInt := congrArg Int32.toInt (f7.at 24 1 (by decide))
      exact r_zret hx hb hr hK hP hS hk (by omega) dX7_readOne_50 (show P_X7_readOne_d8 σ0 τ0 a1 r7 σ7 τ0 from ⟨hR, hF, hFL, by omega⟩)
    · refine lv_iload_n hx hb dX7_readOne_36 rfl (lv_at hl 2 rfl) ?_
      refine r_bipush hx hb dX7_readOne_37 (by decide) (fun z9 ez9 => ?_)
      refine r_icmp_le (tgt := 51) hx hb dX7_readOne_39 (by decide) (fun c10 => ?_) (fun c10 => ?_)
      · refine lv_aload_n hx hb dX7_readOne_51 rfl (lv_at hl 1 rfl) ?_
        refine fg_7_2 (k := 27) hx hb hts in_X7_readOne_7 hown hK hP (by decide) (by decide) (hts _ lk_X7_readOne_19) dX7_readOne_52 ?_
        refine lv_dup hx hb dX7_readOne_55 rfl ?_
        refine fgN_6_1 (k := 24) hx hb hts in_X7_readOne_6 hown hK hP (by decide) (by decide) (hN.use nw_7_61) dX7_readOne_56 ?_
        refine r_iconst hx hb dX7_readOne_59 (by decide) (fun z11 ez11 => ?_)
        refine r_iadd hx hb dX7_readOne_60 (by omega) (fun z12 ez12 => ?_)
        refine fpN_6_1 (k := 24) hx hb hts in_X7_readOne_6 hown hK hP (by decide) (by decide) (hN.use nw_7_61) hI hR hS (by omega) dX7_readOne_61 (fun σ13 H13 locs13 u13 v13 hR hP hS => ?_)
        have hF := hF.puts u13 4 rfl (by decide) (by decide) (by decide) (by decide)
        refine lv_aload_n hx hb dX7_readOne_64 rfl (lv_at hl 1 rfl) ?_
        refine fg_7_0 (k := 27) hx hb hts in_X7_readOne_7 hown hK hP (by decide) (by decide) (hts _ lk_X7_readOne_9) dX7_readOne_65 ?_
        refine r_cVv (k := 1) (As := []) (rest := []) ⟨hx, hb, hml, hown, hts⟩ hK hP hN hS (c_X8_next l D cA ad hI σ13 τ0 hR) (cwV 0 hts gX7_readOne_X8_next rfl rfl rfl (by decide +kernel) ⟨by decide, by decide⟩) (rv_Tape hK hP (by decide) (by decide)) rfl hl.1 rfl (Nat.le_of_ble_eq_true rfl) dX7_readOne_68 (Nat.zero_le _) (Nat.zero_le _) (fun u14 H14 locs14 hp14 hP hS => ?_)
        obtain ⟨σ14, τ14⟩ := u14
        obtain ⟨hR, f14, fL14⟩ : P_X8_next σ13 τ0 σ14 τ14 := hp14
        have hP : va_P D vwCl (gw cA ad σ14 τ14) H14 := hP
        have hFL := hFL.step fL14 (by decide)
        have hF := hF.step f14 (by decide)
        have t15 : (σ14 24 1).toInt = (σ13 24 1).toInt := congrArg Int32.toInt (f14.at 24 1 (by decide))
        refine lv_iload_n hx hb dX7_readOne_71 rfl (lv_at hl 0 rfl) ?_
        by_cases c16 : (σ0 1 9).toInt = 22
        · refine lv_tableIn (off := 108) (tgt := 180) hx hb dX7_readOne_72 (by omega) (by omega) (by rw [c16]; rfl) (by decide) ?_
          refine lv_aload_n hx hb dX7_readOne_180 rfl (lv_at hl 1 rfl) ?_
          refine lv_iload_n hx hb dX7_readOne_181 rfl (lv_at hl 2 rfl) ?_
          refine r_iconst hx hb dX7_readOne_182 (by decide) (fun z17 ez17 => ?_)
          refine r_iadd hx hb dX7_readOne_183 (by omega) (fun z18 ez18 => ?_)
          refine r_cVi (k := 27) (As := [.int z18]) (rest := []) ⟨hx, hb, hml, hown, hts⟩ hK hP hN hS (c_X7_readOne_d9 l D cA ad hI σ14 τ14 hR z18 (by omega)) (cwV 1 hts gX7_readOne_X7_readOne rfl rfl rfl (by decide +kernel) ⟨by decide, by decide⟩) (rv_SText hK hP (by decide) (by decide)) rfl hl.1 rfl (Nat.le_of_ble_eq_true rfl) dX7_readOne_184 (Nat.zero_le _) (Nat.zero_le _) (fun r19 u19 H19 locs19 hp19 hP hS => ?_)
          obtain ⟨σ19, τ19⟩ := u19
          obtain ⟨hR, f19, fL19, hq19⟩ : P_X7_readOne_d9 σ14 τ14 z18 r19 σ19 τ19 := hp19
          have hP : va_P D vwCl (gw cA ad σ19 τ19) H19 := hP
          obtain rfl := FrL.nil fL19
          have hF := hF.step f19 (by decide)
          have t20 : (σ19 24 1).toInt = (σ14 24 1).toInt := congrArg Int32.toInt (f19.at 24 1 (by decide))
          refine r_if_eq (tgt := 208) hx hb dX7_readOne_187 (by decide) (fun c21 => ?_) (fun c21 => ?_)
          · refine r_iconst hx hb dX7_readOne_208 (by decide) (fun z22 ez22 => ?_)
            exact r_zret hx hb hr hK hP hS hk (by omega) dX7_readOne_209 (show P_X7_readOne_d8 σ0 τ0 a1 z22 σ19 τ14 from ⟨hR, hF, hFL, by omega⟩)
          · exfalso; omega
        by_cases c23 : (σ0 1 9).toInt = 23
        · refine lv_tableIn (off := 177) (tgt := 249) hx hb dX7_readOne_72 (by omega) (by omega) (by rw [c23]; rfl) (by decide) ?_
          refine lv_aload_n hx hb dX7_readOne_249 rfl (lv_at hl 1 rfl) ?_
          refine fg_7_2 (k := 27) hx hb hts in_X7_readOne_7 hown hK hP (by decide) (by decide) (hts _ lk_X7_readOne_19) dX7_readOne_250 ?_
          refine lv_iload_n hx hb dX7_readOne_253 rfl (lv_at hl 0 rfl) ?_
          refine r_bipush hx hb dX7_readOne_254 (by decide) (fun z24 ez24 => ?_)
          refine r_iconst hx hb dX7_readOne_256 (by decide) (fun z25 ez25 => ?_)
          refine r_cVi (k := 24) (As := [.int (σ0 1 9), .int z24, .int z25]) (rest := []) ⟨hx, hb, hml, hown, hts⟩ hK hP hN hS (c_X6_add l D cA ad hI σ14 τ14 hR (σ0 1 9) z24 z25 (by omega)) (cwV 3 hts gX7_readOne_X6_add rfl rfl rfl (by decide +kernel) ⟨by decide, by decide⟩) (rv_Sent hK hP (by decide) (by decide)) rfl hl.1 rfl (Nat.le_of_ble_eq_true rfl) dX7_readOne_257 (Nat.zero_le _) (Nat.zero_le _) (fun r26 u26 H26 locs26 hp26 hP hS => ?_)
          obtain ⟨σ26, τ26⟩ := u26
          obtain ⟨hR, f26, fL26, hq26⟩ : P_X6_add σ14 τ14 (σ0 1 9) z24 z25 r26 σ26 τ26 := hp26
          have hP : va_P D vwCl (gw cA ad σ26 τ26) H26 := hP
          obtain rfl := FrL.nil fL26
          have hF := hF.step f26 (by decide)
          have t27 : (σ26 24 1).toInt = (σ14 24 1).toInt := congrArg Int32.toInt (f26.at 24 1 (by decide))
          exact r_zret hx hb hr hK hP hS hk (by omega) dX7_readOne_260 (show P_X7_readOne_d8 σ0 τ0 a1 r26 σ26 τ14 from ⟨hR, hF, hFL, by omega⟩)
        by_cases c28 : (σ0 1 9).toInt = 24
        · refine lv_tableIn (off := 177) (tgt := 249) hx hb dX7_readOne_72 (by omega) (by omega) (by rw [c28]; rfl) (by decide) ?_
          refine lv_aload_n hx hb dX7_readOne_249 rfl (lv_at hl 1 rfl) ?_
          refine fg_7_2 (k := 27) hx hb hts in_X7_readOne_7 hown hK hP (by decide) (by decide) (hts _ lk_X7_readOne_19) dX7_readOne_250 ?_
          refine lv_iload_n hx hb dX7_readOne_253 rfl (lv_at hl 0 rfl) ?_
          refine r_bipush hx hb dX7_readOne_254 (by decide) (fun z29 ez29 => ?_)
          refine r_iconst hx hb dX7_readOne_256 (by decide) (fun z30 ez30 => ?_)
          refine r_cVi (k := 24) (As := [.int (σ0 1 9), .int z29, .int z30]) (rest := []) ⟨hx, hb, hml, hown, hts⟩ hK hP hN hS (c_X6_add l D cA ad hI σ14 τ14 hR (σ0 1 9) z29 z30 (by omega)) (cwV 3 hts gX7_readOne_X6_add rfl rfl rfl (by decide +kernel) ⟨by decide, by decide⟩) (rv_Sent hK hP (by decide) (by decide)) rfl hl.1 rfl (Nat.le_of_ble_eq_true rfl) dX7_readOne_257 (Nat.zero_le _) (Nat.zero_le _) (fun r31 u31 H31 locs31 hp31 hP hS => ?_)
          obtain ⟨σ31, τ31⟩ := u31
          obtain ⟨hR, f31, fL31, hq31⟩ : P_X6_add σ14 τ14 (σ0 1 9) z29 z30 r31 σ31 τ31 := hp31
          have hP : va_P D vwCl (gw cA ad σ31 τ31) H31 := hP
          obtain rfl := FrL.nil fL31
          have hF := hF.step f31 (by decide)
          have t32 : (σ31 24 1).toInt = (σ14 24 1).toInt := congrArg Int32.toInt (f31.at 24 1 (by decide))
          exact r_zret hx hb hr hK hP hS hk (by omega) dX7_readOne_260 (show P_X7_readOne_d8 σ0 τ0 a1 r31 σ31 τ14 from ⟨hR, hF, hFL, by omega⟩)
        by_cases c33 : (σ0 1 9).toInt = 25
        · refine lv_tableIn (off := 166) (tgt := 238) hx hb dX7_readOne_72 (by omega) (by omega) (by rw [c33]; rfl) (by decide) ?_
          refine lv_aload_n hx hb dX7_readOne_238 rfl (lv_at hl 1 rfl) ?_
          refine r_cVi (k := 27) (As := []) (rest := []) ⟨hx, hb, hml, hown, hts⟩ hK hP hN hS (c_X7_readOn l D cA ad hI σ14 τ14 hR) (cwV 0 hts gX7_readOne_X7_readOn rfl rfl rfl (by decide +kernel) ⟨by decide, by decide⟩) (rv_SText hK hP (by decide) (by decide)) rfl hl.1 rfl (Nat.le_of_ble_eq_true rfl) dX7_readOne_239 (Nat.zero_le _) (Nat.zero_le _) (fun r34 u34 H34 locs34 hp34 hP hS => ?_)
          obtain ⟨σ34, τ34⟩ := u34
          obtain ⟨hR, f34, fL34, hq34⟩ : P_X7_readOn σ14 τ14 r34 σ34 τ34 := hp34
          have hP : va_P D vwCl (gw cA ad σ34 τ34) H34 := hP
          have hFL := hFL.step fL34 (by decide)
          have hF := hF.step f34 (by decide)
          have t35 : (σ34 24 1).toInt = (σ14 24 1).toInt := congrArg Int32.toInt (f34.at 24 1 (by decide))
          exact r_zret hx hb hr hK hP hS hk (by omega) dX7_readOne_242 (show P_X7_readOne_d8 σ0 τ0 a1 r34 σ34 τ34 from ⟨hR, hF, hFL, by omega⟩)
        by_cases c36 : (σ0 1 9).toInt = 26
        · refine lv_tableIn (off := 177) (tgt := 249) hx hb dX7_readOne_72 (by omega) (by omega) (by rw [c36]; rfl) (by decide) ?_
          refine lv_aload_n hx hb dX7_readOne_249 rfl (lv_at hl 1 rfl) ?_
          refine fg_7_2 (k := 27) hx hb hts in_X7_readOne_7 hown hK hP (by decide) (by decide) (hts _ lk_X7_readOne_19) dX7_readOne_250 ?_
          refine lv_iload_n hx hb dX7_readOne_253 rfl (lv_at hl 0 rfl) ?_
          refine r_bipush hx hb dX7_readOne_254 (by decide) (fun z37 ez37 => ?_)
          refine r_iconst hx hb dX7_readOne_256 (by decide) (fun z38 ez38 => ?_)
          refine r_cVi (k := 24) (As := [.int (σ0 1 9), .int z37, .int z38]) (rest := []) ⟨hx, hb, hml, hown, hts⟩ hK hP hN hS (c_X6_add l D cA ad hI σ14 τ14 hR (σ0 1 9) z37 z38 (by omega)) (cwV 3 hts gX7_readOne_X6_add rfl rfl rfl (by decide +kernel) ⟨by decide, by decide⟩) (rv_Sent hK hP (by decide) (by decide)) rfl hl.1 rfl (Nat.le_of_ble_eq_true rfl) dX7_readOne_257 (Nat.zero_le _) (Nat.zero_le _) (fun r39 u39 H39 locs39 hp39 hP hS => ?_)
          obtain ⟨σ39, τ39⟩ := u39
          obtain ⟨hR, f39, fL39, hq39⟩ : P_X6_add σ14 τ14 (σ0 1 9) z37 z38 r39 σ39 τ39 := hp39
          have hP : va_P D vwCl (gw cA ad σ39 τ39) H39 := hP
          obtain rfl := FrL.nil fL39
          have hF := hF.step f39 (by decide)
          have t40 : (σ39 24 1).toInt = (σ14 24 1).toInt := congrArg Int32.toInt (f39.at 24 1 (by decide))
          exact r_zret hx hb hr hK hP hS hk (by omega) dX7_readOne_260 (show P_X7_readOne_d8 σ0 τ0 a1 r39 σ39 τ14 from ⟨hR, hF, hFL, by omega⟩)
        by_cases c41 : (σ0 1 9).toInt = 27
        · refine lv_tableIn (off := 171) (tgt := 243) hx hb dX7_readOne_72 (by omega) (by omega) (by rw [c41]; rfl) (by decide) ?_
          refine lv_aload_n hx hb dX7_readOne_243 rfl (lv_at hl 1 rfl) ?_
          refine lv_iload_n hx hb dX7_readOne_244 rfl (lv_at hl 0 rfl) ?_
          refine r_cVi (k := 27) (As := [.int (σ0 1 9)]) (rest := []) ⟨hx, hb, hml, hown, hts⟩ hK hP hN hS (c_X7_readMeasure l D cA ad hI σ14 τ14 hR (σ0 1 9) (by omega)) (cwV 1 hts gX7_readOne_X7_readMeasure rfl rfl rfl (by decide +kernel) ⟨by decide, by decide⟩) (rv_SText hK hP (by decide) (by decide)) rfl hl.1 rfl (Nat.le_of_ble_eq_true rfl) dX7_readOne_245 (Nat.zero_le _) (Nat.zero_le _) (fun r42 u42 H42 locs42 hp42 hP hS => ?_)
          obtain ⟨σ42, τ42⟩ := u42
          obtain ⟨hR, f42, fL42, hq42⟩ : P_X7_readMeasure σ14 τ14 (σ0 1 9) r42 σ42 τ42 := hp42
          have hP : va_P D vwCl (gw cA ad σ42 τ42) H42 := hP
          have hFL := hFL.step fL42 (by decide)
          have hF := hF.step f42 (by decide)
          have t43 : (σ42 24 1).toInt = (σ14 24 1).toInt := congrArg Int32.toInt (f42.at 24 1 (by decide))
          exact r_zret hx hb hr hK hP hS hk (by omega) dX7_readOne_248 (show P_X7_readOne_d8 σ0 τ0 a1 r42 σ42 τ42 from ⟨hR, hF, hFL, by omega⟩)
        by_cases c44 : (σ0 1 9).toInt = 28
        · refine lv_tableIn (off := 171) (tgt := 243) hx hb dX7_readOne_72 (by omega) (by omega) (by rw [c44]; rfl) (by decide) ?_
          refine lv_aload_n hx hb dX7_readOne_243 rfl (lv_at hl 1 rfl) ?_
          refine lv_iload_n hx hb dX7_readOne_244 rfl (lv_at hl 0 rfl) ?_
          refine r_cVi (k := 27) (As := [.int (σ0 1 9)]) (rest := []) ⟨hx, hb, hml, hown, hts⟩ hK hP hN hS (c_X7_readMeasure l D cA ad hI σ14 τ14 hR (σ0 1 9) (by omega)) (cwV 1 hts gX7_readOne_X7_readMeasure rfl rfl rfl (by decide +kernel) ⟨by decide, by decide⟩) (rv_SText hK hP (by decide) (by decide)) rfl hl.1 rfl (Nat.le_of_ble_eq_true rfl) dX7_readOne_245 (Nat.zero_le _) (Nat.zero_le _) (fun r45 u45 H45 locs45 hp45 hP hS => ?_)
          obtain ⟨σ45, τ45⟩ := u45
          obtain ⟨hR, f45, fL45, hq45⟩ : P_X7_readMeasure σ14 τ14 (σ0 1 9) r45 σ45 τ45 := hp45
          have hP : va_P D vwCl (gw cA ad σ45 τ45) H45 := hP
          have hFL := hFL.step fL45 (by decide)
          have hF := hF.step f45 (by decide)
          have t46 : (σ45 24 1).toInt = (σ14 24 1).toInt := congrArg Int32.toInt (f45.at 24 1 (by decide))
          exact r_zret hx hb hr hK hP hS hk (by omega) dX7_readOne_248 (show P_X7_readOne_d8 σ0 τ0 a1 r45 σ45 τ45 from ⟨hR, hF, hFL, by omega⟩)
        by_cases c47 : (σ0 1 9).toInt = 29
        · refine lv_tableIn (off := 171) (tgt := 243) hx hb dX7_readOne_72 (by omega) (by omega) (by rw [c47]; rfl) (by decide) ?_
          refine lv_aload_n hx hb dX7_readOne_243 rfl (lv_at hl 1 rfl) ?_
          refine lv_iload_n hx hb dX7_readOne_244 rfl (lv_at hl 0 rfl) ?_
          refine r_cVi (k := 27) (As := [.int (σ0 1 9)]) (rest := []) ⟨hx, hb, hml, hown, hts⟩ hK hP hN hS (c_X7_readMeasure l D cA ad hI σ14 τ14 hR (σ0 1 9) (by omega)) (cwV 1 hts gX7_readOne_X7_readMeasure rfl rfl rfl (by decide +kernel) ⟨by decide, by decide⟩) (rv_SText hK hP (by decide) (by decide)) rfl hl.1 rfl (Nat.le_of_ble_eq_true rfl) dX7_readOne_245 (Nat.zero_le _) (Nat.zero_le _) (fun r48 u48 H48 locs48 hp48 hP hS => ?_)
          obtain ⟨σ48, τ48⟩ := u48
          obtain ⟨hR, f48, fL48, hq48⟩ : P_X7_readMeasure σ14 τ14 (σ0 1 9) r48 σ48 τ48 := hp48
          have hP : va_P D vwCl (gw cA ad σ48 τ48) H48 := hP
          have hFL := hFL.step fL48 (by decide)
          have hF := hF.step f48 (by decide)
          have t49 : (σ48 24 1).toInt = (σ14 24 1).toInt := congrArg Int32.toInt (f48.at 24 1 (by decide))
          exact r_zret hx hb hr hK hP hS hk (by omega) dX7_readOne_248 (show P_X7_readOne_d8 σ0 τ0 a1 r48 σ48 τ48 from ⟨hR, hF, hFL, by omega⟩)
        by_cases c50 : (σ0 1 9).toInt = 30
        · refine lv_tableIn (off := 171) (tgt := 243) hx hb dX7_readOne_72 (by omega) (by omega) (by rw [c50]; rfl) (by decide) ?_
          refine lv_aload_n hx hb dX7_readOne_243 rfl (lv_at hl 1 rfl) ?_
          refine lv_iload_n hx hb dX7_readOne_244 rfl (lv_at hl 0 rfl) ?_
          refine r_cVi (k := 27) (As := [.int (σ0 1 9)]) (rest := []) ⟨hx, hb, hml, hown, hts⟩ hK hP hN hS (c_X7_readMeasure l D cA ad hI σ14 τ14 hR (σ0 1 9) (by omega)) (cwV 1 hts gX7_readOne_X7_readMeasure rfl rfl rfl (by decide +kernel) ⟨by decide, by decide⟩) (rv_SText hK hP (by decide) (by decide)) rfl hl.1 rfl (Nat.le_of_ble_eq_true rfl) dX7_readOne_245 (Nat.zero_le _) (Nat.zero_le _) (fun r51 u51 H51 locs51 hp51 hP hS => ?_)
          obtain ⟨σ51, τ51⟩ := u51
          obtain ⟨hR, f51, fL51, hq51⟩ : P_X7_readMeasure σ14 τ14 (σ0 1 9) r51 σ51 τ51 := hp51
          have hP : va_P D vwCl (gw cA ad σ51 τ51) H51 := hP
          have hFL := hFL.step fL51 (by decide)
          have hF := hF.step f51 (by decide)
          have t52 : (σ51 24 1).toInt = (σ14 24 1).toInt := congrArg Int32.toInt (f51.at 24 1 (by decide))
          exact r_zret hx hb hr hK hP hS hk (by omega) dX7_readOne_248 (show P_X7_readOne_d8 σ0 τ0 a1 r51 σ51 τ51 from ⟨hR, hF, hFL, by omega⟩)
        by_cases c53 : (σ0 1 9).toInt = 31
        · refine lv_tableIn (off := 177) (tgt := 249) hx hb dX7_readOne_72 (by omega) (by omega) (by rw [c53]; rfl) (by decide) ?_
          refine lv_aload_n hx hb dX7_readOne_249 rfl (lv_at hl 1 rfl) ?_
          refine fg_7_2 (k := 27) hx hb hts in_X7_readOne_7 hown hK hP (by decide) (by decide) (hts _ lk_X7_readOne_19) dX7_readOne_250 ?_
          refine lv_iload_n hx hb dX7_readOne_253 rfl (lv_at hl 0 rfl) ?_
          refine r_bipush hx hb dX7_readOne_254 (by decide) (fun z54 ez54 => ?_)
          refine r_iconst hx hb dX7_readOne_256 (by decide) (fun z55 ez55 => ?_)
          refine r_cVi (k := 24) (As := [.int (σ0 1 9), .int z54, .int z55]) (rest := []) ⟨hx, hb, hml, hown, hts⟩ hK hP hN hS (c_X6_add l D cA ad hI σ14 τ14 hR (σ0 1 9) z54 z55 (by omega)) (cwV 3 hts gX7_readOne_X6_add rfl rfl rfl (by decide +kernel) ⟨by decide, by decide⟩) (rv_Sent hK hP (by decide) (by decide)) rfl hl.1 rfl (Nat.le_of_ble_eq_true rfl) dX7_readOne_257 (Nat.zero_le _) (Nat.zero_le _) (fun r56 u56 H56 locs56 hp56 hP hS => ?_)
          obtain ⟨σ56, τ56⟩ := u56
          obtain ⟨hR, f56, fL56, hq56⟩ : P_X6_add σ14 τ14 (σ0 1 9) z54 z55 r56 σ56 τ56 := hp56
          have hP : va_P D vwCl (gw cA ad σ56 τ56) H56 := hP
          obtain rfl := FrL.nil fL56
          have hF := hF.step f56 (by decide)
          have t57 : (σ56 24 1).toInt = (σ14 24 1).toInt := congrArg Int32.toInt (f56.at 24 1 (by decide))
          exact r_zret hx hb hr hK hP hS hk (by omega) dX7_readOne_260 (show P_X7_readOne_d8 σ0 τ0 a1 r56 σ56 τ14 from ⟨hR, hF, hFL, by omega⟩)
        by_cases c58 : (σ0 1 9).toInt = 32
        · refine lv_tableIn (off := 177) (tgt := 249) hx hb dX7_readOne_72 (by omega) (by omega) (by rw [c58]; rfl) (by decide) ?_
          refine lv_aload_n hx hb dX7_readOne_249 rfl (lv_at hl 1 rfl) ?_
          refine fg_7_2 (k := 27) hx hb hts in_X7_readOne_7 hown hK hP (by decide) (by decide) (hts _ lk_X7_readOne_19) dX7_readOne_250 ?_
          refine lv_iload_n hx hb dX7_readOne_253 rfl (lv_at hl 0 rfl) ?_
          refine r_bipush hx hb dX7_readOne_254 (by decide) (fun z59 ez59 => ?_)
          refine r_iconst hx hb dX7_readOne_256 (by decide) (fun z60 ez60 => ?_)
          refine r_cVi (k := 24) (As := [.int (σ0 1 9), .int z59, .int z60]) (rest := []) ⟨hx, hb, hml, hown, hts⟩ hK hP hN hS (c_X6_add l D cA ad hI σ14 τ14 hR (σ0 1 9) z59 z60 (by omega)) (cwV 3 hts gX7_readOne_X6_add rfl rfl rfl (by decide +kernel) ⟨by decide, by decide⟩) (rv_Sent hK hP (by decide) (by decide)) rfl hl.1 rfl (Nat.le_of_ble_eq_true rfl) dX7_readOne_257 (Nat.zero_le _) (Nat.zero_le _) (fun r61 u61 H61 locs61 hp61 hP hS => ?_)
          obtain ⟨σ61, τ61⟩ := u61
          obtain ⟨hR, f61, fL61, hq61⟩ : P_X6_add σ14 τ14 (σ0 1 9) z59 z60 r61 σ61 τ61 := hp61
          have hP : va_P D vwCl (gw cA ad σ61 τ61) H61 := hP
          obtain rfl := FrL.nil fL61
          have hF := hF.step f61 (by decide)
          have t62 : (σ61 24 1).toInt = (σ14 24 1).toInt := congrArg Int32.toInt (f61.at 24 1 (by decide))
          exact r_zret hx hb hr hK hP hS hk (by omega) dX7_readOne_260 (show P_X7_readOne_d8 σ0 τ0 a1 r61 σ61 τ14 from ⟨hR, hF, hFL, by omega⟩)
        by_cases c63 : (σ0 1 9).toInt = 33
        · refine lv_tableIn (off := 177) (tgt := 249) hx hb dX7_readOne_72 (by omega) (by omega) (by rw [c63]; rfl) (by decide) ?_
          refine lv_aload_n hx hb dX7_readOne_249 rfl (lv_at hl 1 rfl) ?_
          refine fg_7_2 (k := 27) hx hb hts in_X7_readOne_7 hown hK hP (by decide) (by decide) (hts _ lk_X7_readOne_19) dX7_readOne_250 ?_
          refine lv_iload_n hx hb dX7_readOne_253 rfl (lv_at hl 0 rfl) ?_
          refine r_bipush hx hb dX7_readOne_254 (by decide) (fun z64 ez64 => ?_)
          refine r_iconst hx hb dX7_readOne_256 (by decide) (fun z65 ez65 => ?_)
          refine r_cVi (k := 24) (As := [.int (σ0 1 9), .int z64, .int z65]) (rest := []) ⟨hx, hb, hml, hown, hts⟩ hK hP hN hS (c_X6_add l D cA ad hI σ14 τ14 hR (σ0 1 9) z64 z65 (by omega)) (cwV 3 hts gX7_readOne_X6_add rfl rfl rfl (by decide +kernel) ⟨by decide, by decide⟩) (rv_Sent hK hP (by decide) (by decide)) rfl hl.1 rfl (Nat.le_of_ble_eq_true rfl) dX7_readOne_257 (Nat.zero_le _) (Nat.zero_le _) (fun r66 u66 H66 locs66 hp66 hP hS => ?_)
          obtain ⟨σ66, τ66⟩ := u66
          obtain ⟨hR, f66, fL66, hq66⟩ : P_X6_add σ14 τ14 (σ0 1 9) z64 z65 r66 σ66 τ66 := hp66
          have hP : va_P D vwCl (gw cA ad σ66 τ66) H66 := hP
          obtain rfl := FrL.nil fL66
          have hF := hF.step f66 (by decide)
          have t67 : (σ66 24 1).toInt = (σ14 24 1).toInt := congrArg Int32.toInt (f66.at 24 1 (by decide))
          exact r_zret hx hb hr hK hP hS hk (by omega) dX7_readOne_260 (show P_X7_readOne_d8 σ0 τ0 a1 r66 σ66 τ14 from ⟨hR, hF, hFL, by omega⟩)
        by_cases c68 : (σ0 1 9).toInt = 34
        · refine lv_tableIn (off := 177) (tgt := 249) hx hb dX7_readOne_72 (by omega) (by omega) (by rw [c68]; rfl) (by decide) ?_
          refine lv_aload_n hx hb dX7_readOne_249 rfl (lv_at hl 1 rfl) ?_
          refine fg_7_2 (k := 27) hx hb hts in_X7_readOne_7 hown hK hP (by decide) (by decide) (hts _ lk_X7_readOne_19) dX7_readOne_250 ?_
          refine lv_iload_n hx hb dX7_readOne_253 rfl (lv_at hl 0 rfl) ?_
          refine r_bipush hx hb dX7_readOne_254 (by decide) (fun z69 ez69 => ?_)
          refine r_iconst hx hb dX7_readOne_256 (by decide) (fun z70 ez70 => ?_)
          refine r_cVi (k := 24) (As := [.int (σ0 1 9), .int z69, .int z70]) (rest := []) ⟨hx, hb, hml, hown, hts⟩ hK hP hN hS (c_X6_add l D cA ad hI σ14 τ14 hR (σ0 1 9) z69 z70 (by omega)) (cwV 3 hts gX7_readOne_X6_add rfl rfl rfl (by decide +kernel) ⟨by decide, by decide⟩) (rv_Sent hK hP (by decide) (by decide)) rfl hl.1 rfl (Nat.le_of_ble_eq_true rfl) dX7_readOne_257 (Nat.zero_le _) (Nat.zero_le _) (fun r71 u71 H71 locs71 hp71 hP hS => ?_)
          obtain ⟨σ71, τ71⟩ := u71
          obtain ⟨hR, f71, fL71, hq71⟩ : P_X6_add σ14 τ14 (σ0 1 9) z69 z70 r71 σ71 τ71 := hp71
          have hP : va_P D vwCl (gw cA ad σ71 τ71) H71 := hP
          obtain rfl := FrL.nil fL71
          have hF := hF.step f71 (by decide)
          have t72 : (σ71 24 1).toInt = (σ14 24 1).toInt := congrArg Int32.toInt (f71.at 24 1 (by decide))
          exact r_zret hx hb hr hK hP hS hk (by omega) dX7_readOne_260 (show P_X7_readOne_d8 σ0 τ0 a1 r71 σ71 τ14 from ⟨hR, hF, hFL, by omega⟩)
        by_cases c73 : (σ0 1 9).toInt = 35
        · refine lv_tableIn (off := 177) (tgt := 249) hx hb dX7_readOne_72 (by omega) (by omega) (by rw [c73]; rfl) (by decide) ?_
          refine lv_aload_n hx hb dX7_readOne_249 rfl (lv_at hl 1 rfl) ?_
          refine fg_7_2 (k := 27) hx hb hts in_X7_readOne_7 hown hK hP (by decide) (by decide) (hts _ lk_X7_readOne_19) dX7_readOne_250 ?_
          refine lv_iload_n hx hb dX7_readOne_253 rfl (lv_at hl 0 rfl) ?_
          refine r_bipush hx hb dX7_readOne_254 (by decide) (fun z74 ez74 => ?_)
          refine r_iconst hx hb dX7_readOne_256 (by decide) (fun z75 ez75 => ?_)
          refine r_cVi (k := 24) (As := [.int (σ0 1 9), .int z74, .int z75]) (rest := []) ⟨hx, hb, hml, hown, hts⟩ hK hP hN hS (c_X6_add l D cA ad hI σ14 τ14 hR (σ0 1 9) z74 z75 (by omega)) (cwV 3 hts gX7_readOne_X6_add rfl rfl rfl (by decide +kernel) ⟨by decide, by decide⟩) (rv_Sent hK hP (by decide) (by decide)) rfl hl.1 rfl (Nat.le_of_ble_eq_true rfl) dX7_readOne_257 (Nat.zero_le _) (Nat.zero_le _) (fun r76 u76 H76 locs76 hp76 hP hS => ?_)
          obtain ⟨σ76, τ76⟩ := u76
          obtain ⟨hR, f76, fL76, hq76⟩ : P_X6_add σ14 τ14 (σ0 1 9) z74 z75 r76 σ76 τ76 := hp76
          have hP : va_P D vwCl (gw cA ad σ76 τ76) H76 := hP
          obtain rfl := FrL.nil fL76
          have hF := hF.step f76 (by decide)
          have t77 : (σ76 24 1).toInt = (σ14 24 1).toInt := congrArg Int32.toInt (f76.at 24 1 (by decide))
          exact r_zret hx hb hr hK hP hS hk (by omega) dX7_readOne_260 (show P_X7_readOne_d8 σ0 τ0 a1 r76 σ76 τ14 from ⟨hR, hF, hFL, by omega⟩)
        by_cases c78 : (σ0 1 9).toInt = 36
        · refine lv_tableIn (off := 177) (tgt := 249) hx hb dX7_readOne_72 (by omega) (by omega) (by rw [c78]; rfl) (by decide) ?_
          refine lv_aload_n hx hb dX7_readOne_249 rfl (lv_at hl 1 rfl) ?_
          refine fg_7_2 (k := 27) hx hb hts in_X7_readOne_7 hown hK hP (by decide) (by decide) (hts _ lk_X7_readOne_19) dX7_readOne_250 ?_
          refine lv_iload_n hx hb dX7_readOne_253 rfl (lv_at hl 0 rfl) ?_
          refine r_bipush hx hb dX7_readOne_254 (by decide) (fun z79 ez79 => ?_)
          refine r_iconst hx hb dX7_readOne_256 (by decide) (fun z80 ez80 => ?_)
          refine r_cVi (k := 24) (As := [.int (σ0 1 9), .int z79, .int z80]) (rest := []) ⟨hx, hb, hml, hown, hts⟩ hK hP hN hS (c_X6_add l D cA ad hI σ14 τ14 hR (σ0 1 9) z79 z80 (by omega)) (cwV 3 hts gX7_readOne_X6_add rfl rfl rfl (by decide +kernel) ⟨by decide, by decide⟩) (rv_Sent hK hP (by decide) (by decide)) rfl hl.1 rfl (Nat.le_of_ble_eq_true rfl) dX7_readOne_257 (Nat.zero_le _) (Nat.zero_le _) (fun r81 u81 H81 locs81 hp81 hP hS => ?_)
          obtain ⟨σ81, τ81⟩ := u81
          obtain ⟨hR, f81, fL81, hq81⟩ : P_X6_add σ14 τ14 (σ0 1 9) z79 z80 r81 σ81 τ81 := hp81
          have hP : va_P D vwCl (gw cA ad σ81 τ81) H81 := hP
          obtain rfl := FrL.nil fL81
          have hF := hF.step f81 (by decide)
          have t82 : (σ81 24 1).toInt = (σ14 24 1).toInt := congrArg Int32.toInt (f81.at 24 1 (by decide))
          exact r_zret hx hb hr hK hP hS hk (by omega) dX7_readOne_260 (show P_X7_readOne_d8 σ0 τ0 a1 r81 σ81 τ14 from ⟨hR, hF, hFL, by omega⟩)
        by_cases c83 : (σ0 1 9).toInt = 37
        · refine lv_tableIn (off := 177) (tgt := 249) hx hb dX7_readOne_72 (by omega) (by omega) (by rw [c83]; rfl) (by decide) ?_
          refine lv_aload_n hx hb dX7_readOne_249 rfl (lv_at hl 1 rfl) ?_
          refine fg_7_2 (k := 27) hx hb hts in_X7_readOne_7 hown hK hP (by decide) (by decide) (hts _ lk_X7_readOne_19) dX7_readOne_250 ?_
          refine lv_iload_n hx hb dX7_readOne_253 rfl (lv_at hl 0 rfl) ?_
          refine r_bipush hx hb dX7_readOne_254 (by decide) (fun z84 ez84 => ?_)
          refine r_iconst hx hb dX7_readOne_256 (by decide) (fun z85 ez85 => ?_)
          refine r_cVi (k := 24) (As := [.int (σ0 1 9), .int z84, .int z85]) (rest := []) ⟨hx, hb, hml, hown, hts⟩ hK hP hN hS (c_X6_add l D cA ad hI σ14 τ14 hR (σ0 1 9) z84 z85 (by omega)) (cwV 3 hts gX7_readOne_X6_add rfl rfl rfl (by decide +kernel) ⟨by decide, by decide⟩) (rv_Sent hK hP (by decide) (by decide)) rfl hl.1 rfl (Nat.le_of_ble_eq_true rfl) dX7_readOne_257 (Nat.zero_le _) (Nat.zero_le _) (fun r86 u86 H86 locs86 hp86 hP hS => ?_)
          obtain ⟨σ86, τ86⟩ := u86
          obtain ⟨hR, f86, fL86, hq86⟩ : P_X6_add σ14 τ14 (σ0 1 9) z84 z85 r86 σ86 τ86 := hp86
          have hP : va_P D vwCl (gw cA ad σ86 τ86) H86 := hP
          obtain rfl := FrL.nil fL86
          have hF := hF.step f86 (by decide)
          have t87 : (σ86 24 1).toInt = (σ14 24 1).toInt := congrArg Int32.toInt (f86.at 24 1 (by decide))
          exact r_zret hx hb hr hK hP hS hk (by omega) dX7_readOne_260 (show P_X7_readOne_d8 σ0 τ0 a1 r86 σ86 τ14 from ⟨hR, hF, hFL, by omega⟩)
        by_cases c88 : (σ0 1 9).toInt = 38
        · refine lv_tableIn (off := 177) (tgt := 249) hx hb dX7_readOne_72 (by omega) (by omega) (by rw [c88]; rfl) (by decide) ?_
          refine lv_aload_n hx hb dX7_readOne_249 rfl (lv_at hl 1 rfl) ?_
          refine fg_7_2 (k := 27) hx hb hts in_X7_readOne_7 hown hK hP (by decide) (by decide) (hts _ lk_X7_readOne_19) dX7_readOne_250 ?_
          refine lv_iload_n hx hb dX7_readOne_253 rfl (lv_at hl 0 rfl) ?_
          refine r_bipush hx hb dX7_readOne_254 (by decide) (fun z89 ez89 => ?_)
          refine r_iconst hx hb dX7_readOne_256 (by decide) (fun z90 ez90 => ?_)
          refine r_cVi (k := 24) (As := [.int (σ0 1 9), .int z89, .int z90]) (rest := []) ⟨hx, hb, hml, hown, hts⟩ hK hP hN hS (c_X6_add l D cA ad hI σ14 τ14 hR (σ0 1 9) z89 z90 (by omega)) (cwV 3 hts gX7_readOne_X6_add rfl rfl rfl (by decide +kernel) ⟨by decide, by decide⟩) (rv_Sent hK hP (by decide) (by decide)) rfl hl.1 rfl (Nat.le_of_ble_eq_true rfl) dX7_readOne_257 (Nat.zero_le _) (Nat.zero_le _) (fun r91 u91 H91 locs91 hp91 hP hS => ?_)
          obtain ⟨σ91, τ91⟩ := u91
          obtain ⟨hR, f91, fL91, hq91⟩ : P_X6_add σ14 τ14 (σ0 1 9) z89 z90 r91 σ91 τ91 := hp91
          have hP : va_P D vwCl (gw cA ad σ91 τ91) H91 := hP
          obtain rfl := FrL.nil fL91
          have hF := hF.step f91 (by decide)
          have t92 : (σ91 24 1).toInt = (σ14 24 1).toInt := congrArg Int32.toInt (f91.at 24 1 (by decide))
          exact r_zret hx hb hr hK hP hS hk (by omega) dX7_readOne_260 (show P_X7_readOne_d8 σ0 τ0 a1 r91 σ91 τ14 from ⟨hR, hF, hFL, by omega⟩)
        by_cases c93 : (σ0 1 9).toInt = 39
        · refine lv_tableIn (off := 177) (tgt := 249) hx hb dX7_readOne_72 (by omega) (by omega) (by rw [c93]; rfl) (by decide) ?_
          refine lv_aload_n hx hb dX7_readOne_249 rfl (lv_at hl 1 rfl) ?_
          refine fg_7_2 (k := 27) hx hb hts in_X7_readOne_7 hown hK hP (by decide) (by decide) (hts _ lk_X7_readOne_19) dX7_readOne_250 ?_
          refine lv_iload_n hx hb dX7_readOne_253 rfl (lv_at hl 0 rfl) ?_
          refine r_bipush hx hb dX7_readOne_254 (by decide) (fun z94 ez94 => ?_)
          refine r_iconst hx hb dX7_readOne_256 (by decide) (fun z95 ez95 => ?_)
          refine r_cVi (k := 24) (As := [.int (σ0 1 9), .int z94, .int z95]) (rest := []) ⟨hx, hb, hml, hown, hts⟩ hK hP hN hS (c_X6_add l D cA ad hI σ14 τ14 hR (σ0 1 9) z94 z95 (by omega)) (cwV 3 hts gX7_readOne_X6_add rfl rfl rfl (by decide +kernel) ⟨by decide, by decide⟩) (rv_Sent hK hP (by decide) (by decide)) rfl hl.1 rfl (Nat.le_of_ble_eq_true rfl) dX7_readOne_257 (Nat.zero_le _) (Nat.zero_le _) (fun r96 u96 H96 locs96 hp96 hP hS => ?_)
          obtain ⟨σ96, τ96⟩ := u96
          obtain ⟨hR, f96, fL96, hq96⟩ : P_X6_add σ14 τ14 (σ0 1 9) z94 z95 r96 σ96 τ96 := hp96
          have hP : va_P D vwCl (gw cA ad σ96 τ96) H96 := hP
          obtain rfl := FrL.nil fL96
          have hF := hF.step f96 (by decide)
          have t97 : (σ96 24 1).toInt = (σ14 24 1).toInt := congrArg Int32.toInt (f96.at 24 1 (by decide))
          exact r_zret hx hb hr hK hP hS hk (by omega) dX7_readOne_260 (show P_X7_readOne_d8 σ0 τ0 a1 r96 σ96 τ14 from ⟨hR, hF, hFL, by omega⟩)
        by_cases c98 : (σ0 1 9).toInt = 40
        · refine lv_tableIn (off := 177) (tgt := 249) hx hb dX7_readOne_72 (by omega) (by omega) (by rw [c98]; rfl) (by decide) ?_
          refine lv_aload_n hx hb dX7_readOne_249 rfl (lv_at hl 1 rfl) ?_
          refine fg_7_2 (k := 27) hx hb hts in_X7_readOne_7 hown hK hP (by decide) (by decide) (hts _ lk_X7_readOne_19) dX7_readOne_250 ?_
          refine lv_iload_n hx hb dX7_readOne_253 rfl (lv_at hl 0 rfl) ?_
          refine r_bipush hx hb dX7_readOne_254 (by decide) (fun z99 ez99 => ?_)
          refine r_iconst hx hb dX7_readOne_256 (by decide) (fun z100 ez100 => ?_)
          refine r_cVi (k := 24) (As := [.int (σ0 1 9), .int z99, .int z100]) (rest := []) ⟨hx, hb, hml, hown, hts⟩ hK hP hN hS (c_X6_add l D cA ad hI σ14 τ14 hR (σ0 1 9) z99 z100 (by omega)) (cwV 3 hts gX7_readOne_X6_add rfl rfl rfl (by decide +kernel) ⟨by decide, by decide⟩) (rv_Sent hK hP (by decide) (by decide)) rfl hl.1 rfl (Nat.le_of_ble_eq_true rfl) dX7_readOne_257 (Nat.zero_le _) (Nat.zero_le _) (fun r101 u101 H101 locs101 hp101 hP hS => ?_)
          obtain ⟨σ101, τ101⟩ := u101
          obtain ⟨hR, f101, fL101, hq101⟩ : P_X6_add σ14 τ14 (σ0 1 9) z99 z100 r101 σ101 τ101 := hp101
          have hP : va_P D vwCl (gw cA ad σ101 τ101) H101 := hP
          obtain rfl := FrL.nil fL101
          have hF := hF.step f101 (by decide)
          have t102 : (σ101 24 1).toInt = (σ14 24 1).toInt := congrArg Int32.toInt (f101.at 24 1 (by decide))
          exact r_zret hx hb hr hK hP hS hk (by omega) dX7_readOne_260 (show P_X7_readOne_d8 σ0 τ0 a1 r101 σ101 τ14 from ⟨hR, hF, hFL, by omega⟩)
        by_cases c103 : (σ0 1 9).toInt = 41
        · refine lv_tableIn (off := 177) (tgt := 249) hx hb dX7_readOne_72 (by omega) (by omega) (by rw [c103]; rfl) (by decide) ?_
          refine lv_aload_n hx hb dX7_readOne_249 rfl (lv_at hl 1 rfl) ?_
          refine fg_7_2 (k := 27) hx hb hts in_X7_readOne_7 hown hK hP (by decide) (by decide) (hts _ lk_X7_readOne_19) dX7_readOne_250 ?_
          refine lv_iload_n hx hb dX7_readOne_253 rfl (lv_at hl 0 rfl) ?_
          refine r_bipush hx hb dX7_readOne_254 (by decide) (fun z104 ez104 => ?_)
          refine r_iconst hx hb dX7_readOne_256 (by decide) (fun z105 ez105 => ?_)
          refine r_cVi (k := 24) (As := [.int (σ0 1 9), .int z104, .int z105]) (rest := []) ⟨hx, hb, hml, hown, hts⟩ hK hP hN hS (c_X6_add l D cA ad hI σ14 τ14 hR (σ0 1 9) z104 z105 (by omega)) (cwV 3 hts gX7_readOne_X6_add rfl rfl rfl (by decide +kernel) ⟨by decide, by decide⟩) (rv_Sent hK hP (by decide) (by decide)) rfl hl.1 rfl (Nat.le_of_ble_eq_true rfl) dX7_readOne_257 (Nat.zero_le _) (Nat.zero_le _) (fun r106 u106 H106 locs106 hp106 hP hS => ?_)
          obtain ⟨σ106, τ106⟩ := u106
          obtain ⟨hR, f106, fL106, hq106⟩ : P_X6_add σ14 τ14 (σ0 1 9) z104 z105 r106 σ106 τ106 := hp106
          have hP : va_P D vwCl (gw cA ad σ106 τ106) H106 := hP
          obtain rfl := FrL.nil fL106
          have hF := hF.step f106 (by decide)
          have t107 : (σ106 24 1).toInt = (σ14 24 1).toInt := congrArg Int32.toInt (f106.at 24 1 (by decide))
          exact r_zret hx hb hr hK hP hS hk (by omega) dX7_readOne_260 (show P_X7_readOne_d8 σ0 τ0 a1 r106 σ106 τ14 from ⟨hR, hF, hFL, by omega⟩)
        by_cases c108 : (σ0 1 9).toInt = 42
        · refine lv_tableIn (off := 177) (tgt := 249) hx hb dX7_readOne_72 (by omega) (by omega) (by rw [c108]; rfl) (by decide) ?_
          refine lv_aload_n hx hb dX7_readOne_249 rfl (lv_at hl 1 rfl) ?_
          refine fg_7_2 (k := 27) hx hb hts in_X7_readOne_7 hown hK hP (by decide) (by decide) (hts _ lk_X7_readOne_19) dX7_readOne_250 ?_
          refine lv_iload_n hx hb dX7_readOne_253 rfl (lv_at hl 0 rfl) ?_
          refine r_bipush hx hb dX7_readOne_254 (by decide) (fun z109 ez109 => ?_)
          refine r_iconst hx hb dX7_readOne_256 (by decide) (fun z110 ez110 => ?_)
          refine r_cVi (k := 24) (As := [.int (σ0 1 9), .int z109, .int z110]) (rest := []) ⟨hx, hb, hml, hown, hts⟩ hK hP hN hS (c_X6_add l D cA ad hI σ14 τ14 hR (σ0 1 9) z109 z110 (by omega)) (cwV 3 hts gX7_readOne_X6_add rfl rfl rfl (by decide +kernel) ⟨by decide, by decide⟩) (rv_Sent hK hP (by decide) (by decide)) rfl hl.1 rfl (Nat.le_of_ble_eq_true rfl) dX7_readOne_257 (Nat.zero_le _) (Nat.zero_le _) (fun r111 u111 H111 locs111 hp111 hP hS => ?_)
          obtain ⟨σ111, τ111⟩ := u111
          obtain ⟨hR, f111, fL111, hq111⟩ : P_X6_add σ14 τ14 (σ0 1 9) z109 z110 r111 σ111 τ111 := hp111
          have hP : va_P D vwCl (gw cA ad σ111 τ111) H111 := hP
          obtain rfl := FrL.nil fL111
          have hF := hF.step f111 (by decide)
          have t112 : (σ111 24 1).toInt = (σ14 24 1).toInt := congrArg Int32.toInt (f111.at 24 1 (by decide))
          exact r_zret hx hb hr hK hP hS hk (by omega) dX7_readOne_260 (show P_X7_readOne_d8 σ0 τ0 a1 r111 σ111 τ14 from ⟨hR, hF, hFL, by omega⟩)
        by_cases c113 : (σ0 1 9).toInt = 43
        · refine lv_tableIn (off := 177) (tgt := 249) hx hb dX7_readOne_72 (by omega) (by omega) (by rw [c113]; rfl) (by decide) ?_
          refine lv_aload_n hx hb dX7_readOne_249 rfl (lv_at hl 1 rfl) ?_
          refine fg_7_2 (k := 27) hx hb hts in_X7_readOne_7 hown hK hP (by decide) (by decide) (hts _ lk_X7_readOne_19) dX7_readOne_250 ?_
          refine lv_iload_n hx hb dX7_readOne_253 rfl (lv_at hl 0 rfl) ?_
          refine r_bipush hx hb dX7_readOne_254 (by decide) (fun z114 ez114 => ?_)
          refine r_iconst hx hb dX7_readOne_256 (by decide) (fun z115 ez115 => ?_)
          refine r_cVi (k := 24) (As := [.int (σ0 1 9), .int z114, .int z115]) (rest := []) ⟨hx, hb, hml, hown, hts⟩ hK hP hN hS (c_X6_add l D cA ad hI σ14 τ14 hR (σ0 1 9) z114 z115 (by omega)) (cwV 3 hts gX7_readOne_X6_add rfl rfl rfl (by decide +kernel) ⟨by decide, by decide⟩) (rv_Sent hK hP (by decide) (by decide)) rfl hl.1 rfl (Nat.le_of_ble_eq_true rfl) dX7_readOne_257 (Nat.zero_le _) (Nat.zero_le _) (fun r116 u116 H116 locs116 hp116 hP hS => ?_)
          obtain ⟨σ116, τ116⟩ := u116
          obtain ⟨hR, f116, fL116, hq116⟩ : P_X6_add σ14 τ14 (σ0 1 9) z114 z115 r116 σ116 τ116 := hp116
          have hP : va_P D vwCl (gw cA ad σ116 τ116) H116 := hP
          obtain rfl := FrL.nil fL116
          have hF := hF.step f116 (by decide)
          have t117 : (σ116 24 1).toInt = (σ14 24 1).toInt := congrArg Int32.toInt (f116.at 24 1 (by decide))
          exact r_zret hx hb hr hK hP hS hk (by omega) dX7_readOne_260 (show P_X7_readOne_d8 σ0 τ0 a1 r116 σ116 τ14 from ⟨hR, hF, hFL, by omega⟩)
        by_cases c118 : (σ0 1 9).toInt = 44
        · refine lv_tableIn (off := 138) (tgt := 210) hx hb dX7_readOne_72 (by omega) (by omega) (by rw [c118]; rfl) (by decide) ?_
          refine lv_aload_n hx hb dX7_readOne_210 rfl (lv_at hl 1 rfl) ?_
          refine lv_iload_n hx hb dX7_readOne_211 rfl (lv_at hl 2 rfl) ?_
          refine r_iconst hx hb dX7_readOne_212 (by decide) (fun z119 ez119 => ?_)
          refine r_iadd hx hb dX7_readOne_213 (by omega) (fun z120 ez120 => ?_)
          refine r_cVi (k := 27) (As := [.int z120]) (rest := []) ⟨hx, hb, hml, hown, hts⟩ hK hP hN hS (c_X7_readCond_d9 l D cA ad hI σ14 τ14 hR z120 (by omega)) (cwV 1 hts gX7_readOne_X7_readCond rfl rfl rfl (by decide +kernel) ⟨by decide, by decide⟩) (rv_SText hK hP (by decide) (by decide)) rfl hl.1 rfl (Nat.le_of_ble_eq_true rfl) dX7_readOne_214 (Nat.zero_le _) (Nat.zero_le _) (fun r121 u121 H121 locs121 hp121 hP hS => ?_)
          obtain ⟨σ121, τ121⟩ := u121
          obtain ⟨hR, f121, fL121, hq121⟩ : P_X7_readCond_d9 σ14 τ14 z120 r121 σ121 τ121 := hp121
          have hP : va_P D vwCl (gw cA ad σ121 τ121) H121 := hP
          obtain rfl := FrL.nil fL121
          have hF := hF.step f121 (by decide)
          have t122 : (σ121 24 1).toInt = (σ14 24 1).toInt := congrArg Int32.toInt (f121.at 24 1 (by decide))
          refine r_if_eq (tgt := 236) hx hb dX7_readOne_217 (by decide) (fun c123 => ?_) (fun c123 => ?_)
          · refine r_iconst hx hb dX7_readOne_236 (by decide) (fun z124 ez124 => ?_)
            exact r_zret hx hb hr hK hP hS hk (by omega) dX7_readOne_237 (show P_X7_readOne_d8 σ0 τ0 a1 z124 σ121 τ14 from ⟨hR, hF, hFL, by omega⟩)
          · exfalso; omega
        refine lv_tableOut (tgt := 249) hx hb dX7_readOne_72 (by omega) (by decide) ?_
        refine lv_aload_n hx hb dX7_readOne_249 rfl (lv_at hl 1 rfl) ?_
        refine fg_7_2 (k := 27) hx hb hts in_X7_readOne_7 hown hK hP (by decide) (by decide) (hts _ lk_X7_readOne_19) dX7_readOne_250 ?_
        refine lv_iload_n hx hb dX7_readOne_253 rfl (lv_at hl 0 rfl) ?_
        refine r_bipush hx hb dX7_readOne_254 (by decide) (fun z125 ez125 => ?_)
        refine r_iconst hx hb dX7_readOne_256 (by decide) (fun z126 ez126 => ?_)
        refine r_cVi (k := 24) (As := [.int (σ0 1 9), .int z125, .int z126]) (rest := []) ⟨hx, hb, hml, hown, hts⟩ hK hP hN hS (c_X6_add l D cA ad hI σ14 τ14 hR (σ0 1 9) z125 z126 (by omega)) (cwV 3 hts gX7_readOne_X6_add rfl rfl rfl (by decide +kernel) ⟨by decide, by decide⟩) (rv_Sent hK hP (by decide) (by decide)) rfl hl.1 rfl (Nat.le_of_ble_eq_true rfl) dX7_readOne_257 (Nat.zero_le _) (Nat.zero_le _) (fun r127 u127 H127 locs127 hp127 hP hS => ?_)
        obtain ⟨σ127, τ127⟩ := u127
        obtain ⟨hR, f127, fL127, hq127⟩ : P_X6_add σ14 τ14 (σ0 1 9) z125 z126 r127 σ127 τ127 := hp127
        have hP : va_P D vwCl (gw cA ad σ127 τ127) H127 := hP
        obtain rfl := FrL.nil fL127
        have hF := hF.step f127 (by decide)
        have t128 : (σ127 24 1).toInt = (σ14 24 1).toInt := congrArg Int32.toInt (f127.at 24 1 (by decide))
        exact r_zret hx hb hr hK hP hS hk (by omega) dX7_readOne_260 (show P_X7_readOne_d8 σ0 τ0 a1 r127 σ127 τ14 from ⟨hR, hF, hFL, by omega⟩)
      · exfalso; omega
  · refine lv_aload_n hx hb dX7_readOne_15 rfl (lv_at hl 1 rfl) ?_
    refine fg_7_0 (k := 27) hx hb hts in_X7_readOne_7 hown hK hP (by decide) (by decide) (hts _ lk_X7_readOne_9) dX7_readOne_16 ?_
    refine r_iconst hx hb dX7_readOne_19 (by decide) (fun z129 ez129 => ?_)
    refine r_cVi (k := 1) (As := [.int z129]) (rest := []) ⟨hx, hb, hml, hown, hts⟩ hK hP hN hS (c_X8_blame l D cA ad hI σ0 τ0 hR z129 (by omega)) (cwV 1 hts gX7_readOne_X8_blame rfl rfl rfl (by decide +kernel) ⟨by decide, by decide⟩) (rv_Tape hK hP (by decide) (by decide)) rfl hl.1 rfl (Nat.le_of_ble_eq_true rfl) dX7_readOne_20 (Nat.zero_le _) (Nat.zero_le _) (fun r130 u130 H130 locs130 hp130 hP hS => ?_)
    obtain ⟨σ130, τ130⟩ := u130
    obtain ⟨hR, f130, fL130, hq130⟩ : P_X8_blame σ0 τ0 z129 r130 σ130 τ130 := hp130
    have hP : va_P D vwCl (gw cA ad σ130 τ130) H130 := hP
    obtain rfl := FrL.nil fL130
    have hF := hF.step f130 (by decide)
    exact r_zret hx hb hr hK hP hS hk (by omega) dX7_readOne_23 (show P_X7_readOne_d8 σ0 τ0 a1 r130 σ130 τ0 from ⟨hR, hF, hFL, by omega⟩)
theorem in_X7_readAll_7 : ∀ w ∈ u_ws RX7 TX7 3, w ∈ wsX7_readAll := by decide +kernel
theorem in_X7_readAll_8 : ∀ w ∈ u_ws RX8 TX8 15, w ∈ wsX7_readAll := by decide +kernel
theorem lk_X7_readAll_19 : Cond.fieldLink RX7 19 "CuckooShares$SentenceText" "into" "LCuckooShares$Sentence;" ∈ wsX7_readAll := by decide +kernel
theorem lk_X7_readAll_9 : Cond.fieldLink RX7 9 "CuckooShares$SentenceText" "tape" "LCuckooShares$Tape;" ∈ wsX7_readAll := by decide +kernel
abbrev L_X7_readAll_d8 : List Rc := [(1, 1, 7, 10), (372, 372, 0, 39), (376, 376, 0, 39), (380, 380, 0, 39), (24, 24, 1, 2), (1, 1, 12, 14)]
abbrev LL_X7_readAll_d8 : List Rc := [(1, 1, 11, 11)]
def P_X7_readAll_d8 (σ0 : Nat → Nat → Int32) (τ0 : Nat → Nat → Int64) (a1 : Int32) (r : Int32) (σ : Nat → Nat → Int32) (τ : Nat → Nat → Int64) : Prop := Rg σ ∧ Fr L_X7_readAll_d8 σ0 σ ∧ FrL LL_X7_readAll_d8 τ0 τ ∧ (0 ≤ r.toInt ∧ r.toInt ≤ 1)
def J_X7_readAll_d8_12 (p : Program) (l : Launch) (e : Env) (s : State) (m : MethodId) (args : Array Value) (below : List Frame) (meth : Method) (c : Code) (D : va_G) (cA : Nat → ClassId) (ad : Nat → Nat) (σ0 : Nat → Nat → Int32) (τ0 : Nat → Nat → Int64) (a1 : Int32) (n : Nat) : Prop := ∀ (σ : Nat → Nat → Int32) (τ : Nat → Nat → Int64) (H : Heap) (locs : List Loc) (x2 : Int32) (ls : Array Slot), Rg σ → Fr L_X7_readAll_d8 σ0 σ → FrL LL_X7_readAll_d8 τ0 τ → va_P D vwCl (gw cA ad σ τ) H → va_S (AA ad) s.heap H locs → (0 ≤ x2.toInt ∧ x2.toInt ≤ 200) → lv_has ls 3 [(0, .ref (ad 27)), (1, .int a1), (2, .int x2)] → 2 * (200 - x2.toInt) + 1 < (n : Int) → W p l e ({ frames := 5, cells := 0, slots := 0, locals := 109 } : Room) s m args below meth c H locs 0 0 (MQ below (va_Qi (fun (r : Int32) (u : SS) => P_X7_readAll_d8 σ0 τ0 a1 r u.1 u.2) (WB D cA ad) (AA ad)) args s 0 0 (AA ad)) (F0 m 12 ls [])
set_option maxHeartbeats 4000000 in
theorem B_X7_readAll_d8_12 (p : Program) (l : Launch) (e : Env) (s : State) (m : MethodId) (args : Array Value) (below : List Frame) (meth : Method) (c : Code) (D : va_G) (cA : Nat → ClassId) (ad : Nat → Nat) (σ0 : Nat → Nat → Int32) (τ0 : Nat → Nat → Int64) (a1 : Int32) (n : Nat) (C : Cy p s m args meth c cX7_readAll 3 wsX7_readAll RX7 D cA ad (some .boolean)) (ha1 : 8 ≤ a1.toInt ∧ a1.toInt ≤ 8) (K12 : J_X7_readAll_d8_12 p l e s m args below meth c D cA ad σ0 τ0 a1 n) : J_X7_readAll_d8_12 p l e s m args below meth c D cA ad σ0 τ0 a1 (n + 1) := by
  obtain ⟨hx, hb, hml, hown, hts, hK, hk, hr, hI, hN⟩ := C
  intro σ τ H locs x2 ls hR hF hFL hP hS hc0 hl hm
  refine lv_iload_n hx hb dX7_readAll_12 rfl (lv_at hl 2 rfl) ?_
  refine r_sipush hx hb dX7_readAll_13 (by decide) (fun z1 ez1 => ?_)
  refine r_icmp_ge (tgt := 68) hx hb dX7_readAll_16 (by decide) (fun c2 => ?_) (fun c2 => ?_)
  · refine r_iconst hx hb dX7_readAll_68 (by decide) (fun z3 ez3 => ?_)
    exact r_zret hx hb hr hK hP hS hk (by omega) dX7_readAll_69 (show P_X7_readAll_d8 σ0 τ0 a1 z3 σ τ from ⟨hR, hF, hFL, by omega⟩)
  · refine lv_aload_n hx hb dX7_readAll_19 rfl (lv_at hl 0 rfl) ?_
    refine fg_7_0 (k := 27) hx hb hts in_X7_readAll_7 hown hK hP (by decide) (by decide) (hts _ lk_X7_readAll_9) dX7_readAll_20 ?_
    refine fgN_8_9 (k := 1) hx hb hts in_X7_readAll_8 hown hK hP (by decide) (by decide) (hN.use nw_7_32) dX7_readAll_23 ?_
    refine r_bipush hx hb dX7_readAll_26 (by decide) (fun z4 ez4 => ?_)
    refine r_icmp_ne (tgt := 68) hx hb dX7_readAll_28 (by decide) (fun c5 => ?_) (fun c5 => ?_)
    · refine r_iconst hx hb dX7_readAll_68 (by decide) (fun z6 ez6 => ?_)
      exact r_zret hx hb hr hK hP hS hk (by omega) dX7_readAll_69 (show P_X7_readAll_d8 σ0 τ0 a1 z6 σ τ from ⟨hR, hF, hFL, by omega⟩)
    · refine lv_aload_n hx hb dX7_readAll_31 rfl (lv_at hl 0 rfl) ?_
      refine fg_7_0 (k := 27) hx hb hts in_X7_readAll_7 hown hK hP (by decide) (by decide) (hts _ lk_X7_readAll_9) dX7_readAll_32 ?_
      refine r_cVv (k := 1) (As := []) (rest := []) ⟨hx, hb, hml, hown, hts⟩ hK hP hN hS (c_X8_next l D cA ad hI σ τ hR) (cwV 0 hts gX7_readAll_X8_next rfl rfl rfl (by decide +kernel) ⟨by decide, by decide⟩) (rv_Tape hK hP (by decide) (by decide)) rfl hl.1 rfl (Nat.le_of_ble_eq_true rfl) dX7_readAll_35 (Nat.zero_le _) (Nat.zero_le _) (fun u7 H7 locs7 hp7 hP hS => ?_)
      obtain ⟨σ7, τ7⟩ := u7
      obtain ⟨hR, f7, fL7⟩ : P_X8_next σ τ σ7 τ7 := hp7
      have hP : va_P D vwCl (gw cA ad σ7 τ7) H7 := hP
      have hFL := hFL.step fL7 (by decide)
      have hF := hF.step f7 (by decide)
      refine lv_aload_n hx hb dX7_readAll_38 rfl (lv_at hl 0 rfl) ?_
      refine lv_iload_n hx hb dX7_readAll_39 rfl (lv_at hl 1 rfl) ?_
      refine r_cVi (k := 27) (As := [.int a1]) (rest := []) ⟨hx, hb, hml, hown, hts⟩ hK hP hN hS (c_X7_readOne_d8 l D cA ad hI σ7 τ7 hR a1 (by omega)) (cwV 1 hts gX7_readAll_X7_readOne rfl rfl rfl (by decide +kernel) ⟨by decide, by decide⟩) (rv_SText hK hP (by decide) (by decide)) rfl hl.1 rfl (Nat.le_of_ble_eq_true rfl) dX7_readAll_40 (Nat.zero_le _) (Nat.zero_le _) (fun r8 u8 H8 locs8 hp8 hP hS => ?_)
      obtain ⟨σ8, τ8⟩ := u8
      obtain ⟨hR, f8, fL8, hq8⟩ : P_X7_readOne_d8 σ7 τ7 a1 r8 σ8 τ8 := hp8
      have hP : va_P D vwCl (gw cA ad σ8 τ8) H8 := hP
      have hFL := hFL.step fL8 (by decide)
      have hF := hF.step f8 (by decide)
      refine r_if_eq (tgt := 60) hx hb dX7_readAll_43 (by decide) (fun c9 => ?_) (fun c9 => ?_)
      · refine r_iconst hx hb dX7_readAll_60 (by decide) (fun z10 ez10 => ?_)
        exact r_zret hx hb hr hK hP hS hk (by omega) dX7_readAll_61 (show P_X7_readAll_d8 σ0 τ0 a1 z10 σ8 τ8 from ⟨hR, hF, hFL, by omega⟩)
      · refine lv_aload_n hx hb dX7_readAll_46 rfl (lv_at hl 0 rfl) ?_
        refine fg_7_2 (k := 27) hx hb hts in_X7_readAll_7 hown hK hP (by decide) (by decide) (hts _ lk_X7_readAll_19) dX7_readAll_47 ?_
        refine r_bipush hx hb dX7_readAll_50 (by decide) (fun z11 ez11 => ?_)
        refine r_iconst hx hb dX7_readAll_52 (by decide) (fun z12 ez12 => ?_)
        refine r_iconst hx hb dX7_readAll_53 (by decide) (fun z13 ez13 => ?_)
        refine r_cVi (k := 24) (As := [.int z11, .int z12, .int z13]) (rest := []) ⟨hx, hb, hml, hown, hts⟩ hK hP hN hS (c_X6_add l D cA ad hI σ8 τ8 hR z11 z12 z13 (by omega)) (cwV 3 hts gX7_readAll_X6_add rfl rfl rfl (by decide +kernel) ⟨by decide, by decide⟩) (rv_Sent hK hP (by decide) (by decide)) rfl hl.1 rfl (Nat.le_of_ble_eq_true rfl) dX7_readAll_54 (Nat.zero_le _) (Nat.zero_le _) (fun r14 u14 H14 locs14 hp14 hP hS => ?_)
        obtain ⟨σ14, τ14⟩ := u14
        obtain ⟨hR, f14, fL14, hq14⟩ : P_X6_add σ8 τ8 z11 z12 z13 r14 σ14 τ14 := hp14
        have hP : va_P D vwCl (gw cA ad σ14 τ14) H14 := hP
        obtain rfl := FrL.nil fL14
        have hF := hF.step f14 (by decide)
        refine r_if_ne (tgt := 62) hx hb dX7_readAll_57 (by decide) (fun c15 => ?_) (fun c15 => ?_)
        · refine r_iinc (k := 2) (lv1 := fun z16 => [(2, .int z16), (0, .ref (ad 27)), (1, .int a1)]) hx hb dX7_readAll_62 hl rfl (by decide) (fun _ => rfl) (by decide) (by omega) (fun z16 ls ez16 hl => ?_)
          refine lv_goto (tgt := 12) hx hb dX7_readAll_65 (by decide) ?_
          exact K12 σ14 τ8 H14 locs14 z16 ls hR hF hFL hP hS (by omega) (lv_sub hl [1, 2, 0] rfl) (by omega)
        · refine r_iconst hx hb dX7_readAll_60 (by decide) (fun z17 ez17 => ?_)
          exact r_zret hx hb hr hK hP hS hk (by omega) dX7_readAll_61 (show P_X7_readAll_d8 σ0 τ0 a1 z17 σ14 τ8 from ⟨hR, hF, hFL, by omega⟩)
theorem A_X7_readAll_d8 (p : Program) (l : Launch) (e : Env) (s : State) (m : MethodId) (args : Array Value) (below : List Frame) (meth : Method) (c : Code) (D : va_G) (cA : Nat → ClassId) (ad : Nat → Nat) (σ0 : Nat → Nat → Int32) (τ0 : Nat → Nat → Int64) (a1 : Int32) (C : Cy p s m args meth c cX7_readAll 3 wsX7_readAll RX7 D cA ad (some .boolean)) (ha1 : 8 ≤ a1.toInt ∧ a1.toInt ≤ 8) : ∀ n : Nat, J_X7_readAll_d8_12 p l e s m args below meth c D cA ad σ0 τ0 a1 n := by
  intro n
  induction n with
  | zero =>
    exact (by intro σ τ H locs x2 ls hR hF hFL hP hS hc0 hl hm; exfalso; omega)
  | succ n ih =>
    exact B_X7_readAll_d8_12 p l e s m args below meth c D cA ad σ0 τ0 a1 n C ha1 ih
set_option maxHeartbeats 4000000 in
theorem c_X7_readAll_d8 (l : Launch) (D : va_G) (cA : Nat → ClassId) (ad : Nat → Nat) (hI : Inj ad) (σ0 : Nat → Nat → Int32) (τ0 : Nat → Nat → Int64) (hR : Rg σ0) (a1 : Int32) (ha1 : 8 ≤ a1.toInt ∧ a1.toInt ≤ 8) : Met l yX7_readAll wsX7_readAll ({ frames := 5, cells := 0, slots := 0, locals := 109 } : Room) (WQc D cA ad [.ref (ad 27), .int a1] σ0 τ0) (va_Qi (fun (r : Int32) (u : SS) => P_X7_readAll_d8 σ0 τ0 a1 r u.1 u.2) (WB D cA ad) (AA ad)) 0 0 (AA ad) := by
  refine Met.ofW (cc := cX7_readAll) (maxL := 3) (ret := (some .boolean)) (by decide) rfl ?_
  intro p e s m args below meth c s₁ B hml hv
  obtain ⟨rfl, hP, hK, hN⟩ := hv
  have C : Cy p s m _ meth c cX7_readAll 3 wsX7_readAll RX7 D cA ad (some .boolean) := ⟨B.exec, B.bytes, hml, findClass_of_methodNamed B.named, atoms_spec (ws := wsX7_readAll) B.pre, hK, B.notSynchronized, B.returns, hI, hN⟩
  have hl := lv_entry ([.ref (ad 27), .int a1]) (n := 3) (Nat.le_of_ble_eq_true rfl)
  rw [lg_entry_eq]
  generalize (lg_sl ([.ref (ad 27), .int a1]) ++ List.replicate (3 - (lg_sl ([.ref (ad 27), .int a1])).length) Slot.unset).toArray = ls at hl ⊢
  have hl : lv_has ls 3 [(0, .ref (ad 27)), (1, .int a1)] := hl
  have hS : va_S (AA ad) s.heap s.heap [] := va_S.rf
  have hF : Fr L_X7_readAll_d8 σ0 σ0 := Fr.rf
  have hFL : FrL LL_X7_readAll_d8 τ0 τ0 := FrL.rf
  have hA := A_X7_readAll_d8 p l e s m _ below meth c D cA ad σ0 τ0 a1 C ha1 810
  have K12 := hA
  clear hA
  obtain ⟨hx, hb, _, hown, hts, _, hk, hr, _, _⟩ := C
  refine lv_aload_n hx hb dX7_readAll_0 rfl (lv_at hl 0 rfl) ?_
  refine lv_iload_n hx hb dX7_readAll_1 rfl (lv_at hl 1 rfl) ?_
  refine r_cVi (k := 27) (As := [.int a1]) (rest := []) ⟨hx, hb, hml, hown, hts⟩ hK hP hN hS (c_X7_readOne_d8 l D cA ad hI σ0 τ0 hR a1 (by omega)) (cwV 1 hts gX7_readAll_X7_readOne rfl rfl rfl (by decide +kernel) ⟨by decide, by decide⟩) (rv_SText hK hP (by decide) (by decide)) rfl hl.1 rfl (Nat.le_of_ble_eq_true rfl) dX7_readAll_2 (Nat.zero_le _) (Nat.zero_le _) (fun r1 u1 H1 locs1 hp1 hP hS => ?_)
  obtain ⟨σ1, τ1⟩ := u1
  obtain ⟨hR, f1, fL1, hq1⟩ : P_X7_readOne_d8 σ0 τ0 a1 r1 σ1 τ1 := hp1
  have hP : va_P D vwCl (gw cA ad σ1 τ1) H1 := hP
  have hFL := hFL.step fL1 (by decide)
  have hF := hF.step f1 (by decide)
  refine r_if_ne (tgt := 10) hx hb dX7_readAll_5 (by decide) (fun c2 => ?_) (fun c2 => ?_)
  · refine r_iconst hx hb dX7_readAll_10 (by decide) (fun z3 ez3 => ?_)
    refine lv_istore_n (lv' := [(2, .int z3), (0, .ref (ad 27)), (1, .int a1)]) hx hb dX7_readAll_11 rfl hl (by decide) rfl (fun ls hl => ?_)
    exact K12 σ1 τ1 H1 locs1 z3 ls hR hF hFL hP hS (by omega) (lv_sub hl [1, 2, 0] rfl) (by omega)
  · refine r_iconst hx hb dX7_readAll_8 (by decide) (fun z4 ez4 => ?_)
    exact r_zret hx hb hr hK hP hS hk (by omega) dX7_readAll_9 (show P_X7_readAll_d8 σ0 τ0 a1 z4 σ1 τ1 from ⟨hR, hF, hFL, by omega⟩)
theorem in_X7_readCond_7 : ∀ w ∈ u_ws RX7 TX7 3, w ∈ wsX7_readCond := by decide +kernel
theorem in_X7_readCond_8 : ∀ w ∈ u_ws RX8 TX8 15, w ∈ wsX7_readCond := by decide +kernel
theorem lk_X7_readCond_19 : Cond.fieldLink RX7 19 "CuckooShares$SentenceText" "into" "LCuckooShares$Sentence;" ∈ wsX7_readCond := by decide +kernel
theorem lk_X7_readCond_9 : Cond.fieldLink RX7 9 "CuckooShares$SentenceText" "tape" "LCuckooShares$Tape;" ∈ wsX7_readCond := by decide +kernel
abbrev L_X7_readCond_d8 : List Rc := [(1, 1, 7, 10), (372, 372, 0, 39), (376, 376, 0, 39), (380, 380, 0, 39), (24, 24, 1, 2), (1, 1, 12, 14)]
abbrev LL_X7_readCond_d8 : List Rc := [(1, 1, 11, 11)]
def P_X7_readCond_d8 (σ0 : Nat → Nat → Int32) (τ0 : Nat → Nat → Int64) (a1 : Int32) (r : Int32) (σ : Nat → Nat → Int32) (τ : Nat → Nat → Int64) : Prop := Rg σ ∧ Fr L_X7_readCond_d8 σ0 σ ∧ FrL LL_X7_readCond_d8 τ0 τ ∧ (0 ≤ r.toInt ∧ r.toInt ≤ 1)
def J_X7_readCond_d8_12 (p : Program) (l : Launch) (e : Env) (s : State) (m : MethodId) (args : Array Value) (below : List Frame) (meth : Method) (c : Code) (D : va_G) (cA : Nat → ClassId) (ad : Nat → Nat) (σ0 : Nat → Nat → Int32) (τ0 : Nat → Nat → Int64) (a1 : Int32) (n : Nat) : Prop := ∀ (σ : Nat → Nat → Int32) (τ : Nat → Nat → Int64) (H : Heap) (locs : List Loc) (x2 : Int32) (ls : Array Slot), Rg σ → Fr L_X7_readCond_d8 σ0 σ → FrL LL_X7_readCond_d8 τ0 τ → va_P D vwCl (gw cA ad σ τ) H → va_S (AA ad) s.heap H locs → (0 ≤ x2.toInt ∧ x2.toInt ≤ 200) → lv_has ls 3 [(0, .ref (ad 27)), (1, .int a1), (2, .int x2)] → 2 * (200 - x2.toInt) + 1 < (n : Int) → W p l e ({ frames := 6, cells := 0, slots := 0, locals := 131 } : Room) s m args below meth c H locs 0 0 (MQ below (va_Qi (fun (r : Int32) (u : SS) => P_X7_readCond_d8 σ0 τ0 a1 r u.1 u.2) (WB D cA ad) (AA ad)) args s 0 0 (AA ad)) (F0 m 12 ls [])
set_option maxHeartbeats 4000000 in
theorem B_X7_readCond_d8_12 (p : Program) (l : Launch) (e : Env) (s : State) (m : MethodId) (args : Array Value) (below : List Frame) (meth : Method) (c : Code) (D : va_G) (cA : Nat → ClassId) (ad : Nat → Nat) (σ0 : Nat → Nat → Int32) (τ0 : Nat → Nat → Int64) (a1 : Int32) (n : Nat) (C : Cy p s m args meth c cX7_readCond 3 wsX7_readCond RX7 D cA ad (some .boolean)) (ha1 : 8 ≤ a1.toInt ∧ a1.toInt ≤ 8) (K12 : J_X7_readCond_d8_12 p l e s m args below meth c D cA ad σ0 τ0 a1 n) : J_X7_readCond_d8_12 p l e s m args below meth c D cA ad σ0 τ0 a1 (n + 1) := by
  obtain ⟨hx, hb, hml, hown, hts, hK, hk, hr, hI, hN⟩ := C
  intro σ τ H locs x2 ls hR hF hFL hP hS hc0 hl hm
  refine lv_iload_n hx hb dX7_readCond_12 rfl (lv_at hl 2 rfl) ?_
  refine r_sipush hx hb dX7_readCond_13 (by decide) (fun z1 ez1 => ?_)
  refine r_icmp_ge (tgt := 68) hx hb dX7_readCond_16 (by decide) (fun c2 => ?_) (fun c2 => ?_)
  · refine r_iconst hx hb dX7_readCond_68 (by decide) (fun z3 ez3 => ?_)
    exact r_zret hx hb hr hK hP hS hk (by omega) dX7_readCond_69 (show P_X7_readCond_d8 σ0 τ0 a1 z3 σ τ from ⟨hR, hF, hFL, by omega⟩)
  · refine lv_aload_n hx hb dX7_readCond_19 rfl (lv_at hl 0 rfl) ?_
    refine fg_7_0 (k := 27) hx hb hts in_X7_readCond_7 hown hK hP (by decide) (by decide) (hts _ lk_X7_readCond_9) dX7_readCond_20 ?_
    refine fgN_8_9 (k := 1) hx hb hts in_X7_readCond_8 hown hK hP (by decide) (by decide) (hN.use nw_7_32) dX7_readCond_23 ?_
    refine r_bipush hx hb dX7_readCond_26 (by decide) (fun z4 ez4 => ?_)
    refine r_icmp_ne (tgt := 68) hx hb dX7_readCond_28 (by decide) (fun c5 => ?_) (fun c5 => ?_)
    · refine r_iconst hx hb dX7_readCond_68 (by decide) (fun z6 ez6 => ?_)
      exact r_zret hx hb hr hK hP hS hk (by omega) dX7_readCond_69 (show P_X7_readCond_d8 σ0 τ0 a1 z6 σ τ from ⟨hR, hF, hFL, by omega⟩)
    · refine lv_aload_n hx hb dX7_readCond_31 rfl (lv_at hl 0 rfl) ?_
      refine fg_7_0 (k := 27) hx hb hts in_X7_readCond_7 hown hK hP (by decide) (by decide) (hts _ lk_X7_readCond_9) dX7_readCond_32 ?_
      refine r_cVv (k := 1) (As := []) (rest := []) ⟨hx, hb, hml, hown, hts⟩ hK hP hN hS (c_X8_next l D cA ad hI σ τ hR) (cwV 0 hts gX7_readCond_X8_next rfl rfl rfl (by decide +kernel) ⟨by decide, by decide⟩) (rv_Tape hK hP (by decide) (by decide)) rfl hl.1 rfl (Nat.le_of_ble_eq_true rfl) dX7_readCond_35 (Nat.zero_le _) (Nat.zero_le _) (fun u7 H7 locs7 hp7 hP hS => ?_)
      obtain ⟨σ7, τ7⟩ := u7
      obtain ⟨hR, f7, fL7⟩ : P_X8_next σ τ σ7 τ7 := hp7
      have hP : va_P D vwCl (gw cA ad σ7 τ7) H7 := hP
      have hFL := hFL.step fL7 (by decide)
      have hF := hF.step f7 (by decide)
      refine lv_aload_n hx hb dX7_readCond_38 rfl (lv_at hl 0 rfl) ?_
      refine lv_iload_n hx hb dX7_readCond_39 rfl (lv_at hl 1 rfl) ?_
      refine r_cVi (k := 27) (As := [.int a1]) (rest := []) ⟨hx, hb, hml, hown, hts⟩ hK hP hN hS (c_X7_readAll_d8 l D cA ad hI σ7 τ7 hR a1 (by omega)) (cwV 1 hts gX7_readCond_X7_readAll rfl rfl rfl (by decide +kernel) ⟨by decide, by decide⟩) (rv_SText hK hP (by decide) (by decide)) rfl hl.1 rfl (Nat.le_of_ble_eq_true rfl) dX7_readCond_40 (Nat.zero_le _) (Nat.zero_le _) (fun r8 u8 H8 locs8 hp8 hP hS => ?_)
      obtain ⟨σ8, τ8⟩ := u8
      obtain ⟨hR, f8, fL8, hq8⟩ : P_X7_readAll_d8 σ7 τ7 a1 r8 σ8 τ8 := hp8
      have hP : va_P D vwCl (gw cA ad σ8 τ8) H8 := hP
      have hFL := hFL.step fL8 (by decide)
      have hF := hF.step f8 (by decide)
      refine r_if_eq (tgt := 60) hx hb dX7_readCond_43 (by decide) (fun c9 => ?_) (fun c9 => ?_)
      · refine r_iconst hx hb dX7_readCond_60 (by decide) (fun z10 ez10 => ?_)
        exact r_zret hx hb hr hK hP hS hk (by omega) dX7_readCond_61 (show P_X7_readCond_d8 σ0 τ0 a1 z10 σ8 τ8 from ⟨hR, hF, hFL, by omega⟩)
      · refine lv_aload_n hx hb dX7_readCond_46 rfl (lv_at hl 0 rfl) ?_
        refine fg_7_2 (k := 27) hx hb hts in_X7_readCond_7 hown hK hP (by decide) (by decide) (hts _ lk_X7_readCond_19) dX7_readCond_47 ?_
        refine r_bipush hx hb dX7_readCond_50 (by decide) (fun z11 ez11 => ?_)
        refine r_iconst hx hb dX7_readCond_52 (by decide) (fun z12 ez12 => ?_)
        refine r_iconst hx hb dX7_readCond_53 (by decide) (fun z13 ez13 => ?_)
        refine r_cVi (k := 24) (As := [.int z11, .int z12, .int z13]) (rest := []) ⟨hx, hb, hml, hown, hts⟩ hK hP hN hS (c_X6_add l D cA ad hI σ8 τ8 hR z11 z12 z13 (by omega)) (cwV 3 hts gX7_readCond_X6_add rfl rfl rfl (by decide +kernel) ⟨by decide, by decide⟩) (rv_Sent hK hP (by decide) (by decide)) rfl hl.1 rfl (Nat.le_of_ble_eq_true rfl) dX7_readCond_54 (Nat.zero_le _) (Nat.zero_le _) (fun r14 u14 H14 locs14 hp14 hP hS => ?_)
        obtain ⟨σ14, τ14⟩ := u14
        obtain ⟨hR, f14, fL14, hq14⟩ : P_X6_add σ8 τ8 z11 z12 z13 r14 σ14 τ14 := hp14
        have hP : va_P D vwCl (gw cA ad σ14 τ14) H14 := hP
        obtain rfl := FrL.nil fL14
        have hF := hF.step f14 (by decide)
        refine r_if_ne (tgt := 62) hx hb dX7_readCond_57 (by decide) (fun c15 => ?_) (fun c15 => ?_)
        · refine r_iinc (k := 2) (lv1 := fun z16 => [(2, .int z16), (0, .ref (ad 27)), (1, .int a1)]) hx hb dX7_readCond_62 hl rfl (by decide) (fun _ => rfl) (by decide) (by omega) (fun z16 ls ez16 hl => ?_)
          refine lv_goto (tgt := 12) hx hb dX7_readCond_65 (by decide) ?_
          exact K12 σ14 τ8 H14 locs14 z16 ls hR hF hFL hP hS (by omega) (lv_sub hl [1, 2, 0] rfl) (by omega)
        · refine r_iconst hx hb dX7_readCond_60 (by decide) (fun z17 ez17 => ?_)
          exact r_zret hx hb hr hK hP hS hk (by omega) dX7_readCond_61 (show P_X7_readCond_d8 σ0 τ0 a1 z17 σ14 τ8 from ⟨hR, hF, hFL, by omega⟩)
theorem A_X7_readCond_d8 (p : Program) (l : Launch) (e : Env) (s : State) (m : MethodId) (args : Array Value) (below : List Frame) (meth : Method) (c : Code) (D : va_G) (cA : Nat → ClassId) (ad : Nat → Nat) (σ0 : Nat → Nat → Int32) (τ0 : Nat → Nat → Int64) (a1 : Int32) (C : Cy p s m args meth c cX7_readCond 3 wsX7_readCond RX7 D cA ad (some .boolean)) (ha1 : 8 ≤ a1.toInt ∧ a1.toInt ≤ 8) : ∀ n : Nat, J_X7_readCond_d8_12 p l e s m args below meth c D cA ad σ0 τ0 a1 n := by
  intro n
  induction n with
  | zero =>
    exact (by intro σ τ H locs x2 ls hR hF hFL hP hS hc0 hl hm; exfalso; omega)
  | succ n ih =>
    exact B_X7_readCond_d8_12 p l e s m args below meth c D cA ad σ0 τ0 a1 n C ha1 ih
set_option maxHeartbeats 4000000 in
theorem c_X7_readCond_d8 (l : Launch) (D : va_G) (cA : Nat → ClassId) (ad : Nat → Nat) (hI : Inj ad) (σ0 : Nat → Nat → Int32) (τ0 : Nat → Nat → Int64) (hR : Rg σ0) (a1 : Int32) (ha1 : 8 ≤ a1.toInt ∧ a1.toInt ≤ 8) : Met l yX7_readCond wsX7_readCond ({ frames := 6, cells := 0, slots := 0, locals := 131 } : Room) (WQc D cA ad [.ref (ad 27), .int a1] σ0 τ0) (va_Qi (fun (r : Int32) (u : SS) => P_X7_readCond_d8 σ0 τ0 a1 r u.1 u.2) (WB D cA ad) (AA ad)) 0 0 (AA ad) := by
  refine Met.ofW (cc := cX7_readCond) (maxL := 3) (ret := (some .boolean)) (by decide) rfl ?_
  intro p e s m args below meth c s₁ B hml hv
  obtain ⟨rfl, hP, hK, hN⟩ := hv
  have C : Cy p s m _ meth c cX7_readCond 3 wsX7_readCond RX7 D cA ad (some .boolean) := ⟨B.exec, B.bytes, hml, findClass_of_methodNamed B.named, atoms_spec (ws := wsX7_readCond) B.pre, hK, B.notSynchronized, B.returns, hI, hN⟩
  have hl := lv_entry ([.ref (ad 27), .int a1]) (n := 3) (Nat.le_of_ble_eq_true rfl)
  rw [lg_entry_eq]
  generalize (lg_sl ([.ref (ad 27), .int a1]) ++ List.replicate (3 - (lg_sl ([.ref (ad 27), .int a1])).length) Slot.unset).toArray = ls at hl ⊢
  have hl : lv_has ls 3 [(0, .ref (ad 27)), (1, .int a1)] := hl
  have hS : va_S (AA ad) s.heap s.heap [] := va_S.rf
  have hF : Fr L_X7_readCond_d8 σ0 σ0 := Fr.rf
  have hFL : FrL LL_X7_readCond_d8 τ0 τ0 := FrL.rf
  have hA := A_X7_readCond_d8 p l e s m _ below meth c D cA ad σ0 τ0 a1 C ha1 810
  have K12 := hA
  clear hA
  obtain ⟨hx, hb, _, hown, hts, _, hk, hr, _, _⟩ := C
  refine lv_aload_n hx hb dX7_readCond_0 rfl (lv_at hl 0 rfl) ?_
  refine lv_iload_n hx hb dX7_readCond_1 rfl (lv_at hl 1 rfl) ?_
  refine r_cVi (k := 27) (As := [.int a1]) (rest := []) ⟨hx, hb, hml, hown, hts⟩ hK hP hN hS (c_X7_readAll_d8 l D cA ad hI σ0 τ0 hR a1 (by omega)) (cwV 1 hts gX7_readCond_X7_readAll rfl rfl rfl (by decide +kernel) ⟨by decide, by decide⟩) (rv_SText hK hP (by decide) (by decide)) rfl hl.1 rfl (Nat.le_of_ble_eq_true rfl) dX7_readCond_2 (Nat.zero_le _) (Nat.zero_le _) (fun r1 u1 H1 locs1 hp1 hP hS => ?_)
  obtain ⟨σ1, τ1⟩ := u1
  obtain ⟨hR, f1, fL1, hq1⟩ : P_X7_readAll_d8 σ0 τ0 a1 r1 σ1 τ1 := hp1
  have hP : va_P D vwCl (gw cA ad σ1 τ1) H1 := hP
  have hFL := hFL.step fL1 (by decide)
  have hF := hF.step f1 (by decide)
  refine r_if_ne (tgt := 10) hx hb dX7_readCond_5 (by decide) (fun c2 => ?_) (fun c2 => ?_)
  · refine r_iconst hx hb dX7_readCond_10 (by decide) (fun z3 ez3 => ?_)
    refine lv_istore_n (lv' := [(2, .int z3), (0, .ref (ad 27)), (1, .int a1)]) hx hb dX7_readCond_11 rfl hl (by decide) rfl (fun ls hl => ?_)
    exact K12 σ1 τ1 H1 locs1 z3 ls hR hF hFL hP hS (by omega) (lv_sub hl [1, 2, 0] rfl) (by omega)
  · refine r_iconst hx hb dX7_readCond_8 (by decide) (fun z4 ez4 => ?_)
    exact r_zret hx hb hr hK hP hS hk (by omega) dX7_readCond_9 (show P_X7_readCond_d8 σ0 τ0 a1 z4 σ1 τ1 from ⟨hR, hF, hFL, by omega⟩)
abbrev L_X7_readOne_d7 : List Rc := [(1, 1, 7, 10), (372, 372, 0, 39), (376, 376, 0, 39), (380, 380, 0, 39), (24, 24, 1, 2), (1, 1, 12, 14)]
abbrev LL_X7_readOne_d7 : List Rc := [(1, 1, 11, 11)]
def P_X7_readOne_d7 (σ0 : Nat → Nat → Int32) (τ0 : Nat → Nat → Int64) (a1 : Int32) (r : Int32) (σ : Nat → Nat → Int32) (τ : Nat → Nat → Int64) : Prop := Rg σ ∧ Fr L_X7_readOne_d7 σ0 σ ∧ FrL LL_X7_readOne_d7 τ0 τ ∧ (0 ≤ r.toInt ∧ r.toInt ≤ 1)
set_option maxHeartbeats 4000000 in
theorem c_X7_readOne_d7 (l : Launch) (D : va_G) (cA : Nat → ClassId) (ad : Nat → Nat) (hI : Inj ad) (σ0 : Nat → Nat → Int32) (τ0 : Nat → Nat → Int64) (hR : Rg σ0) (a1 : Int32) (ha1 : 7 ≤ a1.toInt ∧ a1.toInt ≤ 7) : Met l yX7_readOne wsX7_readOne ({ frames := 7, cells := 0, slots := 0, locals := 153 } : Room) (WQc D cA ad [.ref (ad 27), .int a1] σ0 τ0) (va_Qi (fun (r : Int32) (u : SS) => P_X7_readOne_d7 σ0 τ0 a1 r u.1 u.2) (WB D cA ad) (AA ad)) 0 0 (AA ad) := by
  refine Met.ofW (cc := cX7_readOne) (maxL := 3) (ret := (some .boolean)) (by decide) rfl ?_
  intro p e s m args below meth c s₁ B hml hv
  obtain ⟨rfl, hP, hK, hN⟩ := hv
  have C : Cy p s m _ meth c cX7_readOne 3 wsX7_readOne RX7 D cA ad (some .boolean) := ⟨B.exec, B.bytes, hml, findClass_of_methodNamed B.named, atoms_spec (ws := wsX7_readOne) B.pre, hK, B.notSynchronized, B.returns, hI, hN⟩
  have hl := lv_entry ([.ref (ad 27), .int a1]) (n := 3) (Nat.le_of_ble_eq_true rfl)
  rw [lg_entry_eq]
  generalize (lg_sl ([.ref (ad 27), .int a1]) ++ List.replicate (3 - (lg_sl ([.ref (ad 27), .int a1])).length) Slot.unset).toArray = ls at hl ⊢
  have hl : lv_has ls 3 [(0, .ref (ad 27)), (1, .int a1)] := hl
  have hS : va_S (AA ad) s.heap s.heap [] := va_S.rf
  have hF : Fr L_X7_readOne_d7 σ0 σ0 := Fr.rf
  have hFL : FrL LL_X7_readOne_d7 τ0 τ0 := FrL.rf
  obtain ⟨hx, hb, _, hown, hts, _, hk, hr, _, _⟩ := C
  refine lv_aload_n hx hb dX7_readOne_0 rfl (lv_at hl 0 rfl) ?_
  refine fg_7_0 (k := 27) hx hb hts in_X7_readOne_7 hown hK hP (by decide) (by decide) (hts _ lk_X7_readOne_9) dX7_readOne_1 ?_
  refine fgN_8_9 (k := 1) hx hb hts in_X7_readOne_8 hown hK hP (by decide) (by decide) (hN.use nw_7_32) dX7_readOne_4 ?_
  refine lv_istore_n (lv' := [(2, .int (σ0 1 9)), (0, .ref (ad 27)), (1, .int a1)]) hx hb dX7_readOne_7 rfl hl (by decide) rfl (fun ls hl => ?_)
  refine lv_iload_n hx hb dX7_readOne_8 rfl (lv_at hl 0 rfl) ?_
  refine r_cSi (As := [.int (σ0 1 9)]) (rest := []) ⟨hx, hb, hml, hown, hts⟩ hK hP hN hS (c_X7_beginsOne l D cA ad hI σ0 τ0 hR (σ0 1 9)) (va_cwS 1 hts gX7_readOne_X7_beginsOne rfl rfl rfl (by decide +kernel) ⟨by decide, by decide⟩) rfl hl.1 rfl (Nat.le_of_ble_eq_true rfl) dX7_readOne_9 (Nat.zero_le _) (Nat.zero_le _) (fun r1 u1 H1 locs1 hp1 hP hS => ?_)
  obtain ⟨σ1, τ1⟩ := u1
  obtain ⟨hR, f1, fL1, hq1⟩ : P_X7_beginsOne σ0 τ0 (σ0 1 9) r1 σ1 τ1 := hp1
  have hP : va_P D vwCl (gw cA ad σ1 τ1) H1 := hP
  obtain rfl := FrL.nil fL1
  obtain rfl := Fr.nil f1
  refine r_if_ne (tgt := 24) hx hb dX7_readOne_12 (by decide) (fun c2 => ?_) (fun c2 => ?_)
  · refine lv_aload_n hx hb dX7_readOne_24 rfl (lv_at hl 1 rfl) ?_
    refine fg_7_2 (k := 27) hx hb hts in_X7_readOne_7 hown hK hP (by decide) (by decide) (hts _ lk_X7_readOne_19) dX7_readOne_25 ?_
    refine fgN_6_1 (k := 24) hx hb hts in_X7_readOne_6 hown hK hP (by decide) (by decide) (hN.use nw_7_61) dX7_readOne_28 ?_
    have hr3 := rg_6_1 hR (k := 24) (by decide) (by decide)
    refine r_bipush hx hb dX7_readOne_31 (by decide) (fun z4 ez4 => ?_)
    refine r_icmp_ge (tgt := 42) hx hb dX7_readOne_33 (by decide) (fun c5 => ?_) (fun c5 => ?_)
    · refine lv_aload_n hx hb dX7_readOne_42 rfl (lv_at hl 1 rfl) ?_
      refine fg_7_0 (k := 27) hx hb hts in_X7_readOne_7 hown hK hP (by decide) (by decide) (hts _ lk_X7_readOne_9) dX7_readOne_43 ?_
      refine r_iconst hx hb dX7_readOne_46 (by decide) (fun z6 ez6 => ?_)
      refine r_cVi (k := 1) (As := [.int z6]) (rest := []) ⟨hx, hb, hml, hown, hts⟩ hK hP hN hS (c_X8_blame l D cA ad hI σ0 τ0 hR z6 (by omega)) (cwV 1 hts gX7_readOne_X8_blame rfl rfl rfl (by decide +kernel) ⟨by decide, by decide⟩) (rv_Tape hK hP (by decide) (by decide)) rfl hl.1 rfl (Nat.le_of_ble_eq_true rfl) dX7_readOne_47 (Nat.zero_le _) (Nat.zero_le _) (fun r7 u7 H7 locs7 hp7 hP hS => ?_)
      obtain ⟨σ7, τ7⟩ := u7
      obtain ⟨hR, f7, fL7, hq7⟩ : P_X8_blame σ0 τ0 z6 r7 σ7 τ7 := hp7
      have hP : va_P D vwCl (gw cA ad σ7 τ7) H7 := hP
      obtain rfl := FrL.nil fL7
      have hF := hF.step f7 (by decide)
      have t8 : (σ7 24 1).toInt = (σ0 24 1).toInt := congrArg Int32.toInt (f7.at 24 1 (by decide))
      exact r_zret hx hb hr hK hP hS hk (by omega) dX7_readOne_50 (show P_X7_readOne_d7 σ0 τ0 a1 r7 σ7 τ0 from ⟨hR, hF, hFL, by omega⟩)
    · refine lv_iload_n hx hb dX7_readOne_36 rfl (lv_at hl 2 rfl) ?_
      refine r_bipush hx hb dX7_readOne_37 (by decide) (fun z9 ez9 => ?_)
      refine r_icmp_le (tgt := 51) hx hb dX7_readOne_39 (by decide) (fun c10 => ?_) (fun c10 => ?_)
      · refine lv_aload_n hx hb dX7_readOne_51 rfl (lv_at hl 1 rfl) ?_
        refine fg_7_2 (k := 27) hx hb hts in_X7_readOne_7 hown hK hP (by decide) (by decide) (hts _ lk_X7_readOne_19) dX7_readOne_52 ?_
        refine lv_dup hx hb dX7_readOne_55 rfl ?_
        refine fgN_6_1 (k := 24) hx hb hts in_X7_readOne_6 hown hK hP (by decide) (by decide) (hN.use nw_7_61) dX7_readOne_56 ?_
        refine r_iconst hx hb dX7_readOne_59 (by decide) (fun z11 ez11 => ?_)
        refine r_iadd hx hb dX7_readOne_60 (by omega) (fun z12 ez12 => ?_)
        refine fpN_6_1 (k := 24) hx hb hts in_X7_readOne_6 hown hK hP (by decide) (by decide) (hN.use nw_7_61) hI hR hS (by omega) dX7_readOne_61 (fun σ13 H13 locs13 u13 v13 hR hP hS => ?_)
        have hF := hF.puts u13 4 rfl (by decide) (by decide) (by decide) (by decide)
        refine lv_aload_n hx hb dX7_readOne_64 rfl (lv_at hl 1 rfl) ?_
        refine fg_7_0 (k := 27) hx hb hts in_X7_readOne_7 hown hK hP (by decide) (by decide) (hts _ lk_X7_readOne_9) dX7_readOne_65 ?_
        refine r_cVv (k := 1) (As := []) (rest := []) ⟨hx, hb, hml, hown, hts⟩ hK hP hN hS (c_X8_next l D cA ad hI σ13 τ0 hR) (cwV 0 hts gX7_readOne_X8_next rfl rfl rfl (by decide +kernel) ⟨by decide, by decide⟩) (rv_Tape hK hP (by decide) (by decide)) rfl hl.1 rfl (Nat.le_of_ble_eq_true rfl) dX7_readOne_68 (Nat.zero_le _) (Nat.zero_le _) (fun u14 H14 locs14 hp14 hP hS => ?_)
        obtain ⟨σ14, τ14⟩ := u14
        obtain ⟨hR, f14, fL14⟩ : P_X8_next σ13 τ0 σ14 τ14 := hp14
        have hP : va_P D vwCl (gw cA ad σ14 τ14) H14 := hP
        have hFL := hFL.step fL14 (by decide)
        have hF := hF.step f14 (by decide)
        have t15 : (σ14 24 1).toInt = (σ13 24 1).toInt := congrArg Int32.toInt (f14.at 24 1 (by decide))
        refine lv_iload_n hx hb dX7_readOne_71 rfl (lv_at hl 0 rfl) ?_
        by_cases c16 : (σ0 1 9).toInt = 22
        · refine lv_tableIn (off := 108) (tgt := 180) hx hb dX7_readOne_72 (by omega) (by omega) (by rw [c16]; rfl) (by decide) ?_
          refine lv_aload_n hx hb dX7_readOne_180 rfl (lv_at hl 1 rfl) ?_
          refine lv_iload_n hx hb dX7_readOne_181 rfl (lv_at hl 2 rfl) ?_
          refine r_iconst hx hb dX7_readOne_182 (by decide) (fun z17 ez17 => ?_)
          refine r_iadd hx hb dX7_readOne_183 (by omega) (fun z18 ez18 => ?_)
          refine r_cVi (k := 27) (As := [.int z18]) (rest := []) ⟨hx, hb, hml, hown, hts⟩ hK hP hN hS (c_X7_readOne_d8 l D cA ad hI σ14 τ14 hR z18 (by omega)) (cwV 1 hts gX7_readOne_X7_readOne rfl rfl rfl (by decide +kernel) ⟨by decide, by decide⟩) (rv_SText hK hP (by decide) (by decide)) rfl hl.1 rfl (Nat.le_of_ble_eq_true rfl) dX7_readOne_184 (Nat.zero_le _) (Nat.zero_le _) (fun r19 u19 H19 locs19 hp19 hP hS => ?_)
          obtain ⟨σ19, τ19⟩ := u19
          obtain ⟨hR, f19, fL19, hq19⟩ : P_X7_readOne_d8 σ14 τ14 z18 r19 σ19 τ19 := hp19
          have hP : va_P D vwCl (gw cA ad σ19 τ19) H19 := hP
          have hFL := hFL.step fL19 (by decide)
          have hF := hF.step f19 (by decide)
          refine r_if_eq (tgt := 208) hx hb dX7_readOne_187 (by decide) (fun c20 => ?_) (fun c20 => ?_)
          · refine r_iconst hx hb dX7_readOne_208 (by decide) (fun z21 ez21 => ?_)
            exact r_zret hx hb hr hK hP hS hk (by omega) dX7_readOne_209 (show P_X7_readOne_d7 σ0 τ0 a1 z21 σ19 τ19 from ⟨hR, hF, hFL, by omega⟩)
          · refine lv_aload_n hx hb dX7_readOne_190 rfl (lv_at hl 1 rfl) ?_
            refine fg_7_2 (k := 27) hx hb hts in_X7_readOne_7 hown hK hP (by decide) (by decide) (hts _ lk_X7_readOne_19) dX7_readOne_191 ?_
            refine r_bipush hx hb dX7_readOne_194 (by decide) (fun z22 ez22 => ?_)
            refine r_iconst hx hb dX7_readOne_196 (by decide) (fun z23 ez23 => ?_)
            refine r_iconst hx hb dX7_readOne_197 (by decide) (fun z24 ez24 => ?_)
            refine r_cVi (k := 24) (As := [.int z22, .int z23, .int z24]) (rest := []) ⟨hx, hb, hml, hown, hts⟩ hK hP hN hS (c_X6_add l D cA ad hI σ19 τ19 hR z22 z23 z24 (by omega)) (cwV 3 hts gX7_readOne_X6_add rfl rfl rfl (by decide +kernel) ⟨by decide, by decide⟩) (rv_Sent hK hP (by decide) (by decide)) rfl hl.1 rfl (Nat.le_of_ble_eq_true rfl) dX7_readOne_198 (Nat.zero_le _) (Nat.zero_le _) (fun r25 u25 H25 locs25 hp25 hP hS => ?_)
            obtain ⟨σ25, τ25⟩ := u25
            obtain ⟨hR, f25, fL25, hq25⟩ : P_X6_add σ19 τ19 z22 z23 z24 r25 σ25 τ25 := hp25
            have hP : va_P D vwCl (gw cA ad σ25 τ25) H25 := hP
            obtain rfl := FrL.nil fL25
            have hF := hF.step f25 (by decide)
            refine r_if_eq (tgt := 208) hx hb dX7_readOne_201 (by decide) (fun c26 => ?_) (fun c26 => ?_)
            · refine r_iconst hx hb dX7_readOne_208 (by decide) (fun z27 ez27 => ?_)
              exact r_zret hx hb hr hK hP hS hk (by omega) dX7_readOne_209 (show P_X7_readOne_d7 σ0 τ0 a1 z27 σ25 τ19 from ⟨hR, hF, hFL, by omega⟩)
            · refine r_iconst hx hb dX7_readOne_204 (by decide) (fun z28 ez28 => ?_)
              refine lv_goto (tgt := 209) hx hb dX7_readOne_205 (by decide) ?_
              exact r_zret hx hb hr hK hP hS hk (by omega) dX7_readOne_209 (show P_X7_readOne_d7 σ0 τ0 a1 z28 σ25 τ19 from ⟨hR, hF, hFL, by omega⟩)
        by_cases c29 : (σ0 1 9).toInt = 23
        · refine lv_tableIn (off := 177) (tgt := 249) hx hb dX7_readOne_72 (by omega) (by omega) (by rw [c29]; rfl) (by decide) ?_
          refine lv_aload_n hx hb dX7_readOne_249 rfl (lv_at hl 1 rfl) ?_
          refine fg_7_2 (k := 27) hx hb hts in_X7_readOne_7 hown hK hP (by decide) (by decide) (hts _ lk_X7_readOne_19) dX7_readOne_250 ?_
          refine lv_iload_n hx hb dX7_readOne_253 rfl (lv_at hl 0 rfl) ?_
          refine r_bipush hx hb dX7_readOne_254 (by decide) (fun z30 ez30 => ?_)
          refine r_iconst hx hb dX7_readOne_256 (by decide) (fun z31 ez31 => ?_)
          refine r_cVi (k := 24) (As := [.int (σ0 1 9), .int z30, .int z31]) (rest := []) ⟨hx, hb, hml, hown, hts⟩ hK hP hN hS (c_X6_add l D cA ad hI σ14 τ14 hR (σ0 1 9) z30 z31 (by omega)) (cwV 3 hts gX7_readOne_X6_add rfl rfl rfl (by decide +kernel) ⟨by decide, by decide⟩) (rv_Sent hK hP (by decide) (by decide)) rfl hl.1 rfl (Nat.le_of_ble_eq_true rfl) dX7_readOne_257 (Nat.zero_le _) (Nat.zero_le _) (fun r32 u32 H32 locs32 hp32 hP hS => ?_)
          obtain ⟨σ32, τ32⟩ := u32
          obtain ⟨hR, f32, fL32, hq32⟩ : P_X6_add σ14 τ14 (σ0 1 9) z30 z31 r32 σ32 τ32 := hp32
          have hP : va_P D vwCl (gw cA ad σ32 τ32) H32 := hP
          obtain rfl := FrL.nil fL32
          have hF := hF.step f32 (by decide)
          have t33 : (σ32 24 1).toInt = (σ14 24 1).toInt := congrArg Int32.toInt (f32.at 24 1 (by decide))
          exact r_zret hx hb hr hK hP hS hk (by omega) dX7_readOne_260 (show P_X7_readOne_d7 σ0 τ0 a1 r32 σ32 τ14 from ⟨hR, hF, hFL, by omega⟩)
        by_cases c34 : (σ0 1 9).toInt = 24
        · refine lv_tableIn (off := 177) (tgt := 249) hx hb dX7_readOne_72 (by omega) (by omega) (by rw [c34]; rfl) (by decide) ?_
          refine lv_aload_n hx hb dX7_readOne_249 rfl (lv_at hl 1 rfl) ?_
          refine fg_7_2 (k := 27) hx hb hts in_X7_readOne_7 hown hK hP (by decide) (by decide) (hts _ lk_X7_readOne_19) dX7_readOne_250 ?_
          refine lv_iload_n hx hb dX7_readOne_253 rfl (lv_at hl 0 rfl) ?_
          refine r_bipush hx hb dX7_readOne_254 (by decide) (fun z35 ez35 => ?_)
          refine r_iconst hx hb dX7_readOne_256 (by decide) (fun z36 ez36 => ?_)
          refine r_cVi (k := 24) (As := [.int (σ0 1 9), .int z35, .int z36]) (rest := []) ⟨hx, hb, hml, hown, hts⟩ hK hP hN hS (c_X6_add l D cA ad hI σ14 τ14 hR (σ0 1 9) z35 z36 (by omega)) (cwV 3 hts gX7_readOne_X6_add rfl rfl rfl (by decide +kernel) ⟨by decide, by decide⟩) (rv_Sent hK hP (by decide) (by decide)) rfl hl.1 rfl (Nat.le_of_ble_eq_true rfl) dX7_readOne_257 (Nat.zero_le _) (Nat.zero_le _) (fun r37 u37 H37 locs37 hp37 hP hS => ?_)
          obtain ⟨σ37, τ37⟩ := u37
          obtain ⟨hR, f37, fL37, hq37⟩ : P_X6_add σ14 τ14 (σ0 1 9) z35 z36 r37 σ37 τ37 := hp37
          have hP : va_P D vwCl (gw cA ad σ37 τ37) H37 := hP
          obtain rfl := FrL.nil fL37
          have hF := hF.step f37 (by decide)
          have t38 : (σ37 24 1).toInt = (σ14 24 1).toInt := congrArg Int32.toInt (f37.at 24 1 (by decide))
          exact r_zret hx hb hr hK hP hS hk (by omega) dX7_readOne_260 (show P_X7_readOne_d7 σ0 τ0 a1 r37 σ37 τ14 from ⟨hR, hF, hFL, by omega⟩)
        by_cases c39 : (σ0 1 9).toInt = 25
        · refine lv_tableIn (off := 166) (tgt := 238) hx hb dX7_readOne_72 (by omega) (by omega) (by rw [c39]; rfl) (by decide) ?_
          refine lv_aload_n hx hb dX7_readOne_238 rfl (lv_at hl 1 rfl) ?_
          refine r_cVi (k := 27) (As := []) (rest := []) ⟨hx, hb, hml, hown, hts⟩ hK hP hN hS (c_X7_readOn l D cA ad hI σ14 τ14 hR) (cwV 0 hts gX7_readOne_X7_readOn rfl rfl rfl (by decide +kernel) ⟨by decide, by decide⟩) (rv_SText hK hP (by decide) (by decide)) rfl hl.1 rfl (Nat.le_of_ble_eq_true rfl) dX7_readOne_239 (Nat.zero_le _) (Nat.zero_le _) (fun r40 u40 H40 locs40 hp40 hP hS => ?_)
          obtain ⟨σ40, τ40⟩ := u40
          obtain ⟨hR, f40, fL40, hq40⟩ : P_X7_readOn σ14 τ14 r40 σ40 τ40 := hp40
          have hP : va_P D vwCl (gw cA ad σ40 τ40) H40 := hP
          have hFL := hFL.step fL40 (by decide)
          have hF := hF.step f40 (by decide)
          have t41 : (σ40 24 1).toInt = (σ14 24 1).toInt := congrArg Int32.toInt (f40.at 24 1 (by decide))
          exact r_zret hx hb hr hK hP hS hk (by omega) dX7_readOne_242 (show P_X7_readOne_d7 σ0 τ0 a1 r40 σ40 τ40 from ⟨hR, hF, hFL, by omega⟩)
        by_cases c42 : (σ0 1 9).toInt = 26
        · refine lv_tableIn (off := 177) (tgt := 249) hx hb dX7_readOne_72 (by omega) (by omega) (by rw [c42]; rfl) (by decide) ?_
          refine lv_aload_n hx hb dX7_readOne_249 rfl (lv_at hl 1 rfl) ?_
          refine fg_7_2 (k := 27) hx hb hts in_X7_readOne_7 hown hK hP (by decide) (by decide) (hts _ lk_X7_readOne_19) dX7_readOne_250 ?_
          refine lv_iload_n hx hb dX7_readOne_253 rfl (lv_at hl 0 rfl) ?_
          refine r_bipush hx hb dX7_readOne_254 (by decide) (fun z43 ez43 => ?_)
          refine r_iconst hx hb dX7_readOne_256 (by decide) (fun z44 ez44 => ?_)
          refine r_cVi (k := 24) (As := [.int (σ0 1 9), .int z43, .int z44]) (rest := []) ⟨hx, hb, hml, hown, hts⟩ hK hP hN hS (c_X6_add l D cA ad hI σ14 τ14 hR (σ0 1 9) z43 z44 (by omega)) (cwV 3 hts gX7_readOne_X6_add rfl rfl rfl (by decide +kernel) ⟨by decide, by decide⟩) (rv_Sent hK hP (by decide) (by decide)) rfl hl.1 rfl (Nat.le_of_ble_eq_true rfl) dX7_readOne_257 (Nat.zero_le _) (Nat.zero_le _) (fun r45 u45 H45 locs45 hp45 hP hS => ?_)
          obtain ⟨σ45, τ45⟩ := u45
          obtain ⟨hR, f45, fL45, hq45⟩ : P_X6_add σ14 τ14 (σ0 1 9) z43 z44 r45 σ45 τ45 := hp45
          have hP : va_P D vwCl (gw cA ad σ45 τ45) H45 := hP
          obtain rfl := FrL.nil fL45
          have hF := hF.step f45 (by decide)
          have t46 : (σ45 24 1).toInt = (σ14 24 1).toInt := congrArg Int32.toInt (f45.at 24 1 (by decide))
          exact r_zret hx hb hr hK hP hS hk (by omega) dX7_readOne_260 (show P_X7_readOne_d7 σ0 τ0 a1 r45 σ45 τ14 from ⟨hR, hF, hFL, by omega⟩)
        by_cases c47 : (σ0 1 9).toInt = 27
        · refine lv_tableIn (off := 171) (tgt := 243) hx hb dX7_readOne_72 (by omega) (by omega) (by rw [c47]; rfl) (by decide) ?_
          refine lv_aload_n hx hb dX7_readOne_243 rfl (lv_at hl 1 rfl) ?_
          refine lv_iload_n hx hb dX7_readOne_244 rfl (lv_at hl 0 rfl) ?_
          refine r_cVi (k := 27) (As := [.int (σ0 1 9)]) (rest := []) ⟨hx, hb, hml, hown, hts⟩ hK hP hN hS (c_X7_readMeasure l D cA ad hI σ14 τ14 hR (σ0 1 9) (by omega)) (cwV 1 hts gX7_readOne_X7_readMeasure rfl rfl rfl (by decide +kernel) ⟨by decide, by decide⟩) (rv_SText hK hP (by decide) (by decide)) rfl hl.1 rfl (Nat.le_of_ble_eq_true rfl) dX7_readOne_245 (Nat.zero_le _) (Nat.zero_le _) (fun r48 u48 H48 locs48 hp48 hP hS => ?_)
          obtain ⟨σ48, τ48⟩ := u48
          obtain ⟨hR, f48, fL48, hq48⟩ : P_X7_readMeasure σ14 τ14 (σ0 1 9) r48 σ48 τ48 := hp48
          have hP : va_P D vwCl (gw cA ad σ48 τ48) H48 := hP
          have hFL := hFL.step fL48 (by decide)
          have hF := hF.step f48 (by decide)
          have t49 : (σ48 24 1).toInt = (σ14 24 1).toInt := congrArg Int32.toInt (f48.at 24 1 (by decide))
          exact r_zret hx hb hr hK hP hS hk (by omega) dX7_readOne_248 (show P_X7_readOne_d7 σ0 τ0 a1 r48 σ48 τ48 from ⟨hR, hF, hFL, by omega⟩)
        by_cases c50 : (σ0 1 9).toInt = 28
        · refine lv_tableIn (off := 171) (tgt := 243) hx hb dX7_readOne_72 (by omega) (by omega) (by rw [c50]; rfl) (by decide) ?_
          refine lv_aload_n hx hb dX7_readOne_243 rfl (lv_at hl 1 rfl) ?_
          refine lv_iload_n hx hb dX7_readOne_244 rfl (lv_at hl 0 rfl) ?_
          refine r_cVi (k := 27) (As := [.int (σ0 1 9)]) (rest := []) ⟨hx, hb, hml, hown, hts⟩ hK hP hN hS (c_X7_readMeasure l D cA ad hI σ14 τ14 hR (σ0 1 9) (by omega)) (cwV 1 hts gX7_readOne_X7_readMeasure rfl rfl rfl (by decide +kernel) ⟨by decide, by decide⟩) (rv_SText hK hP (by decide) (by decide)) rfl hl.1 rfl (Nat.le_of_ble_eq_true rfl) dX7_readOne_245 (Nat.zero_le _) (Nat.zero_le _) (fun r51 u51 H51 locs51 hp51 hP hS => ?_)
          obtain ⟨σ51, τ51⟩ := u51
          obtain ⟨hR, f51, fL51, hq51⟩ : P_X7_readMeasure σ14 τ14 (σ0 1 9) r51 σ51 τ51 := hp51
          have hP : va_P D vwCl (gw cA ad σ51 τ51) H51 := hP
          have hFL := hFL.step fL51 (by decide)
          have hF := hF.step f51 (by decide)
          have t52 : (σ51 24 1).toInt = (σ14 24 1).toInt := congrArg Int32.toInt (f51.at 24 1 (by decide))
          exact r_zret hx hb hr hK hP hS hk (by omega) dX7_readOne_248 (show P_X7_readOne_d7 σ0 τ0 a1 r51 σ51 τ51 from ⟨hR, hF, hFL, by omega⟩)
        by_cases c53 : (σ0 1 9).toInt = 29
        · refine lv_tableIn (off := 171) (tgt := 243) hx hb dX7_readOne_72 (by omega) (by omega) (by rw [c53]; rfl) (by decide) ?_
          refine lv_aload_n hx hb dX7_readOne_243 rfl (lv_at hl 1 rfl) ?_
          refine lv_iload_n hx hb dX7_readOne_244 rfl (lv_at hl 0 rfl) ?_
          refine r_cVi (k := 27) (As := [.int (σ0 1 9)]) (rest := []) ⟨hx, hb, hml, hown, hts⟩ hK hP hN hS (c_X7_readMeasure l D cA ad hI σ14 τ14 hR (σ0 1 9) (by omega)) (cwV 1 hts gX7_readOne_X7_readMeasure rfl rfl rfl (by decide +kernel) ⟨by decide, by decide⟩) (rv_SText hK hP (by decide) (by decide)) rfl hl.1 rfl (Nat.le_of_ble_eq_true rfl) dX7_readOne_245 (Nat.zero_le _) (Nat.zero_le _) (fun r54 u54 H54 locs54 hp54 hP hS => ?_)
          obtain ⟨σ54, τ54⟩ := u54
          obtain ⟨hR, f54, fL54, hq54⟩ : P_X7_readMeasure σ14 τ14 (σ0 1 9) r54 σ54 τ54 := hp54
          have hP : va_P D vwCl (gw cA ad σ54 τ54) H54 := hP
          have hFL := hFL.step fL54 (by decide)
          have hF := hF.step f54 (by decide)
          have t55 : (σ54 24 1).toInt = (σ14 24 1).toInt := congrArg Int32.toInt (f54.at 24 1 (by decide))
          exact r_zret hx hb hr hK hP hS hk (by omega) dX7_readOne_248 (show P_X7_readOne_d7 σ0 τ0 a1 r54 σ54 τ54 from ⟨hR, hF, hFL, by omega⟩)
        by_cases c56 : (σ0 1 9).toInt = 30
        · refine lv_tableIn (off := 171) (tgt := 243) hx hb dX7_readOne_72 (by omega) (by omega) (by rw [c56]; rfl) (by decide) ?_
          refine lv_aload_n hx hb dX7_readOne_243 rfl (lv_at hl 1 rfl) ?_
          refine lv_iload_n hx hb dX7_readOne_244 rfl (lv_at hl 0 rfl) ?_
          refine r_cVi (k := 27) (As := [.int (σ0 1 9)]) (rest := []) ⟨hx, hb, hml, hown, hts⟩ hK hP hN hS (c_X7_readMeasure l D cA ad hI σ14 τ14 hR (σ0 1 9) (by omega)) (cwV 1 hts gX7_readOne_X7_readMeasure rfl rfl rfl (by decide +kernel) ⟨by decide, by decide⟩) (rv_SText hK hP (by decide) (by decide)) rfl hl.1 rfl (Nat.le_of_ble_eq_true rfl) dX7_readOne_245 (Nat.zero_le _) (Nat.zero_le _) (fun r57 u57 H57 locs57 hp57 hP hS => ?_)
          obtain ⟨σ57, τ57⟩ := u57
          obtain ⟨hR, f57, fL57, hq57⟩ : P_X7_readMeasure σ14 τ14 (σ0 1 9) r57 σ57 τ57 := hp57
          have hP : va_P D vwCl (gw cA ad σ57 τ57) H57 := hP
          have hFL := hFL.step fL57 (by decide)
          have hF := hF.step f57 (by decide)
          have t58 : (σ57 24 1).toInt = (σ14 24 1).toInt := congrArg Int32.toInt (f57.at 24 1 (by decide))
          exact r_zret hx hb hr hK hP hS hk (by omega) dX7_readOne_248 (show P_X7_readOne_d7 σ0 τ0 a1 r57 σ57 τ57 from ⟨hR, hF, hFL, by omega⟩)
        by_cases c59 : (σ0 1 9).toInt = 31
        · refine lv_tableIn (off := 177) (tgt := 249) hx hb dX7_readOne_72 (by omega) (by omega) (by rw [c59]; rfl) (by decide) ?_
          refine lv_aload_n hx hb dX7_readOne_249 rfl (lv_at hl 1 rfl) ?_
          refine fg_7_2 (k := 27) hx hb hts in_X7_readOne_7 hown hK hP (by decide) (by decide) (hts _ lk_X7_readOne_19) dX7_readOne_250 ?_
          refine lv_iload_n hx hb dX7_readOne_253 rfl (lv_at hl 0 rfl) ?_
          refine r_bipush hx hb dX7_readOne_254 (by decide) (fun z60 ez60 => ?_)
          refine r_iconst hx hb dX7_readOne_256 (by decide) (fun z61 ez61 => ?_)
          refine r_cVi (k := 24) (As := [.int (σ0 1 9), .int z60, .int z61]) (rest := []) ⟨hx, hb, hml, hown, hts⟩ hK hP hN hS (c_X6_add l D cA ad hI σ14 τ14 hR (σ0 1 9) z60 z61 (by omega)) (cwV 3 hts gX7_readOne_X6_add rfl rfl rfl (by decide +kernel) ⟨by decide, by decide⟩) (rv_Sent hK hP (by decide) (by decide)) rfl hl.1 rfl (Nat.le_of_ble_eq_true rfl) dX7_readOne_257 (Nat.zero_le _) (Nat.zero_le _) (fun r62 u62 H62 locs62 hp62 hP hS => ?_)
          obtain ⟨σ62, τ62⟩ := u62
          obtain ⟨hR, f62, fL62, hq62⟩ : P_X6_add σ14 τ14 (σ0 1 9) z60 z61 r62 σ62 τ62 := hp62
          have hP : va_P D vwCl (gw cA ad σ62 τ62) H62 := hP
          obtain rfl := FrL.nil fL62
          have hF := hF.step f62 (by decide)
          have t63 : (σ62 24 1).toInt = (σ14 24 1).toInt := congrArg Int32.toInt (f62.at 24 1 (by decide))
          exact r_zret hx hb hr hK hP hS hk (by omega) dX7_readOne_260 (show P_X7_readOne_d7 σ0 τ0 a1 r62 σ62 τ14 from ⟨hR, hF, hFL, by omega⟩)
        by_cases c64 : (σ0 1 9).toInt = 32
        · refine lv_tableIn (off := 177) (tgt := 249) hx hb dX7_readOne_72 (by omega) (by omega) (by rw [c64]; rfl) (by decide) ?_
          refine lv_aload_n hx hb dX7_readOne_249 rfl (lv_at hl 1 rfl) ?_
          refine fg_7_2 (k := 27) hx hb hts in_X7_readOne_7 hown hK hP (by decide) (by decide) (hts _ lk_X7_readOne_19) dX7_readOne_250 ?_
          refine lv_iload_n hx hb dX7_readOne_253 rfl (lv_at hl 0 rfl) ?_
          refine r_bipush hx hb dX7_readOne_254 (by decide) (fun z65 ez65 => ?_)
          refine r_iconst hx hb dX7_readOne_256 (by decide) (fun z66 ez66 => ?_)
          refine r_cVi (k := 24) (As := [.int (σ0 1 9), .int z65, .int z66]) (rest := []) ⟨hx, hb, hml, hown, hts⟩ hK hP hN hS (c_X6_add l D cA ad hI σ14 τ14 hR (σ0 1 9) z65 z66 (by omega)) (cwV 3 hts gX7_readOne_X6_add rfl rfl rfl (by decide +kernel) ⟨by decide, by decide⟩) (rv_Sent hK hP (by decide) (by decide)) rfl hl.1 rfl (Nat.le_of_ble_eq_true rfl) dX7_readOne_257 (Nat.zero_le _) (Nat.zero_le _) (fun r67 u67 H67 locs67 hp67 hP hS => ?_)
          obtain ⟨σ67, τ67⟩ := u67
          obtain ⟨hR, f67, fL67, hq67⟩ : P_X6_add σ14 τ14 (σ0 1 9) z65 z66 r67 σ67 τ67 := hp67
          have hP : va_P D vwCl (gw cA ad σ67 τ67) H67 := hP
          obtain rfl := FrL.nil fL67
          have hF := hF.step f67 (by decide)
          have t68 : (σ67 24 1).toInt = (σ14 24 1).toInt := congrArg Int32.toInt (f67.at 24 1 (by decide))
          exact r_zret hx hb hr hK hP hS hk (by omega) dX7_readOne_260 (show P_X7_readOne_d7 σ0 τ0 a1 r67 σ67 τ14 from ⟨hR, hF, hFL, by omega⟩)
        by_cases c69 : (σ0 1 9).toInt = 33
        · refine lv_tableIn (off := 177) (tgt := 249) hx hb dX7_readOne_72 (by omega) (by omega) (by rw [c69]; rfl) (by decide) ?_
          refine lv_aload_n hx hb dX7_readOne_249 rfl (lv_at hl 1 rfl) ?_
          refine fg_7_2 (k := 27) hx hb hts in_X7_readOne_7 hown hK hP (by decide) (by decide) (hts _ lk_X7_readOne_19) dX7_readOne_250 ?_
          refine lv_iload_n hx hb dX7_readOne_253 rfl (lv_at hl 0 rfl) ?_
          refine r_bipush hx hb dX7_readOne_254 (by decide) (fun z70 ez70 => ?_)
          refine r_iconst hx hb dX7_readOne_256 (by decide) (fun z71 ez71 => ?_)
          refine r_cVi (k := 24) (As := [.int (σ0 1 9), .int z70, .int z71]) (rest := []) ⟨hx, hb, hml, hown, hts⟩ hK hP hN hS (c_X6_add l D cA ad hI σ14 τ14 hR (σ0 1 9) z70 z71 (by omega)) (cwV 3 hts gX7_readOne_X6_add rfl rfl rfl (by decide +kernel) ⟨by decide, by decide⟩) (rv_Sent hK hP (by decide) (by decide)) rfl hl.1 rfl (Nat.le_of_ble_eq_true rfl) dX7_readOne_257 (Nat.zero_le _) (Nat.zero_le _) (fun r72 u72 H72 locs72 hp72 hP hS => ?_)
          obtain ⟨σ72, τ72⟩ := u72
          obtain ⟨hR, f72, fL72, hq72⟩ : P_X6_add σ14 τ14 (σ0 1 9) z70 z71 r72 σ72 τ72 := hp72
          have hP : va_P D vwCl (gw cA ad σ72 τ72) H72 := hP
          obtain rfl := FrL.nil fL72
          have hF := hF.step f72 (by decide)
          have t73 : (σ72 24 1).toInt = (σ14 24 1).toInt := congrArg Int32.toInt (f72.at 24 1 (by decide))
          exact r_zret hx hb hr hK hP hS hk (by omega) dX7_readOne_260 (show P_X7_readOne_d7 σ0 τ0 a1 r72 σ72 τ14 from ⟨hR, hF, hFL, by omega⟩)
        by_cases c74 : (σ0 1 9).toInt = 34
        · refine lv_tableIn (off := 177) (tgt := 249) hx hb dX7_readOne_72 (by omega) (by omega) (by rw [c74]; rfl) (by decide) ?_
          refine lv_aload_n hx hb dX7_readOne_249 rfl (lv_at hl 1 rfl) ?_
          refine fg_7_2 (k := 27) hx hb hts in_X7_readOne_7 hown hK hP (by decide) (by decide) (hts _ lk_X7_readOne_19) dX7_readOne_250 ?_
          refine lv_iload_n hx hb dX7_readOne_253 rfl (lv_at hl 0 rfl) ?_
          refine r_bipush hx hb dX7_readOne_254 (by decide) (fun z75 ez75 => ?_)
          refine r_iconst hx hb dX7_readOne_256 (by decide) (fun z76 ez76 => ?_)
          refine r_cVi (k := 24) (As := [.int (σ0 1 9), .int z75, .int z76]) (rest := []) ⟨hx, hb, hml, hown, hts⟩ hK hP hN hS (c_X6_add l D cA ad hI σ14 τ14 hR (σ0 1 9) z75 z76 (by omega)) (cwV 3 hts gX7_readOne_X6_add rfl rfl rfl (by decide +kernel) ⟨by decide, by decide⟩) (rv_Sent hK hP (by decide) (by decide)) rfl hl.1 rfl (Nat.le_of_ble_eq_true rfl) dX7_readOne_257 (Nat.zero_le _) (Nat.zero_le _) (fun r77 u77 H77 locs77 hp77 hP hS => ?_)
          obtain ⟨σ77, τ77⟩ := u77
          obtain ⟨hR, f77, fL77, hq77⟩ : P_X6_add σ14 τ14 (σ0 1 9) z75 z76 r77 σ77 τ77 := hp77
          have hP : va_P D vwCl (gw cA ad σ77 τ77) H77 := hP
          obtain rfl := FrL.nil fL77
          have hF := hF.step f77 (by decide)
          have t78 : (σ77 24 1).toInt = (σ14 24 1).toInt := congrArg Int32.toInt (f77.at 24 1 (by decide))
          exact r_zret hx hb hr hK hP hS hk (by omega) dX7_readOne_260 (show P_X7_readOne_d7 σ0 τ0 a1 r77 σ77 τ14 from ⟨hR, hF, hFL, by omega⟩)
        by_cases c79 : (σ0 1 9).toInt = 35
        · refine lv_tableIn (off := 177) (tgt := 249) hx hb dX7_readOne_72 (by omega) (by omega) (by rw [c79]; rfl) (by decide) ?_
          refine lv_aload_n hx hb dX7_readOne_249 rfl (lv_at hl 1 rfl) ?_
          refine fg_7_2 (k := 27) hx hb hts in_X7_readOne_7 hown hK hP (by decide) (by decide) (hts _ lk_X7_readOne_19) dX7_readOne_250 ?_
          refine lv_iload_n hx hb dX7_readOne_253 rfl (lv_at hl 0 rfl) ?_
          refine r_bipush hx hb dX7_readOne_254 (by decide) (fun z80 ez80 => ?_)
          refine r_iconst hx hb dX7_readOne_256 (by decide) (fun z81 ez81 => ?_)
          refine r_cVi (k := 24) (As := [.int (σ0 1 9), .int z80, .int z81]) (rest := []) ⟨hx, hb, hml, hown, hts⟩ hK hP hN hS (c_X6_add l D cA ad hI σ14 τ14 hR (σ0 1 9) z80 z81 (by omega)) (cwV 3 hts gX7_readOne_X6_add rfl rfl rfl (by decide +kernel) ⟨by decide, by decide⟩) (rv_Sent hK hP (by decide) (by decide)) rfl hl.1 rfl (Nat.le_of_ble_eq_true rfl) dX7_readOne_257 (Nat.zero_le _) (Nat.zero_le _) (fun r82 u82 H82 locs82 hp82 hP hS => ?_)
          obtain ⟨σ82, τ82⟩ := u82
          obtain ⟨hR, f82, fL82, hq82⟩ : P_X6_add σ14 τ14 (σ0 1 9) z80 z81 r82 σ82 τ82 := hp82
          have hP : va_P D vwCl (gw cA ad σ82 τ82) H82 := hP
          obtain rfl := FrL.nil fL82
          have hF := hF.step f82 (by decide)
          have t83 : (σ82 24 1).toInt = (σ14 24 1).toInt := congrArg Int32.toInt (f82.at 24 1 (by decide))
          exact r_zret hx hb hr hK hP hS hk (by omega) dX7_readOne_260 (show P_X7_readOne_d7 σ0 τ0 a1 r82 σ82 τ14 from ⟨hR, hF, hFL, by omega⟩)
        by_cases c84 : (σ0 1 9).toInt = 36
        · refine lv_tableIn (off := 177) (tgt := 249) hx hb dX7_readOne_72 (by omega) (by omega) (by rw [c84]; rfl) (by decide) ?_
          refine lv_aload_n hx hb dX7_readOne_249 rfl (lv_at hl 1 rfl) ?_
          refine fg_7_2 (k := 27) hx hb hts in_X7_readOne_7 hown hK hP (by decide) (by decide) (hts _ lk_X7_readOne_19) dX7_readOne_250 ?_
          refine lv_iload_n hx hb dX7_readOne_253 rfl (lv_at hl 0 rfl) ?_
          refine r_bipush hx hb dX7_readOne_254 (by decide) (fun z85 ez85 => ?_)
          refine r_iconst hx hb dX7_readOne_256 (by decide) (fun z86 ez86 => ?_)
          refine r_cVi (k := 24) (As := [.int (σ0 1 9), .int z85, .int z86]) (rest := []) ⟨hx, hb, hml, hown, hts⟩ hK hP hN hS (c_X6_add l D cA ad hI σ14 τ14 hR (σ0 1 9) z85 z86 (by omega)) (cwV 3 hts gX7_readOne_X6_add rfl rfl rfl (by decide +kernel) ⟨by decide, by decide⟩) (rv_Sent hK hP (by decide) (by decide)) rfl hl.1 rfl (Nat.le_of_ble_eq_true rfl) dX7_readOne_257 (Nat.zero_le _) (Nat.zero_le _) (fun r87 u87 H87 locs87 hp87 hP hS => ?_)
          obtain ⟨σ87, τ87⟩ := u87
          obtain ⟨hR, f87, fL87, hq87⟩ : P_X6_add σ14 τ14 (σ0 1 9) z85 z86 r87 σ87 τ87 := hp87
          have hP : va_P D vwCl (gw cA ad σ87 τ87) H87 := hP
          obtain rfl := FrL.nil fL87
          have hF := hF.step f87 (by decide)
          have t88 : (σ87 24 1).toInt = (σ14 24 1).toInt := congrArg Int32.toInt (f87.at 24 1 (by decide))
          exact r_zret hx hb hr hK hP hS hk (by omega) dX7_readOne_260 (show P_X7_readOne_d7 σ0 τ0 a1 r87 σ87 τ14 from ⟨hR, hF, hFL, by omega⟩)
        by_cases c89 : (σ0 1 9).toInt = 37
        · refine lv_tableIn (off := 177) (tgt := 249) hx hb dX7_readOne_72 (by omega) (by omega) (by rw [c89]; rfl) (by decide) ?_
          refine lv_aload_n hx hb dX7_readOne_249 rfl (lv_at hl 1 rfl) ?_
          refine fg_7_2 (k := 27) hx hb hts in_X7_readOne_7 hown hK hP (by decide) (by decide) (hts _ lk_X7_readOne_19) dX7_readOne_250 ?_
          refine lv_iload_n hx hb dX7_readOne_253 rfl (lv_at hl 0 rfl) ?_
          refine r_bipush hx hb dX7_readOne_254 (by decide) (fun z90 ez90 => ?_)
          refine r_iconst hx hb dX7_readOne_256 (by decide) (fun z91 ez91 => ?_)
          refine r_cVi (k := 24) (As := [.int (σ0 1 9), .int z90, .int z91]) (rest := []) ⟨hx, hb, hml, hown, hts⟩ hK hP hN hS (c_X6_add l D cA ad hI σ14 τ14 hR (σ0 1 9) z90 z91 (by omega)) (cwV 3 hts gX7_readOne_X6_add rfl rfl rfl (by decide +kernel) ⟨by decide, by decide⟩) (rv_Sent hK hP (by decide) (by decide)) rfl hl.1 rfl (Nat.le_of_ble_eq_true rfl) dX7_readOne_257 (Nat.zero_le _) (Nat.zero_le _) (fun r92 u92 H92 locs92 hp92 hP hS => ?_)
          obtain ⟨σ92, τ92⟩ := u92
          obtain ⟨hR, f92, fL92, hq92⟩ : P_X6_add σ14 τ14 (σ0 1 9) z90 z91 r92 σ92 τ92 := hp92
          have hP : va_P D vwCl (gw cA ad σ92 τ92) H92 := hP
          obtain rfl := FrL.nil fL92
          have hF := hF.step f92 (by decide)
          have t93 : (σ92 24 1).toInt = (σ14 24 1).toInt := congrArg Int32.toInt (f92.at 24 1 (by decide))
          exact r_zret hx hb hr hK hP hS hk (by omega) dX7_readOne_260 (show P_X7_readOne_d7 σ0 τ0 a1 r92 σ92 τ14 from ⟨hR, hF, hFL, by omega⟩)
        by_cases c94 : (σ0 1 9).toInt = 38
        · refine lv_tableIn (off := 177) (tgt := 249) hx hb dX7_readOne_72 (by omega) (by omega) (by rw [c94]; rfl) (by decide) ?_
          refine lv_aload_n hx hb dX7_readOne_249 rfl (lv_at hl 1 rfl) ?_
          refine fg_7_2 (k := 27) hx hb hts in_X7_readOne_7 hown hK hP (by decide) (by decide) (hts _ lk_X7_readOne_19) dX7_readOne_250 ?_
          refine lv_iload_n hx hb dX7_readOne_253 rfl (lv_at hl 0 rfl) ?_
          refine r_bipush hx hb dX7_readOne_254 (by decide) (fun z95 ez95 => ?_)
          refine r_iconst hx hb dX7_readOne_256 (by decide) (fun z96 ez96 => ?_)
          refine r_cVi (k := 24) (As := [.int (σ0 1 9), .int z95, .int z96]) (rest := []) ⟨hx, hb, hml, hown, hts⟩ hK hP hN hS (c_X6_add l D cA ad hI σ14 τ14 hR (σ0 1 9) z95 z96 (by omega)) (cwV 3 hts gX7_readOne_X6_add rfl rfl rfl (by decide +kernel) ⟨by decide, by decide⟩) (rv_Sent hK hP (by decide) (by decide)) rfl hl.1 rfl (Nat.le_of_ble_eq_true rfl) dX7_readOne_257 (Nat.zero_le _) (Nat.zero_le _) (fun r97 u97 H97 locs97 hp97 hP hS => ?_)
          obtain ⟨σ97, τ97⟩ := u97
          obtain ⟨hR, f97, fL97, hq97⟩ : P_X6_add σ14 τ14 (σ0 1 9) z95 z96 r97 σ97 τ97 := hp97
          have hP : va_P D vwCl (gw cA ad σ97 τ97) H97 := hP
          obtain rfl := FrL.nil fL97
          have hF := hF.step f97 (by decide)
          have t98 : (σ97 24 1).toInt = (σ14 24 1).toInt := congrArg Int32.toInt (f97.at 24 1 (by decide))
          exact r_zret hx hb hr hK hP hS hk (by omega) dX7_readOne_260 (show P_X7_readOne_d7 σ0 τ0 a1 r97 σ97 τ14 from ⟨hR, hF, hFL, by omega⟩)
        by_cases c99 : (σ0 1 9).toInt = 39
        · refine lv_tableIn (off := 177) (tgt := 249) hx hb dX7_readOne_72 (by omega) (by omega) (by rw [c99]; rfl) (by decide) ?_
          refine lv_aload_n hx hb dX7_readOne_249 rfl (lv_at hl 1 rfl) ?_
          refine fg_7_2 (k := 27) hx hb hts in_X7_readOne_7 hown hK hP (by decide) (by decide) (hts _ lk_X7_readOne_19) dX7_readOne_250 ?_
          refine lv_iload_n hx hb dX7_readOne_253 rfl (lv_at hl 0 rfl) ?_
          refine r_bipush hx hb dX7_readOne_254 (by decide) (fun z100 ez100 => ?_)
          refine r_iconst hx hb dX7_readOne_256 (by decide) (fun z101 ez101 => ?_)
          refine r_cVi (k := 24) (As := [.int (σ0 1 9), .int z100, .int z101]) (rest := []) ⟨hx, hb, hml, hown, hts⟩ hK hP hN hS (c_X6_add l D cA ad hI σ14 τ14 hR (σ0 1 9) z100 z101 (by omega)) (cwV 3 hts gX7_readOne_X6_add rfl rfl rfl (by decide +kernel) ⟨by decide, by decide⟩) (rv_Sent hK hP (by decide) (by decide)) rfl hl.1 rfl (Nat.le_of_ble_eq_true rfl) dX7_readOne_257 (Nat.zero_le _) (Nat.zero_le _) (fun r102 u102 H102 locs102 hp102 hP hS => ?_)
          obtain ⟨σ102, τ102⟩ := u102
          obtain ⟨hR, f102, fL102, hq102⟩ : P_X6_add σ14 τ14 (σ0 1 9) z100 z101 r102 σ102 τ102 := hp102
          have hP : va_P D vwCl (gw cA ad σ102 τ102) H102 := hP
          obtain rfl := FrL.nil fL102
          have hF := hF.step f102 (by decide)
          have t103 : (σ102 24 1).toInt = (σ14 24 1).toInt := congrArg Int32.toInt (f102.at 24 1 (by decide))
          exact r_zret hx hb hr hK hP hS hk (by omega) dX7_readOne_260 (show P_X7_readOne_d7 σ0 τ0 a1 r102 σ102 τ14 from ⟨hR, hF, hFL, by omega⟩)
        by_cases c104 : (σ0 1 9).toInt = 40
        · refine lv_tableIn (off := 177) (tgt := 249) hx hb dX7_readOne_72 (by omega) (by omega) (by rw [c104]; rfl) (by decide) ?_
          refine lv_aload_n hx hb dX7_readOne_249 rfl (lv_at hl 1 rfl) ?_
          refine fg_7_2 (k := 27) hx hb hts in_X7_readOne_7 hown hK hP (by decide) (by decide) (hts _ lk_X7_readOne_19) dX7_readOne_250 ?_
          refine lv_iload_n hx hb dX7_readOne_253 rfl (lv_at hl 0 rfl) ?_
          refine r_bipush hx hb dX7_readOne_254 (by decide) (fun z105 ez105 => ?_)
          refine r_iconst hx hb dX7_readOne_256 (by decide) (fun z106 ez106 => ?_)
          refine r_cVi (k := 24) (As := [.int (σ0 1 9), .int z105, .int z106]) (rest := []) ⟨hx, hb, hml, hown, hts⟩ hK hP hN hS (c_X6_add l D cA ad hI σ14 τ14 hR (σ0 1 9) z105 z106 (by omega)) (cwV 3 hts gX7_readOne_X6_add rfl rfl rfl (by decide +kernel) ⟨by decide, by decide⟩) (rv_Sent hK hP (by decide) (by decide)) rfl hl.1 rfl (Nat.le_of_ble_eq_true rfl) dX7_readOne_257 (Nat.zero_le _) (Nat.zero_le _) (fun r107 u107 H107 locs107 hp107 hP hS => ?_)
          obtain ⟨σ107, τ107⟩ := u107
          obtain ⟨hR, f107, fL107, hq107⟩ : P_X6_add σ14 τ14 (σ0 1 9) z105 z106 r107 σ107 τ107 := hp107
          have hP : va_P D vwCl (gw cA ad σ107 τ107) H107 := hP
          obtain rfl := FrL.nil fL107
          have hF := hF.step f107 (by decide)
          have t108 : (σ107 24 1).toInt = (σ14 24 1).toInt := congrArg Int32.toInt (f107.at 24 1 (by decide))
          exact r_zret hx hb hr hK hP hS hk (by omega) dX7_readOne_260 (show P_X7_readOne_d7 σ0 τ0 a1 r107 σ107 τ14 from ⟨hR, hF, hFL, by omega⟩)
        by_cases c109 : (σ0 1 9).toInt = 41
        · refine lv_tableIn (off := 177) (tgt := 249) hx hb dX7_readOne_72 (by omega) (by omega) (by rw [c109]; rfl) (by decide) ?_
          refine lv_aload_n hx hb dX7_readOne_249 rfl (lv_at hl 1 rfl) ?_
          refine fg_7_2 (k := 27) hx hb hts in_X7_readOne_7 hown hK hP (by decide) (by decide) (hts _ lk_X7_readOne_19) dX7_readOne_250 ?_
          refine lv_iload_n hx hb dX7_readOne_253 rfl (lv_at hl 0 rfl) ?_
          refine r_bipush hx hb dX7_readOne_254 (by decide) (fun z110 ez110 => ?_)
          refine r_iconst hx hb dX7_readOne_256 (by decide) (fun z111 ez111 => ?_)
          refine r_cVi (k := 24) (As := [.int (σ0 1 9), .int z110, .int z111]) (rest := []) ⟨hx, hb, hml, hown, hts⟩ hK hP hN hS (c_X6_add l D cA ad hI σ14 τ14 hR (σ0 1 9) z110 z111 (by omega)) (cwV 3 hts gX7_readOne_X6_add rfl rfl rfl (by decide +kernel) ⟨by decide, by decide⟩) (rv_Sent hK hP (by decide) (by decide)) rfl hl.1 rfl (Nat.le_of_ble_eq_true rfl) dX7_readOne_257 (Nat.zero_le _) (Nat.zero_le _) (fun r112 u112 H112 locs112 hp112 hP hS => ?_)
          obtain ⟨σ112, τ112⟩ := u112
          obtain ⟨hR, f112, fL112, hq112⟩ : P_X6_add σ14 τ14 (σ0 1 9) z110 z111 r112 σ112 τ112 := hp112
          have hP : va_P D vwCl (gw cA ad σ112 τ112) H112 := hP
          obtain rfl := FrL.nil fL112
          have hF := hF.step f112 (by decide)
          have t113 : (σ112 24 1).toInt = (σ14 24 1).toInt := congrArg Int32.toInt (f112.at 24 1 (by decide))
          exact r_zret hx hb hr hK hP hS hk (by omega) dX7_readOne_260 (show P_X7_readOne_d7 σ0 τ0 a1 r112 σ112 τ14 from ⟨hR, hF, hFL, by omega⟩)
        by_cases c114 : (σ0 1 9).toInt = 42
        · refine lv_tableIn (off := 177) (tgt := 249) hx hb dX7_readOne_72 (by omega) (by omega) (by rw [c114]; rfl) (by decide) ?_
          refine lv_aload_n hx hb dX7_readOne_249 rfl (lv_at hl 1 rfl) ?_
          refine fg_7_2 (k := 27) hx hb hts in_X7_readOne_7 hown hK hP (by decide) (by decide) (hts _ lk_X7_readOne_19) dX7_readOne_250 ?_
          refine lv_iload_n hx hb dX7_readOne_253 rfl (lv_at hl 0 rfl) ?_
          refine r_bipush hx hb dX7_readOne_254 (by decide) (fun z115 ez115 => ?_)
          refine r_iconst hx hb dX7_readOne_256 (by decide) (fun z116 ez116 => ?_)
          refine r_cVi (k := 24) (As := [.int (σ0 1 9), .int z115, .int z116]) (rest := []) ⟨hx, hb, hml, hown, hts⟩ hK hP hN hS (c_X6_add l D cA ad hI σ14 τ14 hR (σ0 1 9) z115 z116 (by omega)) (cwV 3 hts gX7_readOne_X6_add rfl rfl rfl (by decide +kernel) ⟨by decide, by decide⟩) (rv_Sent hK hP (by decide) (by decide)) rfl hl.1 rfl (Nat.le_of_ble_eq_true rfl) dX7_readOne_257 (Nat.zero_le _) (Nat.zero_le _) (fun r117 u117 H117 locs117 hp117 hP hS => ?_)
          obtain ⟨σ117, τ117⟩ := u117
          obtain ⟨hR, f117, fL117, hq117⟩ : P_X6_add σ14 τ14 (σ0 1 9) z115 z116 r117 σ117 τ117 := hp117
          have hP : va_P D vwCl (gw cA ad σ117 τ117) H117 := hP
          obtain rfl := FrL.nil fL117
          have hF := hF.step f117 (by decide)
          have t118 : (σ117 24 1).toInt = (σ14 24 1).toInt := congrArg Int32.toInt (f117.at 24 1 (by decide))
          exact r_zret hx hb hr hK hP hS hk (by omega) dX7_readOne_260 (show P_X7_readOne_d7 σ0 τ0 a1 r117 σ117 τ14 from ⟨hR, hF, hFL, by omega⟩)
        by_cases c119 : (σ0 1 9).toInt = 43
        · refine lv_tableIn (off := 177) (tgt := 249) hx hb dX7_readOne_72 (by omega) (by omega) (by rw [c119]; rfl) (by decide) ?_
          refine lv_aload_n hx hb dX7_readOne_249 rfl (lv_at hl 1 rfl) ?_
          refine fg_7_2 (k := 27) hx hb hts in_X7_readOne_7 hown hK hP (by decide) (by decide) (hts _ lk_X7_readOne_19) dX7_readOne_250 ?_
          refine lv_iload_n hx hb dX7_readOne_253 rfl (lv_at hl 0 rfl) ?_
          refine r_bipush hx hb dX7_readOne_254 (by decide) (fun z120 ez120 => ?_)
          refine r_iconst hx hb dX7_readOne_256 (by decide) (fun z121 ez121 => ?_)
          refine r_cVi (k := 24) (As := [.int (σ0 1 9), .int z120, .int z121]) (rest := []) ⟨hx, hb, hml, hown, hts⟩ hK hP hN hS (c_X6_add l D cA ad hI σ14 τ14 hR (σ0 1 9) z120 z121 (by omega)) (cwV 3 hts gX7_readOne_X6_add rfl rfl rfl (by decide +kernel) ⟨by decide, by decide⟩) (rv_Sent hK hP (by decide) (by decide)) rfl hl.1 rfl (Nat.le_of_ble_eq_true rfl) dX7_readOne_257 (Nat.zero_le _) (Nat.zero_le _) (fun r122 u122 H122 locs122 hp122 hP hS => ?_)
          obtain ⟨σ122, τ122⟩ := u122
          obtain ⟨hR, f122, fL122, hq122⟩ : P_X6_add σ14 τ14 (σ0 1 9) z120 z121 r122 σ122 τ122 := hp122
          have hP : va_P D vwCl (gw cA ad σ122 τ122) H122 := hP
          obtain rfl := FrL.nil fL122
          have hF := hF.step f122 (by decide)
          have t123 : (σ122 24 1).toInt = (σ14 24 1).toInt := congrArg Int32.toInt (f122.at 24 1 (by decide))
          exact r_zret hx hb hr hK hP hS hk (by omega) dX7_readOne_260 (show P_X7_readOne_d7 σ0 τ0 a1 r122 σ122 τ14 from ⟨hR, hF, hFL, by omega⟩)
        by_cases c124 : (σ0 1 9).toInt = 44
        · refine lv_tableIn (off := 138) (tgt := 210) hx hb dX7_readOne_72 (by omega) (by omega) (by rw [c124]; rfl) (by decide) ?_
          refine lv_aload_n hx hb dX7_readOne_210 rfl (lv_at hl 1 rfl) ?_
          refine lv_iload_n hx hb dX7_readOne_211 rfl (lv_at hl 2 rfl) ?_
          refine r_iconst hx hb dX7_readOne_212 (by decide) (fun z125 ez125 => ?_)
          refine r_iadd hx hb dX7_readOne_213 (by omega) (fun z126 ez126 => ?_)
          refine r_cVi (k := 27) (As := [.int z126]) (rest := []) ⟨hx, hb, hml, hown, hts⟩ hK hP hN hS (c_X7_readCond_d8 l D cA ad hI σ14 τ14 hR z126 (by omega)) (cwV 1 hts gX7_readOne_X7_readCond rfl rfl rfl (by decide +kernel) ⟨by decide, by decide⟩) (rv_SText hK hP (by decide) (by decide)) rfl hl.1 rfl (Nat.le_of_ble_eq_true rfl) dX7_readOne_214 (Nat.zero_le _) (Nat.zero_le _) (fun r127 u127 H127 locs127 hp127 hP hS => ?_)
          obtain ⟨σ127, τ127⟩ := u127
          obtain ⟨hR, f127, fL127, hq127⟩ : P_X7_readCond_d8 σ14 τ14 z126 r127 σ127 τ127 := hp127
          have hP : va_P D vwCl (gw cA ad σ127 τ127) H127 := hP
          have hFL := hFL.step fL127 (by decide)
          have hF := hF.step f127 (by decide)
          refine r_if_eq (tgt := 236) hx hb dX7_readOne_217 (by decide) (fun c128 => ?_) (fun c128 => ?_)
          · refine r_iconst hx hb dX7_readOne_236 (by decide) (fun z129 ez129 => ?_)
            exact r_zret hx hb hr hK hP hS hk (by omega) dX7_readOne_237 (show P_X7_readOne_d7 σ0 τ0 a1 z129 σ127 τ127 from ⟨hR, hF, hFL, by omega⟩)
          · refine lv_aload_n hx hb dX7_readOne_220 rfl (lv_at hl 1 rfl) ?_
            refine fg_7_0 (k := 27) hx hb hts in_X7_readOne_7 hown hK hP (by decide) (by decide) (hts _ lk_X7_readOne_9) dX7_readOne_221 ?_
            refine r_bipush hx hb dX7_readOne_224 (by decide) (fun z130 ez130 => ?_)
            refine r_cVi (k := 1) (As := [.int z130]) (rest := []) ⟨hx, hb, hml, hown, hts⟩ hK hP hN hS (c_X8_take l D cA ad hI σ127 τ127 hR z130 (by omega)) (cwV 1 hts gX7_readOne_X8_take rfl rfl rfl (by decide +kernel) ⟨by decide, by decide⟩) (rv_Tape hK hP (by decide) (by decide)) rfl hl.1 rfl (Nat.le_of_ble_eq_true rfl) dX7_readOne_226 (Nat.zero_le _) (Nat.zero_le _) (fun r131 u131 H131 locs131 hp131 hP hS => ?_)
            obtain ⟨σ131, τ131⟩ := u131
            obtain ⟨hR, f131, fL131, hq131⟩ : P_X8_take σ127 τ127 z130 r131 σ131 τ131 := hp131
            have hP : va_P D vwCl (gw cA ad σ131 τ131) H131 := hP
            have hFL := hFL.step fL131 (by decide)
            have hF := hF.step f131 (by decide)
            refine r_if_eq (tgt := 236) hx hb dX7_readOne_229 (by decide) (fun c132 => ?_) (fun c132 => ?_)
            · refine r_iconst hx hb dX7_readOne_236 (by decide) (fun z133 ez133 => ?_)
              exact r_zret hx hb hr hK hP hS hk (by omega) dX7_readOne_237 (show P_X7_readOne_d7 σ0 τ0 a1 z133 σ131 τ131 from ⟨hR, hF, hFL, by omega⟩)
            · refine r_iconst hx hb dX7_readOne_232 (by decide) (fun z134 ez134 => ?_)
              refine lv_goto (tgt := 237) hx hb dX7_readOne_233 (by decide) ?_
              exact r_zret hx hb hr hK hP hS hk (by omega) dX7_readOne_237 (show P_X7_readOne_d7 σ0 τ0 a1 z134 σ131 τ131 from ⟨hR, hF, hFL, by omega⟩)
        refine lv_tableOut (tgt := 249) hx hb dX7_readOne_72 (by omega) (by decide) ?_
        refine lv_aload_n hx hb dX7_readOne_249 rfl (lv_at hl 1 rfl) ?_
        refine fg_7_2 (k := 27) hx hb hts in_X7_readOne_7 hown hK hP (by decide) (by decide) (hts _ lk_X7_readOne_19) dX7_readOne_250 ?_
        refine lv_iload_n hx hb dX7_readOne_253 rfl (lv_at hl 0 rfl) ?_
        refine r_bipush hx hb dX7_readOne_254 (by decide) (fun z135 ez135 => ?_)
        refine r_iconst hx hb dX7_readOne_256 (by decide) (fun z136 ez136 => ?_)
        refine r_cVi (k := 24) (As := [.int (σ0 1 9), .int z135, .int z136]) (rest := []) ⟨hx, hb, hml, hown, hts⟩ hK hP hN hS (c_X6_add l D cA ad hI σ14 τ14 hR (σ0 1 9) z135 z136 (by omega)) (cwV 3 hts gX7_readOne_X6_add rfl rfl rfl (by decide +kernel) ⟨by decide, by decide⟩) (rv_Sent hK hP (by decide) (by decide)) rfl hl.1 rfl (Nat.le_of_ble_eq_true rfl) dX7_readOne_257 (Nat.zero_le _) (Nat.zero_le _) (fun r137 u137 H137 locs137 hp137 hP hS => ?_)
        obtain ⟨σ137, τ137⟩ := u137
        obtain ⟨hR, f137, fL137, hq137⟩ : P_X6_add σ14 τ14 (σ0 1 9) z135 z136 r137 σ137 τ137 := hp137
        have hP : va_P D vwCl (gw cA ad σ137 τ137) H137 := hP
        obtain rfl := FrL.nil fL137
        have hF := hF.step f137 (by decide)
        have t138 : (σ137 24 1).toInt = (σ14 24 1).toInt := congrArg Int32.toInt (f137.at 24 1 (by decide))
        exact r_zret hx hb hr hK hP hS hk (by omega) dX7_readOne_260 (show P_X7_readOne_d7 σ0 τ0 a1 r137 σ137 τ14 from ⟨hR, hF, hFL, by omega⟩)
      · exfalso; omega
  · refine lv_aload_n hx hb dX7_readOne_15 rfl (lv_at hl 1 rfl) ?_
    refine fg_7_0 (k := 27) hx hb hts in_X7_readOne_7 hown hK hP (by decide) (by decide) (hts _ lk_X7_readOne_9) dX7_readOne_16 ?_
    refine r_iconst hx hb dX7_readOne_19 (by decide) (fun z139 ez139 => ?_)
    refine r_cVi (k := 1) (As := [.int z139]) (rest := []) ⟨hx, hb, hml, hown, hts⟩ hK hP hN hS (c_X8_blame l D cA ad hI σ0 τ0 hR z139 (by omega)) (cwV 1 hts gX7_readOne_X8_blame rfl rfl rfl (by decide +kernel) ⟨by decide, by decide⟩) (rv_Tape hK hP (by decide) (by decide)) rfl hl.1 rfl (Nat.le_of_ble_eq_true rfl) dX7_readOne_20 (Nat.zero_le _) (Nat.zero_le _) (fun r140 u140 H140 locs140 hp140 hP hS => ?_)
    obtain ⟨σ140, τ140⟩ := u140
    obtain ⟨hR, f140, fL140, hq140⟩ : P_X8_blame σ0 τ0 z139 r140 σ140 τ140 := hp140
    have hP : va_P D vwCl (gw cA ad σ140 τ140) H140 := hP
    obtain rfl := FrL.nil fL140
    have hF := hF.step f140 (by decide)
    exact r_zret hx hb hr hK hP hS hk (by omega) dX7_readOne_23 (show P_X7_readOne_d7 σ0 τ0 a1 r140 σ140 τ0 from ⟨hR, hF, hFL, by omega⟩)
abbrev L_X7_readAll_d7 : List Rc := [(1, 1, 7, 10), (372, 372, 0, 39), (376, 376, 0, 39), (380, 380, 0, 39), (24, 24, 1, 2), (1, 1, 12, 14)]
abbrev LL_X7_readAll_d7 : List Rc := [(1, 1, 11, 11)]
def P_X7_readAll_d7 (σ0 : Nat → Nat → Int32) (τ0 : Nat → Nat → Int64) (a1 : Int32) (r : Int32) (σ : Nat → Nat → Int32) (τ : Nat → Nat → Int64) : Prop := Rg σ ∧ Fr L_X7_readAll_d7 σ0 σ ∧ FrL LL_X7_readAll_d7 τ0 τ ∧ (0 ≤ r.toInt ∧ r.toInt ≤ 1)
def J_X7_readAll_d7_12 (p : Program) (l : Launch) (e : Env) (s : State) (m : MethodId) (args : Array Value) (below : List Frame) (meth : Method) (c : Code) (D : va_G) (cA : Nat → ClassId) (ad : Nat → Nat) (σ0 : Nat → Nat → Int32) (τ0 : Nat → Nat → Int64) (a1 : Int32) (n : Nat) : Prop := ∀ (σ : Nat → Nat → Int32) (τ : Nat → Nat → Int64) (H : Heap) (locs : List Loc) (x2 : Int32) (ls : Array Slot), Rg σ → Fr L_X7_readAll_d7 σ0 σ → FrL LL_X7_readAll_d7 τ0 τ → va_P D vwCl (gw cA ad σ τ) H → va_S (AA ad) s.heap H locs → (0 ≤ x2.toInt ∧ x2.toInt ≤ 200) → lv_has ls 3 [(0, .ref (ad 27)), (1, .int a1), (2, .int x2)] → 2 * (200 - x2.toInt) + 1 < (n : Int) → W p l e ({ frames := 8, cells := 0, slots := 0, locals := 175 } : Room) s m args below meth c H locs 0 0 (MQ below (va_Qi (fun (r : Int32) (u : SS) => P_X7_readAll_d7 σ0 τ0 a1 r u.1 u.2) (WB D cA ad) (AA ad)) args s 0 0 (AA ad)) (F0 m 12 ls [])
set_option maxHeartbeats 4000000 in
theorem B_X7_readAll_d7_12 (p : Program) (l : Launch) (e : Env) (s : State) (m : MethodId) (args : Array Value) (below : List Frame) (meth : Method) (c : Code) (D : va_G) (cA : Nat → ClassId) (ad : Nat → Nat) (σ0 : Nat → Nat → Int32) (τ0 : Nat → Nat → Int64) (a1 : Int32) (n : Nat) (C : Cy p s m args meth c cX7_readAll 3 wsX7_readAll RX7 D cA ad (some .boolean)) (ha1 : 7 ≤ a1.toInt ∧ a1.toInt ≤ 7) (K12 : J_X7_readAll_d7_12 p l e s m args below meth c D cA ad σ0 τ0 a1 n) : J_X7_readAll_d7_12 p l e s m args below meth c D cA ad σ0 τ0 a1 (n + 1) := by
  obtain ⟨hx, hb, hml, hown, hts, hK, hk, hr, hI, hN⟩ := C
  intro σ τ H locs x2 ls hR hF hFL hP hS hc0 hl hm
  refine lv_iload_n hx hb dX7_readAll_12 rfl (lv_at hl 2 rfl) ?_
  refine r_sipush hx hb dX7_readAll_13 (by decide) (fun z1 ez1 => ?_)
  refine r_icmp_ge (tgt := 68) hx hb dX7_readAll_16 (by decide) (fun c2 => ?_) (fun c2 => ?_)
  · refine r_iconst hx hb dX7_readAll_68 (by decide) (fun z3 ez3 => ?_)
    exact r_zret hx hb hr hK hP hS hk (by omega) dX7_readAll_69 (show P_X7_readAll_d7 σ0 τ0 a1 z3 σ τ from ⟨hR, hF, hFL, by omega⟩)
  · refine lv_aload_n hx hb dX7_readAll_19 rfl (lv_at hl 0 rfl) ?_
    refine fg_7_0 (k := 27) hx hb hts in_X7_readAll_7 hown hK hP (by decide) (by decide) (hts _ lk_X7_readAll_9) dX7_readAll_20 ?_
    refine fgN_8_9 (k := 1) hx hb hts in_X7_readAll_8 hown hK hP (by decide) (by decide) (hN.use nw_7_32) dX7_readAll_23 ?_
    refine r_bipush hx hb dX7_readAll_26 (by decide) (fun z4 ez4 => ?_)
    refine r_icmp_ne (tgt := 68) hx hb dX7_readAll_28 (by decide) (fun c5 => ?_) (fun c5 => ?_)
    · refine r_iconst hx hb dX7_readAll_68 (by decide) (fun z6 ez6 => ?_)
      exact r_zret hx hb hr hK hP hS hk (by omega) dX7_readAll_69 (show P_X7_readAll_d7 σ0 τ0 a1 z6 σ τ from ⟨hR, hF, hFL, by omega⟩)
    · refine lv_aload_n hx hb dX7_readAll_31 rfl (lv_at hl 0 rfl) ?_
      refine fg_7_0 (k := 27) hx hb hts in_X7_readAll_7 hown hK hP (by decide) (by decide) (hts _ lk_X7_readAll_9) dX7_readAll_32 ?_
      refine r_cVv (k := 1) (As := []) (rest := []) ⟨hx, hb, hml, hown, hts⟩ hK hP hN hS (c_X8_next l D cA ad hI σ τ hR) (cwV 0 hts gX7_readAll_X8_next rfl rfl rfl (by decide +kernel) ⟨by decide, by decide⟩) (rv_Tape hK hP (by decide) (by decide)) rfl hl.1 rfl (Nat.le_of_ble_eq_true rfl) dX7_readAll_35 (Nat.zero_le _) (Nat.zero_le _) (fun u7 H7 locs7 hp7 hP hS => ?_)
      obtain ⟨σ7, τ7⟩ := u7
      obtain ⟨hR, f7, fL7⟩ : P_X8_next σ τ σ7 τ7 := hp7
      have hP : va_P D vwCl (gw cA ad σ7 τ7) H7 := hP
      have hFL := hFL.step fL7 (by decide)
      have hF := hF.step f7 (by decide)
      refine lv_aload_n hx hb dX7_readAll_38 rfl (lv_at hl 0 rfl) ?_
      refine lv_iload_n hx hb dX7_readAll_39 rfl (lv_at hl 1 rfl) ?_
      refine r_cVi (k := 27) (As := [.int a1]) (rest := []) ⟨hx, hb, hml, hown, hts⟩ hK hP hN hS (c_X7_readOne_d7 l D cA ad hI σ7 τ7 hR a1 (by omega)) (cwV 1 hts gX7_readAll_X7_readOne rfl rfl rfl (by decide +kernel) ⟨by decide, by decide⟩) (rv_SText hK hP (by decide) (by decide)) rfl hl.1 rfl (Nat.le_of_ble_eq_true rfl) dX7_readAll_40 (Nat.zero_le _) (Nat.zero_le _) (fun r8 u8 H8 locs8 hp8 hP hS => ?_)
      obtain ⟨σ8, τ8⟩ := u8
      obtain ⟨hR, f8, fL8, hq8⟩ : P_X7_readOne_d7 σ7 τ7 a1 r8 σ8 τ8 := hp8
      have hP : va_P D vwCl (gw cA ad σ8 τ8) H8 := hP
      have hFL := hFL.step fL8 (by decide)
      have hF := hF.step f8 (by decide)
      refine r_if_eq (tgt := 60) hx hb dX7_readAll_43 (by decide) (fun c9 => ?_) (fun c9 => ?_)
      · refine r_iconst hx hb dX7_readAll_60 (by decide) (fun z10 ez10 => ?_)
        exact r_zret hx hb hr hK hP hS hk (by omega) dX7_readAll_61 (show P_X7_readAll_d7 σ0 τ0 a1 z10 σ8 τ8 from ⟨hR, hF, hFL, by omega⟩)
      · refine lv_aload_n hx hb dX7_readAll_46 rfl (lv_at hl 0 rfl) ?_
        refine fg_7_2 (k := 27) hx hb hts in_X7_readAll_7 hown hK hP (by decide) (by decide) (hts _ lk_X7_readAll_19) dX7_readAll_47 ?_
        refine r_bipush hx hb dX7_readAll_50 (by decide) (fun z11 ez11 => ?_)
        refine r_iconst hx hb dX7_readAll_52 (by decide) (fun z12 ez12 => ?_)
        refine r_iconst hx hb dX7_readAll_53 (by decide) (fun z13 ez13 => ?_)
        refine r_cVi (k := 24) (As := [.int z11, .int z12, .int z13]) (rest := []) ⟨hx, hb, hml, hown, hts⟩ hK hP hN hS (c_X6_add l D cA ad hI σ8 τ8 hR z11 z12 z13 (by omega)) (cwV 3 hts gX7_readAll_X6_add rfl rfl rfl (by decide +kernel) ⟨by decide, by decide⟩) (rv_Sent hK hP (by decide) (by decide)) rfl hl.1 rfl (Nat.le_of_ble_eq_true rfl) dX7_readAll_54 (Nat.zero_le _) (Nat.zero_le _) (fun r14 u14 H14 locs14 hp14 hP hS => ?_)
        obtain ⟨σ14, τ14⟩ := u14
        obtain ⟨hR, f14, fL14, hq14⟩ : P_X6_add σ8 τ8 z11 z12 z13 r14 σ14 τ14 := hp14
        have hP : va_P D vwCl (gw cA ad σ14 τ14) H14 := hP
        obtain rfl := FrL.nil fL14
        have hF := hF.step f14 (by decide)
        refine r_if_ne (tgt := 62) hx hb dX7_readAll_57 (by decide) (fun c15 => ?_) (fun c15 => ?_)
        · refine r_iinc (k := 2) (lv1 := fun z16 => [(2, .int z16), (0, .ref (ad 27)), (1, .int a1)]) hx hb dX7_readAll_62 hl rfl (by decide) (fun _ => rfl) (by decide) (by omega) (fun z16 ls ez16 hl => ?_)
          refine lv_goto (tgt := 12) hx hb dX7_readAll_65 (by decide) ?_
          exact K12 σ14 τ8 H14 locs14 z16 ls hR hF hFL hP hS (by omega) (lv_sub hl [1, 2, 0] rfl) (by omega)
        · refine r_iconst hx hb dX7_readAll_60 (by decide) (fun z17 ez17 => ?_)
          exact r_zret hx hb hr hK hP hS hk (by omega) dX7_readAll_61 (show P_X7_readAll_d7 σ0 τ0 a1 z17 σ14 τ8 from ⟨hR, hF, hFL, by omega⟩)
theorem A_X7_readAll_d7 (p : Program) (l : Launch) (e : Env) (s : State) (m : MethodId) (args : Array Value) (below : List Frame) (meth : Method) (c : Code) (D : va_G) (cA : Nat → ClassId) (ad : Nat → Nat) (σ0 : Nat → Nat → Int32) (τ0 : Nat → Nat → Int64) (a1 : Int32) (C : Cy p s m args meth c cX7_readAll 3 wsX7_readAll RX7 D cA ad (some .boolean)) (ha1 : 7 ≤ a1.toInt ∧ a1.toInt ≤ 7) : ∀ n : Nat, J_X7_readAll_d7_12 p l e s m args below meth c D cA ad σ0 τ0 a1 n := by
  intro n
  induction n with
  | zero =>
    exact (by intro σ τ H locs x2 ls hR hF hFL hP hS hc0 hl hm; exfalso; omega)
  | succ n ih =>
    exact B_X7_readAll_d7_12 p l e s m args below meth c D cA ad σ0 τ0 a1 n C ha1 ih
set_option maxHeartbeats 4000000 in
theorem c_X7_readAll_d7 (l : Launch) (D : va_G) (cA : Nat → ClassId) (ad : Nat → Nat) (hI : Inj ad) (σ0 : Nat → Nat → Int32) (τ0 : Nat → Nat → Int64) (hR : Rg σ0) (a1 : Int32) (ha1 : 7 ≤ a1.toInt ∧ a1.toInt ≤ 7) : Met l yX7_readAll wsX7_readAll ({ frames := 8, cells := 0, slots := 0, locals := 175 } : Room) (WQc D cA ad [.ref (ad 27), .int a1] σ0 τ0) (va_Qi (fun (r : Int32) (u : SS) => P_X7_readAll_d7 σ0 τ0 a1 r u.1 u.2) (WB D cA ad) (AA ad)) 0 0 (AA ad) := by
  refine Met.ofW (cc := cX7_readAll) (maxL := 3) (ret := (some .boolean)) (by decide) rfl ?_
  intro p e s m args below meth c s₁ B hml hv
  obtain ⟨rfl, hP, hK, hN⟩ := hv
  have C : Cy p s m _ meth c cX7_readAll 3 wsX7_readAll RX7 D cA ad (some .boolean) := ⟨B.exec, B.bytes, hml, findClass_of_methodNamed B.named, atoms_spec (ws := wsX7_readAll) B.pre, hK, B.notSynchronized, B.returns, hI, hN⟩
  have hl := lv_entry ([.ref (ad 27), .int a1]) (n := 3) (Nat.le_of_ble_eq_true rfl)
  rw [lg_entry_eq]
  generalize (lg_sl ([.ref (ad 27), .int a1]) ++ List.replicate (3 - (lg_sl ([.ref (ad 27), .int a1])).length) Slot.unset).toArray = ls at hl ⊢
  have hl : lv_has ls 3 [(0, .ref (ad 27)), (1, .int a1)] := hl
  have hS : va_S (AA ad) s.heap s.heap [] := va_S.rf
  have hF : Fr L_X7_readAll_d7 σ0 σ0 := Fr.rf
  have hFL : FrL LL_X7_readAll_d7 τ0 τ0 := FrL.rf
  have hA := A_X7_readAll_d7 p l e s m _ below meth c D cA ad σ0 τ0 a1 C ha1 810
  have K12 := hA
  clear hA
  obtain ⟨hx, hb, _, hown, hts, _, hk, hr, _, _⟩ := C
  refine lv_aload_n hx hb dX7_readAll_0 rfl (lv_at hl 0 rfl) ?_
  refine lv_iload_n hx hb dX7_readAll_1 rfl (lv_at hl 1 rfl) ?_
  refine r_cVi (k := 27) (As := [.int a1]) (rest := []) ⟨hx, hb, hml, hown, hts⟩ hK hP hN hS (c_X7_readOne_d7 l D cA ad hI σ0 τ0 hR a1 (by omega)) (cwV 1 hts gX7_readAll_X7_readOne rfl rfl rfl (by decide +kernel) ⟨by decide, by decide⟩) (rv_SText hK hP (by decide) (by decide)) rfl hl.1 rfl (Nat.le_of_ble_eq_true rfl) dX7_readAll_2 (Nat.zero_le _) (Nat.zero_le _) (fun r1 u1 H1 locs1 hp1 hP hS => ?_)
  obtain ⟨σ1, τ1⟩ := u1
  obtain ⟨hR, f1, fL1, hq1⟩ : P_X7_readOne_d7 σ0 τ0 a1 r1 σ1 τ1 := hp1
  have hP : va_P D vwCl (gw cA ad σ1 τ1) H1 := hP
  have hFL := hFL.step fL1 (by decide)
  have hF := hF.step f1 (by decide)
  refine r_if_ne (tgt := 10) hx hb dX7_readAll_5 (by decide) (fun c2 => ?_) (fun c2 => ?_)
  · refine r_iconst hx hb dX7_readAll_10 (by decide) (fun z3 ez3 => ?_)
    refine lv_istore_n (lv' := [(2, .int z3), (0, .ref (ad 27)), (1, .int a1)]) hx hb dX7_readAll_11 rfl hl (by decide) rfl (fun ls hl => ?_)
    exact K12 σ1 τ1 H1 locs1 z3 ls hR hF hFL hP hS (by omega) (lv_sub hl [1, 2, 0] rfl) (by omega)
  · refine r_iconst hx hb dX7_readAll_8 (by decide) (fun z4 ez4 => ?_)
    exact r_zret hx hb hr hK hP hS hk (by omega) dX7_readAll_9 (show P_X7_readAll_d7 σ0 τ0 a1 z4 σ1 τ1 from ⟨hR, hF, hFL, by omega⟩)
abbrev L_X7_readCond_d7 : List Rc := [(1, 1, 7, 10), (372, 372, 0, 39), (376, 376, 0, 39), (380, 380, 0, 39), (24, 24, 1, 2), (1, 1, 12, 14)]
abbrev LL_X7_readCond_d7 : List Rc := [(1, 1, 11, 11)]
def P_X7_readCond_d7 (σ0 : Nat → Nat → Int32) (τ0 : Nat → Nat → Int64) (a1 : Int32) (r : Int32) (σ : Nat → Nat → Int32) (τ : Nat → Nat → Int64) : Prop := Rg σ ∧ Fr L_X7_readCond_d7 σ0 σ ∧ FrL LL_X7_readCond_d7 τ0 τ ∧ (0 ≤ r.toInt ∧ r.toInt ≤ 1)
def J_X7_readCond_d7_12 (p : Program) (l : Launch) (e : Env) (s : State) (m : MethodId) (args : Array Value) (below : List Frame) (meth : Method) (c : Code) (D : va_G) (cA : Nat → ClassId) (ad : Nat → Nat) (σ0 : Nat → Nat → Int32) (τ0 : Nat → Nat → Int64) (a1 : Int32) (n : Nat) : Prop := ∀ (σ : Nat → Nat → Int32) (τ : Nat → Nat → Int64) (H : Heap) (locs : List Loc) (x2 : Int32) (ls : Array Slot), Rg σ → Fr L_X7_readCond_d7 σ0 σ → FrL LL_X7_readCond_d7 τ0 τ → va_P D vwCl (gw cA ad σ τ) H → va_S (AA ad) s.heap H locs → (0 ≤ x2.toInt ∧ x2.toInt ≤ 200) → lv_has ls 3 [(0, .ref (ad 27)), (1, .int a1), (2, .int x2)] → 2 * (200 - x2.toInt) + 1 < (n : Int) → W p l e ({ frames := 9, cells := 0, slots := 0, locals := 197 } : Room) s m args below meth c H locs 0 0 (MQ below (va_Qi (fun (r : Int32) (u : SS) => P_X7_readCond_d7 σ0 τ0 a1 r u.1 u.2) (WB D cA ad) (AA ad)) args s 0 0 (AA ad)) (F0 m 12 ls [])
set_option maxHeartbeats 4000000 in
theorem B_X7_readCond_d7_12 (p : Program) (l : Launch) (e : Env) (s : State) (m : MethodId) (args : Array Value) (below : List Frame) (meth : Method) (c : Code) (D : va_G) (cA : Nat → ClassId) (ad : Nat → Nat) (σ0 : Nat → Nat → Int32) (τ0 : Nat → Nat → Int64) (a1 : Int32) (n : Nat) (C : Cy p s m args meth c cX7_readCond 3 wsX7_readCond RX7 D cA ad (some .boolean)) (ha1 : 7 ≤ a1.toInt ∧ a1.toInt ≤ 7) (K12 : J_X7_readCond_d7_12 p l e s m args below meth c D cA ad σ0 τ0 a1 n) : J_X7_readCond_d7_12 p l e s m args below meth c D cA ad σ0 τ0 a1 (n + 1) := by
  obtain ⟨hx, hb, hml, hown, hts, hK, hk, hr, hI, hN⟩ := C
  intro σ τ H locs x2 ls hR hF hFL hP hS hc0 hl hm
  refine lv_iload_n hx hb dX7_readCond_12 rfl (lv_at hl 2 rfl) ?_
  refine r_sipush hx hb dX7_readCond_13 (by decide) (fun z1 ez1 => ?_)
  refine r_icmp_ge (tgt := 68) hx hb dX7_readCond_16 (by decide) (fun c2 => ?_) (fun c2 => ?_)
  · refine r_iconst hx hb dX7_readCond_68 (by decide) (fun z3 ez3 => ?_)
    exact r_zret hx hb hr hK hP hS hk (by omega) dX7_readCond_69 (show P_X7_readCond_d7 σ0 τ0 a1 z3 σ τ from ⟨hR, hF, hFL, by omega⟩)
  · refine lv_aload_n hx hb dX7_readCond_19 rfl (lv_at hl 0 rfl) ?_
    refine fg_7_0 (k := 27) hx hb hts in_X7_readCond_7 hown hK hP (by decide) (by decide) (hts _ lk_X7_readCond_9) dX7_readCond_20 ?_
    refine fgN_8_9 (k := 1) hx hb hts in_X7_readCond_8 hown hK hP (by decide) (by decide) (hN.use nw_7_32) dX7_readCond_23 ?_
    refine r_bipush hx hb dX7_readCond_26 (by decide) (fun z4 ez4 => ?_)
    refine r_icmp_ne (tgt := 68) hx hb dX7_readCond_28 (by decide) (fun c5 => ?_) (fun c5 => ?_)
    · refine r_iconst hx hb dX7_readCond_68 (by decide) (fun z6 ez6 => ?_)
      exact r_zret hx hb hr hK hP hS hk (by omega) dX7_readCond_69 (show P_X7_readCond_d7 σ0 τ0 a1 z6 σ τ from ⟨hR, hF, hFL, by omega⟩)
    · refine lv_aload_n hx hb dX7_readCond_31 rfl (lv_at hl 0 rfl) ?_
      refine fg_7_0 (k := 27) hx hb hts in_X7_readCond_7 hown hK hP (by decide) (by decide) (hts _ lk_X7_readCond_9) dX7_readCond_32 ?_
      refine r_cVv (k := 1) (As := []) (rest := []) ⟨hx, hb, hml, hown, hts⟩ hK hP hN hS (c_X8_next l D cA ad hI σ τ hR) (cwV 0 hts gX7_readCond_X8_next rfl rfl rfl (by decide +kernel) ⟨by decide, by decide⟩) (rv_Tape hK hP (by decide) (by decide)) rfl hl.1 rfl (Nat.le_of_ble_eq_true rfl) dX7_readCond_35 (Nat.zero_le _) (Nat.zero_le _) (fun u7 H7 locs7 hp7 hP hS => ?_)
      obtain ⟨σ7, τ7⟩ := u7
      obtain ⟨hR, f7, fL7⟩ : P_X8_next σ τ σ7 τ7 := hp7
      have hP : va_P D vwCl (gw cA ad σ7 τ7) H7 := hP
      have hFL := hFL.step fL7 (by decide)
      have hF := hF.step f7 (by decide)
      refine lv_aload_n hx hb dX7_readCond_38 rfl (lv_at hl 0 rfl) ?_
      refine lv_iload_n hx hb dX7_readCond_39 rfl (lv_at hl 1 rfl) ?_
      refine r_cVi (k := 27) (As := [.int a1]) (rest := []) ⟨hx, hb, hml, hown, hts⟩ hK hP hN hS (c_X7_readAll_d7 l D cA ad hI σ7 τ7 hR a1 (by omega)) (cwV 1 hts gX7_readCond_X7_readAll rfl rfl rfl (by decide +kernel) ⟨by decide, by decide⟩) (rv_SText hK hP (by decide) (by decide)) rfl hl.1 rfl (Nat.le_of_ble_eq_true rfl) dX7_readCond_40 (Nat.zero_le _) (Nat.zero_le _) (fun r8 u8 H8 locs8 hp8 hP hS => ?_)
      obtain ⟨σ8, τ8⟩ := u8
      obtain ⟨hR, f8, fL8, hq8⟩ : P_X7_readAll_d7 σ7 τ7 a1 r8 σ8 τ8 := hp8
      have hP : va_P D vwCl (gw cA ad σ8 τ8) H8 := hP
      have hFL := hFL.step fL8 (by decide)
      have hF := hF.step f8 (by decide)
      refine r_if_eq (tgt := 60) hx hb dX7_readCond_43 (by decide) (fun c9 => ?_) (fun c9 => ?_)
      · refine r_iconst hx hb dX7_readCond_60 (by decide) (fun z10 ez10 => ?_)
        exact r_zret hx hb hr hK hP hS hk (by omega) dX7_readCond_61 (show P_X7_readCond_d7 σ0 τ0 a1 z10 σ8 τ8 from ⟨hR, hF, hFL, by omega⟩)
      · refine lv_aload_n hx hb dX7_readCond_46 rfl (lv_at hl 0 rfl) ?_
        refine fg_7_2 (k := 27) hx hb hts in_X7_readCond_7 hown hK hP (by decide) (by decide) (hts _ lk_X7_readCond_19) dX7_readCond_47 ?_
        refine r_bipush hx hb dX7_readCond_50 (by decide) (fun z11 ez11 => ?_)
        refine r_iconst hx hb dX7_readCond_52 (by decide) (fun z12 ez12 => ?_)
        refine r_iconst hx hb dX7_readCond_53 (by decide) (fun z13 ez13 => ?_)
        refine r_cVi (k := 24) (As := [.int z11, .int z12, .int z13]) (rest := []) ⟨hx, hb, hml, hown, hts⟩ hK hP hN hS (c_X6_add l D cA ad hI σ8 τ8 hR z11 z12 z13 (by omega)) (cwV 3 hts gX7_readCond_X6_add rfl rfl rfl (by decide +kernel) ⟨by decide, by decide⟩) (rv_Sent hK hP (by decide) (by decide)) rfl hl.1 rfl (Nat.le_of_ble_eq_true rfl) dX7_readCond_54 (Nat.zero_le _) (Nat.zero_le _) (fun r14 u14 H14 locs14 hp14 hP hS => ?_)
        obtain ⟨σ14, τ14⟩ := u14
        obtain ⟨hR, f14, fL14, hq14⟩ : P_X6_add σ8 τ8 z11 z12 z13 r14 σ14 τ14 := hp14
        have hP : va_P D vwCl (gw cA ad σ14 τ14) H14 := hP
        obtain rfl := FrL.nil fL14
        have hF := hF.step f14 (by decide)
        refine r_if_ne (tgt := 62) hx hb dX7_readCond_57 (by decide) (fun c15 => ?_) (fun c15 => ?_)
        · refine r_iinc (k := 2) (lv1 := fun z16 => [(2, .int z16), (0, .ref (ad 27)), (1, .int a1)]) hx hb dX7_readCond_62 hl rfl (by decide) (fun _ => rfl) (by decide) (by omega) (fun z16 ls ez16 hl => ?_)
          refine lv_goto (tgt := 12) hx hb dX7_readCond_65 (by decide) ?_
          exact K12 σ14 τ8 H14 locs14 z16 ls hR hF hFL hP hS (by omega) (lv_sub hl [1, 2, 0] rfl) (by omega)
        · refine r_iconst hx hb dX7_readCond_60 (by decide) (fun z17 ez17 => ?_)
          exact r_zret hx hb hr hK hP hS hk (by omega) dX7_readCond_61 (show P_X7_readCond_d7 σ0 τ0 a1 z17 σ14 τ8 from ⟨hR, hF, hFL, by omega⟩)
theorem A_X7_readCond_d7 (p : Program) (l : Launch) (e : Env) (s : State) (m : MethodId) (args : Array Value) (below : List Frame) (meth : Method) (c : Code) (D : va_G) (cA : Nat → ClassId) (ad : Nat → Nat) (σ0 : Nat → Nat → Int32) (τ0 : Nat → Nat → Int64) (a1 : Int32) (C : Cy p s m args meth c cX7_readCond 3 wsX7_readCond RX7 D cA ad (some .boolean)) (ha1 : 7 ≤ a1.toInt ∧ a1.toInt ≤ 7) : ∀ n : Nat, J_X7_readCond_d7_12 p l e s m args below meth c D cA ad σ0 τ0 a1 n := by
  intro n
  induction n with
  | zero =>
    exact (by intro σ τ H locs x2 ls hR hF hFL hP hS hc0 hl hm; exfalso; omega)
  | succ n ih =>
    exact B_X7_readCond_d7_12 p l e s m args below meth c D cA ad σ0 τ0 a1 n C ha1 ih
set_option maxHeartbeats 4000000 in
theorem c_X7_readCond_d7 (l : Launch) (D : va_G) (cA : Nat → ClassId) (ad : Nat → Nat) (hI : Inj ad) (σ0 : Nat → Nat → Int32) (τ0 : Nat → Nat → Int64) (hR : Rg σ0) (a1 : Int32) (ha1 : 7 ≤ a1.toInt ∧ a1.toInt ≤ 7) : Met l yX7_readCond wsX7_readCond ({ frames := 9, cells := 0, slots := 0, locals := 197 } : Room) (WQc D cA ad [.ref (ad 27), .int a1] σ0 τ0) (va_Qi (fun (r : Int32) (u : SS) => P_X7_readCond_d7 σ0 τ0 a1 r u.1 u.2) (WB D cA ad) (AA ad)) 0 0 (AA ad) := by
  refine Met.ofW (cc := cX7_readCond) (maxL := 3) (ret := (some .boolean)) (by decide) rfl ?_
  intro p e s m args below meth c s₁ B hml hv
  obtain ⟨rfl, hP, hK, hN⟩ := hv
  have C : Cy p s m _ meth c cX7_readCond 3 wsX7_readCond RX7 D cA ad (some .boolean) := ⟨B.exec, B.bytes, hml, findClass_of_methodNamed B.named, atoms_spec (ws := wsX7_readCond) B.pre, hK, B.notSynchronized, B.returns, hI, hN⟩
  have hl := lv_entry ([.ref (ad 27), .int a1]) (n := 3) (Nat.le_of_ble_eq_true rfl)
  rw [lg_entry_eq]
  generalize (lg_sl ([.ref (ad 27), .int a1]) ++ List.replicate (3 - (lg_sl ([.ref (ad 27), .int a1])).length) Slot.unset).toArray = ls at hl ⊢
  have hl : lv_has ls 3 [(0, .ref (ad 27)), (1, .int a1)] := hl
  have hS : va_S (AA ad) s.heap s.heap [] := va_S.rf
  have hF : Fr L_X7_readCond_d7 σ0 σ0 := Fr.rf
  have hFL : FrL LL_X7_readCond_d7 τ0 τ0 := FrL.rf
  have hA := A_X7_readCond_d7 p l e s m _ below meth c D cA ad σ0 τ0 a1 C ha1 810
  have K12 := hA
  clear hA
  obtain ⟨hx, hb, _, hown, hts, _, hk, hr, _, _⟩ := C
  refine lv_aload_n hx hb dX7_readCond_0 rfl (lv_at hl 0 rfl) ?_
  refine lv_iload_n hx hb dX7_readCond_1 rfl (lv_at hl 1 rfl) ?_
  refine r_cVi (k := 27) (As := [.int a1]) (rest := []) ⟨hx, hb, hml, hown, hts⟩ hK hP hN hS (c_X7_readAll_d7 l D cA ad hI σ0 τ0 hR a1 (by omega)) (cwV 1 hts gX7_readCond_X7_readAll rfl rfl rfl (by decide +kernel) ⟨by decide, by decide⟩) (rv_SText hK hP (by decide) (by decide)) rfl hl.1 rfl (Nat.le_of_ble_eq_true rfl) dX7_readCond_2 (Nat.zero_le _) (Nat.zero_le _) (fun r1 u1 H1 locs1 hp1 hP hS => ?_)
  obtain ⟨σ1, τ1⟩ := u1
  obtain ⟨hR, f1, fL1, hq1⟩ : P_X7_readAll_d7 σ0 τ0 a1 r1 σ1 τ1 := hp1
  have hP : va_P D vwCl (gw cA ad σ1 τ1) H1 := hP
  have hFL := hFL.step fL1 (by decide)
  have hF := hF.step f1 (by decide)
  refine r_if_ne (tgt := 10) hx hb dX7_readCond_5 (by decide) (fun c2 => ?_) (fun c2 => ?_)
  · refine r_iconst hx hb dX7_readCond_10 (by decide) (fun z3 ez3 => ?_)
    refine lv_istore_n (lv' := [(2, .int z3), (0, .ref (ad 27)), (1, .int a1)]) hx hb dX7_readCond_11 rfl hl (by decide) rfl (fun ls hl => ?_)
    exact K12 σ1 τ1 H1 locs1 z3 ls hR hF hFL hP hS (by omega) (lv_sub hl [1, 2, 0] rfl) (by omega)
  · refine r_iconst hx hb dX7_readCond_8 (by decide) (fun z4 ez4 => ?_)
    exact r_zret hx hb hr hK hP hS hk (by omega) dX7_readCond_9 (show P_X7_readCond_d7 σ0 τ0 a1 z4 σ1 τ1 from ⟨hR, hF, hFL, by omega⟩)
abbrev L_X7_readOne_d6 : List Rc := [(1, 1, 7, 10), (372, 372, 0, 39), (376, 376, 0, 39), (380, 380, 0, 39), (24, 24, 1, 2), (1, 1, 12, 14)]
abbrev LL_X7_readOne_d6 : List Rc := [(1, 1, 11, 11)]
def P_X7_readOne_d6 (σ0 : Nat → Nat → Int32) (τ0 : Nat → Nat → Int64) (a1 : Int32) (r : Int32) (σ : Nat → Nat → Int32) (τ : Nat → Nat → Int64) : Prop := Rg σ ∧ Fr L_X7_readOne_d6 σ0 σ ∧ FrL LL_X7_readOne_d6 τ0 τ ∧ (0 ≤ r.toInt ∧ r.toInt ≤ 1)
set_option maxHeartbeats 4000000 in
theorem c_X7_readOne_d6 (l : Launch) (D : va_G) (cA : Nat → ClassId) (ad : Nat → Nat) (hI : Inj ad) (σ0 : Nat → Nat → Int32) (τ0 : Nat → Nat → Int64) (hR : Rg σ0) (a1 : Int32) (ha1 : 6 ≤ a1.toInt ∧ a1.toInt ≤ 6) : Met l yX7_readOne wsX7_readOne ({ frames := 10, cells := 0, slots := 0, locals := 219 } : Room) (WQc D cA ad [.ref (ad 27), .int a1] σ0 τ0) (va_Qi (fun (r : Int32) (u : SS) => P_X7_readOne_d6 σ0 τ0 a1 r u.1 u.2) (WB D cA ad) (AA ad)) 0 0 (AA ad) := by
  refine Met.ofW (cc := cX7_readOne) (maxL := 3) (ret := (some .boolean)) (by decide) rfl ?_
  intro p e s m args below meth c s₁ B hml hv
  obtain ⟨rfl, hP, hK, hN⟩ := hv
  have C : Cy p s m _ meth c cX7_readOne 3 wsX7_readOne RX7 D cA ad (some .boolean) := ⟨B.exec, B.bytes, hml, findClass_of_methodNamed B.named, atoms_spec (ws := wsX7_readOne) B.pre, hK, B.notSynchronized, B.returns, hI, hN⟩
  have hl := lv_entry ([.ref (ad 27), .int a1]) (n := 3) (Nat.le_of_ble_eq_true rfl)
  rw [lg_entry_eq]
  generalize (lg_sl ([.ref (ad 27), .int a1]) ++ List.replicate (3 - (lg_sl ([.ref (ad 27), .int a1])).length) Slot.unset).toArray = ls at hl ⊢
  have hl : lv_has ls 3 [(0, .ref (ad 27)), (1, .int a1)] := hl
  have hS : va_S (AA ad) s.heap s.heap [] := va_S.rf
  have hF : Fr L_X7_readOne_d6 σ0 σ0 := Fr.rf
  have hFL : FrL LL_X7_readOne_d6 τ0 τ0 := FrL.rf
  obtain ⟨hx, hb, _, hown, hts, _, hk, hr, _, _⟩ := C
  refine lv_aload_n hx hb dX7_readOne_0 rfl (lv_at hl 0 rfl) ?_
  refine fg_7_0 (k := 27) hx hb hts in_X7_readOne_7 hown hK hP (by decide) (by decide) (hts _ lk_X7_readOne_9) dX7_readOne_1 ?_
  refine fgN_8_9 (k := 1) hx hb hts in_X7_readOne_8 hown hK hP (by decide) (by decide) (hN.use nw_7_32) dX7_readOne_4 ?_
  refine lv_istore_n (lv' := [(2, .int (σ0 1 9)), (0, .ref (ad 27)), (1, .int a1)]) hx hb dX7_readOne_7 rfl hl (by decide) rfl (fun ls hl => ?_)
  refine lv_iload_n hx hb dX7_readOne_8 rfl (lv_at hl 0 rfl) ?_
  refine r_cSi (As := [.int (σ0 1 9)]) (rest := []) ⟨hx, hb, hml, hown, hts⟩ hK hP hN hS (c_X7_beginsOne l D cA ad hI σ0 τ0 hR (σ0 1 9)) (va_cwS 1 hts gX7_readOne_X7_beginsOne rfl rfl rfl (by decide +kernel) ⟨by decide, by decide⟩) rfl hl.1 rfl (Nat.le_of_ble_eq_true rfl) dX7_readOne_9 (Nat.zero_le _) (Nat.zero_le _) (fun r1 u1 H1 locs1 hp1 hP hS => ?_)
  obtain ⟨σ1, τ1⟩ := u1
  obtain ⟨hR, f1, fL1, hq1⟩ : P_X7_beginsOne σ0 τ0 (σ0 1 9) r1 σ1 τ1 := hp1
  have hP : va_P D vwCl (gw cA ad σ1 τ1) H1 := hP
  obtain rfl := FrL.nil fL1
  obtain rfl := Fr.nil f1
  refine r_if_ne (tgt := 24) hx hb dX7_readOne_12 (by decide) (fun c2 => ?_) (fun c2 => ?_)
  · refine lv_aload_n hx hb dX7_readOne_24 rfl (lv_at hl 1 rfl) ?_
    refine fg_7_2 (k := 27) hx hb hts in_X7_readOne_7 hown hK hP (by decide) (by decide) (hts _ lk_X7_readOne_19) dX7_readOne_25 ?_
    refine fgN_6_1 (k := 24) hx hb hts in_X7_readOne_6 hown hK hP (by decide) (by decide) (hN.use nw_7_61) dX7_readOne_28 ?_
    have hr3 := rg_6_1 hR (k := 24) (by decide) (by decide)
    refine r_bipush hx hb dX7_readOne_31 (by decide) (fun z4 ez4 => ?_)
    refine r_icmp_ge (tgt := 42) hx hb dX7_readOne_33 (by decide) (fun c5 => ?_) (fun c5 => ?_)
    · refine lv_aload_n hx hb dX7_readOne_42 rfl (lv_at hl 1 rfl) ?_
      refine fg_7_0 (k := 27) hx hb hts in_X7_readOne_7 hown hK hP (by decide) (by decide) (hts _ lk_X7_readOne_9) dX7_readOne_43 ?_
      refine r_iconst hx hb dX7_readOne_46 (by decide) (fun z6 ez6 => ?_)
      refine r_cVi (k := 1) (As := [.int z6]) (rest := []) ⟨hx, hb, hml, hown, hts⟩ hK hP hN hS (c_X8_blame l D cA ad hI σ0 τ0 hR z6 (by omega)) (cwV 1 hts gX7_readOne_X8_blame rfl rfl rfl (by decide +kernel) ⟨by decide, by decide⟩) (rv_Tape hK hP (by decide) (by decide)) rfl hl.1 rfl (Nat.le_of_ble_eq_true rfl) dX7_readOne_47 (Nat.zero_le _) (Nat.zero_le _) (fun r7 u7 H7 locs7 hp7 hP hS => ?_)
      obtain ⟨σ7, τ7⟩ := u7
      obtain ⟨hR, f7, fL7, hq7⟩ : P_X8_blame σ0 τ0 z6 r7 σ7 τ7 := hp7
      have hP : va_P D vwCl (gw cA ad σ7 τ7) H7 := hP
      obtain rfl := FrL.nil fL7
      have hF := hF.step f7 (by decide)
      have t8 : (σ7 24 1).toInt = (σ0 24 1).toInt := congrArg Int32.toInt (f7.at 24 1 (by decide))
      exact r_zret hx hb hr hK hP hS hk (by omega) dX7_readOne_50 (show P_X7_readOne_d6 σ0 τ0 a1 r7 σ7 τ0 from ⟨hR, hF, hFL, by omega⟩)
    · refine lv_iload_n hx hb dX7_readOne_36 rfl (lv_at hl 2 rfl) ?_
      refine r_bipush hx hb dX7_readOne_37 (by decide) (fun z9 ez9 => ?_)
      refine r_icmp_le (tgt := 51) hx hb dX7_readOne_39 (by decide) (fun c10 => ?_) (fun c10 => ?_)
      · refine lv_aload_n hx hb dX7_readOne_51 rfl (lv_at hl 1 rfl) ?_
        refine fg_7_2 (k := 27) hx hb hts in_X7_readOne_7 hown hK hP (by decide) (by decide) (hts _ lk_X7_readOne_19) dX7_readOne_52 ?_
        refine lv_dup hx hb dX7_readOne_55 rfl ?_
        refine fgN_6_1 (k := 24) hx hb hts in_X7_readOne_6 hown hK hP (by decide) (by decide) (hN.use nw_7_61) dX7_readOne_56 ?_
        refine r_iconst hx hb dX7_readOne_59 (by decide) (fun z11 ez11 => ?_)
        refine r_iadd hx hb dX7_readOne_60 (by omega) (fun z12 ez12 => ?_)
        refine fpN_6_1 (k := 24) hx hb hts in_X7_readOne_6 hown hK hP (by decide) (by decide) (hN.use nw_7_61) hI hR hS (by omega) dX7_readOne_61 (fun σ13 H13 locs13 u13 v13 hR hP hS => ?_)
        have hF := hF.puts u13 4 rfl (by decide) (by decide) (by decide) (by decide)
        refine lv_aload_n hx hb dX7_readOne_64 rfl (lv_at hl 1 rfl) ?_
        refine fg_7_0 (k := 27) hx hb hts in_X7_readOne_7 hown hK hP (by decide) (by decide) (hts _ lk_X7_readOne_9) dX7_readOne_65 ?_
        refine r_cVv (k := 1) (As := []) (rest := []) ⟨hx, hb, hml, hown, hts⟩ hK hP hN hS (c_X8_next l D cA ad hI σ13 τ0 hR) (cwV 0 hts gX7_readOne_X8_next rfl rfl rfl (by decide +kernel) ⟨by decide, by decide⟩) (rv_Tape hK hP (by decide) (by decide)) rfl hl.1 rfl (Nat.le_of_ble_eq_true rfl) dX7_readOne_68 (Nat.zero_le _) (Nat.zero_le _) (fun u14 H14 locs14 hp14 hP hS => ?_)
        obtain ⟨σ14, τ14⟩ := u14
        obtain ⟨hR, f14, fL14⟩ : P_X8_next σ13 τ0 σ14 τ14 := hp14
        have hP : va_P D vwCl (gw cA ad σ14 τ14) H14 := hP
        have hFL := hFL.step fL14 (by decide)
        have hF := hF.step f14 (by decide)
        have t15 : (σ14 24 1).toInt = (σ13 24 1).toInt := congrArg Int32.toInt (f14.at 24 1 (by decide))
        refine lv_iload_n hx hb dX7_readOne_71 rfl (lv_at hl 0 rfl) ?_
        by_cases c16 : (σ0 1 9).toInt = 22
        · refine lv_tableIn (off := 108) (tgt := 180) hx hb dX7_readOne_72 (by omega) (by omega) (by rw [c16]; rfl) (by decide) ?_
          refine lv_aload_n hx hb dX7_readOne_180 rfl (lv_at hl 1 rfl) ?_
          refine lv_iload_n hx hb dX7_readOne_181 rfl (lv_at hl 2 rfl) ?_
          refine r_iconst hx hb dX7_readOne_182 (by decide) (fun z17 ez17 => ?_)
          refine r_iadd hx hb dX7_readOne_183 (by omega) (fun z18 ez18 => ?_)
          refine r_cVi (k := 27) (As := [.int z18]) (rest := []) ⟨hx, hb, hml, hown, hts⟩ hK hP hN hS (c_X7_readOne_d7 l D cA ad hI σ14 τ14 hR z18 (by omega)) (cwV 1 hts gX7_readOne_X7_readOne rfl rfl rfl (by decide +kernel) ⟨by decide, by decide⟩) (rv_SText hK hP (by decide) (by decide)) rfl hl.1 rfl (Nat.le_of_ble_eq_true rfl) dX7_readOne_184 (Nat.zero_le _) (Nat.zero_le _) (fun r19 u19 H19 locs19 hp19 hP hS => ?_)
          obtain ⟨σ19, τ19⟩ := u19
          obtain ⟨hR, f19, fL19, hq19⟩ : P_X7_readOne_d7 σ14 τ14 z18 r19 σ19 τ19 := hp19
          have hP : va_P D vwCl (gw cA ad σ19 τ19) H19 := hP
          have hFL := hFL.step fL19 (by decide)
          have hF := hF.step f19 (by decide)
          refine r_if_eq (tgt := 208) hx hb dX7_readOne_187 (by decide) (fun c20 => ?_) (fun c20 => ?_)
          · refine r_iconst hx hb dX7_readOne_208 (by decide) (fun z21 ez21 => ?_)
            exact r_zret hx hb hr hK hP hS hk (by omega) dX7_readOne_209 (show P_X7_readOne_d6 σ0 τ0 a1 z21 σ19 τ19 from ⟨hR, hF, hFL, by omega⟩)
          · refine lv_aload_n hx hb dX7_readOne_190 rfl (lv_at hl 1 rfl) ?_
            refine fg_7_2 (k := 27) hx hb hts in_X7_readOne_7 hown hK hP (by decide) (by decide) (hts _ lk_X7_readOne_19) dX7_readOne_191 ?_
            refine r_bipush hx hb dX7_readOne_194 (by decide) (fun z22 ez22 => ?_)
            refine r_iconst hx hb dX7_readOne_196 (by decide) (fun z23 ez23 => ?_)
            refine r_iconst hx hb dX7_readOne_197 (by decide) (fun z24 ez24 => ?_)
            refine r_cVi (k := 24) (As := [.int z22, .int z23, .int z24]) (rest := []) ⟨hx, hb, hml, hown, hts⟩ hK hP hN hS (c_X6_add l D cA ad hI σ19 τ19 hR z22 z23 z24 (by omega)) (cwV 3 hts gX7_readOne_X6_add rfl rfl rfl (by decide +kernel) ⟨by decide, by decide⟩) (rv_Sent hK hP (by decide) (by decide)) rfl hl.1 rfl (Nat.le_of_ble_eq_true rfl) dX7_readOne_198 (Nat.zero_le _) (Nat.zero_le _) (fun r25 u25 H25 locs25 hp25 hP hS => ?_)
            obtain ⟨σ25, τ25⟩ := u25
            obtain ⟨hR, f25, fL25, hq25⟩ : P_X6_add σ19 τ19 z22 z23 z24 r25 σ25 τ25 := hp25
            have hP : va_P D vwCl (gw cA ad σ25 τ25) H25 := hP
            obtain rfl := FrL.nil fL25
            have hF := hF.step f25 (by decide)
            refine r_if_eq (tgt := 208) hx hb dX7_readOne_201 (by decide) (fun c26 => ?_) (fun c26 => ?_)
            · refine r_iconst hx hb dX7_readOne_208 (by decide) (fun z27 ez27 => ?_)
              exact r_zret hx hb hr hK hP hS hk (by omega) dX7_readOne_209 (show P_X7_readOne_d6 σ0 τ0 a1 z27 σ25 τ19 from ⟨hR, hF, hFL, by omega⟩)
            · refine r_iconst hx hb dX7_readOne_204 (by decide) (fun z28 ez28 => ?_)
              refine lv_goto (tgt := 209) hx hb dX7_readOne_205 (by decide) ?_
              exact r_zret hx hb hr hK hP hS hk (by omega) dX7_readOne_209 (show P_X7_readOne_d6 σ0 τ0 a1 z28 σ25 τ19 from ⟨hR, hF, hFL, by omega⟩)
        by_cases c29 : (σ0 1 9).toInt = 23
        · refine lv_tableIn (off := 177) (tgt := 249) hx hb dX7_readOne_72 (by omega) (by omega) (by rw [c29]; rfl) (by decide) ?_
          refine lv_aload_n hx hb dX7_readOne_249 rfl (lv_at hl 1 rfl) ?_
          refine fg_7_2 (k := 27) hx hb hts in_X7_readOne_7 hown hK hP (by decide) (by decide) (hts _ lk_X7_readOne_19) dX7_readOne_250 ?_
          refine lv_iload_n hx hb dX7_readOne_253 rfl (lv_at hl 0 rfl) ?_
          refine r_bipush hx hb dX7_readOne_254 (by decide) (fun z30 ez30 => ?_)
          refine r_iconst hx hb dX7_readOne_256 (by decide) (fun z31 ez31 => ?_)
          refine r_cVi (k := 24) (As := [.int (σ0 1 9), .int z30, .int z31]) (rest := []) ⟨hx, hb, hml, hown, hts⟩ hK hP hN hS (c_X6_add l D cA ad hI σ14 τ14 hR (σ0 1 9) z30 z31 (by omega)) (cwV 3 hts gX7_readOne_X6_add rfl rfl rfl (by decide +kernel) ⟨by decide, by decide⟩) (rv_Sent hK hP (by decide) (by decide)) rfl hl.1 rfl (Nat.le_of_ble_eq_true rfl) dX7_readOne_257 (Nat.zero_le _) (Nat.zero_le _) (fun r32 u32 H32 locs32 hp32 hP hS => ?_)
          obtain ⟨σ32, τ32⟩ := u32
          obtain ⟨hR, f32, fL32, hq32⟩ : P_X6_add σ14 τ14 (σ0 1 9) z30 z31 r32 σ32 τ32 := hp32
          have hP : va_P D vwCl (gw cA ad σ32 τ32) H32 := hP
          obtain rfl := FrL.nil fL32
          have hF := hF.step f32 (by decide)
          have t33 : (σ32 24 1).toInt = (σ14 24 1).toInt := congrArg Int32.toInt (f32.at 24 1 (by decide))
          exact r_zret hx hb hr hK hP hS hk (by omega) dX7_readOne_260 (show P_X7_readOne_d6 σ0 τ0 a1 r32 σ32 τ14 from ⟨hR, hF, hFL, by omega⟩)
        by_cases c34 : (σ0 1 9).toInt = 24
        · refine lv_tableIn (off := 177) (tgt := 249) hx hb dX7_readOne_72 (by omega) (by omega) (by rw [c34]; rfl) (by decide) ?_
          refine lv_aload_n hx hb dX7_readOne_249 rfl (lv_at hl 1 rfl) ?_
          refine fg_7_2 (k := 27) hx hb hts in_X7_readOne_7 hown hK hP (by decide) (by decide) (hts _ lk_X7_readOne_19) dX7_readOne_250 ?_
          refine lv_iload_n hx hb dX7_readOne_253 rfl (lv_at hl 0 rfl) ?_
          refine r_bipush hx hb dX7_readOne_254 (by decide) (fun z35 ez35 => ?_)
          refine r_iconst hx hb dX7_readOne_256 (by decide) (fun z36 ez36 => ?_)
          refine r_cVi (k := 24) (As := [.int (σ0 1 9), .int z35, .int z36]) (rest := []) ⟨hx, hb, hml, hown, hts⟩ hK hP hN hS (c_X6_add l D cA ad hI σ14 τ14 hR (σ0 1 9) z35 z36 (by omega)) (cwV 3 hts gX7_readOne_X6_add rfl rfl rfl (by decide +kernel) ⟨by decide, by decide⟩) (rv_Sent hK hP (by decide) (by decide)) rfl hl.1 rfl (Nat.le_of_ble_eq_true rfl) dX7_readOne_257 (Nat.zero_le _) (Nat.zero_le _) (fun r37 u37 H37 locs37 hp37 hP hS => ?_)
          obtain ⟨σ37, τ37⟩ := u37
          obtain ⟨hR, f37, fL37, hq37⟩ : P_X6_add σ14 τ14 (σ0 1 9) z35 z36 r37 σ37 τ37 := hp37
          have hP : va_P D vwCl (gw cA ad σ37 τ37) H37 := hP
          obtain rfl := FrL.nil fL37
          have hF := hF.step f37 (by decide)
          have t38 : (σ37 24 1).toInt = (σ14 24 1).toInt := congrArg Int32.toInt (f37.at 24 1 (by decide))
          exact r_zret hx hb hr hK hP hS hk (by omega) dX7_readOne_260 (show P_X7_readOne_d6 σ0 τ0 a1 r37 σ37 τ14 from ⟨hR, hF, hFL, by omega⟩)
        by_cases c39 : (σ0 1 9).toInt = 25
        · refine lv_tableIn (off := 166) (tgt := 238) hx hb dX7_readOne_72 (by omega) (by omega) (by rw [c39]; rfl) (by decide) ?_
          refine lv_aload_n hx hb dX7_readOne_238 rfl (lv_at hl 1 rfl) ?_
          refine r_cVi (k := 27) (As := []) (rest := []) ⟨hx, hb, hml, hown, hts⟩ hK hP hN hS (c_X7_readOn l D cA ad hI σ14 τ14 hR) (cwV 0 hts gX7_readOne_X7_readOn rfl rfl rfl (by decide +kernel) ⟨by decide, by decide⟩) (rv_SText hK hP (by decide) (by decide)) rfl hl.1 rfl (Nat.le_of_ble_eq_true rfl) dX7_readOne_239 (Nat.zero_le _) (Nat.zero_le _) (fun r40 u40 H40 locs40 hp40 hP hS => ?_)
          obtain ⟨σ40, τ40⟩ := u40
          obtain ⟨hR, f40, fL40, hq40⟩ : P_X7_readOn σ14 τ14 r40 σ40 τ40 := hp40
          have hP : va_P D vwCl (gw cA ad σ40 τ40) H40 := hP
          have hFL := hFL.step fL40 (by decide)
          have hF := hF.step f40 (by decide)
          have t41 : (σ40 24 1).toInt = (σ14 24 1).toInt := congrArg Int32.toInt (f40.at 24 1 (by decide))
          exact r_zret hx hb hr hK hP hS hk (by omega) dX7_readOne_242 (show P_X7_readOne_d6 σ0 τ0 a1 r40 σ40 τ40 from ⟨hR, hF, hFL, by omega⟩)
        by_cases c42 : (σ0 1 9).toInt = 26
        · refine lv_tableIn (off := 177) (tgt := 249) hx hb dX7_readOne_72 (by omega) (by omega) (by rw [c42]; rfl) (by decide) ?_
          refine lv_aload_n hx hb dX7_readOne_249 rfl (lv_at hl 1 rfl) ?_
          refine fg_7_2 (k := 27) hx hb hts in_X7_readOne_7 hown hK hP (by decide) (by decide) (hts _ lk_X7_readOne_19) dX7_readOne_250 ?_
          refine lv_iload_n hx hb dX7_readOne_253 rfl (lv_at hl 0 rfl) ?_
          refine r_bipush hx hb dX7_readOne_254 (by decide) (fun z43 ez43 => ?_)
          refine r_iconst hx hb dX7_readOne_256 (by decide) (fun z44 ez44 => ?_)
          refine r_cVi (k := 24) (As := [.int (σ0 1 9), .int z43, .int z44]) (rest := []) ⟨hx, hb, hml, hown, hts⟩ hK hP hN hS (c_X6_add l D cA ad hI σ14 τ14 hR (σ0 1 9) z43 z44 (by omega)) (cwV 3 hts gX7_readOne_X6_add rfl rfl rfl (by decide +kernel) ⟨by decide, by decide⟩) (rv_Sent hK hP (by decide) (by decide)) rfl hl.1 rfl (Nat.le_of_ble_eq_true rfl) dX7_readOne_257 (Nat.zero_le _) (Nat.zero_le _) (fun r45 u45 H45 locs45 hp45 hP hS => ?_)
          obtain ⟨σ45, τ45⟩ := u45
          obtain ⟨hR, f45, fL45, hq45⟩ : P_X6_add σ14 τ14 (σ0 1 9) z43 z44 r45 σ45 τ45 := hp45
          have hP : va_P D vwCl (gw cA ad σ45 τ45) H45 := hP
          obtain rfl := FrL.nil fL45
          have hF := hF.step f45 (by decide)
          have t46 : (σ45 24 1).toInt = (σ14 24 1).toInt := congrArg Int32.toInt (f45.at 24 1 (by decide))
          exact r_zret hx hb hr hK hP hS hk (by omega) dX7_readOne_260 (show P_X7_readOne_d6 σ0 τ0 a1 r45 σ45 τ14 from ⟨hR, hF, hFL, by omega⟩)
        by_cases c47 : (σ0 1 9).toInt = 27
        · refine lv_tableIn (off := 171) (tgt := 243) hx hb dX7_readOne_72 (by omega) (by omega) (by rw [c47]; rfl) (by decide) ?_
          refine lv_aload_n hx hb dX7_readOne_243 rfl (lv_at hl 1 rfl) ?_
          refine lv_iload_n hx hb dX7_readOne_244 rfl (lv_at hl 0 rfl) ?_
          refine r_cVi (k := 27) (As := [.int (σ0 1 9)]) (rest := []) ⟨hx, hb, hml, hown, hts⟩ hK hP hN hS (c_X7_readMeasure l D cA ad hI σ14 τ14 hR (σ0 1 9) (by omega)) (cwV 1 hts gX7_readOne_X7_readMeasure rfl rfl rfl (by decide +kernel) ⟨by decide, by decide⟩) (rv_SText hK hP (by decide) (by decide)) rfl hl.1 rfl (Nat.le_of_ble_eq_true rfl) dX7_readOne_245 (Nat.zero_le _) (Nat.zero_le _) (fun r48 u48 H48 locs48 hp48 hP hS => ?_)
          obtain ⟨σ48, τ48⟩ := u48
          obtain ⟨hR, f48, fL48, hq48⟩ : P_X7_readMeasure σ14 τ14 (σ0 1 9) r48 σ48 τ48 := hp48
          have hP : va_P D vwCl (gw cA ad σ48 τ48) H48 := hP
          have hFL := hFL.step fL48 (by decide)
          have hF := hF.step f48 (by decide)
          have t49 : (σ48 24 1).toInt = (σ14 24 1).toInt := congrArg Int32.toInt (f48.at 24 1 (by decide))
          exact r_zret hx hb hr hK hP hS hk (by omega) dX7_readOne_248 (show P_X7_readOne_d6 σ0 τ0 a1 r48 σ48 τ48 from ⟨hR, hF, hFL, by omega⟩)
        by_cases c50 : (σ0 1 9).toInt = 28
        · refine lv_tableIn (off := 171) (tgt := 243) hx hb dX7_readOne_72 (by omega) (by omega) (by rw [c50]; rfl) (by decide) ?_
          refine lv_aload_n hx hb dX7_readOne_243 rfl (lv_at hl 1 rfl) ?_
          refine lv_iload_n hx hb dX7_readOne_244 rfl (lv_at hl 0 rfl) ?_
          refine r_cVi (k := 27) (As := [.int (σ0 1 9)]) (rest := []) ⟨hx, hb, hml, hown, hts⟩ hK hP hN hS (c_X7_readMeasure l D cA ad hI σ14 τ14 hR (σ0 1 9) (by omega)) (cwV 1 hts gX7_readOne_X7_readMeasure rfl rfl rfl (by decide +kernel) ⟨by decide, by decide⟩) (rv_SText hK hP (by decide) (by decide)) rfl hl.1 rfl (Nat.le_of_ble_eq_true rfl) dX7_readOne_245 (Nat.zero_le _) (Nat.zero_le _) (fun r51 u51 H51 locs51 hp51 hP hS => ?_)
          obtain ⟨σ51, τ51⟩ := u51
          obtain ⟨hR, f51, fL51, hq51⟩ : P_X7_readMeasure σ14 τ14 (σ0 1 9) r51 σ51 τ51 := hp51
          have hP : va_P D vwCl (gw cA ad σ51 τ51) H51 := hP
          have hFL := hFL.step fL51 (by decide)
          have hF := hF.step f51 (by decide)
          have t52 : (σ51 24 1).toInt = (σ14 24 1).toInt := congrArg Int32.toInt (f51.at 24 1 (by decide))
          exact r_zret hx hb hr hK hP hS hk (by omega) dX7_readOne_248 (show P_X7_readOne_d6 σ0 τ0 a1 r51 σ51 τ51 from ⟨hR, hF, hFL, by omega⟩)
        by_cases c53 : (σ0 1 9).toInt = 29
        · refine lv_tableIn (off := 171) (tgt := 243) hx hb dX7_readOne_72 (by omega) (by omega) (by rw [c53]; rfl) (by decide) ?_
          refine lv_aload_n hx hb dX7_readOne_243 rfl (lv_at hl 1 rfl) ?_
          refine lv_iload_n hx hb dX7_readOne_244 rfl (lv_at hl 0 rfl) ?_
          refine r_cVi (k := 27) (As := [.int (σ0 1 9)]) (rest := []) ⟨hx, hb, hml, hown, hts⟩ hK hP hN hS (c_X7_readMeasure l D cA ad hI σ14 τ14 hR (σ0 1 9) (by omega)) (cwV 1 hts gX7_readOne_X7_readMeasure rfl rfl rfl (by decide +kernel) ⟨by decide, by decide⟩) (rv_SText hK hP (by decide) (by decide)) rfl hl.1 rfl (Nat.le_of_ble_eq_true rfl) dX7_readOne_245 (Nat.zero_le _) (Nat.zero_le _) (fun r54 u54 H54 locs54 hp54 hP hS => ?_)
          obtain ⟨σ54, τ54⟩ := u54
          obtain ⟨hR, f54, fL54, hq54⟩ : P_X7_readMeasure σ14 τ14 (σ0 1 9) r54 σ54 τ54 := hp54
          have hP : va_P D vwCl (gw cA ad σ54 τ54) H54 := hP
          have hFL := hFL.step fL54 (by decide)
          have hF := hF.step f54 (by decide)
          have t55 : (σ54 24 1).toInt = (σ14 24 1).toInt := congrArg Int32.toInt (f54.at 24 1 (by decide))
          exact r_zret hx hb hr hK hP hS hk (by omega) dX7_readOne_248 (show P_X7_readOne_d6 σ0 τ0 a1 r54 σ54 τ54 from ⟨hR, hF, hFL, by omega⟩)
        by_cases c56 : (σ0 1 9).toInt = 30
        · refine lv_tableIn (off := 171) (tgt := 243) hx hb dX7_readOne_72 (by omega) (by omega) (by rw [c56]; rfl) (by decide) ?_
          refine lv_aload_n hx hb dX7_readOne_243 rfl (lv_at hl 1 rfl) ?_
          refine lv_iload_n hx hb dX7_readOne_244 rfl (lv_at hl 0 rfl) ?_
          refine r_cVi (k := 27) (As := [.int (σ0 1 9)]) (rest := []) ⟨hx, hb, hml, hown, hts⟩ hK hP hN hS (c_X7_readMeasure l D cA ad hI σ14 τ14 hR (σ0 1 9) (by omega)) (cwV 1 hts gX7_readOne_X7_readMeasure rfl rfl rfl (by decide +kernel) ⟨by decide, by decide⟩) (rv_SText hK hP (by decide) (by decide)) rfl hl.1 rfl (Nat.le_of_ble_eq_true rfl) dX7_readOne_245 (Nat.zero_le _) (Nat.zero_le _) (fun r57 u57 H57 locs57 hp57 hP hS => ?_)
          obtain ⟨σ57, τ57⟩ := u57
          obtain ⟨hR, f57, fL57, hq57⟩ : P_X7_readMeasure σ14 τ14 (σ0 1 9) r57 σ57 τ57 := hp57
          have hP : va_P D vwCl (gw cA ad σ57 τ57) H57 := hP
          have hFL := hFL.step fL57 (by decide)
          have hF := hF.step f57 (by decide)
          have t58 : (σ57 24 1).toInt = (σ14 24 1).toInt := congrArg Int32.toInt (f57.at 24 1 (by decide))
          exact r_zret hx hb hr hK hP hS hk (by omega) dX7_readOne_248 (show P_X7_readOne_d6 σ0 τ0 a1 r57 σ57 τ57 from ⟨hR, hF, hFL, by omega⟩)
        by_cases c59 : (σ0 1 9).toInt = 31
        · refine lv_tableIn (off := 177) (tgt := 249) hx hb dX7_readOne_72 (by omega) (by omega) (by rw [c59]; rfl) (by decide) ?_
          refine lv_aload_n hx hb dX7_readOne_249 rfl (lv_at hl 1 rfl) ?_
          refine fg_7_2 (k := 27) hx hb hts in_X7_readOne_7 hown hK hP (by decide) (by decide) (hts _ lk_X7_readOne_19) dX7_readOne_250 ?_
          refine lv_iload_n hx hb dX7_readOne_253 rfl (lv_at hl 0 rfl) ?_
          refine r_bipush hx hb dX7_readOne_254 (by decide) (fun z60 ez60 => ?_)
          refine r_iconst hx hb dX7_readOne_256 (by decide) (fun z61 ez61 => ?_)
          refine r_cVi (k := 24) (As := [.int (σ0 1 9), .int z60, .int z61]) (rest := []) ⟨hx, hb, hml, hown, hts⟩ hK hP hN hS (c_X6_add l D cA ad hI σ14 τ14 hR (σ0 1 9) z60 z61 (by omega)) (cwV 3 hts gX7_readOne_X6_add rfl rfl rfl (by decide +kernel) ⟨by decide, by decide⟩) (rv_Sent hK hP (by decide) (by decide)) rfl hl.1 rfl (Nat.le_of_ble_eq_true rfl) dX7_readOne_257 (Nat.zero_le _) (Nat.zero_le _) (fun r62 u62 H62 locs62 hp62 hP hS => ?_)
          obtain ⟨σ62, τ62⟩ := u62
          obtain ⟨hR, f62, fL62, hq62⟩ : P_X6_add σ14 τ14 (σ0 1 9) z60 z61 r62 σ62 τ62 := hp62
          have hP : va_P D vwCl (gw cA ad σ62 τ62) H62 := hP
          obtain rfl := FrL.nil fL62
          have hF := hF.step f62 (by decide)
          have t63 : (σ62 24 1).toInt = (σ14 24 1).toInt := congrArg Int32.toInt (f62.at 24 1 (by decide))
          exact r_zret hx hb hr hK hP hS hk (by omega) dX7_readOne_260 (show P_X7_readOne_d6 σ0 τ0 a1 r62 σ62 τ14 from ⟨hR, hF, hFL, by omega⟩)
        by_cases c64 : (σ0 1 9).toInt = 32
        · refine lv_tableIn (off := 177) (tgt := 249) hx hb dX7_readOne_72 (by omega) (by omega) (by rw [c64]; rfl) (by decide) ?_
          refine lv_aload_n hx hb dX7_readOne_249 rfl (lv_at hl 1 rfl) ?_
          refine fg_7_2 (k := 27) hx hb hts in_X7_readOne_7 hown hK hP (by decide) (by decide) (hts _ lk_X7_readOne_19) dX7_readOne_250 ?_
          refine lv_iload_n hx hb dX7_readOne_253 rfl (lv_at hl 0 rfl) ?_
          refine r_bipush hx hb dX7_readOne_254 (by decide) (fun z65 ez65 => ?_)
          refine r_iconst hx hb dX7_readOne_256 (by decide) (fun z66 ez66 => ?_)
          refine r_cVi (k := 24) (As := [.int (σ0 1 9), .int z65, .int z66]) (rest := []) ⟨hx, hb, hml, hown, hts⟩ hK hP hN hS (c_X6_add l D cA ad hI σ14 τ14 hR (σ0 1 9) z65 z66 (by omega)) (cwV 3 hts gX7_readOne_X6_add rfl rfl rfl (by decide +kernel) ⟨by decide, by decide⟩) (rv_Sent hK hP (by decide) (by decide)) rfl hl.1 rfl (Nat.le_of_ble_eq_true rfl) dX7_readOne_257 (Nat.zero_le _) (Nat.zero_le _) (fun r67 u67 H67 locs67 hp67 hP hS => ?_)
          obtain ⟨σ67, τ67⟩ := u67
          obtain ⟨hR, f67, fL67, hq67⟩ : P_X6_add σ14 τ14 (σ0 1 9) z65 z66 r67 σ67 τ67 := hp67
          have hP : va_P D vwCl (gw cA ad σ67 τ67) H67 := hP
          obtain rfl := FrL.nil fL67
          have hF := hF.step f67 (by decide)
          have t68 : (σ67 24 1).toInt = (σ14 24 1).toInt := congrArg Int32.toInt (f67.at 24 1 (by decide))
          exact r_zret hx hb hr hK hP hS hk (by omega) dX7_readOne_260 (show P_X7_readOne_d6 σ0 τ0 a1 r67 σ67 τ14 from ⟨hR, hF, hFL, by omega⟩)
        by_cases c69 : (σ0 1 9).toInt = 33
        · refine lv_tableIn (off := 177) (tgt := 249) hx hb dX7_readOne_72 (by omega) (by omega) (by rw [c69]; rfl) (by decide) ?_
          refine lv_aload_n hx hb dX7_readOne_249 rfl (lv_at hl 1 rfl) ?_
          refine fg_7_2 (k := 27) hx hb hts in_X7_readOne_7 hown hK hP (by decide) (by decide) (hts _ lk_X7_readOne_19) dX7_readOne_250 ?_
          refine lv_iload_n hx hb dX7_readOne_253 rfl (lv_at hl 0 rfl) ?_
          refine r_bipush hx hb dX7_readOne_254 (by decide) (fun z70 ez70 => ?_)
          refine r_iconst hx hb dX7_readOne_256 (by decide) (fun z71 ez71 => ?_)
          refine r_cVi (k := 24) (As := [.int (σ0 1 9), .int z70, .int z71]) (rest := []) ⟨hx, hb, hml, hown, hts⟩ hK hP hN hS (c_X6_add l D cA ad hI σ14 τ14 hR (σ0 1 9) z70 z71 (by omega)) (cwV 3 hts gX7_readOne_X6_add rfl rfl rfl (by decide +kernel) ⟨by decide, by decide⟩) (rv_Sent hK hP (by decide) (by decide)) rfl hl.1 rfl (Nat.le_of_ble_eq_true rfl) dX7_readOne_257 (Nat.zero_le _) (Nat.zero_le _) (fun r72 u72 H72 locs72 hp72 hP hS => ?_)
          obtain ⟨σ72, τ72⟩ := u72
          obtain ⟨hR, f72, fL72, hq72⟩ : P_X6_add σ14 τ14 (σ0 1 9) z70 z71 r72 σ72 τ72 := hp72
          have hP : va_P D vwCl (gw cA ad σ72 τ72) H72 := hP
          obtain rfl := FrL.nil fL72
          have hF := hF.step f72 (by decide)
          have t73 : (σ72 24 1).toInt = (σ14 24 1).toInt := congrArg Int32.toInt (f72.at 24 1 (by decide))
          exact r_zret hx hb hr hK hP hS hk (by omega) dX7_readOne_260 (show P_X7_readOne_d6 σ0 τ0 a1 r72 σ72 τ14 from ⟨hR, hF, hFL, by omega⟩)
        by_cases c74 : (σ0 1 9).toInt = 34
        · refine lv_tableIn (off := 177) (tgt := 249) hx hb dX7_readOne_72 (by omega) (by omega) (by rw [c74]; rfl) (by decide) ?_
          refine lv_aload_n hx hb dX7_readOne_249 rfl (lv_at hl 1 rfl) ?_
          refine fg_7_2 (k := 27) hx hb hts in_X7_readOne_7 hown hK hP (by decide) (by decide) (hts _ lk_X7_readOne_19) dX7_readOne_250 ?_
          refine lv_iload_n hx hb dX7_readOne_253 rfl (lv_at hl 0 rfl) ?_
          refine r_bipush hx hb dX7_readOne_254 (by decide) (fun z75 ez75 => ?_)
          refine r_iconst hx hb dX7_readOne_256 (by decide) (fun z76 ez76 => ?_)
          refine r_cVi (k := 24) (As := [.int (σ0 1 9), .int z75, .int z76]) (rest := []) ⟨hx, hb, hml, hown, hts⟩ hK hP hN hS (c_X6_add l D cA ad hI σ14 τ14 hR (σ0 1 9) z75 z76 (by omega)) (cwV 3 hts gX7_readOne_X6_add rfl rfl rfl (by decide +kernel) ⟨by decide, by decide⟩) (rv_Sent hK hP (by decide) (by decide)) rfl hl.1 rfl (Nat.le_of_ble_eq_true rfl) dX7_readOne_257 (Nat.zero_le _) (Nat.zero_le _) (fun r77 u77 H77 locs77 hp77 hP hS => ?_)
          obtain ⟨σ77, τ77⟩ := u77
          obtain ⟨hR, f77, fL77, hq77⟩ : P_X6_add σ14 τ14 (σ0 1 9) z75 z76 r77 σ77 τ77 := hp77
          have hP : va_P D vwCl (gw cA ad σ77 τ77) H77 := hP
          obtain rfl := FrL.nil fL77
          have hF := hF.step f77 (by decide)
          have t78 : (σ77 24 1).toInt = (σ14 24 1).toInt := congrArg Int32.toInt (f77.at 24 1 (by decide))
          exact r_zret hx hb hr hK hP hS hk (by omega) dX7_readOne_260 (show P_X7_readOne_d6 σ0 τ0 a1 r77 σ77 τ14 from ⟨hR, hF, hFL, by omega⟩)
        by_cases c79 : (σ0 1 9).toInt = 35
        · refine lv_tableIn (off := 177) (tgt := 249) hx hb dX7_readOne_72 (by omega) (by omega) (by rw [c79]; rfl) (by decide) ?_
          refine lv_aload_n hx hb dX7_readOne_249 rfl (lv_at hl 1 rfl) ?_
          refine fg_7_2 (k := 27) hx hb hts in_X7_readOne_7 hown hK hP (by decide) (by decide) (hts _ lk_X7_readOne_19) dX7_readOne_250 ?_
          refine lv_iload_n hx hb dX7_readOne_253 rfl (lv_at hl 0 rfl) ?_
          refine r_bipush hx hb dX7_readOne_254 (by decide) (fun z80 ez80 => ?_)
          refine r_iconst hx hb dX7_readOne_256 (by decide) (fun z81 ez81 => ?_)
          refine r_cVi (k := 24) (As := [.int (σ0 1 9), .int z80, .int z81]) (rest := []) ⟨hx, hb, hml, hown, hts⟩ hK hP hN hS (c_X6_add l D cA ad hI σ14 τ14 hR (σ0 1 9) z80 z81 (by omega)) (cwV 3 hts gX7_readOne_X6_add rfl rfl rfl (by decide +kernel) ⟨by decide, by decide⟩) (rv_Sent hK hP (by decide) (by decide)) rfl hl.1 rfl (Nat.le_of_ble_eq_true rfl) dX7_readOne_257 (Nat.zero_le _) (Nat.zero_le _) (fun r82 u82 H82 locs82 hp82 hP hS => ?_)
          obtain ⟨σ82, τ82⟩ := u82
          obtain ⟨hR, f82, fL82, hq82⟩ : P_X6_add σ14 τ14 (σ0 1 9) z80 z81 r82 σ82 τ82 := hp82
          have hP : va_P D vwCl (gw cA ad σ82 τ82) H82 := hP
          obtain rfl := FrL.nil fL82
          have hF := hF.step f82 (by decide)
          have t83 : (σ82 24 1).toInt = (σ14 24 1).toInt := congrArg Int32.toInt (f82.at 24 1 (by decide))
          exact r_zret hx hb hr hK hP hS hk (by omega) dX7_readOne_260 (show P_X7_readOne_d6 σ0 τ0 a1 r82 σ82 τ14 from ⟨hR, hF, hFL, by omega⟩)
        by_cases c84 : (σ0 1 9).toInt = 36
        · refine lv_tableIn (off := 177) (tgt := 249) hx hb dX7_readOne_72 (by omega) (by omega) (by rw [c84]; rfl) (by decide) ?_
          refine lv_aload_n hx hb dX7_readOne_249 rfl (lv_at hl 1 rfl) ?_
          refine fg_7_2 (k := 27) hx hb hts in_X7_readOne_7 hown hK hP (by decide) (by decide) (hts _ lk_X7_readOne_19) dX7_readOne_250 ?_
          refine lv_iload_n hx hb dX7_readOne_253 rfl (lv_at hl 0 rfl) ?_
          refine r_bipush hx hb dX7_readOne_254 (by decide) (fun z85 ez85 => ?_)
          refine r_iconst hx hb dX7_readOne_256 (by decide) (fun z86 ez86 => ?_)
          refine r_cVi (k := 24) (As := [.int (σ0 1 9), .int z85, .int z86]) (rest := []) ⟨hx, hb, hml, hown, hts⟩ hK hP hN hS (c_X6_add l D cA ad hI σ14 τ14 hR (σ0 1 9) z85 z86 (by omega)) (cwV 3 hts gX7_readOne_X6_add rfl rfl rfl (by decide +kernel) ⟨by decide, by decide⟩) (rv_Sent hK hP (by decide) (by decide)) rfl hl.1 rfl (Nat.le_of_ble_eq_true rfl) dX7_readOne_257 (Nat.zero_le _) (Nat.zero_le _) (fun r87 u87 H87 locs87 hp87 hP hS => ?_)
          obtain ⟨σ87, τ87⟩ := u87
          obtain ⟨hR, f87, fL87, hq87⟩ : P_X6_add σ14 τ14 (σ0 1 9) z85 z86 r87 σ87 τ87 := hp87
          have hP : va_P D vwCl (gw cA ad σ87 τ87) H87 := hP
          obtain rfl := FrL.nil fL87
          have hF := hF.step f87 (by decide)
          have t88 : (σ87 24 1).toInt = (σ14 24 1).toInt := congrArg Int32.toInt (f87.at 24 1 (by decide))
          exact r_zret hx hb hr hK hP hS hk (by omega) dX7_readOne_260 (show P_X7_readOne_d6 σ0 τ0 a1 r87 σ87 τ14 from ⟨hR, hF, hFL, by omega⟩)
        by_cases c89 : (σ0 1 9).toInt = 37
        · refine lv_tableIn (off := 177) (tgt := 249) hx hb dX7_readOne_72 (by omega) (by omega) (by rw [c89]; rfl) (by decide) ?_
          refine lv_aload_n hx hb dX7_readOne_249 rfl (lv_at hl 1 rfl) ?_
          refine fg_7_2 (k := 27) hx hb hts in_X7_readOne_7 hown hK hP (by decide) (by decide) (hts _ lk_X7_readOne_19) dX7_readOne_250 ?_
          refine lv_iload_n hx hb dX7_readOne_253 rfl (lv_at hl 0 rfl) ?_
          refine r_bipush hx hb dX7_readOne_254 (by decide) (fun z90 ez90 => ?_)
          refine r_iconst hx hb dX7_readOne_256 (by decide) (fun z91 ez91 => ?_)
          refine r_cVi (k := 24) (As := [.int (σ0 1 9), .int z90, .int z91]) (rest := []) ⟨hx, hb, hml, hown, hts⟩ hK hP hN hS (c_X6_add l D cA ad hI σ14 τ14 hR (σ0 1 9) z90 z91 (by omega)) (cwV 3 hts gX7_readOne_X6_add rfl rfl rfl (by decide +kernel) ⟨by decide, by decide⟩) (rv_Sent hK hP (by decide) (by decide)) rfl hl.1 rfl (Nat.le_of_ble_eq_true rfl) dX7_readOne_257 (Nat.zero_le _) (Nat.zero_le _) (fun r92 u92 H92 locs92 hp92 hP hS => ?_)
          obtain ⟨σ92, τ92⟩ := u92
          obtain ⟨hR, f92, fL92, hq92⟩ : P_X6_add σ14 τ14 (σ0 1 9) z90 z91 r92 σ92 τ92 := hp92
          have hP : va_P D vwCl (gw cA ad σ92 τ92) H92 := hP
          obtain rfl := FrL.nil fL92
          have hF := hF.step f92 (by decide)
          have t93 : (σ92 24 1).toInt = (σ14 24 1).toInt := congrArg Int32.toInt (f92.at 24 1 (by decide))
          exact r_zret hx hb hr hK hP hS hk (by omega) dX7_readOne_260 (show P_X7_readOne_d6 σ0 τ0 a1 r92 σ92 τ14 from ⟨hR, hF, hFL, by omega⟩)
        by_cases c94 : (σ0 1 9).toInt = 38
        · refine lv_tableIn (off := 177) (tgt := 249) hx hb dX7_readOne_72 (by omega) (by omega) (by rw [c94]; rfl) (by decide) ?_
          refine lv_aload_n hx hb dX7_readOne_249 rfl (lv_at hl 1 rfl) ?_
          refine fg_7_2 (k := 27) hx hb hts in_X7_readOne_7 hown hK hP (by decide) (by decide) (hts _ lk_X7_readOne_19) dX7_readOne_250 ?_
          refine lv_iload_n hx hb dX7_readOne_253 rfl (lv_at hl 0 rfl) ?_
          refine r_bipush hx hb dX7_readOne_254 (by decide) (fun z95 ez95 => ?_)
          refine r_iconst hx hb dX7_readOne_256 (by decide) (fun z96 ez96 => ?_)
          refine r_cVi (k := 24) (As := [.int (σ0 1 9), .int z95, .int z96]) (rest := []) ⟨hx, hb, hml, hown, hts⟩ hK hP hN hS (c_X6_add l D cA ad hI σ14 τ14 hR (σ0 1 9) z95 z96 (by omega)) (cwV 3 hts gX7_readOne_X6_add rfl rfl rfl (by decide +kernel) ⟨by decide, by decide⟩) (rv_Sent hK hP (by decide) (by decide)) rfl hl.1 rfl (Nat.le_of_ble_eq_true rfl) dX7_readOne_257 (Nat.zero_le _) (Nat.zero_le _) (fun r97 u97 H97 locs97 hp97 hP hS => ?_)
          obtain ⟨σ97, τ97⟩ := u97
          obtain ⟨hR, f97, fL97, hq97⟩ : P_X6_add σ14 τ14 (σ0 1 9) z95 z96 r97 σ97 τ97 := hp97
          have hP : va_P D vwCl (gw cA ad σ97 τ97) H97 := hP
          obtain rfl := FrL.nil fL97
          have hF := hF.step f97 (by decide)
          have t98 : (σ97 24 1).toInt = (σ14 24 1).toInt := congrArg Int32.toInt (f97.at 24 1 (by decide))
          exact r_zret hx hb hr hK hP hS hk (by omega) dX7_readOne_260 (show P_X7_readOne_d6 σ0 τ0 a1 r97 σ97 τ14 from ⟨hR, hF, hFL, by omega⟩)
        by_cases c99 : (σ0 1 9).toInt = 39
        · refine lv_tableIn (off := 177) (tgt := 249) hx hb dX7_readOne_72 (by omega) (by omega) (by rw [c99]; rfl) (by decide) ?_
          refine lv_aload_n hx hb dX7_readOne_249 rfl (lv_at hl 1 rfl) ?_
          refine fg_7_2 (k := 27) hx hb hts in_X7_readOne_7 hown hK hP (by decide) (by decide) (hts _ lk_X7_readOne_19) dX7_readOne_250 ?_
          refine lv_iload_n hx hb dX7_readOne_253 rfl (lv_at hl 0 rfl) ?_
          refine r_bipush hx hb dX7_readOne_254 (by decide) (fun z100 ez100 => ?_)
          refine r_iconst hx hb dX7_readOne_256 (by decide) (fun z101 ez101 => ?_)
          refine r_cVi (k := 24) (As := [.int (σ0 1 9), .int z100, .int z101]) (rest := []) ⟨hx, hb, hml, hown, hts⟩ hK hP hN hS (c_X6_add l D cA ad hI σ14 τ14 hR (σ0 1 9) z100 z101 (by omega)) (cwV 3 hts gX7_readOne_X6_add rfl rfl rfl (by decide +kernel) ⟨by decide, by decide⟩) (rv_Sent hK hP (by decide) (by decide)) rfl hl.1 rfl (Nat.le_of_ble_eq_true rfl) dX7_readOne_257 (Nat.zero_le _) (Nat.zero_le _) (fun r102 u102 H102 locs102 hp102 hP hS => ?_)
          obtain ⟨σ102, τ102⟩ := u102
          obtain ⟨hR, f102, fL102, hq102⟩ : P_X6_add σ14 τ14 (σ0 1 9) z100 z101 r102 σ102 τ102 := hp102
          have hP : va_P D vwCl (gw cA ad σ102 τ102) H102 := hP
          obtain rfl := FrL.nil fL102
          have hF := hF.step f102 (by decide)
          have t103 : (σ102 24 1).toInt = (σ14 24 1).toInt := congrArg Int32.toInt (f102.at 24 1 (by decide))
          exact r_zret hx hb hr hK hP hS hk (by omega) dX7_readOne_260 (show P_X7_readOne_d6 σ0 τ0 a1 r102 σ102 τ14 from ⟨hR, hF, hFL, by omega⟩)
        by_cases c104 : (σ0 1 9).toInt = 40
        · refine lv_tableIn (off := 177) (tgt := 249) hx hb dX7_readOne_72 (by omega) (by omega) (by rw [c104]; rfl) (by decide) ?_
          refine lv_aload_n hx hb dX7_readOne_249 rfl (lv_at hl 1 rfl) ?_
          refine fg_7_2 (k := 27) hx hb hts in_X7_readOne_7 hown hK hP (by decide) (by decide) (hts _ lk_X7_readOne_19) dX7_readOne_250 ?_
          refine lv_iload_n hx hb dX7_readOne_253 rfl (lv_at hl 0 rfl) ?_
          refine r_bipush hx hb dX7_readOne_254 (by decide) (fun z105 ez105 => ?_)
          refine r_iconst hx hb dX7_readOne_256 (by decide) (fun z106 ez106 => ?_)
          refine r_cVi (k := 24) (As := [.int (σ0 1 9), .int z105, .int z106]) (rest := []) ⟨hx, hb, hml, hown, hts⟩ hK hP hN hS (c_X6_add l D cA ad hI σ14 τ14 hR (σ0 1 9) z105 z106 (by omega)) (cwV 3 hts gX7_readOne_X6_add rfl rfl rfl (by decide +kernel) ⟨by decide, by decide⟩) (rv_Sent hK hP (by decide) (by decide)) rfl hl.1 rfl (Nat.le_of_ble_eq_true rfl) dX7_readOne_257 (Nat.zero_le _) (Nat.zero_le _) (fun r107 u107 H107 locs107 hp107 hP hS => ?_)
          obtain ⟨σ107, τ107⟩ := u107
          obtain ⟨hR, f107, fL107, hq107⟩ : P_X6_add σ14 τ14 (σ0 1 9) z105 z106 r107 σ107 τ107 := hp107
          have hP : va_P D vwCl (gw cA ad σ107 τ107) H107 := hP
          obtain rfl := FrL.nil fL107
          have hF := hF.step f107 (by decide)
          have t108 : (σ107 24 1).toInt = (σ14 24 1).toInt := congrArg Int32.toInt (f107.at 24 1 (by decide))
          exact r_zret hx hb hr hK hP hS hk (by omega) dX7_readOne_260 (show P_X7_readOne_d6 σ0 τ0 a1 r107 σ107 τ14 from ⟨hR, hF, hFL, by omega⟩)
        by_cases c109 : (σ0 1 9).toInt = 41
        · refine lv_tableIn (off := 177) (tgt := 249) hx hb dX7_readOne_72 (by omega) (by omega) (by rw [c109]; rfl) (by decide) ?_
          refine lv_aload_n hx hb dX7_readOne_249 rfl (lv_at hl 1 rfl) ?_
          refine fg_7_2 (k := 27) hx hb hts in_X7_readOne_7 hown hK hP (by decide) (by decide) (hts _ lk_X7_readOne_19) dX7_readOne_250 ?_
          refine lv_iload_n hx hb dX7_readOne_253 rfl (lv_at hl 0 rfl) ?_
          refine r_bipush hx hb dX7_readOne_254 (by decide) (fun z110 ez110 => ?_)
          refine r_iconst hx hb dX7_readOne_256 (by decide) (fun z111 ez111 => ?_)
          refine r_cVi (k := 24) (As := [.int (σ0 1 9), .int z110, .int z111]) (rest := []) ⟨hx, hb, hml, hown, hts⟩ hK hP hN hS (c_X6_add l D cA ad hI σ14 τ14 hR (σ0 1 9) z110 z111 (by omega)) (cwV 3 hts gX7_readOne_X6_add rfl rfl rfl (by decide +kernel) ⟨by decide, by decide⟩) (rv_Sent hK hP (by decide) (by decide)) rfl hl.1 rfl (Nat.le_of_ble_eq_true rfl) dX7_readOne_257 (Nat.zero_le _) (Nat.zero_le _) (fun r112 u112 H112 locs112 hp112 hP hS => ?_)
          obtain ⟨σ112, τ112⟩ := u112
          obtain ⟨hR, f112, fL112, hq112⟩ : P_X6_add σ14 τ14 (σ0 1 9) z110 z111 r112 σ112 τ112 := hp112
          have hP : va_P D vwCl (gw cA ad σ112 τ112) H112 := hP
          obtain rfl := FrL.nil fL112
          have hF := hF.step f112 (by decide)
          have t113 : (σ112 24 1).toInt = (σ14 24 1).toInt := congrArg Int32.toInt (f112.at 24 1 (by decide))
          exact r_zret hx hb hr hK hP hS hk (by omega) dX7_readOne_260 (show P_X7_readOne_d6 σ0 τ0 a1 r112 σ112 τ14 from ⟨hR, hF, hFL, by omega⟩)
        by_cases c114 : (σ0 1 9).toInt = 42
        · refine lv_tableIn (off := 177) (tgt := 249) hx hb dX7_readOne_72 (by omega) (by omega) (by rw [c114]; rfl) (by decide) ?_
          refine lv_aload_n hx hb dX7_readOne_249 rfl (lv_at hl 1 rfl) ?_
          refine fg_7_2 (k := 27) hx hb hts in_X7_readOne_7 hown hK hP (by decide) (by decide) (hts _ lk_X7_readOne_19) dX7_readOne_250 ?_
          refine lv_iload_n hx hb dX7_readOne_253 rfl (lv_at hl 0 rfl) ?_
          refine r_bipush hx hb dX7_readOne_254 (by decide) (fun z115 ez115 => ?_)
          refine r_iconst hx hb dX7_readOne_256 (by decide) (fun z116 ez116 => ?_)
          refine r_cVi (k := 24) (As := [.int (σ0 1 9), .int z115, .int z116]) (rest := []) ⟨hx, hb, hml, hown, hts⟩ hK hP hN hS (c_X6_add l D cA ad hI σ14 τ14 hR (σ0 1 9) z115 z116 (by omega)) (cwV 3 hts gX7_readOne_X6_add rfl rfl rfl (by decide +kernel) ⟨by decide, by decide⟩) (rv_Sent hK hP (by decide) (by decide)) rfl hl.1 rfl (Nat.le_of_ble_eq_true rfl) dX7_readOne_257 (Nat.zero_le _) (Nat.zero_le _) (fun r117 u117 H117 locs117 hp117 hP hS => ?_)
          obtain ⟨σ117, τ117⟩ := u117
          obtain ⟨hR, f117, fL117, hq117⟩ : P_X6_add σ14 τ14 (σ0 1 9) z115 z116 r117 σ117 τ117 := hp117
          have hP : va_P D vwCl (gw cA ad σ117 τ117) H117 := hP
          obtain rfl := FrL.nil fL117
          have hF := hF.step f117 (by decide)
          have t118 : (σ117 24 1).toInt = (σ14 24 1).toInt := congrArg Int32.toInt (f117.at 24 1 (by decide))
          exact r_zret hx hb hr hK hP hS hk (by omega) dX7_readOne_260 (show P_X7_readOne_d6 σ0 τ0 a1 r117 σ117 τ14 from ⟨hR, hF, hFL, by omega⟩)
        by_cases c119 : (σ0 1 9).toInt = 43
        · refine lv_tableIn (off := 177) (tgt := 249) hx hb dX7_readOne_72 (by omega) (by omega) (by rw [c119]; rfl) (by decide) ?_
          refine lv_aload_n hx hb dX7_readOne_249 rfl (lv_at hl 1 rfl) ?_
          refine fg_7_2 (k := 27) hx hb hts in_X7_readOne_7 hown hK hP (by decide) (by decide) (hts _ lk_X7_readOne_19) dX7_readOne_250 ?_
          refine lv_iload_n hx hb dX7_readOne_253 rfl (lv_at hl 0 rfl) ?_
          refine r_bipush hx hb dX7_readOne_254 (by decide) (fun z120 ez120 => ?_)
          refine r_iconst hx hb dX7_readOne_256 (by decide) (fun z121 ez121 => ?_)
          refine r_cVi (k := 24) (As := [.int (σ0 1 9), .int z120, .int z121]) (rest := []) ⟨hx, hb, hml, hown, hts⟩ hK hP hN hS (c_X6_add l D cA ad hI σ14 τ14 hR (σ0 1 9) z120 z121 (by omega)) (cwV 3 hts gX7_readOne_X6_add rfl rfl rfl (by decide +kernel) ⟨by decide, by decide⟩) (rv_Sent hK hP (by decide) (by decide)) rfl hl.1 rfl (Nat.le_of_ble_eq_true rfl) dX7_readOne_257 (Nat.zero_le _) (Nat.zero_le _) (fun r122 u122 H122 locs122 hp122 hP hS => ?_)
          obtain ⟨σ122, τ122⟩ := u122
          obtain ⟨hR, f122, fL122, hq122⟩ : P_X6_add σ14 τ14 (σ0 1 9) z120 z121 r122 σ122 τ122 := hp122
          have hP : va_P D vwCl (gw cA ad σ122 τ122) H122 := hP
          obtain rfl := FrL.nil fL122
          have hF := hF.step f122 (by decide)
          have t123 : (σ122 24 1).toInt = (σ14 24 1).toInt := congrArg Int32.toInt (f122.at 24 1 (by decide))
          exact r_zret hx hb hr hK hP hS hk (by omega) dX7_readOne_260 (show P_X7_readOne_d6 σ0 τ0 a1 r122 σ122 τ14 from ⟨hR, hF, hFL, by omega⟩)
        by_cases c124 : (σ0 1 9).toInt = 44
        · refine lv_tableIn (off := 138) (tgt := 210) hx hb dX7_readOne_72 (by omega) (by omega) (by rw [c124]; rfl) (by decide) ?_
          refine lv_aload_n hx hb dX7_readOne_210 rfl (lv_at hl 1 rfl) ?_
          refine lv_iload_n hx hb dX7_readOne_211 rfl (lv_at hl 2 rfl) ?_
          refine r_iconst hx hb dX7_readOne_212 (by decide) (fun z125 ez125 => ?_)
          refine r_iadd hx hb dX7_readOne_213 (by omega) (fun z126 ez126 => ?_)
          refine r_cVi (k := 27) (As := [.int z126]) (rest := []) ⟨hx, hb, hml, hown, hts⟩ hK hP hN hS (c_X7_readCond_d7 l D cA ad hI σ14 τ14 hR z126 (by omega)) (cwV 1 hts gX7_readOne_X7_readCond rfl rfl rfl (by decide +kernel) ⟨by decide, by decide⟩) (rv_SText hK hP (by decide) (by decide)) rfl hl.1 rfl (Nat.le_of_ble_eq_true rfl) dX7_readOne_214 (Nat.zero_le _) (Nat.zero_le _) (fun r127 u127 H127 locs127 hp127 hP hS => ?_)
          obtain ⟨σ127, τ127⟩ := u127
          obtain ⟨hR, f127, fL127, hq127⟩ : P_X7_readCond_d7 σ14 τ14 z126 r127 σ127 τ127 := hp127
          have hP : va_P D vwCl (gw cA ad σ127 τ127) H127 := hP
          have hFL := hFL.step fL127 (by decide)
          have hF := hF.step f127 (by decide)
          refine r_if_eq (tgt := 236) hx hb dX7_readOne_217 (by decide) (fun c128 => ?_) (fun c128 => ?_)
          · refine r_iconst hx hb dX7_readOne_236 (by decide) (fun z129 ez129 => ?_)
            exact r_zret hx hb hr hK hP hS hk (by omega) dX7_readOne_237 (show P_X7_readOne_d6 σ0 τ0 a1 z129 σ127 τ127 from ⟨hR, hF, hFL, by omega⟩)
          · refine lv_aload_n hx hb dX7_readOne_220 rfl (lv_at hl 1 rfl) ?_
            refine fg_7_0 (k := 27) hx hb hts in_X7_readOne_7 hown hK hP (by decide) (by decide) (hts _ lk_X7_readOne_9) dX7_readOne_221 ?_
            refine r_bipush hx hb dX7_readOne_224 (by decide) (fun z130 ez130 => ?_)
            refine r_cVi (k := 1) (As := [.int z130]) (rest := []) ⟨hx, hb, hml, hown, hts⟩ hK hP hN hS (c_X8_take l D cA ad hI σ127 τ127 hR z130 (by omega)) (cwV 1 hts gX7_readOne_X8_take rfl rfl rfl (by decide +kernel) ⟨by decide, by decide⟩) (rv_Tape hK hP (by decide) (by decide)) rfl hl.1 rfl (Nat.le_of_ble_eq_true rfl) dX7_readOne_226 (Nat.zero_le _) (Nat.zero_le _) (fun r131 u131 H131 locs131 hp131 hP hS => ?_)
            obtain ⟨σ131, τ131⟩ := u131
            obtain ⟨hR, f131, fL131, hq131⟩ : P_X8_take σ127 τ127 z130 r131 σ131 τ131 := hp131
            have hP : va_P D vwCl (gw cA ad σ131 τ131) H131 := hP
            have hFL := hFL.step fL131 (by decide)
            have hF := hF.step f131 (by decide)
            refine r_if_eq (tgt := 236) hx hb dX7_readOne_229 (by decide) (fun c132 => ?_) (fun c132 => ?_)
            · refine r_iconst hx hb dX7_readOne_236 (by decide) (fun z133 ez133 => ?_)
              exact r_zret hx hb hr hK hP hS hk (by omega) dX7_readOne_237 (show P_X7_readOne_d6 σ0 τ0 a1 z133 σ131 τ131 from ⟨hR, hF, hFL, by omega⟩)
            · refine r_iconst hx hb dX7_readOne_232 (by decide) (fun z134 ez134 => ?_)
              refine lv_goto (tgt := 237) hx hb dX7_readOne_233 (by decide) ?_
              exact r_zret hx hb hr hK hP hS hk (by omega) dX7_readOne_237 (show P_X7_readOne_d6 σ0 τ0 a1 z134 σ131 τ131 from ⟨hR, hF, hFL, by omega⟩)
        refine lv_tableOut (tgt := 249) hx hb dX7_readOne_72 (by omega) (by decide) ?_
        refine lv_aload_n hx hb dX7_readOne_249 rfl (lv_at hl 1 rfl) ?_
        refine fg_7_2 (k := 27) hx hb hts in_X7_readOne_7 hown hK hP (by decide) (by decide) (hts _ lk_X7_readOne_19) dX7_readOne_250 ?_
        refine lv_iload_n hx hb dX7_readOne_253 rfl (lv_at hl 0 rfl) ?_
        refine r_bipush hx hb dX7_readOne_254 (by decide) (fun z135 ez135 => ?_)
        refine r_iconst hx hb dX7_readOne_256 (by decide) (fun z136 ez136 => ?_)
        refine r_cVi (k := 24) (As := [.int (σ0 1 9), .int z135, .int z136]) (rest := []) ⟨hx, hb, hml, hown, hts⟩ hK hP hN hS (c_X6_add l D cA ad hI σ14 τ14 hR (σ0 1 9) z135 z136 (by omega)) (cwV 3 hts gX7_readOne_X6_add rfl rfl rfl (by decide +kernel) ⟨by decide, by decide⟩) (rv_Sent hK hP (by decide) (by decide)) rfl hl.1 rfl (Nat.le_of_ble_eq_true rfl) dX7_readOne_257 (Nat.zero_le _) (Nat.zero_le _) (fun r137 u137 H137 locs137 hp137 hP hS => ?_)
        obtain ⟨σ137, τ137⟩ := u137
        obtain ⟨hR, f137, fL137, hq137⟩ : P_X6_add σ14 τ14 (σ0 1 9) z135 z136 r137 σ137 τ137 := hp137
        have hP : va_P D vwCl (gw cA ad σ137 τ137) H137 := hP
        obtain rfl := FrL.nil fL137
        have hF := hF.step f137 (by decide)
        have t138 : (σ137 24 1).toInt = (σ14 24 1).toInt := congrArg Int32.toInt (f137.at 24 1 (by decide))
        exact r_zret hx hb hr hK hP hS hk (by omega) dX7_readOne_260 (show P_X7_readOne_d6 σ0 τ0 a1 r137 σ137 τ14 from ⟨hR, hF, hFL, by omega⟩)
      · exfalso; omega
  · refine lv_aload_n hx hb dX7_readOne_15 rfl (lv_at hl 1 rfl) ?_
    refine fg_7_0 (k := 27) hx hb hts in_X7_readOne_7 hown hK hP (by decide) (by decide) (hts _ lk_X7_readOne_9) dX7_readOne_16 ?_
    refine r_iconst hx hb dX7_readOne_19 (by decide) (fun z139 ez139 => ?_)
    refine r_cVi (k := 1) (As := [.int z139]) (rest := []) ⟨hx, hb, hml, hown, hts⟩ hK hP hN hS (c_X8_blame l D cA ad hI σ0 τ0 hR z139 (by omega)) (cwV 1 hts gX7_readOne_X8_blame rfl rfl rfl (by decide +kernel) ⟨by decide, by decide⟩) (rv_Tape hK hP (by decide) (by decide)) rfl hl.1 rfl (Nat.le_of_ble_eq_true rfl) dX7_readOne_20 (Nat.zero_le _) (Nat.zero_le _) (fun r140 u140 H140 locs140 hp140 hP hS => ?_)
    obtain ⟨σ140, τ140⟩ := u140
    obtain ⟨hR, f140, fL140, hq140⟩ : P_X8_blame σ0 τ0 z139 r140 σ140 τ140 := hp140
    have hP : va_P D vwCl (gw cA ad σ140 τ140) H140 := hP
    obtain rfl := FrL.nil fL140
    have hF := hF.step f140 (by decide)
    exact r_zret hx hb hr hK hP hS hk (by omega) dX7_readOne_23 (show P_X7_readOne_d6 σ0 τ0 a1 r140 σ140 τ0 from ⟨hR, hF, hFL, by omega⟩)
abbrev L_X7_readAll_d6 : List Rc := [(1, 1, 7, 10), (372, 372, 0, 39), (376, 376, 0, 39), (380, 380, 0, 39), (24, 24, 1, 2), (1, 1, 12, 14)]
abbrev LL_X7_readAll_d6 : List Rc := [(1, 1, 11, 11)]
def P_X7_readAll_d6 (σ0 : Nat → Nat → Int32) (τ0 : Nat → Nat → Int64) (a1 : Int32) (r : Int32) (σ : Nat → Nat → Int32) (τ : Nat → Nat → Int64) : Prop := Rg σ ∧ Fr L_X7_readAll_d6 σ0 σ ∧ FrL LL_X7_readAll_d6 τ0 τ ∧ (0 ≤ r.toInt ∧ r.toInt ≤ 1)
def J_X7_readAll_d6_12 (p : Program) (l : Launch) (e : Env) (s : State) (m : MethodId) (args : Array Value) (below : List Frame) (meth : Method) (c : Code) (D : va_G) (cA : Nat → ClassId) (ad : Nat → Nat) (σ0 : Nat → Nat → Int32) (τ0 : Nat → Nat → Int64) (a1 : Int32) (n : Nat) : Prop := ∀ (σ : Nat → Nat → Int32) (τ : Nat → Nat → Int64) (H : Heap) (locs : List Loc) (x2 : Int32) (ls : Array Slot), Rg σ → Fr L_X7_readAll_d6 σ0 σ → FrL LL_X7_readAll_d6 τ0 τ → va_P D vwCl (gw cA ad σ τ) H → va_S (AA ad) s.heap H locs → (0 ≤ x2.toInt ∧ x2.toInt ≤ 200) → lv_has ls 3 [(0, .ref (ad 27)), (1, .int a1), (2, .int x2)] → 2 * (200 - x2.toInt) + 1 < (n : Int) → W p l e ({ frames := 11, cells := 0, slots := 0, locals := 241 } : Room) s m args below meth c H locs 0 0 (MQ below (va_Qi (fun (r : Int32) (u : SS) => P_X7_readAll_d6 σ0 τ0 a1 r u.1 u.2) (WB D cA ad) (AA ad)) args s 0 0 (AA ad)) (F0 m 12 ls [])
set_option maxHeartbeats 4000000 in
theorem B_X7_readAll_d6_12 (p : Program) (l : Launch) (e : Env) (s : State) (m : MethodId) (args : Array Value) (below : List Frame) (meth : Method) (c : Code) (D : va_G) (cA : Nat → ClassId) (ad : Nat → Nat) (σ0 : Nat → Nat → Int32) (τ0 : Nat → Nat → Int64) (a1 : Int32) (n : Nat) (C : Cy p s m args meth c cX7_readAll 3 wsX7_readAll RX7 D cA ad (some .boolean)) (ha1 : 6 ≤ a1.toInt ∧ a1.toInt ≤ 6) (K12 : J_X7_readAll_d6_12 p l e s m args below meth c D cA ad σ0 τ0 a1 n) : J_X7_readAll_d6_12 p l e s m args below meth c D cA ad σ0 τ0 a1 (n + 1) := by
  obtain ⟨hx, hb, hml, hown, hts, hK, hk, hr, hI, hN⟩ := C
  intro σ τ H locs x2 ls hR hF hFL hP hS hc0 hl hm
  refine lv_iload_n hx hb dX7_readAll_12 rfl (lv_at hl 2 rfl) ?_
  refine r_sipush hx hb dX7_readAll_13 (by decide) (fun z1 ez1 => ?_)
  refine r_icmp_ge (tgt := 68) hx hb dX7_readAll_16 (by decide) (fun c2 => ?_) (fun c2 => ?_)
  · refine r_iconst hx hb dX7_readAll_68 (by decide) (fun z3 ez3 => ?_)
    exact r_zret hx hb hr hK hP hS hk (by omega) dX7_readAll_69 (show P_X7_readAll_d6 σ0 τ0 a1 z3 σ τ from ⟨hR, hF, hFL, by omega⟩)
  · refine lv_aload_n hx hb dX7_readAll_19 rfl (lv_at hl 0 rfl) ?_
    refine fg_7_0 (k := 27) hx hb hts in_X7_readAll_7 hown hK hP (by decide) (by decide) (hts _ lk_X7_readAll_9) dX7_readAll_20 ?_
    refine fgN_8_9 (k := 1) hx hb hts in_X7_readAll_8 hown hK hP (by decide) (by decide) (hN.use nw_7_32) dX7_readAll_23 ?_
    refine r_bipush hx hb dX7_readAll_26 (by decide) (fun z4 ez4 => ?_)
    refine r_icmp_ne (tgt := 68) hx hb dX7_readAll_28 (by decide) (fun c5 => ?_) (fun c5 => ?_)
    · refine r_iconst hx hb dX7_readAll_68 (by decide) (fun z6 ez6 => ?_)
      exact r_zret hx hb hr hK hP hS hk (by omega) dX7_readAll_69 (show P_X7_readAll_d6 σ0 τ0 a1 z6 σ τ from ⟨hR, hF, hFL, by omega⟩)
    · refine lv_aload_n hx hb dX7_readAll_31 rfl (lv_at hl 0 rfl) ?_
      refine fg_7_0 (k := 27) hx hb hts in_X7_readAll_7 hown hK hP (by decide) (by decide) (hts _ lk_X7_readAll_9) dX7_readAll_32 ?_
      refine r_cVv (k := 1) (As := []) (rest := []) ⟨hx, hb, hml, hown, hts⟩ hK hP hN hS (c_X8_next l D cA ad hI σ τ hR) (cwV 0 hts gX7_readAll_X8_next rfl rfl rfl (by decide +kernel) ⟨by decide, by decide⟩) (rv_Tape hK hP (by decide) (by decide)) rfl hl.1 rfl (Nat.le_of_ble_eq_true rfl) dX7_readAll_35 (Nat.zero_le _) (Nat.zero_le _) (fun u7 H7 locs7 hp7 hP hS => ?_)
      obtain ⟨σ7, τ7⟩ := u7
      obtain ⟨hR, f7, fL7⟩ : P_X8_next σ τ σ7 τ7 := hp7
      have hP : va_P D vwCl (gw cA ad σ7 τ7) H7 := hP
      have hFL := hFL.step fL7 (by decide)
      have hF := hF.step f7 (by decide)
      refine lv_aload_n hx hb dX7_readAll_38 rfl (lv_at hl 0 rfl) ?_
      refine lv_iload_n hx hb dX7_readAll_39 rfl (lv_at hl 1 rfl) ?_
      refine r_cVi (k := 27) (As := [.int a1]) (rest := []) ⟨hx, hb, hml, hown, hts⟩ hK hP hN hS (c_X7_readOne_d6 l D cA ad hI σ7 τ7 hR a1 (by omega)) (cwV 1 hts gX7_readAll_X7_readOne rfl rfl rfl (by decide +kernel) ⟨by decide, by decide⟩) (rv_SText hK hP (by decide) (by decide)) rfl hl.1 rfl (Nat.le_of_ble_eq_true rfl) dX7_readAll_40 (Nat.zero_le _) (Nat.zero_le _) (fun r8 u8 H8 locs8 hp8 hP hS => ?_)
      obtain ⟨σ8, τ8⟩ := u8
      obtain ⟨hR, f8, fL8, hq8⟩ : P_X7_readOne_d6 σ7 τ7 a1 r8 σ8 τ8 := hp8
      have hP : va_P D vwCl (gw cA ad σ8 τ8) H8 := hP
      have hFL := hFL.step fL8 (by decide)
      have hF := hF.step f8 (by decide)
      refine r_if_eq (tgt := 60) hx hb dX7_readAll_43 (by decide) (fun c9 => ?_) (fun c9 => ?_)
      · refine r_iconst hx hb dX7_readAll_60 (by decide) (fun z10 ez10 => ?_)
        exact r_zret hx hb hr hK hP hS hk (by omega) dX7_readAll_61 (show P_X7_readAll_d6 σ0 τ0 a1 z10 σ8 τ8 from ⟨hR, hF, hFL, by omega⟩)
      · refine lv_aload_n hx hb dX7_readAll_46 rfl (lv_at hl 0 rfl) ?_
        refine fg_7_2 (k := 27) hx hb hts in_X7_readAll_7 hown hK hP (by decide) (by decide) (hts _ lk_X7_readAll_19) dX7_readAll_47 ?_
        refine r_bipush hx hb dX7_readAll_50 (by decide) (fun z11 ez11 => ?_)
        refine r_iconst hx hb dX7_readAll_52 (by decide) (fun z12 ez12 => ?_)
        refine r_iconst hx hb dX7_readAll_53 (by decide) (fun z13 ez13 => ?_)
        refine r_cVi (k := 24) (As := [.int z11, .int z12, .int z13]) (rest := []) ⟨hx, hb, hml, hown, hts⟩ hK hP hN hS (c_X6_add l D cA ad hI σ8 τ8 hR z11 z12 z13 (by omega)) (cwV 3 hts gX7_readAll_X6_add rfl rfl rfl (by decide +kernel) ⟨by decide, by decide⟩) (rv_Sent hK hP (by decide) (by decide)) rfl hl.1 rfl (Nat.le_of_ble_eq_true rfl) dX7_readAll_54 (Nat.zero_le _) (Nat.zero_le _) (fun r14 u14 H14 locs14 hp14 hP hS => ?_)
        obtain ⟨σ14, τ14⟩ := u14
        obtain ⟨hR, f14, fL14, hq14⟩ : P_X6_add σ8 τ8 z11 z12 z13 r14 σ14 τ14 := hp14
        have hP : va_P D vwCl (gw cA ad σ14 τ14) H14 := hP
        obtain rfl := FrL.nil fL14
        have hF := hF.step f14 (by decide)
        refine r_if_ne (tgt := 62) hx hb dX7_readAll_57 (by decide) (fun c15 => ?_) (fun c15 => ?_)
        · refine r_iinc (k := 2) (lv1 := fun z16 => [(2, .int z16), (0, .ref (ad 27)), (1, .int a1)]) hx hb dX7_readAll_62 hl rfl (by decide) (fun _ => rfl) (by decide) (by omega) (fun z16 ls ez16 hl => ?_)
          refine lv_goto (tgt := 12) hx hb dX7_readAll_65 (by decide) ?_
          exact K12 σ14 τ8 H14 locs14 z16 ls hR hF hFL hP hS (by omega) (lv_sub hl [1, 2, 0] rfl) (by omega)
        · refine r_iconst hx hb dX7_readAll_60 (by decide) (fun z17 ez17 => ?_)
          exact r_zret hx hb hr hK hP hS hk (by omega) dX7_readAll_61 (show P_X7_readAll_d6 σ0 τ0 a1 z17 σ14 τ8 from ⟨hR, hF, hFL, by omega⟩)
theorem A_X7_readAll_d6 (p : Program) (l : Launch) (e : Env) (s : State) (m : MethodId) (args : Array Value) (below : List Frame) (meth : Method) (c : Code) (D : va_G) (cA : Nat → ClassId) (ad : Nat → Nat) (σ0 : Nat → Nat → Int32) (τ0 : Nat → Nat → Int64) (a1 : Int32) (C : Cy p s m args meth c cX7_readAll 3 wsX7_readAll RX7 D cA ad (some .boolean)) (ha1 : 6 ≤ a1.toInt ∧ a1.toInt ≤ 6) : ∀ n : Nat, J_X7_readAll_d6_12 p l e s m args below meth c D cA ad σ0 τ0 a1 n := by
  intro n
  induction n with
  | zero =>
    exact (by intro σ τ H locs x2 ls hR hF hFL hP hS hc0 hl hm; exfalso; omega)
  | succ n ih =>
    exact B_X7_readAll_d6_12 p l e s m args below meth c D cA ad σ0 τ0 a1 n C ha1 ih
set_option maxHeartbeats 4000000 in
theorem c_X7_readAll_d6 (l : Launch) (D : va_G) (cA : Nat → ClassId) (ad : Nat → Nat) (hI : Inj ad) (σ0 : Nat → Nat → Int32) (τ0 : Nat → Nat → Int64) (hR : Rg σ0) (a1 : Int32) (ha1 : 6 ≤ a1.toInt ∧ a1.toInt ≤ 6) : Met l yX7_readAll wsX7_readAll ({ frames := 11, cells := 0, slots := 0, locals := 241 } : Room) (WQc D cA ad [.ref (ad 27), .int a1] σ0 τ0) (va_Qi (fun (r : Int32) (u : SS) => P_X7_readAll_d6 σ0 τ0 a1 r u.1 u.2) (WB D cA ad) (AA ad)) 0 0 (AA ad) := by
  refine Met.ofW (cc := cX7_readAll) (maxL := 3) (ret := (some .boolean)) (by decide) rfl ?_
  intro p e s m args below meth c s₁ B hml hv
  obtain ⟨rfl, hP, hK, hN⟩ := hv
  have C : Cy p s m _ meth c cX7_readAll 3 wsX7_readAll RX7 D cA ad (some .boolean) := ⟨B.exec, B.bytes, hml, findClass_of_methodNamed B.named, atoms_spec (ws := wsX7_readAll) B.pre, hK, B.notSynchronized, B.returns, hI, hN⟩
  have hl := lv_entry ([.ref (ad 27), .int a1]) (n := 3) (Nat.le_of_ble_eq_true rfl)
  rw [lg_entry_eq]
  generalize (lg_sl ([.ref (ad 27), .int a1]) ++ List.replicate (3 - (lg_sl ([.ref (ad 27), .int a1])).length) Slot.unset).toArray = ls at hl ⊢
  have hl : lv_has ls 3 [(0, .ref (ad 27)), (1, .int a1)] := hl
  have hS : va_S (AA ad) s.heap s.heap [] := va_S.rf
  have hF : Fr L_X7_readAll_d6 σ0 σ0 := Fr.rf
  have hFL : FrL LL_X7_readAll_d6 τ0 τ0 := FrL.rf
  have hA := A_X7_readAll_d6 p l e s m _ below meth c D cA ad σ0 τ0 a1 C ha1 810
  have K12 := hA
  clear hA
  obtain ⟨hx, hb, _, hown, hts, _, hk, hr, _, _⟩ := C
  refine lv_aload_n hx hb dX7_readAll_0 rfl (lv_at hl 0 rfl) ?_
  refine lv_iload_n hx hb dX7_readAll_1 rfl (lv_at hl 1 rfl) ?_
  refine r_cVi (k := 27) (As := [.int a1]) (rest := []) ⟨hx, hb, hml, hown, hts⟩ hK hP hN hS (c_X7_readOne_d6 l D cA ad hI σ0 τ0 hR a1 (by omega)) (cwV 1 hts gX7_readAll_X7_readOne rfl rfl rfl (by decide +kernel) ⟨by decide, by decide⟩) (rv_SText hK hP (by decide) (by decide)) rfl hl.1 rfl (Nat.le_of_ble_eq_true rfl) dX7_readAll_2 (Nat.zero_le _) (Nat.zero_le _) (fun r1 u1 H1 locs1 hp1 hP hS => ?_)
  obtain ⟨σ1, τ1⟩ := u1
  obtain ⟨hR, f1, fL1, hq1⟩ : P_X7_readOne_d6 σ0 τ0 a1 r1 σ1 τ1 := hp1
  have hP : va_P D vwCl (gw cA ad σ1 τ1) H1 := hP
  have hFL := hFL.step fL1 (by decide)
  have hF := hF.step f1 (by decide)
  refine r_if_ne (tgt := 10) hx hb dX7_readAll_5 (by decide) (fun c2 => ?_) (fun c2 => ?_)
  · refine r_iconst hx hb dX7_readAll_10 (by decide) (fun z3 ez3 => ?_)
    refine lv_istore_n (lv' := [(2, .int z3), (0, .ref (ad 27)), (1, .int a1)]) hx hb dX7_readAll_11 rfl hl (by decide) rfl (fun ls hl => ?_)
    exact K12 σ1 τ1 H1 locs1 z3 ls hR hF hFL hP hS (by omega) (lv_sub hl [1, 2, 0] rfl) (by omega)
  · refine r_iconst hx hb dX7_readAll_8 (by decide) (fun z4 ez4 => ?_)
    exact r_zret hx hb hr hK hP hS hk (by omega) dX7_readAll_9 (show P_X7_readAll_d6 σ0 τ0 a1 z4 σ1 τ1 from ⟨hR, hF, hFL, by omega⟩)
abbrev L_X7_readCond_d6 : List Rc := [(1, 1, 7, 10), (372, 372, 0, 39), (376, 376, 0, 39), (380, 380, 0, 39), (24, 24, 1, 2), (1, 1, 12, 14)]
abbrev LL_X7_readCond_d6 : List Rc := [(1, 1, 11, 11)]
def P_X7_readCond_d6 (σ0 : Nat → Nat → Int32) (τ0 : Nat → Nat → Int64) (a1 : Int32) (r : Int32) (σ : Nat → Nat → Int32) (τ : Nat → Nat → Int64) : Prop := Rg σ ∧ Fr L_X7_readCond_d6 σ0 σ ∧ FrL LL_X7_readCond_d6 τ0 τ ∧ (0 ≤ r.toInt ∧ r.toInt ≤ 1)
def J_X7_readCond_d6_12 (p : Program) (l : Launch) (e : Env) (s : State) (m : MethodId) (args : Array Value) (below : List Frame) (meth : Method) (c : Code) (D : va_G) (cA : Nat → ClassId) (ad : Nat → Nat) (σ0 : Nat → Nat → Int32) (τ0 : Nat → Nat → Int64) (a1 : Int32) (n : Nat) : Prop := ∀ (σ : Nat → Nat → Int32) (τ : Nat → Nat → Int64) (H : Heap) (locs : List Loc) (x2 : Int32) (ls : Array Slot), Rg σ → Fr L_X7_readCond_d6 σ0 σ → FrL LL_X7_readCond_d6 τ0 τ → va_P D vwCl (gw cA ad σ τ) H → va_S (AA ad) s.heap H locs → (0 ≤ x2.toInt ∧ x2.toInt ≤ 200) → lv_has ls 3 [(0, .ref (ad 27)), (1, .int a1), (2, .int x2)] → 2 * (200 - x2.toInt) + 1 < (n : Int) → W p l e ({ frames := 12, cells := 0, slots := 0, locals := 263 } : Room) s m args below meth c H locs 0 0 (MQ below (va_Qi (fun (r : Int32) (u : SS) => P_X7_readCond_d6 σ0 τ0 a1 r u.1 u.2) (WB D cA ad) (AA ad)) args s 0 0 (AA ad)) (F0 m 12 ls [])
set_option maxHeartbeats 4000000 in
theorem B_X7_readCond_d6_12 (p : Program) (l : Launch) (e : Env) (s : State) (m : MethodId) (args : Array Value) (below : List Frame) (meth : Method) (c : Code) (D : va_G) (cA : Nat → ClassId) (ad : Nat → Nat) (σ0 : Nat → Nat → Int32) (τ0 : Nat → Nat → Int64) (a1 : Int32) (n : Nat) (C : Cy p s m args meth c cX7_readCond 3 wsX7_readCond RX7 D cA ad (some .boolean)) (ha1 : 6 ≤ a1.toInt ∧ a1.toInt ≤ 6) (K12 : J_X7_readCond_d6_12 p l e s m args below meth c D cA ad σ0 τ0 a1 n) : J_X7_readCond_d6_12 p l e s m args below meth c D cA ad σ0 τ0 a1 (n + 1) := by
  obtain ⟨hx, hb, hml, hown, hts, hK, hk, hr, hI, hN⟩ := C
  intro σ τ H locs x2 ls hR hF hFL hP hS hc0 hl hm
  refine lv_iload_n hx hb dX7_readCond_12 rfl (lv_at hl 2 rfl) ?_
  refine r_sipush hx hb dX7_readCond_13 (by decide) (fun z1 ez1 => ?_)
  refine r_icmp_ge (tgt := 68) hx hb dX7_readCond_16 (by decide) (fun c2 => ?_) (fun c2 => ?_)
  · refine r_iconst hx hb dX7_readCond_68 (by decide) (fun z3 ez3 => ?_)
    exact r_zret hx hb hr hK hP hS hk (by omega) dX7_readCond_69 (show P_X7_readCond_d6 σ0 τ0 a1 z3 σ τ from ⟨hR, hF, hFL, by omega⟩)
  · refine lv_aload_n hx hb dX7_readCond_19 rfl (lv_at hl 0 rfl) ?_
    refine fg_7_0 (k := 27) hx hb hts in_X7_readCond_7 hown hK hP (by decide) (by decide) (hts _ lk_X7_readCond_9) dX7_readCond_20 ?_
    refine fgN_8_9 (k := 1) hx hb hts in_X7_readCond_8 hown hK hP (by decide) (by decide) (hN.use nw_7_32) dX7_readCond_23 ?_
    refine r_bipush hx hb dX7_readCond_26 (by decide) (fun z4 ez4 => ?_)
    refine r_icmp_ne (tgt := 68) hx hb dX7_readCond_28 (by decide) (fun c5 => ?_) (fun c5 => ?_)
    · refine r_iconst hx hb dX7_readCond_68 (by decide) (fun z6 ez6 => ?_)
      exact r_zret hx hb hr hK hP hS hk (by omega) dX7_readCond_69 (show P_X7_readCond_d6 σ0 τ0 a1 z6 σ τ from ⟨hR, hF, hFL, by omega⟩)
    · refine lv_aload_n hx hb dX7_readCond_31 rfl (lv_at hl 0 rfl) ?_
      refine fg_7_0 (k := 27) hx hb hts in_X7_readCond_7 hown hK hP (by decide) (by decide) (hts _ lk_X7_readCond_9) dX7_readCond_32 ?_
      refine r_cVv (k := 1) (As := []) (rest := []) ⟨hx, hb, hml, hown, hts⟩ hK hP hN hS (c_X8_next l D cA ad hI σ τ hR) (cwV 0 hts gX7_readCond_X8_next rfl rfl rfl (by decide +kernel) ⟨by decide, by decide⟩) (rv_Tape hK hP (by decide) (by decide)) rfl hl.1 rfl (Nat.le_of_ble_eq_true rfl) dX7_readCond_35 (Nat.zero_le _) (Nat.zero_le _) (fun u7 H7 locs7 hp7 hP hS => ?_)
      obtain ⟨σ7, τ7⟩ := u7
      obtain ⟨hR, f7, fL7⟩ : P_X8_next σ τ σ7 τ7 := hp7
      have hP : va_P D vwCl (gw cA ad σ7 τ7) H7 := hP
      have hFL := hFL.step fL7 (by decide)
      have hF := hF.step f7 (by decide)
      refine lv_aload_n hx hb dX7_readCond_38 rfl (lv_at hl 0 rfl) ?_
      refine lv_iload_n hx hb dX7_readCond_39 rfl (lv_at hl 1 rfl) ?_
      refine r_cVi (k := 27) (As := [.int a1]) (rest := []) ⟨hx, hb, hml, hown, hts⟩ hK hP hN hS (c_X7_readAll_d6 l D cA ad hI σ7 τ7 hR a1 (by omega)) (cwV 1 hts gX7_readCond_X7_readAll rfl rfl rfl (by decide +kernel) ⟨by decide, by decide⟩) (rv_SText hK hP (by decide) (by decide)) rfl hl.1 rfl (Nat.le_of_ble_eq_true rfl) dX7_readCond_40 (Nat.zero_le _) (Nat.zero_le _) (fun r8 u8 H8 locs8 hp8 hP hS => ?_)
      obtain ⟨σ8, τ8⟩ := u8
      obtain ⟨hR, f8, fL8, hq8⟩ : P_X7_readAll_d6 σ7 τ7 a1 r8 σ8 τ8 := hp8
      have hP : va_P D vwCl (gw cA ad σ8 τ8) H8 := hP
      have hFL := hFL.step fL8 (by decide)
      have hF := hF.step f8 (by decide)
      refine r_if_eq (tgt := 60) hx hb dX7_readCond_43 (by decide) (fun c9 => ?_) (fun c9 => ?_)
      · refine r_iconst hx hb dX7_readCond_60 (by decide) (fun z10 ez10 => ?_)
        exact r_zret hx hb hr hK hP hS hk (by omega) dX7_readCond_61 (show P_X7_readCond_d6 σ0 τ0 a1 z10 σ8 τ8 from ⟨hR, hF, hFL, by omega⟩)
      · refine lv_aload_n hx hb dX7_readCond_46 rfl (lv_at hl 0 rfl) ?_
        refine fg_7_2 (k := 27) hx hb hts in_X7_readCond_7 hown hK hP (by decide) (by decide) (hts _ lk_X7_readCond_19) dX7_readCond_47 ?_
        refine r_bipush hx hb dX7_readCond_50 (by decide) (fun z11 ez11 => ?_)
        refine r_iconst hx hb dX7_readCond_52 (by decide) (fun z12 ez12 => ?_)
        refine r_iconst hx hb dX7_readCond_53 (by decide) (fun z13 ez13 => ?_)
        refine r_cVi (k := 24) (As := [.int z11, .int z12, .int z13]) (rest := []) ⟨hx, hb, hml, hown, hts⟩ hK hP hN hS (c_X6_add l D cA ad hI σ8 τ8 hR z11 z12 z13 (by omega)) (cwV 3 hts gX7_readCond_X6_add rfl rfl rfl (by decide +kernel) ⟨by decide, by decide⟩) (rv_Sent hK hP (by decide) (by decide)) rfl hl.1 rfl (Nat.le_of_ble_eq_true rfl) dX7_readCond_54 (Nat.zero_le _) (Nat.zero_le _) (fun r14 u14 H14 locs14 hp14 hP hS => ?_)
        obtain ⟨σ14, τ14⟩ := u14
        obtain ⟨hR, f14, fL14, hq14⟩ : P_X6_add σ8 τ8 z11 z12 z13 r14 σ14 τ14 := hp14
        have hP : va_P D vwCl (gw cA ad σ14 τ14) H14 := hP
        obtain rfl := FrL.nil fL14
        have hF := hF.step f14 (by decide)
        refine r_if_ne (tgt := 62) hx hb dX7_readCond_57 (by decide) (fun c15 => ?_) (fun c15 => ?_)
        · refine r_iinc (k := 2) (lv1 := fun z16 => [(2, .int z16), (0, .ref (ad 27)), (1, .int a1)]) hx hb dX7_readCond_62 hl rfl (by decide) (fun _ => rfl) (by decide) (by omega) (fun z16 ls ez16 hl => ?_)
          refine lv_goto (tgt := 12) hx hb dX7_readCond_65 (by decide) ?_
          exact K12 σ14 τ8 H14 locs14 z16 ls hR hF hFL hP hS (by omega) (lv_sub hl [1, 2, 0] rfl) (by omega)
        · refine r_iconst hx hb dX7_readCond_60 (by decide) (fun z17 ez17 => ?_)
          exact r_zret hx hb hr hK hP hS hk (by omega) dX7_readCond_61 (show P_X7_readCond_d6 σ0 τ0 a1 z17 σ14 τ8 from ⟨hR, hF, hFL, by omega⟩)
theorem A_X7_readCond_d6 (p : Program) (l : Launch) (e : Env) (s : State) (m : MethodId) (args : Array Value) (below : List Frame) (meth : Method) (c : Code) (D : va_G) (cA : Nat → ClassId) (ad : Nat → Nat) (σ0 : Nat → Nat → Int32) (τ0 : Nat → Nat → Int64) (a1 : Int32) (C : Cy p s m args meth c cX7_readCond 3 wsX7_readCond RX7 D cA ad (some .boolean)) (ha1 : 6 ≤ a1.toInt ∧ a1.toInt ≤ 6) : ∀ n : Nat, J_X7_readCond_d6_12 p l e s m args below meth c D cA ad σ0 τ0 a1 n := by
  intro n
  induction n with
  | zero =>
    exact (by intro σ τ H locs x2 ls hR hF hFL hP hS hc0 hl hm; exfalso; omega)
  | succ n ih =>
    exact B_X7_readCond_d6_12 p l e s m args below meth c D cA ad σ0 τ0 a1 n C ha1 ih
set_option maxHeartbeats 4000000 in
theorem c_X7_readCond_d6 (l : Launch) (D : va_G) (cA : Nat → ClassId) (ad : Nat → Nat) (hI : Inj ad) (σ0 : Nat → Nat → Int32) (τ0 : Nat → Nat → Int64) (hR : Rg σ0) (a1 : Int32) (ha1 : 6 ≤ a1.toInt ∧ a1.toInt ≤ 6) : Met l yX7_readCond wsX7_readCond ({ frames := 12, cells := 0, slots := 0, locals := 263 } : Room) (WQc D cA ad [.ref (ad 27), .int a1] σ0 τ0) (va_Qi (fun (r : Int32) (u : SS) => P_X7_readCond_d6 σ0 τ0 a1 r u.1 u.2) (WB D cA ad) (AA ad)) 0 0 (AA ad) := by
  refine Met.ofW (cc := cX7_readCond) (maxL := 3) (ret := (some .boolean)) (by decide) rfl ?_
  intro p e s m args below meth c s₁ B hml hv
  obtain ⟨rfl, hP, hK, hN⟩ := hv
  have C : Cy p s m _ meth c cX7_readCond 3 wsX7_readCond RX7 D cA ad (some .boolean) := ⟨B.exec, B.bytes, hml, findClass_of_methodNamed B.named, atoms_spec (ws := wsX7_readCond) B.pre, hK, B.notSynchronized, B.returns, hI, hN⟩
  have hl := lv_entry ([.ref (ad 27), .int a1]) (n := 3) (Nat.le_of_ble_eq_true rfl)
  rw [lg_entry_eq]
  generalize (lg_sl ([.ref (ad 27), .int a1]) ++ List.replicate (3 - (lg_sl ([.ref (ad 27), .int a1])).length) Slot.unset).toArray = ls at hl ⊢
  have hl : lv_has ls 3 [(0, .ref (ad 27)), (1, .int a1)] := hl
  have hS : va_S (AA ad) s.heap s.heap [] := va_S.rf
  have hF : Fr L_X7_readCond_d6 σ0 σ0 := Fr.rf
  have hFL : FrL LL_X7_readCond_d6 τ0 τ0 := FrL.rf
  have hA := A_X7_readCond_d6 p l e s m _ below meth c D cA ad σ0 τ0 a1 C ha1 810
  have K12 := hA
  clear hA
  obtain ⟨hx, hb, _, hown, hts, _, hk, hr, _, _⟩ := C
  refine lv_aload_n hx hb dX7_readCond_0 rfl (lv_at hl 0 rfl) ?_
  refine lv_iload_n hx hb dX7_readCond_1 rfl (lv_at hl 1 rfl) ?_
  refine r_cVi (k := 27) (As := [.int a1]) (rest := []) ⟨hx, hb, hml, hown, hts⟩ hK hP hN hS (c_X7_readAll_d6 l D cA ad hI σ0 τ0 hR a1 (by omega)) (cwV 1 hts gX7_readCond_X7_readAll rfl rfl rfl (by decide +kernel) ⟨by decide, by decide⟩) (rv_SText hK hP (by decide) (by decide)) rfl hl.1 rfl (Nat.le_of_ble_eq_true rfl) dX7_readCond_2 (Nat.zero_le _) (Nat.zero_le _) (fun r1 u1 H1 locs1 hp1 hP hS => ?_)
  obtain ⟨σ1, τ1⟩ := u1
  obtain ⟨hR, f1, fL1, hq1⟩ : P_X7_readAll_d6 σ0 τ0 a1 r1 σ1 τ1 := hp1
  have hP : va_P D vwCl (gw cA ad σ1 τ1) H1 := hP
  have hFL := hFL.step fL1 (by decide)
  have hF := hF.step f1 (by decide)
  refine r_if_ne (tgt := 10) hx hb dX7_readCond_5 (by decide) (fun c2 => ?_) (fun c2 => ?_)
  · refine r_iconst hx hb dX7_readCond_10 (by decide) (fun z3 ez3 => ?_)
    refine lv_istore_n (lv' := [(2, .int z3), (0, .ref (ad 27)), (1, .int a1)]) hx hb dX7_readCond_11 rfl hl (by decide) rfl (fun ls hl => ?_)
    exact K12 σ1 τ1 H1 locs1 z3 ls hR hF hFL hP hS (by omega) (lv_sub hl [1, 2, 0] rfl) (by omega)
  · refine r_iconst hx hb dX7_readCond_8 (by decide) (fun z4 ez4 => ?_)
    exact r_zret hx hb hr hK hP hS hk (by omega) dX7_readCond_9 (show P_X7_readCond_d6 σ0 τ0 a1 z4 σ1 τ1 from ⟨hR, hF, hFL, by omega⟩)
abbrev L_X7_readOne_d5 : List Rc := [(1, 1, 7, 10), (372, 372, 0, 39), (376, 376, 0, 39), (380, 380, 0, 39), (24, 24, 1, 2), (1, 1, 12, 14)]
abbrev LL_X7_readOne_d5 : List Rc := [(1, 1, 11, 11)]
def P_X7_readOne_d5 (σ0 : Nat → Nat → Int32) (τ0 : Nat → Nat → Int64) (a1 : Int32) (r : Int32) (σ : Nat → Nat → Int32) (τ : Nat → Nat → Int64) : Prop := Rg σ ∧ Fr L_X7_readOne_d5 σ0 σ ∧ FrL LL_X7_readOne_d5 τ0 τ ∧ (0 ≤ r.toInt ∧ r.toInt ≤ 1)
set_option maxHeartbeats 4000000 in
theorem c_X7_readOne_d5 (l : Launch) (D : va_G) (cA : Nat → ClassId) (ad : Nat → Nat) (hI : Inj ad) (σ0 : Nat → Nat → Int32) (τ0 : Nat → Nat → Int64) (hR : Rg σ0) (a1 : Int32) (ha1 : 5 ≤ a1.toInt ∧ a1.toInt ≤ 5) : Met l yX7_readOne wsX7_readOne ({ frames := 13, cells := 0, slots := 0, locals := 285 } : Room) (WQc D cA ad [.ref (ad 27), .int a1] σ0 τ0) (va_Qi (fun (r : Int32) (u : SS) => P_X7_readOne_d5 σ0 τ0 a1 r u.1 u.2) (WB D cA ad) (AA ad)) 0 0 (AA ad) := by
  refine Met.ofW (cc := cX7_readOne) (maxL := 3) (ret := (some .boolean)) (by decide) rfl ?_
  intro p e s m args below meth c s₁ B hml hv
  obtain ⟨rfl, hP, hK, hN⟩ := hv
  have C : Cy p s m _ meth c cX7_readOne 3 wsX7_readOne RX7 D cA ad (some .boolean) := ⟨B.exec, B.bytes, hml, findClass_of_methodNamed B.named, atoms_spec (ws := wsX7_readOne) B.pre, hK, B.notSynchronized, B.returns, hI, hN⟩
  have hl := lv_entry ([.ref (ad 27), .int a1]) (n := 3) (Nat.le_of_ble_eq_true rfl)
  rw [lg_entry_eq]
  generalize (lg_sl ([.ref (ad 27), .int a1]) ++ List.replicate (3 - (lg_sl ([.ref (ad 27), .int a1])).length) Slot.unset).toArray = ls at hl ⊢
  have hl : lv_has ls 3 [(0, .ref (ad 27)), (1, .int a1)] := hl
  have hS : va_S (AA ad) s.heap s.heap [] := va_S.rf
  have hF : Fr L_X7_readOne_d5 σ0 σ0 := Fr.rf
  have hFL : FrL LL_X7_readOne_d5 τ0 τ0 := FrL.rf
  obtain ⟨hx, hb, _, hown, hts, _, hk, hr, _, _⟩ := C
  refine lv_aload_n hx hb dX7_readOne_0 rfl (lv_at hl 0 rfl) ?_
  refine fg_7_0 (k := 27) hx hb hts in_X7_readOne_7 hown hK hP (by decide) (by decide) (hts _ lk_X7_readOne_9) dX7_readOne_1 ?_
  refine fgN_8_9 (k := 1) hx hb hts in_X7_readOne_8 hown hK hP (by decide) (by decide) (hN.use nw_7_32) dX7_readOne_4 ?_
  refine lv_istore_n (lv' := [(2, .int (σ0 1 9)), (0, .ref (ad 27)), (1, .int a1)]) hx hb dX7_readOne_7 rfl hl (by decide) rfl (fun ls hl => ?_)
  refine lv_iload_n hx hb dX7_readOne_8 rfl (lv_at hl 0 rfl) ?_
  refine r_cSi (As := [.int (σ0 1 9)]) (rest := []) ⟨hx, hb, hml, hown, hts⟩ hK hP hN hS (c_X7_beginsOne l D cA ad hI σ0 τ0 hR (σ0 1 9)) (va_cwS 1 hts gX7_readOne_X7_beginsOne rfl rfl rfl (by decide +kernel) ⟨by decide, by decide⟩) rfl hl.1 rfl (Nat.le_of_ble_eq_true rfl) dX7_readOne_9 (Nat.zero_le _) (Nat.zero_le _) (fun r1 u1 H1 locs1 hp1 hP hS => ?_)
  obtain ⟨σ1, τ1⟩ := u1
  obtain ⟨hR, f1, fL1, hq1⟩ : P_X7_beginsOne σ0 τ0 (σ0 1 9) r1 σ1 τ1 := hp1
  have hP : va_P D vwCl (gw cA ad σ1 τ1) H1 := hP
  obtain rfl := FrL.nil fL1
  obtain rfl := Fr.nil f1
  refine r_if_ne (tgt := 24) hx hb dX7_readOne_12 (by decide) (fun c2 => ?_) (fun c2 => ?_)
  · refine lv_aload_n hx hb dX7_readOne_24 rfl (lv_at hl 1 rfl) ?_
    refine fg_7_2 (k := 27) hx hb hts in_X7_readOne_7 hown hK hP (by decide) (by decide) (hts _ lk_X7_readOne_19) dX7_readOne_25 ?_
    refine fgN_6_1 (k := 24) hx hb hts in_X7_readOne_6 hown hK hP (by decide) (by decide) (hN.use nw_7_61) dX7_readOne_28 ?_
    have hr3 := rg_6_1 hR (k := 24) (by decide) (by decide)
    refine r_bipush hx hb dX7_readOne_31 (by decide) (fun z4 ez4 => ?_)
    refine r_icmp_ge (tgt := 42) hx hb dX7_readOne_33 (by decide) (fun c5 => ?_) (fun c5 => ?_)
    · refine lv_aload_n hx hb dX7_readOne_42 rfl (lv_at hl 1 rfl) ?_
      refine fg_7_0 (k := 27) hx hb hts in_X7_readOne_7 hown hK hP (by decide) (by decide) (hts _ lk_X7_readOne_9) dX7_readOne_43 ?_
      refine r_iconst hx hb dX7_readOne_46 (by decide) (fun z6 ez6 => ?_)
      refine r_cVi (k := 1) (As := [.int z6]) (rest := []) ⟨hx, hb, hml, hown, hts⟩ hK hP hN hS (c_X8_blame l D cA ad hI σ0 τ0 hR z6 (by omega)) (cwV 1 hts gX7_readOne_X8_blame rfl rfl rfl (by decide +kernel) ⟨by decide, by decide⟩) (rv_Tape hK hP (by decide) (by decide)) rfl hl.1 rfl (Nat.le_of_ble_eq_true rfl) dX7_readOne_47 (Nat.zero_le _) (Nat.zero_le _) (fun r7 u7 H7 locs7 hp7 hP hS => ?_)
      obtain ⟨σ7, τ7⟩ := u7
      obtain ⟨hR, f7, fL7, hq7⟩ : P_X8_blame σ0 τ0 z6 r7 σ7 τ7 := hp7
      have hP : va_P D vwCl (gw cA ad σ7 τ7) H7 := hP
      obtain rfl := FrL.nil fL7
      have hF := hF.step f7 (by decide)
      have t8 : (σ7 24 1).toInt = (σ0 24 1).toInt := congrArg Int32.toInt (f7.at 24 1 (by decide))
      exact r_zret hx hb hr hK hP hS hk (by omega) dX7_readOne_50 (show P_X7_readOne_d5 σ0 τ0 a1 r7 σ7 τ0 from ⟨hR, hF, hFL, by omega⟩)
    · refine lv_iload_n hx hb dX7_readOne_36 rfl (lv_at hl 2 rfl) ?_
      refine r_bipush hx hb dX7_readOne_37 (by decide) (fun z9 ez9 => ?_)
      refine r_icmp_le (tgt := 51) hx hb dX7_readOne_39 (by decide) (fun c10 => ?_) (fun c10 => ?_)
      · refine lv_aload_n hx hb dX7_readOne_51 rfl (lv_at hl 1 rfl) ?_
        refine fg_7_2 (k := 27) hx hb hts in_X7_readOne_7 hown hK hP (by decide) (by decide) (hts _ lk_X7_readOne_19) dX7_readOne_52 ?_
        refine lv_dup hx hb dX7_readOne_55 rfl ?_
        refine fgN_6_1 (k := 24) hx hb hts in_X7_readOne_6 hown hK hP (by decide) (by decide) (hN.use nw_7_61) dX7_readOne_56 ?_
        refine r_iconst hx hb dX7_readOne_59 (by decide) (fun z11 ez11 => ?_)
        refine r_iadd hx hb dX7_readOne_60 (by omega) (fun z12 ez12 => ?_)
        refine fpN_6_1 (k := 24) hx hb hts in_X7_readOne_6 hown hK hP (by decide) (by decide) (hN.use nw_7_61) hI hR hS (by omega) dX7_readOne_61 (fun σ13 H13 locs13 u13 v13 hR hP hS => ?_)
        have hF := hF.puts u13 4 rfl (by decide) (by decide) (by decide) (by decide)
        refine lv_aload_n hx hb dX7_readOne_64 rfl (lv_at hl 1 rfl) ?_
        refine fg_7_0 (k := 27) hx hb hts in_X7_readOne_7 hown hK hP (by decide) (by decide) (hts _ lk_X7_readOne_9) dX7_readOne_65 ?_
        refine r_cVv (k := 1) (As := []) (rest := []) ⟨hx, hb, hml, hown, hts⟩ hK hP hN hS (c_X8_next l D cA ad hI σ13 τ0 hR) (cwV 0 hts gX7_readOne_X8_next rfl rfl rfl (by decide +kernel) ⟨by decide, by decide⟩) (rv_Tape hK hP (by decide) (by decide)) rfl hl.1 rfl (Nat.le_of_ble_eq_true rfl) dX7_readOne_68 (Nat.zero_le _) (Nat.zero_le _) (fun u14 H14 locs14 hp14 hP hS => ?_)
        obtain ⟨σ14, τ14⟩ := u14
        obtain ⟨hR, f14, fL14⟩ : P_X8_next σ13 τ0 σ14 τ14 := hp14
        have hP : va_P D vwCl (gw cA ad σ14 τ14) H14 := hP
        have hFL := hFL.step fL14 (by decide)
        have hF := hF.step f14 (by decide)
        have t15 : (σ14 24 1).toInt = (σ13 24 1).toInt := congrArg Int32.toInt (f14.at 24 1 (by decide))
        refine lv_iload_n hx hb dX7_readOne_71 rfl (lv_at hl 0 rfl) ?_
        by_cases c16 : (σ0 1 9).toInt = 22
        · refine lv_tableIn (off := 108) (tgt := 180) hx hb dX7_readOne_72 (by omega) (by omega) (by rw [c16]; rfl) (by decide) ?_
          refine lv_aload_n hx hb dX7_readOne_180 rfl (lv_at hl 1 rfl) ?_
          refine lv_iload_n hx hb dX7_readOne_181 rfl (lv_at hl 2 rfl) ?_
          refine r_iconst hx hb dX7_readOne_182 (by decide) (fun z17 ez17 => ?_)
          refine r_iadd hx hb dX7_readOne_183 (by omega) (fun z18 ez18 => ?_)
          refine r_cVi (k := 27) (As := [.int z18]) (rest := []) ⟨hx, hb, hml, hown, hts⟩ hK hP hN hS (c_X7_readOne_d6 l D cA ad hI σ14 τ14 hR z18 (by omega)) (cwV 1 hts gX7_readOne_X7_readOne rfl rfl rfl (by decide +kernel) ⟨by decide, by decide⟩) (rv_SText hK hP (by decide) (by decide)) rfl hl.1 rfl (Nat.le_of_ble_eq_true rfl) dX7_readOne_184 (Nat.zero_le _) (Nat.zero_le _) (fun r19 u19 H19 locs19 hp19 hP hS => ?_)
          obtain ⟨σ19, τ19⟩ := u19
          obtain ⟨hR, f19, fL19, hq19⟩ : P_X7_readOne_d6 σ14 τ14 z18 r19 σ19 τ19 := hp19
          have hP : va_P D vwCl (gw cA ad σ19 τ19) H19 := hP
          have hFL := hFL.step fL19 (by decide)
          have hF := hF.step f19 (by decide)
          refine r_if_eq (tgt := 208) hx hb dX7_readOne_187 (by decide) (fun c20 => ?_) (fun c20 => ?_)
          · refine r_iconst hx hb dX7_readOne_208 (by decide) (fun z21 ez21 => ?_)
            exact r_zret hx hb hr hK hP hS hk (by omega) dX7_readOne_209 (show P_X7_readOne_d5 σ0 τ0 a1 z21 σ19 τ19 from ⟨hR, hF, hFL, by omega⟩)
          · refine lv_aload_n hx hb dX7_readOne_190 rfl (lv_at hl 1 rfl) ?_
            refine fg_7_2 (k := 27) hx hb hts in_X7_readOne_7 hown hK hP (by decide) (by decide) (hts _ lk_X7_readOne_19) dX7_readOne_191 ?_
            refine r_bipush hx hb dX7_readOne_194 (by decide) (fun z22 ez22 => ?_)
            refine r_iconst hx hb dX7_readOne_196 (by decide) (fun z23 ez23 => ?_)
            refine r_iconst hx hb dX7_readOne_197 (by decide) (fun z24 ez24 => ?_)
            refine r_cVi (k := 24) (As := [.int z22, .int z23, .int z24]) (rest := []) ⟨hx, hb, hml, hown, hts⟩ hK hP hN hS (c_X6_add l D cA ad hI σ19 τ19 hR z22 z23 z24 (by omega)) (cwV 3 hts gX7_readOne_X6_add rfl rfl rfl (by decide +kernel) ⟨by decide, by decide⟩) (rv_Sent hK hP (by decide) (by decide)) rfl hl.1 rfl (Nat.le_of_ble_eq_true rfl) dX7_readOne_198 (Nat.zero_le _) (Nat.zero_le _) (fun r25 u25 H25 locs25 hp25 hP hS => ?_)
            obtain ⟨σ25, τ25⟩ := u25
            obtain ⟨hR, f25, fL25, hq25⟩ : P_X6_add σ19 τ19 z22 z23 z24 r25 σ25 τ25 := hp25
            have hP : va_P D vwCl (gw cA ad σ25 τ25) H25 := hP
            obtain rfl := FrL.nil fL25
            have hF := hF.step f25 (by decide)
            refine r_if_eq (tgt := 208) hx hb dX7_readOne_201 (by decide) (fun c26 => ?_) (fun c26 => ?_)
            · refine r_iconst hx hb dX7_readOne_208 (by decide) (fun z27 ez27 => ?_)
              exact r_zret hx hb hr hK hP hS hk (by omega) dX7_readOne_209 (show P_X7_readOne_d5 σ0 τ0 a1 z27 σ25 τ19 from ⟨hR, hF, hFL, by omega⟩)
            · refine r_iconst hx hb dX7_readOne_204 (by decide) (fun z28 ez28 => ?_)
              refine lv_goto (tgt := 209) hx hb dX7_readOne_205 (by decide) ?_
              exact r_zret hx hb hr hK hP hS hk (by omega) dX7_readOne_209 (show P_X7_readOne_d5 σ0 τ0 a1 z28 σ25 τ19 from ⟨hR, hF, hFL, by omega⟩)
        by_cases c29 : (σ0 1 9).toInt = 23
        · refine lv_tableIn (off := 177) (tgt := 249) hx hb dX7_readOne_72 (by omega) (by omega) (by rw [c29]; rfl) (by decide) ?_
          refine lv_aload_n hx hb dX7_readOne_249 rfl (lv_at hl 1 rfl) ?_
          refine fg_7_2 (k := 27) hx hb hts in_X7_readOne_7 hown hK hP (by decide) (by decide) (hts _ lk_X7_readOne_19) dX7_readOne_250 ?_
          refine lv_iload_n hx hb dX7_readOne_253 rfl (lv_at hl 0 rfl) ?_
          refine r_bipush hx hb dX7_readOne_254 (by decide) (fun z30 ez30 => ?_)
          refine r_iconst hx hb dX7_readOne_256 (by decide) (fun z31 ez31 => ?_)
          refine r_cVi (k := 24) (As := [.int (σ0 1 9), .int z30, .int z31]) (rest := []) ⟨hx, hb, hml, hown, hts⟩ hK hP hN hS (c_X6_add l D cA ad hI σ14 τ14 hR (σ0 1 9) z30 z31 (by omega)) (cwV 3 hts gX7_readOne_X6_add rfl rfl rfl (by decide +kernel) ⟨by decide, by decide⟩) (rv_Sent hK hP (by decide) (by decide)) rfl hl.1 rfl (Nat.le_of_ble_eq_true rfl) dX7_readOne_257 (Nat.zero_le _) (Nat.zero_le _) (fun r32 u32 H32 locs32 hp32 hP hS => ?_)
          obtain ⟨σ32, τ32⟩ := u32
          obtain ⟨hR, f32, fL32, hq32⟩ : P_X6_add σ14 τ14 (σ0 1 9) z30 z31 r32 σ32 τ32 := hp32
          have hP : va_P D vwCl (gw cA ad σ32 τ32) H32 := hP
          obtain rfl := FrL.nil fL32
          have hF := hF.step f32 (by decide)
          have t33 : (σ32 24 1).toInt = (σ14 24 1).toInt := congrArg Int32.toInt (f32.at 24 1 (by decide))
          exact r_zret hx hb hr hK hP hS hk (by omega) dX7_readOne_260 (show P_X7_readOne_d5 σ0 τ0 a1 r32 σ32 τ14 from ⟨hR, hF, hFL, by omega⟩)
        by_cases c34 : (σ0 1 9).toInt = 24
        · refine lv_tableIn (off := 177) (tgt := 249) hx hb dX7_readOne_72 (by omega) (by omega) (by rw [c34]; rfl) (by decide) ?_
          refine lv_aload_n hx hb dX7_readOne_249 rfl (lv_at hl 1 rfl) ?_
          refine fg_7_2 (k := 27) hx hb hts in_X7_readOne_7 hown hK hP (by decide) (by decide) (hts _ lk_X7_readOne_19) dX7_readOne_250 ?_
          refine lv_iload_n hx hb dX7_readOne_253 rfl (lv_at hl 0 rfl) ?_
          refine r_bipush hx hb dX7_readOne_254 (by decide) (fun z35 ez35 => ?_)
          refine r_iconst hx hb dX7_readOne_256 (by decide) (fun z36 ez36 => ?_)
          refine r_cVi (k := 24) (As := [.int (σ0 1 9), .int z35, .int z36]) (rest := []) ⟨hx, hb, hml, hown, hts⟩ hK hP hN hS (c_X6_add l D cA ad hI σ14 τ14 hR (σ0 1 9) z35 z36 (by omega)) (cwV 3 hts gX7_readOne_X6_add rfl rfl rfl (by decide +kernel) ⟨by decide, by decide⟩) (rv_Sent hK hP (by decide) (by decide)) rfl hl.1 rfl (Nat.le_of_ble_eq_true rfl) dX7_readOne_257 (Nat.zero_le _) (Nat.zero_le _) (fun r37 u37 H37 locs37 hp37 hP hS => ?_)
          obtain ⟨σ37, τ37⟩ := u37
          obtain ⟨hR, f37, fL37, hq37⟩ : P_X6_add σ14 τ14 (σ0 1 9) z35 z36 r37 σ37 τ37 := hp37
          have hP : va_P D vwCl (gw cA ad σ37 τ37) H37 := hP
          obtain rfl := FrL.nil fL37
          have hF := hF.step f37 (by decide)
          have t38 : (σ37 24 1).toInt = (σ14 24 1).toInt := congrArg Int32.toInt (f37.at 24 1 (by decide))
          exact r_zret hx hb hr hK hP hS hk (by omega) dX7_readOne_260 (show P_X7_readOne_d5 σ0 τ0 a1 r37 σ37 τ14 from ⟨hR, hF, hFL, by omega⟩)
        by_cases c39 : (σ0 1 9).toInt = 25
        · refine lv_tableIn (off := 166) (tgt := 238) hx hb dX7_readOne_72 (by omega) (by omega) (by rw [c39]; rfl) (by decide) ?_
          refine lv_aload_n hx hb dX7_readOne_238 rfl (lv_at hl 1 rfl) ?_
          refine r_cVi (k := 27) (As := []) (rest := []) ⟨hx, hb, hml, hown, hts⟩ hK hP hN hS (c_X7_readOn l D cA ad hI σ14 τ14 hR) (cwV 0 hts gX7_readOne_X7_readOn rfl rfl rfl (by decide +kernel) ⟨by decide, by decide⟩) (rv_SText hK hP (by decide) (by decide)) rfl hl.1 rfl (Nat.le_of_ble_eq_true rfl) dX7_readOne_239 (Nat.zero_le _) (Nat.zero_le _) (fun r40 u40 H40 locs40 hp40 hP hS => ?_)
          obtain ⟨σ40, τ40⟩ := u40
          obtain ⟨hR, f40, fL40, hq40⟩ : P_X7_readOn σ14 τ14 r40 σ40 τ40 := hp40
          have hP : va_P D vwCl (gw cA ad σ40 τ40) H40 := hP
          have hFL := hFL.step fL40 (by decide)
          have hF := hF.step f40 (by decide)
          have t41 : (σ40 24 1).toInt = (σ14 24 1).toInt := congrArg Int32.toInt (f40.at 24 1 (by decide))
          exact r_zret hx hb hr hK hP hS hk (by omega) dX7_readOne_242 (show P_X7_readOne_d5 σ0 τ0 a1 r40 σ40 τ40 from ⟨hR, hF, hFL, by omega⟩)
        by_cases c42 : (σ0 1 9).toInt = 26
        · refine lv_tableIn (off := 177) (tgt := 249) hx hb dX7_readOne_72 (by omega) (by omega) (by rw [c42]; rfl) (by decide) ?_
          refine lv_aload_n hx hb dX7_readOne_249 rfl (lv_at hl 1 rfl) ?_
          refine fg_7_2 (k := 27) hx hb hts in_X7_readOne_7 hown hK hP (by decide) (by decide) (hts _ lk_X7_readOne_19) dX7_readOne_250 ?_
          refine lv_iload_n hx hb dX7_readOne_253 rfl (lv_at hl 0 rfl) ?_
          refine r_bipush hx hb dX7_readOne_254 (by decide) (fun z43 ez43 => ?_)
          refine r_iconst hx hb dX7_readOne_256 (by decide) (fun z44 ez44 => ?_)
          refine r_cVi (k := 24) (As := [.int (σ0 1 9), .int z43, .int z44]) (rest := []) ⟨hx, hb, hml, hown, hts⟩ hK hP hN hS (c_X6_add l D cA ad hI σ14 τ14 hR (σ0 1 9) z43 z44 (by omega)) (cwV 3 hts gX7_readOne_X6_add rfl rfl rfl (by decide +kernel) ⟨by decide, by decide⟩) (rv_Sent hK hP (by decide) (by decide)) rfl hl.1 rfl (Nat.le_of_ble_eq_true rfl) dX7_readOne_257 (Nat.zero_le _) (Nat.zero_le _) (fun r45 u45 H45 locs45 hp45 hP hS => ?_)
          obtain ⟨σ45, τ45⟩ := u45
          obtain ⟨hR, f45, fL45, hq45⟩ : P_X6_add σ14 τ14 (σ0 1 9) z43 z44 r45 σ45 τ45 := hp45
          have hP : va_P D vwCl (gw cA ad σ45 τ45) H45 := hP
          obtain rfl := FrL.nil fL45
          have hF := hF.step f45 (by decide)
          have t46 : (σ45 24 1).toInt = (σ14 24 1).toInt := congrArg Int32.toInt (f45.at 24 1 (by decide))
          exact r_zret hx hb hr hK hP hS hk (by omega) dX7_readOne_260 (show P_X7_readOne_d5 σ0 τ0 a1 r45 σ45 τ14 from ⟨hR, hF, hFL, by omega⟩)
        by_cases c47 : (σ0 1 9).toInt = 27
        · refine lv_tableIn (off := 171) (tgt := 243) hx hb dX7_readOne_72 (by omega) (by omega) (by rw [c47]; rfl) (by decide) ?_
          refine lv_aload_n hx hb dX7_readOne_243 rfl (lv_at hl 1 rfl) ?_
          refine lv_iload_n hx hb dX7_readOne_244 rfl (lv_at hl 0 rfl) ?_
          refine r_cVi (k := 27) (As := [.int (σ0 1 9)]) (rest := []) ⟨hx, hb, hml, hown, hts⟩ hK hP hN hS (c_X7_readMeasure l D cA ad hI σ14 τ14 hR (σ0 1 9) (by omega)) (cwV 1 hts gX7_readOne_X7_readMeasure rfl rfl rfl (by decide +kernel) ⟨by decide, by decide⟩) (rv_SText hK hP (by decide) (by decide)) rfl hl.1 rfl (Nat.le_of_ble_eq_true rfl) dX7_readOne_245 (Nat.zero_le _) (Nat.zero_le _) (fun r48 u48 H48 locs48 hp48 hP hS => ?_)
          obtain ⟨σ48, τ48⟩ := u48
          obtain ⟨hR, f48, fL48, hq48⟩ : P_X7_readMeasure σ14 τ14 (σ0 1 9) r48 σ48 τ48 := hp48
          have hP : va_P D vwCl (gw cA ad σ48 τ48) H48 := hP
          have hFL := hFL.step fL48 (by decide)
          have hF := hF.step f48 (by decide)
          have t49 : (σ48 24 1).toInt = (σ14 24 1).toInt := congrArg Int32.toInt (f48.at 24 1 (by decide))
          exact r_zret hx hb hr hK hP hS hk (by omega) dX7_readOne_248 (show P_X7_readOne_d5 σ0 τ0 a1 r48 σ48 τ48 from ⟨hR, hF, hFL, by omega⟩)
        by_cases c50 : (σ0 1 9).toInt = 28
        · refine lv_tableIn (off := 171) (tgt := 243) hx hb dX7_readOne_72 (by omega) (by omega) (by rw [c50]; rfl) (by decide) ?_
          refine lv_aload_n hx hb dX7_readOne_243 rfl (lv_at hl 1 rfl) ?_
          refine lv_iload_n hx hb dX7_readOne_244 rfl (lv_at hl 0 rfl) ?_
          refine r_cVi (k := 27) (As := [.int (σ0 1 9)]) (rest := []) ⟨hx, hb, hml, hown, hts⟩ hK hP hN hS (c_X7_readMeasure l D cA ad hI σ14 τ14 hR (σ0 1 9) (by omega)) (cwV 1 hts gX7_readOne_X7_readMeasure rfl rfl rfl (by decide +kernel) ⟨by decide, by decide⟩) (rv_SText hK hP (by decide) (by decide)) rfl hl.1 rfl (Nat.le_of_ble_eq_true rfl) dX7_readOne_245 (Nat.zero_le _) (Nat.zero_le _) (fun r51 u51 H51 locs51 hp51 hP hS => ?_)
          obtain ⟨σ51, τ51⟩ := u51
          obtain ⟨hR, f51, fL51, hq51⟩ : P_X7_readMeasure σ14 τ14 (σ0 1 9) r51 σ51 τ51 := hp51
          have hP : va_P D vwCl (gw cA ad σ51 τ51) H51 := hP
          have hFL := hFL.step fL51 (by decide)
          have hF := hF.step f51 (by decide)
          have t52 : (σ51 24 1).toInt = (σ14 24 1).toInt := congrArg Int32.toInt (f51.at 24 1 (by decide))
          exact r_zret hx hb hr hK hP hS hk (by omega) dX7_readOne_248 (show P_X7_readOne_d5 σ0 τ0 a1 r51 σ51 τ51 from ⟨hR, hF, hFL, by omega⟩)
        by_cases c53 : (σ0 1 9).toInt = 29
        · refine lv_tableIn (off := 171) (tgt := 243) hx hb dX7_readOne_72 (by omega) (by omega) (by rw [c53]; rfl) (by decide) ?_
          refine lv_aload_n hx hb dX7_readOne_243 rfl (lv_at hl 1 rfl) ?_
          refine lv_iload_n hx hb dX7_readOne_244 rfl (lv_at hl 0 rfl) ?_
          refine r_cVi (k := 27) (As := [.int (σ0 1 9)]) (rest := []) ⟨hx, hb, hml, hown, hts⟩ hK hP hN hS (c_X7_readMeasure l D cA ad hI σ14 τ14 hR (σ0 1 9) (by omega)) (cwV 1 hts gX7_readOne_X7_readMeasure rfl rfl rfl (by decide +kernel) ⟨by decide, by decide⟩) (rv_SText hK hP (by decide) (by decide)) rfl hl.1 rfl (Nat.le_of_ble_eq_true rfl) dX7_readOne_245 (Nat.zero_le _) (Nat.zero_le _) (fun r54 u54 H54 locs54 hp54 hP hS => ?_)
          obtain ⟨σ54, τ54⟩ := u54
          obtain ⟨hR, f54, fL54, hq54⟩ : P_X7_readMeasure σ14 τ14 (σ0 1 9) r54 σ54 τ54 := hp54
          have hP : va_P D vwCl (gw cA ad σ54 τ54) H54 := hP
          have hFL := hFL.step fL54 (by decide)
          have hF := hF.step f54 (by decide)
          have t55 : (σ54 24 1).toInt = (σ14 24 1).toInt := congrArg Int32.toInt (f54.at 24 1 (by decide))
          exact r_zret hx hb hr hK hP hS hk (by omega) dX7_readOne_248 (show P_X7_readOne_d5 σ0 τ0 a1 r54 σ54 τ54 from ⟨hR, hF, hFL, by omega⟩)
        by_cases c56 : (σ0 1 9).toInt = 30
        · refine lv_tableIn (off := 171) (tgt := 243) hx hb dX7_readOne_72 (by omega) (by omega) (by rw [c56]; rfl) (by decide) ?_
          refine lv_aload_n hx hb dX7_readOne_243 rfl (lv_at hl 1 rfl) ?_
          refine lv_iload_n hx hb dX7_readOne_244 rfl (lv_at hl 0 rfl) ?_
          refine r_cVi (k := 27) (As := [.int (σ0 1 9)]) (rest := []) ⟨hx, hb, hml, hown, hts⟩ hK hP hN hS (c_X7_readMeasure l D cA ad hI σ14 τ14 hR (σ0 1 9) (by omega)) (cwV 1 hts gX7_readOne_X7_readMeasure rfl rfl rfl (by decide +kernel) ⟨by decide, by decide⟩) (rv_SText hK hP (by decide) (by decide)) rfl hl.1 rfl (Nat.le_of_ble_eq_true rfl) dX7_readOne_245 (Nat.zero_le _) (Nat.zero_le _) (fun r57 u57 H57 locs57 hp57 hP hS => ?_)
          obtain ⟨σ57, τ57⟩ := u57
          obtain ⟨hR, f57, fL57, hq57⟩ : P_X7_readMeasure σ14 τ14 (σ0 1 9) r57 σ57 τ57 := hp57
          have hP : va_P D vwCl (gw cA ad σ57 τ57) H57 := hP
          have hFL := hFL.step fL57 (by decide)
          have hF := hF.step f57 (by decide)
          have t58 : (σ57 24 1).toInt = (σ14 24 1).toInt := congrArg Int32.toInt (f57.at 24 1 (by decide))
          exact r_zret hx hb hr hK hP hS hk (by omega) dX7_readOne_248 (show P_X7_readOne_d5 σ0 τ0 a1 r57 σ57 τ57 from ⟨hR, hF, hFL, by omega⟩)
        by_cases c59 : (σ0 1 9).toInt = 31
        · refine lv_tableIn (off := 177) (tgt := 249) hx hb dX7_readOne_72 (by omega) (by omega) (by rw [c59]; rfl) (by decide) ?_
          refine lv_aload_n hx hb dX7_readOne_249 rfl (lv_at hl 1 rfl) ?_
          refine fg_7_2 (k := 27) hx hb hts in_X7_readOne_7 hown hK hP (by decide) (by decide) (hts _ lk_X7_readOne_19) dX7_readOne_250 ?_
          refine lv_iload_n hx hb dX7_readOne_253 rfl (lv_at hl 0 rfl) ?_
          refine r_bipush hx hb dX7_readOne_254 (by decide) (fun z60 ez60 => ?_)
          refine r_iconst hx hb dX7_readOne_256 (by decide) (fun z61 ez61 => ?_)
          refine r_cVi (k := 24) (As := [.int (σ0 1 9), .int z60, .int z61]) (rest := []) ⟨hx, hb, hml, hown, hts⟩ hK hP hN hS (c_X6_add l D cA ad hI σ14 τ14 hR (σ0 1 9) z60 z61 (by omega)) (cwV 3 hts gX7_readOne_X6_add rfl rfl rfl (by decide +kernel) ⟨by decide, by decide⟩) (rv_Sent hK hP (by decide) (by decide)) rfl hl.1 rfl (Nat.le_of_ble_eq_true rfl) dX7_readOne_257 (Nat.zero_le _) (Nat.zero_le _) (fun r62 u62 H62 locs62 hp62 hP hS => ?_)
          obtain ⟨σ62, τ62⟩ := u62
          obtain ⟨hR, f62, fL62, hq62⟩ : P_X6_add σ14 τ14 (σ0 1 9) z60 z61 r62 σ62 τ62 := hp62
          have hP : va_P D vwCl (gw cA ad σ62 τ62) H62 := hP
          obtain rfl := FrL.nil fL62
          have hF := hF.step f62 (by decide)
          have t63 : (σ62 24 1).toInt = (σ14 24 1).toInt := congrArg Int32.toInt (f62.at 24 1 (by decide))
          exact r_zret hx hb hr hK hP hS hk (by omega) dX7_readOne_260 (show P_X7_readOne_d5 σ0 τ0 a1 r62 σ62 τ14 from ⟨hR, hF, hFL, by omega⟩)
        by_cases c64 : (σ0 1 9).toInt = 32
        · refine lv_tableIn (off := 177) (tgt := 249) hx hb dX7_readOne_72 (by omega) (by omega) (by rw [c64]; rfl) (by decide) ?_
          refine lv_aload_n hx hb dX7_readOne_249 rfl (lv_at hl 1 rfl) ?_
          refine fg_7_2 (k := 27) hx hb hts in_X7_readOne_7 hown hK hP (by decide) (by decide) (hts _ lk_X7_readOne_19) dX7_readOne_250 ?_
          refine lv_iload_n hx hb dX7_readOne_253 rfl (lv_at hl 0 rfl) ?_
          refine r_bipush hx hb dX7_readOne_254 (by decide) (fun z65 ez65 => ?_)
          refine r_iconst hx hb dX7_readOne_256 (by decide) (fun z66 ez66 => ?_)
          refine r_cVi (k := 24) (As := [.int (σ0 1 9), .int z65, .int z66]) (rest := []) ⟨hx, hb, hml, hown, hts⟩ hK hP hN hS (c_X6_add l D cA ad hI σ14 τ14 hR (σ0 1 9) z65 z66 (by omega)) (cwV 3 hts gX7_readOne_X6_add rfl rfl rfl (by decide +kernel) ⟨by decide, by decide⟩) (rv_Sent hK hP (by decide) (by decide)) rfl hl.1 rfl (Nat.le_of_ble_eq_true rfl) dX7_readOne_257 (Nat.zero_le _) (Nat.zero_le _) (fun r67 u67 H67 locs67 hp67 hP hS => ?_)
          obtain ⟨σ67, τ67⟩ := u67
          obtain ⟨hR, f67, fL67, hq67⟩ : P_X6_add σ14 τ14 (σ0 1 9) z65 z66 r67 σ67 τ67 := hp67
          have hP : va_P D vwCl (gw cA ad σ67 τ67) H67 := hP
          obtain rfl := FrL.nil fL67
          have hF := hF.step f67 (by decide)
          have t68 : (σ67 24 1).toInt = (σ14 24 1).toInt := congrArg Int32.toInt (f67.at 24 1 (by decide))
          exact r_zret hx hb hr hK hP hS hk (by omega) dX7_readOne_260 (show P_X7_readOne_d5 σ0 τ0 a1 r67 σ67 τ14 from ⟨hR, hF, hFL, by omega⟩)
        by_cases c69 : (σ0 1 9).toInt = 33
        · refine lv_tableIn (off := 177) (tgt := 249) hx hb dX7_readOne_72 (by omega) (by omega) (by rw [c69]; rfl) (by decide) ?_
          refine lv_aload_n hx hb dX7_readOne_249 rfl (lv_at hl 1 rfl) ?_
          refine fg_7_2 (k := 27) hx hb hts in_X7_readOne_7 hown hK hP (by decide) (by decide) (hts _ lk_X7_readOne_19) dX7_readOne_250 ?_
          refine lv_iload_n hx hb dX7_readOne_253 rfl (lv_at hl 0 rfl) ?_
          refine r_bipush hx hb dX7_readOne_254 (by decide) (fun z70 ez70 => ?_)
          refine r_iconst hx hb dX7_readOne_256 (by decide) (fun z71 ez71 => ?_)
          refine r_cVi (k := 24) (As := [.int (σ0 1 9), .int z70, .int z71]) (rest := []) ⟨hx, hb, hml, hown, hts⟩ hK hP hN hS (c_X6_add l D cA ad hI σ14 τ14 hR (σ0 1 9) z70 z71 (by omega)) (cwV 3 hts gX7_readOne_X6_add rfl rfl rfl (by decide +kernel) ⟨by decide, by decide⟩) (rv_Sent hK hP (by decide) (by decide)) rfl hl.1 rfl (Nat.le_of_ble_eq_true rfl) dX7_readOne_257 (Nat.zero_le _) (Nat.zero_le _) (fun r72 u72 H72 locs72 hp72 hP hS => ?_)
          obtain ⟨σ72, τ72⟩ := u72
          obtain ⟨hR, f72, fL72, hq72⟩ : P_X6_add σ14 τ14 (σ0 1 9) z70 z71 r72 σ72 τ72 := hp72
          have hP : va_P D vwCl (gw cA ad σ72 τ72) H72 := hP
          obtain rfl := FrL.nil fL72
          have hF := hF.step f72 (by decide)
          have t73 : (σ72 24 1).toInt = (σ14 24 1).toInt := congrArg Int32.toInt (f72.at 24 1 (by decide))
          exact r_zret hx hb hr hK hP hS hk (by omega) dX7_readOne_260 (show P_X7_readOne_d5 σ0 τ0 a1 r72 σ72 τ14 from ⟨hR, hF, hFL, by omega⟩)
        by_cases c74 : (σ0 1 9).toInt = 34
        · refine lv_tableIn (off := 177) (tgt := 249) hx hb dX7_readOne_72 (by omega) (by omega) (by rw [c74]; rfl) (by decide) ?_
          refine lv_aload_n hx hb dX7_readOne_249 rfl (lv_at hl 1 rfl) ?_
          refine fg_7_2 (k := 27) hx hb hts in_X7_readOne_7 hown hK hP (by decide) (by decide) (hts _ lk_X7_readOne_19) dX7_readOne_250 ?_
          refine lv_iload_n hx hb dX7_readOne_253 rfl (lv_at hl 0 rfl) ?_
          refine r_bipush hx hb dX7_readOne_254 (by decide) (fun z75 ez75 => ?_)
          refine r_iconst hx hb dX7_readOne_256 (by decide) (fun z76 ez76 => ?_)
          refine r_cVi (k := 24) (As := [.int (σ0 1 9), .int z75, .int z76]) (rest := []) ⟨hx, hb, hml, hown, hts⟩ hK hP hN hS (c_X6_add l D cA ad hI σ14 τ14 hR (σ0 1 9) z75 z76 (by omega)) (cwV 3 hts gX7_readOne_X6_add rfl rfl rfl (by decide +kernel) ⟨by decide, by decide⟩) (rv_Sent hK hP (by decide) (by decide)) rfl hl.1 rfl (Nat.le_of_ble_eq_true rfl) dX7_readOne_257 (Nat.zero_le _) (Nat.zero_le _) (fun r77 u77 H77 locs77 hp77 hP hS => ?_)
          obtain ⟨σ77, τ77⟩ := u77
          obtain ⟨hR, f77, fL77, hq77⟩ : P_X6_add σ14 τ14 (σ0 1 9) z75 z76 r77 σ77 τ77 := hp77
          have hP : va_P D vwCl (gw cA ad σ77 τ77) H77 := hP
          obtain rfl := FrL.nil fL77
          have hF := hF.step f77 (by decide)
          have t78 : (σ77 24 1).toInt = (σ14 24 1).toInt := congrArg Int32.toInt (f77.at 24 1 (by decide))
          exact r_zret hx hb hr hK hP hS hk (by omega) dX7_readOne_260 (show P_X7_readOne_d5 σ0 τ0 a1 r77 σ77 τ14 from ⟨hR, hF, hFL, by omega⟩)
        by_cases c79 : (σ0 1 9).toInt = 35
        · refine lv_tableIn (off := 177) (tgt := 249) hx hb dX7_readOne_72 (by omega) (by omega) (by rw [c79]; rfl) (by decide) ?_
          refine lv_aload_n hx hb dX7_readOne_249 rfl (lv_at hl 1 rfl) ?_
          refine fg_7_2 (k := 27) hx hb hts in_X7_readOne_7 hown hK hP (by decide) (by decide) (hts _ lk_X7_readOne_19) dX7_readOne_250 ?_
          refine lv_iload_n hx hb dX7_readOne_253 rfl (lv_at hl 0 rfl) ?_
          refine r_bipush hx hb dX7_readOne_254 (by decide) (fun z80 ez80 => ?_)
          refine r_iconst hx hb dX7_readOne_256 (by decide) (fun z81 ez81 => ?_)
          refine r_cVi (k := 24) (As := [.int (σ0 1 9), .int z80, .int z81]) (rest := []) ⟨hx, hb, hml, hown, hts⟩ hK hP hN hS (c_X6_add l D cA ad hI σ14 τ14 hR (σ0 1 9) z80 z81 (by omega)) (cwV 3 hts gX7_readOne_X6_add rfl rfl rfl (by decide +kernel) ⟨by decide, by decide⟩) (rv_Sent hK hP (by decide) (by decide)) rfl hl.1 rfl (Nat.le_of_ble_eq_true rfl) dX7_readOne_257 (Nat.zero_le _) (Nat.zero_le _) (fun r82 u82 H82 locs82 hp82 hP hS => ?_)
          obtain ⟨σ82, τ82⟩ := u82
          obtain ⟨hR, f82, fL82, hq82⟩ : P_X6_add σ14 τ14 (σ0 1 9) z80 z81 r82 σ82 τ82 := hp82
          have hP : va_P D vwCl (gw cA ad σ82 τ82) H82 := hP
          obtain rfl := FrL.nil fL82
          have hF := hF.step f82 (by decide)
          have t83 : (σ82 24 1).toInt = (σ14 24 1).toInt := congrArg Int32.toInt (f82.at 24 1 (by decide))
          exact r_zret hx hb hr hK hP hS hk (by omega) dX7_readOne_260 (show P_X7_readOne_d5 σ0 τ0 a1 r82 σ82 τ14 from ⟨hR, hF, hFL, by omega⟩)
        by_cases c84 : (σ0 1 9).toInt = 36
        · refine lv_tableIn (off := 177) (tgt := 249) hx hb dX7_readOne_72 (by omega) (by omega) (by rw [c84]; rfl) (by decide) ?_
          refine lv_aload_n hx hb dX7_readOne_249 rfl (lv_at hl 1 rfl) ?_
          refine fg_7_2 (k := 27) hx hb hts in_X7_readOne_7 hown hK hP (by decide) (by decide) (hts _ lk_X7_readOne_19) dX7_readOne_250 ?_
          refine lv_iload_n hx hb dX7_readOne_253 rfl (lv_at hl 0 rfl) ?_
          refine r_bipush hx hb dX7_readOne_254 (by decide) (fun z85 ez85 => ?_)
          refine r_iconst hx hb dX7_readOne_256 (by decide) (fun z86 ez86 => ?_)
          refine r_cVi (k := 24) (As := [.int (σ0 1 9), .int z85, .int z86]) (rest := []) ⟨hx, hb, hml, hown, hts⟩ hK hP hN hS (c_X6_add l D cA ad hI σ14 τ14 hR (σ0 1 9) z85 z86 (by omega)) (cwV 3 hts gX7_readOne_X6_add rfl rfl rfl (by decide +kernel) ⟨by decide, by decide⟩) (rv_Sent hK hP (by decide) (by decide)) rfl hl.1 rfl (Nat.le_of_ble_eq_true rfl) dX7_readOne_257 (Nat.zero_le _) (Nat.zero_le _) (fun r87 u87 H87 locs87 hp87 hP hS => ?_)
          obtain ⟨σ87, τ87⟩ := u87
          obtain ⟨hR, f87, fL87, hq87⟩ : P_X6_add σ14 τ14 (σ0 1 9) z85 z86 r87 σ87 τ87 := hp87
          have hP : va_P D vwCl (gw cA ad σ87 τ87) H87 := hP
          obtain rfl := FrL.nil fL87
          have hF := hF.step f87 (by decide)
          have t88 : (σ87 24 1).toInt = (σ14 24 1).toInt := congrArg Int32.toInt (f87.at 24 1 (by decide))
          exact r_zret hx hb hr hK hP hS hk (by omega) dX7_readOne_260 (show P_X7_readOne_d5 σ0 τ0 a1 r87 σ87 τ14 from ⟨hR, hF, hFL, by omega⟩)
        by_cases c89 : (σ0 1 9).toInt = 37
        · refine lv_tableIn (off := 177) (tgt := 249) hx hb dX7_readOne_72 (by omega) (by omega) (by rw [c89]; rfl) (by decide) ?_
          refine lv_aload_n hx hb dX7_readOne_249 rfl (lv_at hl 1 rfl) ?_
          refine fg_7_2 (k := 27) hx hb hts in_X7_readOne_7 hown hK hP (by decide) (by decide) (hts _ lk_X7_readOne_19) dX7_readOne_250 ?_
          refine lv_iload_n hx hb dX7_readOne_253 rfl (lv_at hl 0 rfl) ?_
          refine r_bipush hx hb dX7_readOne_254 (by decide) (fun z90 ez90 => ?_)
          refine r_iconst hx hb dX7_readOne_256 (by decide) (fun z91 ez91 => ?_)
          refine r_cVi (k := 24) (As := [.int (σ0 1 9), .int z90, .int z91]) (rest := []) ⟨hx, hb, hml, hown, hts⟩ hK hP hN hS (c_X6_add l D cA ad hI σ14 τ14 hR (σ0 1 9) z90 z91 (by omega)) (cwV 3 hts gX7_readOne_X6_add rfl rfl rfl (by decide +kernel) ⟨by decide, by decide⟩) (rv_Sent hK hP (by decide) (by decide)) rfl hl.1 rfl (Nat.le_of_ble_eq_true rfl) dX7_readOne_257 (Nat.zero_le _) (Nat.zero_le _) (fun r92 u92 H92 locs92 hp92 hP hS => ?_)
          obtain ⟨σ92, τ92⟩ := u92
          obtain ⟨hR, f92, fL92, hq92⟩ : P_X6_add σ14 τ14 (σ0 1 9) z90 z91 r92 σ92 τ92 := hp92
          have hP : va_P D vwCl (gw cA ad σ92 τ92) H92 := hP
          obtain rfl := FrL.nil fL92
          have hF := hF.step f92 (by decide)
          have t93 : (σ92 24 1).toInt = (σ14 24 1).toInt := congrArg Int32.toInt (f92.at 24 1 (by decide))
          exact r_zret hx hb hr hK hP hS hk (by omega) dX7_readOne_260 (show P_X7_readOne_d5 σ0 τ0 a1 r92 σ92 τ14 from ⟨hR, hF, hFL, by omega⟩)
        by_cases c94 : (σ0 1 9).toInt = 38
        · refine lv_tableIn (off := 177) (tgt := 249) hx hb dX7_readOne_72 (by omega) (by omega) (by rw [c94]; rfl) (by decide) ?_
          refine lv_aload_n hx hb dX7_readOne_249 rfl (lv_at hl 1 rfl) ?_
          refine fg_7_2 (k := 27) hx hb hts in_X7_readOne_7 hown hK hP (by decide) (by decide) (hts _ lk_X7_readOne_19) dX7_readOne_250 ?_
          refine lv_iload_n hx hb dX7_readOne_253 rfl (lv_at hl 0 rfl) ?_
          refine r_bipush hx hb dX7_readOne_254 (by decide) (fun z95 ez95 => ?_)
          refine r_iconst hx hb dX7_readOne_256 (by decide) (fun z96 ez96 => ?_)
          refine r_cVi (k := 24) (As := [.int (σ0 1 9), .int z95, .int z96]) (rest := []) ⟨hx, hb, hml, hown, hts⟩ hK hP hN hS (c_X6_add l D cA ad hI σ14 τ14 hR (σ0 1 9) z95 z96 (by omega)) (cwV 3 hts gX7_readOne_X6_add rfl rfl rfl (by decide +kernel) ⟨by decide, by decide⟩) (rv_Sent hK hP (by decide) (by decide)) rfl hl.1 rfl (Nat.le_of_ble_eq_true rfl) dX7_readOne_257 (Nat.zero_le _) (Nat.zero_le _) (fun r97 u97 H97 locs97 hp97 hP hS => ?_)
          obtain ⟨σ97, τ97⟩ := u97
          obtain ⟨hR, f97, fL97, hq97⟩ : P_X6_add σ14 τ14 (σ0 1 9) z95 z96 r97 σ97 τ97 := hp97
          have hP : va_P D vwCl (gw cA ad σ97 τ97) H97 := hP
          obtain rfl := FrL.nil fL97
          have hF := hF.step f97 (by decide)
          have t98 : (σ97 24 1).toInt = (σ14 24 1).toInt := congrArg Int32.toInt (f97.at 24 1 (by decide))
          exact r_zret hx hb hr hK hP hS hk (by omega) dX7_readOne_260 (show P_X7_readOne_d5 σ0 τ0 a1 r97 σ97 τ14 from ⟨hR, hF, hFL, by omega⟩)
        by_cases c99 : (σ0 1 9).toInt = 39
        · refine lv_tableIn (off := 177) (tgt := 249) hx hb dX7_readOne_72 (by omega) (by omega) (by rw [c99]; rfl) (by decide) ?_
          refine lv_aload_n hx hb dX7_readOne_249 rfl (lv_at hl 1 rfl) ?_
          refine fg_7_2 (k := 27) hx hb hts in_X7_readOne_7 hown hK hP (by decide) (by decide) (hts _ lk_X7_readOne_19) dX7_readOne_250 ?_
          refine lv_iload_n hx hb dX7_readOne_253 rfl (lv_at hl 0 rfl) ?_
          refine r_bipush hx hb dX7_readOne_254 (by decide) (fun z100 ez100 => ?_)
          refine r_iconst hx hb dX7_readOne_256 (by decide) (fun z101 ez101 => ?_)
          refine r_cVi (k := 24) (As := [.int (σ0 1 9), .int z100, .int z101]) (rest := []) ⟨hx, hb, hml, hown, hts⟩ hK hP hN hS (c_X6_add l D cA ad hI σ14 τ14 hR (σ0 1 9) z100 z101 (by omega)) (cwV 3 hts gX7_readOne_X6_add rfl rfl rfl (by decide +kernel) ⟨by decide, by decide⟩) (rv_Sent hK hP (by decide) (by decide)) rfl hl.1 rfl (Nat.le_of_ble_eq_true rfl) dX7_readOne_257 (Nat.zero_le _) (Nat.zero_le _) (fun r102 u102 H102 locs102 hp102 hP hS => ?_)
          obtain ⟨σ102, τ102⟩ := u102
          obtain ⟨hR, f102, fL102, hq102⟩ : P_X6_add σ14 τ14 (σ0 1 9) z100 z101 r102 σ102 τ102 := hp102
          have hP : va_P D vwCl (gw cA ad σ102 τ102) H102 := hP
          obtain rfl := FrL.nil fL102
          have hF := hF.step f102 (by decide)
          have t103 : (σ102 24 1).toInt = (σ14 24 1).toInt := congrArg Int32.toInt (f102.at 24 1 (by decide))
          exact r_zret hx hb hr hK hP hS hk (by omega) dX7_readOne_260 (show P_X7_readOne_d5 σ0 τ0 a1 r102 σ102 τ14 from ⟨hR, hF, hFL, by omega⟩)
        by_cases c104 : (σ0 1 9).toInt = 40
        · refine lv_tableIn (off := 177) (tgt := 249) hx hb dX7_readOne_72 (by omega) (by omega) (by rw [c104]; rfl) (by decide) ?_
          refine lv_aload_n hx hb dX7_readOne_249 rfl (lv_at hl 1 rfl) ?_
          refine fg_7_2 (k := 27) hx hb hts in_X7_readOne_7 hown hK hP (by decide) (by decide) (hts _ lk_X7_readOne_19) dX7_readOne_250 ?_
          refine lv_iload_n hx hb dX7_readOne_253 rfl (lv_at hl 0 rfl) ?_
          refine r_bipush hx hb dX7_readOne_254 (by decide) (fun z105 ez105 => ?_)
          refine r_iconst hx hb dX7_readOne_256 (by decide) (fun z106 ez106 => ?_)
          refine r_cVi (k := 24) (As := [.int (σ0 1 9), .int z105, .int z106]) (rest := []) ⟨hx, hb, hml, hown, hts⟩ hK hP hN hS (c_X6_add l D cA ad hI σ14 τ14 hR (σ0 1 9) z105 z106 (by omega)) (cwV 3 hts gX7_readOne_X6_add rfl rfl rfl (by decide +kernel) ⟨by decide, by decide⟩) (rv_Sent hK hP (by decide) (by decide)) rfl hl.1 rfl (Nat.le_of_ble_eq_true rfl) dX7_readOne_257 (Nat.zero_le _) (Nat.zero_le _) (fun r107 u107 H107 locs107 hp107 hP hS => ?_)
          obtain ⟨σ107, τ107⟩ := u107
          obtain ⟨hR, f107, fL107, hq107⟩ : P_X6_add σ14 τ14 (σ0 1 9) z105 z106 r107 σ107 τ107 := hp107
          have hP : va_P D vwCl (gw cA ad σ107 τ107) H107 := hP
          obtain rfl := FrL.nil fL107
          have hF := hF.step f107 (by decide)
          have t108 : (σ107 24 1).toInt = (σ14 24 1).toInt := congrArg Int32.toInt (f107.at 24 1 (by decide))
          exact r_zret hx hb hr hK hP hS hk (by omega) dX7_readOne_260 (show P_X7_readOne_d5 σ0 τ0 a1 r107 σ107 τ14 from ⟨hR, hF, hFL, by omega⟩)
        by_cases c109 : (σ0 1 9).toInt = 41
        · refine lv_tableIn (off := 177) (tgt := 249) hx hb dX7_readOne_72 (by omega) (by omega) (by rw [c109]; rfl) (by decide) ?_
          refine lv_aload_n hx hb dX7_readOne_249 rfl (lv_at hl 1 rfl) ?_
          refine fg_7_2 (k := 27) hx hb hts in_X7_readOne_7 hown hK hP (by decide) (by decide) (hts _ lk_X7_readOne_19) dX7_readOne_250 ?_
          refine lv_iload_n hx hb dX7_readOne_253 rfl (lv_at hl 0 rfl) ?_
          refine r_bipush hx hb dX7_readOne_254 (by decide) (fun z110 ez110 => ?_)
          refine r_iconst hx hb dX7_readOne_256 (by decide) (fun z111 ez111 => ?_)
          refine r_cVi (k := 24) (As := [.int (σ0 1 9), .int z110, .int z111]) (rest := []) ⟨hx, hb, hml, hown, hts⟩ hK hP hN hS (c_X6_add l D cA ad hI σ14 τ14 hR (σ0 1 9) z110 z111 (by omega)) (cwV 3 hts gX7_readOne_X6_add rfl rfl rfl (by decide +kernel) ⟨by decide, by decide⟩) (rv_Sent hK hP (by decide) (by decide)) rfl hl.1 rfl (Nat.le_of_ble_eq_true rfl) dX7_readOne_257 (Nat.zero_le _) (Nat.zero_le _) (fun r112 u112 H112 locs112 hp112 hP hS => ?_)
          obtain ⟨σ112, τ112⟩ := u112
          obtain ⟨hR, f112, fL112, hq112⟩ : P_X6_add σ14 τ14 (σ0 1 9) z110 z111 r112 σ112 τ112 := hp112
          have hP : va_P D vwCl (gw cA ad σ112 τ112) H112 := hP
          obtain rfl := FrL.nil fL112
          have hF := hF.step f112 (by decide)
          have t113 : (σ112 24 1).toInt = (σ14 24 1).toInt := congrArg Int32.toInt (f112.at 24 1 (by decide))
          exact r_zret hx hb hr hK hP hS hk (by omega) dX7_readOne_260 (show P_X7_readOne_d5 σ0 τ0 a1 r112 σ112 τ14 from ⟨hR, hF, hFL, by omega⟩)
        by_cases c114 : (σ0 1 9).toInt = 42
        · refine lv_tableIn (off := 177) (tgt := 249) hx hb dX7_readOne_72 (by omega) (by omega) (by rw [c114]; rfl) (by decide) ?_
          refine lv_aload_n hx hb dX7_readOne_249 rfl (lv_at hl 1 rfl) ?_
          refine fg_7_2 (k := 27) hx hb hts in_X7_readOne_7 hown hK hP (by decide) (by decide) (hts _ lk_X7_readOne_19) dX7_readOne_250 ?_
          refine lv_iload_n hx hb dX7_readOne_253 rfl (lv_at hl 0 rfl) ?_
          refine r_bipush hx hb dX7_readOne_254 (by decide) (fun z115 ez115 => ?_)
          refine r_iconst hx hb dX7_readOne_256 (by decide) (fun z116 ez116 => ?_)
          refine r_cVi (k := 24) (As := [.int (σ0 1 9), .int z115, .int z116]) (rest := []) ⟨hx, hb, hml, hown, hts⟩ hK hP hN hS (c_X6_add l D cA ad hI σ14 τ14 hR (σ0 1 9) z115 z116 (by omega)) (cwV 3 hts gX7_readOne_X6_add rfl rfl rfl (by decide +kernel) ⟨by decide, by decide⟩) (rv_Sent hK hP (by decide) (by decide)) rfl hl.1 rfl (Nat.le_of_ble_eq_true rfl) dX7_readOne_257 (Nat.zero_le _) (Nat.zero_le _) (fun r117 u117 H117 locs117 hp117 hP hS => ?_)
          obtain ⟨σ117, τ117⟩ := u117
          obtain ⟨hR, f117, fL117, hq117⟩ : P_X6_add σ14 τ14 (σ0 1 9) z115 z116 r117 σ117 τ117 := hp117
          have hP : va_P D vwCl (gw cA ad σ117 τ117) H117 := hP
          obtain rfl := FrL.nil fL117
          have hF := hF.step f117 (by decide)
          have t118 : (σ117 24 1).toInt = (σ14 24 1).toInt := congrArg Int32.toInt (f117.at 24 1 (by decide))
          exact r_zret hx hb hr hK hP hS hk (by omega) dX7_readOne_260 (show P_X7_readOne_d5 σ0 τ0 a1 r117 σ117 τ14 from ⟨hR, hF, hFL, by omega⟩)
        by_cases c119 : (σ0 1 9).toInt = 43
        · refine lv_tableIn (off := 177) (tgt := 249) hx hb dX7_readOne_72 (by omega) (by omega) (by rw [c119]; rfl) (by decide) ?_
          refine lv_aload_n hx hb dX7_readOne_249 rfl (lv_at hl 1 rfl) ?_
          refine fg_7_2 (k := 27) hx hb hts in_X7_readOne_7 hown hK hP (by decide) (by decide) (hts _ lk_X7_readOne_19) dX7_readOne_250 ?_
          refine lv_iload_n hx hb dX7_readOne_253 rfl (lv_at hl 0 rfl) ?_
          refine r_bipush hx hb dX7_readOne_254 (by decide) (fun z120 ez120 => ?_)
          refine r_iconst hx hb dX7_readOne_256 (by decide) (fun z121 ez121 => ?_)
          refine r_cVi (k := 24) (As := [.int (σ0 1 9), .int z120, .int z121]) (rest := []) ⟨hx, hb, hml, hown, hts⟩ hK hP hN hS (c_X6_add l D cA ad hI σ14 τ14 hR (σ0 1 9) z120 z121 (by omega)) (cwV 3 hts gX7_readOne_X6_add rfl rfl rfl (by decide +kernel) ⟨by decide, by decide⟩) (rv_Sent hK hP (by decide) (by decide)) rfl hl.1 rfl (Nat.le_of_ble_eq_true rfl) dX7_readOne_257 (Nat.zero_le _) (Nat.zero_le _) (fun r122 u122 H122 locs122 hp122 hP hS => ?_)
          obtain ⟨σ122, τ122⟩ := u122
          obtain ⟨hR, f122, fL122, hq122⟩ : P_X6_add σ14 τ14 (σ0 1 9) z120 z121 r122 σ122 τ122 := hp122
          have hP : va_P D vwCl (gw cA ad σ122 τ122) H122 := hP
          obtain rfl := FrL.nil fL122
          have hF := hF.step f122 (by decide)
          have t123 : (σ122 24 1).toInt = (σ14 24 1).toInt := congrArg Int32.toInt (f122.at 24 1 (by decide))
          exact r_zret hx hb hr hK hP hS hk (by omega) dX7_readOne_260 (show P_X7_readOne_d5 σ0 τ0 a1 r122 σ122 τ14 from ⟨hR, hF, hFL, by omega⟩)
        by_cases c124 : (σ0 1 9).toInt = 44
        · refine lv_tableIn (off := 138) (tgt := 210) hx hb dX7_readOne_72 (by omega) (by omega) (by rw [c124]; rfl) (by decide) ?_
          refine lv_aload_n hx hb dX7_readOne_210 rfl (lv_at hl 1 rfl) ?_
          refine lv_iload_n hx hb dX7_readOne_211 rfl (lv_at hl 2 rfl) ?_
          refine r_iconst hx hb dX7_readOne_212 (by decide) (fun z125 ez125 => ?_)
          refine r_iadd hx hb dX7_readOne_213 (by omega) (fun z126 ez126 => ?_)
          refine r_cVi (k := 27) (As := [.int z126]) (rest := []) ⟨hx, hb, hml, hown, hts⟩ hK hP hN hS (c_X7_readCond_d6 l D cA ad hI σ14 τ14 hR z126 (by omega)) (cwV 1 hts gX7_readOne_X7_readCond rfl rfl rfl (by decide +kernel) ⟨by decide, by decide⟩) (rv_SText hK hP (by decide) (by decide)) rfl hl.1 rfl (Nat.le_of_ble_eq_true rfl) dX7_readOne_214 (Nat.zero_le _) (Nat.zero_le _) (fun r127 u127 H127 locs127 hp127 hP hS => ?_)
          obtain ⟨σ127, τ127⟩ := u127
          obtain ⟨hR, f127, fL127, hq127⟩ : P_X7_readCond_d6 σ14 τ14 z126 r127 σ127 τ127 := hp127
          have hP : va_P D vwCl (gw cA ad σ127 τ127) H127 := hP
          have hFL := hFL.step fL127 (by decide)
          have hF := hF.step f127 (by decide)
          refine r_if_eq (tgt := 236) hx hb dX7_readOne_217 (by decide) (fun c128 => ?_) (fun c128 => ?_)
          · refine r_iconst hx hb dX7_readOne_236 (by decide) (fun z129 ez129 => ?_)
            exact r_zret hx hb hr hK hP hS hk (by omega) dX7_readOne_237 (show P_X7_readOne_d5 σ0 τ0 a1 z129 σ127 τ127 from ⟨hR, hF, hFL, by omega⟩)
          · refine lv_aload_n hx hb dX7_readOne_220 rfl (lv_at hl 1 rfl) ?_
            refine fg_7_0 (k := 27) hx hb hts in_X7_readOne_7 hown hK hP (by decide) (by decide) (hts _ lk_X7_readOne_9) dX7_readOne_221 ?_
            refine r_bipush hx hb dX7_readOne_224 (by decide) (fun z130 ez130 => ?_)
            refine r_cVi (k := 1) (As := [.int z130]) (rest := []) ⟨hx, hb, hml, hown, hts⟩ hK hP hN hS (c_X8_take l D cA ad hI σ127 τ127 hR z130 (by omega)) (cwV 1 hts gX7_readOne_X8_take rfl rfl rfl (by decide +kernel) ⟨by decide, by decide⟩) (rv_Tape hK hP (by decide) (by decide)) rfl hl.1 rfl (Nat.le_of_ble_eq_true rfl) dX7_readOne_226 (Nat.zero_le _) (Nat.zero_le _) (fun r131 u131 H131 locs131 hp131 hP hS => ?_)
            obtain ⟨σ131, τ131⟩ := u131
            obtain ⟨hR, f131, fL131, hq131⟩ : P_X8_take σ127 τ127 z130 r131 σ131 τ131 := hp131
            have hP : va_P D vwCl (gw cA ad σ131 τ131) H131 := hP
            have hFL := hFL.step fL131 (by decide)
            have hF := hF.step f131 (by decide)
            refine r_if_eq (tgt := 236) hx hb dX7_readOne_229 (by decide) (fun c132 => ?_) (fun c132 => ?_)
            · refine r_iconst hx hb dX7_readOne_236 (by decide) (fun z133 ez133 => ?_)
              exact r_zret hx hb hr hK hP hS hk (by omega) dX7_readOne_237 (show P_X7_readOne_d5 σ0 τ0 a1 z133 σ131 τ131 from ⟨hR, hF, hFL, by omega⟩)
            · refine r_iconst hx hb dX7_readOne_232 (by decide) (fun z134 ez134 => ?_)
              refine lv_goto (tgt := 237) hx hb dX7_readOne_233 (by decide) ?_
              exact r_zret hx hb hr hK hP hS hk (by omega) dX7_readOne_237 (show P_X7_readOne_d5 σ0 τ0 a1 z134 σ131 τ131 from ⟨hR, hF, hFL, by omega⟩)
        refine lv_tableOut (tgt := 249) hx hb dX7_readOne_72 (by omega) (by decide) ?_
        refine lv_aload_n hx hb dX7_readOne_249 rfl (lv_at hl 1 rfl) ?_
        refine fg_7_2 (k := 27) hx hb hts in_X7_readOne_7 hown hK hP (by decide) (by decide) (hts _ lk_X7_readOne_19) dX7_readOne_250 ?_
        refine lv_iload_n hx hb dX7_readOne_253 rfl (lv_at hl 0 rfl) ?_
        refine r_bipush hx hb dX7_readOne_254 (by decide) (fun z135 ez135 => ?_)
        refine r_iconst hx hb dX7_readOne_256 (by decide) (fun z136 ez136 => ?_)
        refine r_cVi (k := 24) (As := [.int (σ0 1 9), .int z135, .int z136]) (rest := []) ⟨hx, hb, hml, hown, hts⟩ hK hP hN hS (c_X6_add l D cA ad hI σ14 τ14 hR (σ0 1 9) z135 z136 (by omega)) (cwV 3 hts gX7_readOne_X6_add rfl rfl rfl (by decide +kernel) ⟨by decide, by decide⟩) (rv_Sent hK hP (by decide) (by decide)) rfl hl.1 rfl (Nat.le_of_ble_eq_true rfl) dX7_readOne_257 (Nat.zero_le _) (Nat.zero_le _) (fun r137 u137 H137 locs137 hp137 hP hS => ?_)
        obtain ⟨σ137, τ137⟩ := u137
        obtain ⟨hR, f137, fL137, hq137⟩ : P_X6_add σ14 τ14 (σ0 1 9) z135 z136 r137 σ137 τ137 := hp137
        have hP : va_P D vwCl (gw cA ad σ137 τ137) H137 := hP
        obtain rfl := FrL.nil fL137
        have hF := hF.step f137 (by decide)
        have t138 : (σ137 24 1).toInt = (σ14 24 1).toInt := congrArg Int32.toInt (f137.at 24 1 (by decide))
        exact r_zret hx hb hr hK hP hS hk (by omega) dX7_readOne_260 (show P_X7_readOne_d5 σ0 τ0 a1 r137 σ137 τ14 from ⟨hR, hF, hFL, by omega⟩)
      · exfalso; omega
  · refine lv_aload_n hx hb dX7_readOne_15 rfl (lv_at hl 1 rfl) ?_
    refine fg_7_0 (k := 27) hx hb hts in_X7_readOne_7 hown hK hP (by decide) (by decide) (hts _ lk_X7_readOne_9) dX7_readOne_16 ?_
    refine r_iconst hx hb dX7_readOne_19 (by decide) (fun z139 ez139 => ?_)
    refine r_cVi (k := 1) (As := [.int z139]) (rest := []) ⟨hx, hb, hml, hown, hts⟩ hK hP hN hS (c_X8_blame l D cA ad hI σ0 τ0 hR z139 (by omega)) (cwV 1 hts gX7_readOne_X8_blame rfl rfl rfl (by decide +kernel) ⟨by decide, by decide⟩) (rv_Tape hK hP (by decide) (by decide)) rfl hl.1 rfl (Nat.le_of_ble_eq_true rfl) dX7_readOne_20 (Nat.zero_le _) (Nat.zero_le _) (fun r140 u140 H140 locs140 hp140 hP hS => ?_)
    obtain ⟨σ140, τ140⟩ := u140
    obtain ⟨hR, f140, fL140, hq140⟩ : P_X8_blame σ0 τ0 z139 r140 σ140 τ140 := hp140
    have hP : va_P D vwCl (gw cA ad σ140 τ140) H140 := hP
    obtain rfl := FrL.nil fL140
    have hF := hF.step f140 (by decide)
    exact r_zret hx hb hr hK hP hS hk (by omega) dX7_readOne_23 (show P_X7_readOne_d5 σ0 τ0 a1 r140 σ140 τ0 from ⟨hR, hF, hFL, by omega⟩)
abbrev L_X7_readAll_d5 : List Rc := [(1, 1, 7, 10), (372, 372, 0, 39), (376, 376, 0, 39), (380, 380, 0, 39), (24, 24, 1, 2), (1, 1, 12, 14)]
abbrev LL_X7_readAll_d5 : List Rc := [(1, 1, 11, 11)]
def P_X7_readAll_d5 (σ0 : Nat → Nat → Int32) (τ0 : Nat → Nat → Int64) (a1 : Int32) (r : Int32) (σ : Nat → Nat → Int32) (τ : Nat → Nat → Int64) : Prop := Rg σ ∧ Fr L_X7_readAll_d5 σ0 σ ∧ FrL LL_X7_readAll_d5 τ0 τ ∧ (0 ≤ r.toInt ∧ r.toInt ≤ 1)
def J_X7_readAll_d5_12 (p : Program) (l : Launch) (e : Env) (s : State) (m : MethodId) (args : Array Value) (below : List Frame) (meth : Method) (c : Code) (D : va_G) (cA : Nat → ClassId) (ad : Nat → Nat) (σ0 : Nat → Nat → Int32) (τ0 : Nat → Nat → Int64) (a1 : Int32) (n : Nat) : Prop := ∀ (σ : Nat → Nat → Int32) (τ : Nat → Nat → Int64) (H : Heap) (locs : List Loc) (x2 : Int32) (ls : Array Slot), Rg σ → Fr L_X7_readAll_d5 σ0 σ → FrL LL_X7_readAll_d5 τ0 τ → va_P D vwCl (gw cA ad σ τ) H → va_S (AA ad) s.heap H locs → (0 ≤ x2.toInt ∧ x2.toInt ≤ 200) → lv_has ls 3 [(0, .ref (ad 27)), (1, .int a1), (2, .int x2)] → 2 * (200 - x2.toInt) + 1 < (n : Int) → W p l e ({ frames := 14, cells := 0, slots := 0, locals := 307 } : Room) s m args below meth c H locs 0 0 (MQ below (va_Qi (fun (r : Int32) (u : SS) => P_X7_readAll_d5 σ0 τ0 a1 r u.1 u.2) (WB D cA ad) (AA ad)) args s 0 0 (AA ad)) (F0 m 12 ls [])
set_option maxHeartbeats 4000000 in
theorem B_X7_readAll_d5_12 (p : Program) (l : Launch) (e : Env) (s : State) (m : MethodId) (args : Array Value) (below : List Frame) (meth : Method) (c : Code) (D : va_G) (cA : Nat → ClassId) (ad : Nat → Nat) (σ0 : Nat → Nat → Int32) (τ0 : Nat → Nat → Int64) (a1 : Int32) (n : Nat) (C : Cy p s m args meth c cX7_readAll 3 wsX7_readAll RX7 D cA ad (some .boolean)) (ha1 : 5 ≤ a1.toInt ∧ a1.toInt ≤ 5) (K12 : J_X7_readAll_d5_12 p l e s m args below meth c D cA ad σ0 τ0 a1 n) : J_X7_readAll_d5_12 p l e s m args below meth c D cA ad σ0 τ0 a1 (n + 1) := by
  obtain ⟨hx, hb, hml, hown, hts, hK, hk, hr, hI, hN⟩ := C
  intro σ τ H locs x2 ls hR hF hFL hP hS hc0 hl hm
  refine lv_iload_n hx hb dX7_readAll_12 rfl (lv_at hl 2 rfl) ?_
  refine r_sipush hx hb dX7_readAll_13 (by decide) (fun z1 ez1 => ?_)
  refine r_icmp_ge (tgt := 68) hx hb dX7_readAll_16 (by decide) (fun c2 => ?_) (fun c2 => ?_)
  · refine r_iconst hx hb dX7_readAll_68 (by decide) (fun z3 ez3 => ?_)
    exact r_zret hx hb hr hK hP hS hk (by omega) dX7_readAll_69 (show P_X7_readAll_d5 σ0 τ0 a1 z3 σ τ from ⟨hR, hF, hFL, by omega⟩)
  · refine lv_aload_n hx hb dX7_readAll_19 rfl (lv_at hl 0 rfl) ?_
    refine fg_7_0 (k := 27) hx hb hts in_X7_readAll_7 hown hK hP (by decide) (by decide) (hts _ lk_X7_readAll_9) dX7_readAll_20 ?_
    refine fgN_8_9 (k := 1) hx hb hts in_X7_readAll_8 hown hK hP (by decide) (by decide) (hN.use nw_7_32) dX7_readAll_23 ?_
    refine r_bipush hx hb dX7_readAll_26 (by decide) (fun z4 ez4 => ?_)
    refine r_icmp_ne (tgt := 68) hx hb dX7_readAll_28 (by decide) (fun c5 => ?_) (fun c5 => ?_)
    · refine r_iconst hx hb dX7_readAll_68 (by decide) (fun z6 ez6 => ?_)
      exact r_zret hx hb hr hK hP hS hk (by omega) dX7_readAll_69 (show P_X7_readAll_d5 σ0 τ0 a1 z6 σ τ from ⟨hR, hF, hFL, by omega⟩)
    · refine lv_aload_n hx hb dX7_readAll_31 rfl (lv_at hl 0 rfl) ?_
      refine fg_7_0 (k := 27) hx hb hts in_X7_readAll_7 hown hK hP (by decide) (by decide) (hts _ lk_X7_readAll_9) dX7_readAll_32 ?_
      refine r_cVv (k := 1) (As := []) (rest := []) ⟨hx, hb, hml, hown, hts⟩ hK hP hN hS (c_X8_next l D cA ad hI σ τ hR) (cwV 0 hts gX7_readAll_X8_next rfl rfl rfl (by decide +kernel) ⟨by decide, by decide⟩) (rv_Tape hK hP (by decide) (by decide)) rfl hl.1 rfl (Nat.le_of_ble_eq_true rfl) dX7_readAll_35 (Nat.zero_le _) (Nat.zero_le _) (fun u7 H7 locs7 hp7 hP hS => ?_)
      obtain ⟨σ7, τ7⟩ := u7
      obtain ⟨hR, f7, fL7⟩ : P_X8_next σ τ σ7 τ7 := hp7
      have hP : va_P D vwCl (gw cA ad σ7 τ7) H7 := hP
      have hFL := hFL.step fL7 (by decide)
      have hF := hF.step f7 (by decide)
      refine lv_aload_n hx hb dX7_readAll_38 rfl (lv_at hl 0 rfl) ?_
      refine lv_iload_n hx hb dX7_readAll_39 rfl (lv_at hl 1 rfl) ?_
      refine r_cVi (k := 27) (As := [.int a1]) (rest := []) ⟨hx, hb, hml, hown, hts⟩ hK hP hN hS (c_X7_readOne_d5 l D cA ad hI σ7 τ7 hR a1 (by omega)) (cwV 1 hts gX7_readAll_X7_readOne rfl rfl rfl (by decide +kernel) ⟨by decide, by decide⟩) (rv_SText hK hP (by decide) (by decide)) rfl hl.1 rfl (Nat.le_of_ble_eq_true rfl) dX7_readAll_40 (Nat.zero_le _) (Nat.zero_le _) (fun r8 u8 H8 locs8 hp8 hP hS => ?_)
      obtain ⟨σ8, τ8⟩ := u8
      obtain ⟨hR, f8, fL8, hq8⟩ : P_X7_readOne_d5 σ7 τ7 a1 r8 σ8 τ8 := hp8
      have hP : va_P D vwCl (gw cA ad σ8 τ8) H8 := hP
      have hFL := hFL.step fL8 (by decide)
      have hF := hF.step f8 (by decide)
      refine r_if_eq (tgt := 60) hx hb dX7_readAll_43 (by decide) (fun c9 => ?_) (fun c9 => ?_)
      · refine r_iconst hx hb dX7_readAll_60 (by decide) (fun z10 ez10 => ?_)
        exact r_zret hx hb hr hK hP hS hk (by omega) dX7_readAll_61 (show P_X7_readAll_d5 σ0 τ0 a1 z10 σ8 τ8 from ⟨hR, hF, hFL, by omega⟩)
      · refine lv_aload_n hx hb dX7_readAll_46 rfl (lv_at hl 0 rfl) ?_
        refine fg_7_2 (k := 27) hx hb hts in_X7_readAll_7 hown hK hP (by decide) (by decide) (hts _ lk_X7_readAll_19) dX7_readAll_47 ?_
        refine r_bipush hx hb dX7_readAll_50 (by decide) (fun z11 ez11 => ?_)
        refine r_iconst hx hb dX7_readAll_52 (by decide) (fun z12 ez12 => ?_)
        refine r_iconst hx hb dX7_readAll_53 (by decide) (fun z13 ez13 => ?_)
        refine r_cVi (k := 24) (As := [.int z11, .int z12, .int z13]) (rest := []) ⟨hx, hb, hml, hown, hts⟩ hK hP hN hS (c_X6_add l D cA ad hI σ8 τ8 hR z11 z12 z13 (by omega)) (cwV 3 hts gX7_readAll_X6_add rfl rfl rfl (by decide +kernel) ⟨by decide, by decide⟩) (rv_Sent hK hP (by decide) (by decide)) rfl hl.1 rfl (Nat.le_of_ble_eq_true rfl) dX7_readAll_54 (Nat.zero_le _) (Nat.zero_le _) (fun r14 u14 H14 locs14 hp14 hP hS => ?_)
        obtain ⟨σ14, τ14⟩ := u14
        obtain ⟨hR, f14, fL14, hq14⟩ : P_X6_add σ8 τ8 z11 z12 z13 r14 σ14 τ14 := hp14
        have hP : va_P D vwCl (gw cA ad σ14 τ14) H14 := hP
        obtain rfl := FrL.nil fL14
        have hF := hF.step f14 (by decide)
        refine r_if_ne (tgt := 62) hx hb dX7_readAll_57 (by decide) (fun c15 => ?_) (fun c15 => ?_)
        · refine r_iinc (k := 2) (lv1 := fun z16 => [(2, .int z16), (0, .ref (ad 27)), (1, .int a1)]) hx hb dX7_readAll_62 hl rfl (by decide) (fun _ => rfl) (by decide) (by omega) (fun z16 ls ez16 hl => ?_)
          refine lv_goto (tgt := 12) hx hb dX7_readAll_65 (by decide) ?_
          exact K12 σ14 τ8 H14 locs14 z16 ls hR hF hFL hP hS (by omega) (lv_sub hl [1, 2, 0] rfl) (by omega)
        · refine r_iconst hx hb dX7_readAll_60 (by decide) (fun z17 ez17 => ?_)
          exact r_zret hx hb hr hK hP hS hk (by omega) dX7_readAll_61 (show P_X7_readAll_d5 σ0 τ0 a1 z17 σ14 τ8 from ⟨hR, hF, hFL, by omega⟩)
theorem A_X7_readAll_d5 (p : Program) (l : Launch) (e : Env) (s : State) (m : MethodId) (args : Array Value) (below : List Frame) (meth : Method) (c : Code) (D : va_G) (cA : Nat → ClassId) (ad : Nat → Nat) (σ0 : Nat → Nat → Int32) (τ0 : Nat → Nat → Int64) (a1 : Int32) (C : Cy p s m args meth c cX7_readAll 3 wsX7_readAll RX7 D cA ad (some .boolean)) (ha1 : 5 ≤ a1.toInt ∧ a1.toInt ≤ 5) : ∀ n : Nat, J_X7_readAll_d5_12 p l e s m args below meth c D cA ad σ0 τ0 a1 n := by
  intro n
  induction n with
  | zero =>
    exact (by intro σ τ H locs x2 ls hR hF hFL hP hS hc0 hl hm; exfalso; omega)
  | succ n ih =>
    exact B_X7_readAll_d5_12 p l e s m args below meth c D cA ad σ0 τ0 a1 n C ha1 ih
set_option maxHeartbeats 4000000 in
theorem c_X7_readAll_d5 (l : Launch) (D : va_G) (cA : Nat → ClassId) (ad : Nat → Nat) (hI : Inj ad) (σ0 : Nat → Nat → Int32) (τ0 : Nat → Nat → Int64) (hR : Rg σ0) (a1 : Int32) (ha1 : 5 ≤ a1.toInt ∧ a1.toInt ≤ 5) : Met l yX7_readAll wsX7_readAll ({ frames := 14, cells := 0, slots := 0, locals := 307 } : Room) (WQc D cA ad [.ref (ad 27), .int a1] σ0 τ0) (va_Qi (fun (r : Int32) (u : SS) => P_X7_readAll_d5 σ0 τ0 a1 r u.1 u.2) (WB D cA ad) (AA ad)) 0 0 (AA ad) := by
  refine Met.ofW (cc := cX7_readAll) (maxL := 3) (ret := (some .boolean)) (by decide) rfl ?_
  intro p e s m args below meth c s₁ B hml hv
  obtain ⟨rfl, hP, hK, hN⟩ := hv
  have C : Cy p s m _ meth c cX7_readAll 3 wsX7_readAll RX7 D cA ad (some .boolean) := ⟨B.exec, B.bytes, hml, findClass_of_methodNamed B.named, atoms_spec (ws := wsX7_readAll) B.pre, hK, B.notSynchronized, B.returns, hI, hN⟩
  have hl := lv_entry ([.ref (ad 27), .int a1]) (n := 3) (Nat.le_of_ble_eq_true rfl)
  rw [lg_entry_eq]
  generalize (lg_sl ([.ref (ad 27), .int a1]) ++ List.replicate (3 - (lg_sl ([.ref (ad 27), .int a1])).length) Slot.unset).toArray = ls at hl ⊢
  have hl : lv_has ls 3 [(0, .ref (ad 27)), (1, .int a1)] := hl
  have hS : va_S (AA ad) s.heap s.heap [] := va_S.rf
  have hF : Fr L_X7_readAll_d5 σ0 σ0 := Fr.rf
  have hFL : FrL LL_X7_readAll_d5 τ0 τ0 := FrL.rf
  have hA := A_X7_readAll_d5 p l e s m _ below meth c D cA ad σ0 τ0 a1 C ha1 810
  have K12 := hA
  clear hA
  obtain ⟨hx, hb, _, hown, hts, _, hk, hr, _, _⟩ := C
  refine lv_aload_n hx hb dX7_readAll_0 rfl (lv_at hl 0 rfl) ?_
  refine lv_iload_n hx hb dX7_readAll_1 rfl (lv_at hl 1 rfl) ?_
  refine r_cVi (k := 27) (As := [.int a1]) (rest := []) ⟨hx, hb, hml, hown, hts⟩ hK hP hN hS (c_X7_readOne_d5 l D cA ad hI σ0 τ0 hR a1 (by omega)) (cwV 1 hts gX7_readAll_X7_readOne rfl rfl rfl (by decide +kernel) ⟨by decide, by decide⟩) (rv_SText hK hP (by decide) (by decide)) rfl hl.1 rfl (Nat.le_of_ble_eq_true rfl) dX7_readAll_2 (Nat.zero_le _) (Nat.zero_le _) (fun r1 u1 H1 locs1 hp1 hP hS => ?_)
  obtain ⟨σ1, τ1⟩ := u1
  obtain ⟨hR, f1, fL1, hq1⟩ : P_X7_readOne_d5 σ0 τ0 a1 r1 σ1 τ1 := hp1
  have hP : va_P D vwCl (gw cA ad σ1 τ1) H1 := hP
  have hFL := hFL.step fL1 (by decide)
  have hF := hF.step f1 (by decide)
  refine r_if_ne (tgt := 10) hx hb dX7_readAll_5 (by decide) (fun c2 => ?_) (fun c2 => ?_)
  · refine r_iconst hx hb dX7_readAll_10 (by decide) (fun z3 ez3 => ?_)
    refine lv_istore_n (lv' := [(2, .int z3), (0, .ref (ad 27)), (1, .int a1)]) hx hb dX7_readAll_11 rfl hl (by decide) rfl (fun ls hl => ?_)
    exact K12 σ1 τ1 H1 locs1 z3 ls hR hF hFL hP hS (by omega) (lv_sub hl [1, 2, 0] rfl) (by omega)
  · refine r_iconst hx hb dX7_readAll_8 (by decide) (fun z4 ez4 => ?_)
    exact r_zret hx hb hr hK hP hS hk (by omega) dX7_readAll_9 (show P_X7_readAll_d5 σ0 τ0 a1 z4 σ1 τ1 from ⟨hR, hF, hFL, by omega⟩)
abbrev L_X7_readCond_d5 : List Rc := [(1, 1, 7, 10), (372, 372, 0, 39), (376, 376, 0, 39), (380, 380, 0, 39), (24, 24, 1, 2), (1, 1, 12, 14)]
abbrev LL_X7_readCond_d5 : List Rc := [(1, 1, 11, 11)]
def P_X7_readCond_d5 (σ0 : Nat → Nat → Int32) (τ0 : Nat → Nat → Int64) (a1 : Int32) (r : Int32) (σ : Nat → Nat → Int32) (τ : Nat → Nat → Int64) : Prop := Rg σ ∧ Fr L_X7_readCond_d5 σ0 σ ∧ FrL LL_X7_readCond_d5 τ0 τ ∧ (0 ≤ r.toInt ∧ r.toInt ≤ 1)
def J_X7_readCond_d5_12 (p : Program) (l : Launch) (e : Env) (s : State) (m : MethodId) (args : Array Value) (below : List Frame) (meth : Method) (c : Code) (D : va_G) (cA : Nat → ClassId) (ad : Nat → Nat) (σ0 : Nat → Nat → Int32) (τ0 : Nat → Nat → Int64) (a1 : Int32) (n : Nat) : Prop := ∀ (σ : Nat → Nat → Int32) (τ : Nat → Nat → Int64) (H : Heap) (locs : List Loc) (x2 : Int32) (ls : Array Slot), Rg σ → Fr L_X7_readCond_d5 σ0 σ → FrL LL_X7_readCond_d5 τ0 τ → va_P D vwCl (gw cA ad σ τ) H → va_S (AA ad) s.heap H locs → (0 ≤ x2.toInt ∧ x2.toInt ≤ 200) → lv_has ls 3 [(0, .ref (ad 27)), (1, .int a1), (2, .int x2)] → 2 * (200 - x2.toInt) + 1 < (n : Int) → W p l e ({ frames := 15, cells := 0, slots := 0, locals := 329 } : Room) s m args below meth c H locs 0 0 (MQ below (va_Qi (fun (r : Int32) (u : SS) => P_X7_readCond_d5 σ0 τ0 a1 r u.1 u.2) (WB D cA ad) (AA ad)) args s 0 0 (AA ad)) (F0 m 12 ls [])
set_option maxHeartbeats 4000000 in
theorem B_X7_readCond_d5_12 (p : Program) (l : Launch) (e : Env) (s : State) (m : MethodId) (args : Array Value) (below : List Frame) (meth : Method) (c : Code) (D : va_G) (cA : Nat → ClassId) (ad : Nat → Nat) (σ0 : Nat → Nat → Int32) (τ0 : Nat → Nat → Int64) (a1 : Int32) (n : Nat) (C : Cy p s m args meth c cX7_readCond 3 wsX7_readCond RX7 D cA ad (some .boolean)) (ha1 : 5 ≤ a1.toInt ∧ a1.toInt ≤ 5) (K12 : J_X7_readCond_d5_12 p l e s m args below meth c D cA ad σ0 τ0 a1 n) : J_X7_readCond_d5_12 p l e s m args below meth c D cA ad σ0 τ0 a1 (n + 1) := by
  obtain ⟨hx, hb, hml, hown, hts, hK, hk, hr, hI, hN⟩ := C
  intro σ τ H locs x2 ls hR hF hFL hP hS hc0 hl hm
  refine lv_iload_n hx hb dX7_readCond_12 rfl (lv_at hl 2 rfl) ?_
  refine r_sipush hx hb dX7_readCond_13 (by decide) (fun z1 ez1 => ?_)
  refine r_icmp_ge (tgt := 68) hx hb dX7_readCond_16 (by decide) (fun c2 => ?_) (fun c2 => ?_)
  · refine r_iconst hx hb dX7_readCond_68 (by decide) (fun z3 ez3 => ?_)
    exact r_zret hx hb hr hK hP hS hk (by omega) dX7_readCond_69 (show P_X7_readCond_d5 σ0 τ0 a1 z3 σ τ from ⟨hR, hF, hFL, by omega⟩)
  · refine lv_aload_n hx hb dX7_readCond_19 rfl (lv_at hl 0 rfl) ?_
    refine fg_7_0 (k := 27) hx hb hts in_X7_readCond_7 hown hK hP (by decide) (by decide) (hts _ lk_X7_readCond_9) dX7_readCond_20 ?_
    refine fgN_8_9 (k := 1) hx hb hts in_X7_readCond_8 hown hK hP (by decide) (by decide) (hN.use nw_7_32) dX7_readCond_23 ?_
    refine r_bipush hx hb dX7_readCond_26 (by decide) (fun z4 ez4 => ?_)
    refine r_icmp_ne (tgt := 68) hx hb dX7_readCond_28 (by decide) (fun c5 => ?_) (fun c5 => ?_)
    · refine r_iconst hx hb dX7_readCond_68 (by decide) (fun z6 ez6 => ?_)
      exact r_zret hx hb hr hK hP hS hk (by omega) dX7_readCond_69 (show P_X7_readCond_d5 σ0 τ0 a1 z6 σ τ from ⟨hR, hF, hFL, by omega⟩)
    · refine lv_aload_n hx hb dX7_readCond_31 rfl (lv_at hl 0 rfl) ?_
      refine fg_7_0 (k := 27) hx hb hts in_X7_readCond_7 hown hK hP (by decide) (by decide) (hts _ lk_X7_readCond_9) dX7_readCond_32 ?_
      refine r_cVv (k := 1) (As := []) (rest := []) ⟨hx, hb, hml, hown, hts⟩ hK hP hN hS (c_X8_next l D cA ad hI σ τ hR) (cwV 0 hts gX7_readCond_X8_next rfl rfl rfl (by decide +kernel) ⟨by decide, by decide⟩) (rv_Tape hK hP (by decide) (by decide)) rfl hl.1 rfl (Nat.le_of_ble_eq_true rfl) dX7_readCond_35 (Nat.zero_le _) (Nat.zero_le _) (fun u7 H7 locs7 hp7 hP hS => ?_)
      obtain ⟨σ7, τ7⟩ := u7
      obtain ⟨hR, f7, fL7⟩ : P_X8_next σ τ σ7 τ7 := hp7
      have hP : va_P D vwCl (gw cA ad σ7 τ7) H7 := hP
      have hFL := hFL.step fL7 (by decide)
      have hF := hF.step f7 (by decide)
      refine lv_aload_n hx hb dX7_readCond_38 rfl (lv_at hl 0 rfl) ?_
      refine lv_iload_n hx hb dX7_readCond_39 rfl (lv_at hl 1 rfl) ?_
      refine r_cVi (k := 27) (As := [.int a1]) (rest := []) ⟨hx, hb, hml, hown, hts⟩ hK hP hN hS (c_X7_readAll_d5 l D cA ad hI σ7 τ7 hR a1 (by omega)) (cwV 1 hts gX7_readCond_X7_readAll rfl rfl rfl (by decide +kernel) ⟨by decide, by decide⟩) (rv_SText hK hP (by decide) (by decide)) rfl hl.1 rfl (Nat.le_of_ble_eq_true rfl) dX7_readCond_40 (Nat.zero_le _) (Nat.zero_le _) (fun r8 u8 H8 locs8 hp8 hP hS => ?_)
      obtain ⟨σ8, τ8⟩ := u8
      obtain ⟨hR, f8, fL8, hq8⟩ : P_X7_readAll_d5 σ7 τ7 a1 r8 σ8 τ8 := hp8
      have hP : va_P D vwCl (gw cA ad σ8 τ8) H8 := hP
      have hFL := hFL.step fL8 (by decide)
      have hF := hF.step f8 (by decide)
      refine r_if_eq (tgt := 60) hx hb dX7_readCond_43 (by decide) (fun c9 => ?_) (fun c9 => ?_)
      · refine r_iconst hx hb dX7_readCond_60 (by decide) (fun z10 ez10 => ?_)
        exact r_zret hx hb hr hK hP hS hk (by omega) dX7_readCond_61 (show P_X7_readCond_d5 σ0 τ0 a1 z10 σ8 τ8 from ⟨hR, hF, hFL, by omega⟩)
      · refine lv_aload_n hx hb dX7_readCond_46 rfl (lv_at hl 0 rfl) ?_
        refine fg_7_2 (k := 27) hx hb hts in_X7_readCond_7 hown hK hP (by decide) (by decide) (hts _ lk_X7_readCond_19) dX7_readCond_47 ?_
        refine r_bipush hx hb dX7_readCond_50 (by decide) (fun z11 ez11 => ?_)
        refine r_iconst hx hb dX7_readCond_52 (by decide) (fun z12 ez12 => ?_)
        refine r_iconst hx hb dX7_readCond_53 (by decide) (fun z13 ez13 => ?_)
        refine r_cVi (k := 24) (As := [.int z11, .int z12, .int z13]) (rest := []) ⟨hx, hb, hml, hown, hts⟩ hK hP hN hS (c_X6_add l D cA ad hI σ8 τ8 hR z11 z12 z13 (by omega)) (cwV 3 hts gX7_readCond_X6_add rfl rfl rfl (by decide +kernel) ⟨by decide, by decide⟩) (rv_Sent hK hP (by decide) (by decide)) rfl hl.1 rfl (Nat.le_of_ble_eq_true rfl) dX7_readCond_54 (Nat.zero_le _) (Nat.zero_le _) (fun r14 u14 H14 locs14 hp14 hP hS => ?_)
        obtain ⟨σ14, τ14⟩ := u14
        obtain ⟨hR, f14, fL14, hq14⟩ : P_X6_add σ8 τ8 z11 z12 z13 r14 σ14 τ14 := hp14
        have hP : va_P D vwCl (gw cA ad σ14 τ14) H14 := hP
        obtain rfl := FrL.nil fL14
        have hF := hF.step f14 (by decide)
        refine r_if_ne (tgt := 62) hx hb dX7_readCond_57 (by decide) (fun c15 => ?_) (fun c15 => ?_)
        · refine r_iinc (k := 2) (lv1 := fun z16 => [(2, .int z16), (0, .ref (ad 27)), (1, .int a1)]) hx hb dX7_readCond_62 hl rfl (by decide) (fun _ => rfl) (by decide) (by omega) (fun z16 ls ez16 hl => ?_)
          refine lv_goto (tgt := 12) hx hb dX7_readCond_65 (by decide) ?_
          exact K12 σ14 τ8 H14 locs14 z16 ls hR hF hFL hP hS (by omega) (lv_sub hl [1, 2, 0] rfl) (by omega)
        · refine r_iconst hx hb dX7_readCond_60 (by decide) (fun z17 ez17 => ?_)
          exact r_zret hx hb hr hK hP hS hk (by omega) dX7_readCond_61 (show P_X7_readCond_d5 σ0 τ0 a1 z17 σ14 τ8 from ⟨hR, hF, hFL, by omega⟩)
theorem A_X7_readCond_d5 (p : Program) (l : Launch) (e : Env) (s : State) (m : MethodId) (args : Array Value) (below : List Frame) (meth : Method) (c : Code) (D : va_G) (cA : Nat → ClassId) (ad : Nat → Nat) (σ0 : Nat → Nat → Int32) (τ0 : Nat → Nat → Int64) (a1 : Int32) (C : Cy p s m args meth c cX7_readCond 3 wsX7_readCond RX7 D cA ad (some .boolean)) (ha1 : 5 ≤ a1.toInt ∧ a1.toInt ≤ 5) : ∀ n : Nat, J_X7_readCond_d5_12 p l e s m args below meth c D cA ad σ0 τ0 a1 n := by
  intro n
  induction n with
  | zero =>
    exact (by intro σ τ H locs x2 ls hR hF hFL hP hS hc0 hl hm; exfalso; omega)
  | succ n ih =>
    exact B_X7_readCond_d5_12 p l e s m args below meth c D cA ad σ0 τ0 a1 n C ha1 ih
set_option maxHeartbeats 4000000 in
theorem c_X7_readCond_d5 (l : Launch) (D : va_G) (cA : Nat → ClassId) (ad : Nat → Nat) (hI : Inj ad) (σ0 : Nat → Nat → Int32) (τ0 : Nat → Nat → Int64) (hR : Rg σ0) (a1 : Int32) (ha1 : 5 ≤ a1.toInt ∧ a1.toInt ≤ 5) : Met l yX7_readCond wsX7_readCond ({ frames := 15, cells := 0, slots := 0, locals := 329 } : Room) (WQc D cA ad [.ref (ad 27), .int a1] σ0 τ0) (va_Qi (fun (r : Int32) (u : SS) => P_X7_readCond_d5 σ0 τ0 a1 r u.1 u.2) (WB D cA ad) (AA ad)) 0 0 (AA ad) := by
  refine Met.ofW (cc := cX7_readCond) (maxL := 3) (ret := (some .boolean)) (by decide) rfl ?_
  intro p e s m args below meth c s₁ B hml hv
  obtain ⟨rfl, hP, hK, hN⟩ := hv
  have C : Cy p s m _ meth c cX7_readCond 3 wsX7_readCond RX7 D cA ad (some .boolean) := ⟨B.exec, B.bytes, hml, findClass_of_methodNamed B.named, atoms_spec (ws := wsX7_readCond) B.pre, hK, B.notSynchronized, B.returns, hI, hN⟩
  have hl := lv_entry ([.ref (ad 27), .int a1]) (n := 3) (Nat.le_of_ble_eq_true rfl)
  rw [lg_entry_eq]
  generalize (lg_sl ([.ref (ad 27), .int a1]) ++ List.replicate (3 - (lg_sl ([.ref (ad 27), .int a1])).length) Slot.unset).toArray = ls at hl ⊢
  have hl : lv_has ls 3 [(0, .ref (ad 27)), (1, .int a1)] := hl
  have hS : va_S (AA ad) s.heap s.heap [] := va_S.rf
  have hF : Fr L_X7_readCond_d5 σ0 σ0 := Fr.rf
  have hFL : FrL LL_X7_readCond_d5 τ0 τ0 := FrL.rf
  have hA := A_X7_readCond_d5 p l e s m _ below meth c D cA ad σ0 τ0 a1 C ha1 810
  have K12 := hA
  clear hA
  obtain ⟨hx, hb, _, hown, hts, _, hk, hr, _, _⟩ := C
  refine lv_aload_n hx hb dX7_readCond_0 rfl (lv_at hl 0 rfl) ?_
  refine lv_iload_n hx hb dX7_readCond_1 rfl (lv_at hl 1 rfl) ?_
  refine r_cVi (k := 27) (As := [.int a1]) (rest := []) ⟨hx, hb, hml, hown, hts⟩ hK hP hN hS (c_X7_readAll_d5 l D cA ad hI σ0 τ0 hR a1 (by omega)) (cwV 1 hts gX7_readCond_X7_readAll rfl rfl rfl (by decide +kernel) ⟨by decide, by decide⟩) (rv_SText hK hP (by decide) (by decide)) rfl hl.1 rfl (Nat.le_of_ble_eq_true rfl) dX7_readCond_2 (Nat.zero_le _) (Nat.zero_le _) (fun r1 u1 H1 locs1 hp1 hP hS => ?_)
  obtain ⟨σ1, τ1⟩ := u1
  obtain ⟨hR, f1, fL1, hq1⟩ : P_X7_readAll_d5 σ0 τ0 a1 r1 σ1 τ1 := hp1
  have hP : va_P D vwCl (gw cA ad σ1 τ1) H1 := hP
  have hFL := hFL.step fL1 (by decide)
  have hF := hF.step f1 (by decide)
  refine r_if_ne (tgt := 10) hx hb dX7_readCond_5 (by decide) (fun c2 => ?_) (fun c2 => ?_)
  · refine r_iconst hx hb dX7_readCond_10 (by decide) (fun z3 ez3 => ?_)
    refine lv_istore_n (lv' := [(2, .int z3), (0, .ref (ad 27)), (1, .int a1)]) hx hb dX7_readCond_11 rfl hl (by decide) rfl (fun ls hl => ?_)
    exact K12 σ1 τ1 H1 locs1 z3 ls hR hF hFL hP hS (by omega) (lv_sub hl [1, 2, 0] rfl) (by omega)
  · refine r_iconst hx hb dX7_readCond_8 (by decide) (fun z4 ez4 => ?_)
    exact r_zret hx hb hr hK hP hS hk (by omega) dX7_readCond_9 (show P_X7_readCond_d5 σ0 τ0 a1 z4 σ1 τ1 from ⟨hR, hF, hFL, by omega⟩)
abbrev L_X7_readOne_d4 : List Rc := [(1, 1, 7, 10), (372, 372, 0, 39), (376, 376, 0, 39), (380, 380, 0, 39), (24, 24, 1, 2), (1, 1, 12, 14)]
abbrev LL_X7_readOne_d4 : List Rc := [(1, 1, 11, 11)]
def P_X7_readOne_d4 (σ0 : Nat → Nat → Int32) (τ0 : Nat → Nat → Int64) (a1 : Int32) (r : Int32) (σ : Nat → Nat → Int32) (τ : Nat → Nat → Int64) : Prop := Rg σ ∧ Fr L_X7_readOne_d4 σ0 σ ∧ FrL LL_X7_readOne_d4 τ0 τ ∧ (0 ≤ r.toInt ∧ r.toInt ≤ 1)
set_option maxHeartbeats 4000000 in
theorem c_X7_readOne_d4 (l : Launch) (D : va_G) (cA : Nat → ClassId) (ad : Nat → Nat) (hI : Inj ad) (σ0 : Nat → Nat → Int32) (τ0 : Nat → Nat → Int64) (hR : Rg σ0) (a1 : Int32) (ha1 : 4 ≤ a1.toInt ∧ a1.toInt ≤ 4) : Met l yX7_readOne wsX7_readOne ({ frames := 16, cells := 0, slots := 0, locals := 351 } : Room) (WQc D cA ad [.ref (ad 27), .int a1] σ0 τ0) (va_Qi (fun (r : Int32) (u : SS) => P_X7_readOne_d4 σ0 τ0 a1 r u.1 u.2) (WB D cA ad) (AA ad)) 0 0 (AA ad) := by
  refine Met.ofW (cc := cX7_readOne) (maxL := 3) (ret := (some .boolean)) (by decide) rfl ?_
  intro p e s m args below meth c s₁ B hml hv
  obtain ⟨rfl, hP, hK, hN⟩ := hv
  have C : Cy p s m _ meth c cX7_readOne 3 wsX7_readOne RX7 D cA ad (some .boolean) := ⟨B.exec, B.bytes, hml, findClass_of_methodNamed B.named, atoms_spec (ws := wsX7_readOne) B.pre, hK, B.notSynchronized, B.returns, hI, hN⟩
  have hl := lv_entry ([.ref (ad 27), .int a1]) (n := 3) (Nat.le_of_ble_eq_true rfl)
  rw [lg_entry_eq]
  generalize (lg_sl ([.ref (ad 27), .int a1]) ++ List.replicate (3 - (lg_sl ([.ref (ad 27), .int a1])).length) Slot.unset).toArray = ls at hl ⊢
  have hl : lv_has ls 3 [(0, .ref (ad 27)), (1, .int a1)] := hl
  have hS : va_S (AA ad) s.heap s.heap [] := va_S.rf
  have hF : Fr L_X7_readOne_d4 σ0 σ0 := Fr.rf
  have hFL : FrL LL_X7_readOne_d4 τ0 τ0 := FrL.rf
  obtain ⟨hx, hb, _, hown, hts, _, hk, hr, _, _⟩ := C
  refine lv_aload_n hx hb dX7_readOne_0 rfl (lv_at hl 0 rfl) ?_
  refine fg_7_0 (k := 27) hx hb hts in_X7_readOne_7 hown hK hP (by decide) (by decide) (hts _ lk_X7_readOne_9) dX7_readOne_1 ?_
  refine fgN_8_9 (k := 1) hx hb hts in_X7_readOne_8 hown hK hP (by decide) (by decide) (hN.use nw_7_32) dX7_readOne_4 ?_
  refine lv_istore_n (lv' := [(2, .int (σ0 1 9)), (0, .ref (ad 27)), (1, .int a1)]) hx hb dX7_readOne_7 rfl hl (by decide) rfl (fun ls hl => ?_)
  refine lv_iload_n hx hb dX7_readOne_8 rfl (lv_at hl 0 rfl) ?_
  refine r_cSi (As := [.int (σ0 1 9)]) (rest := []) ⟨hx, hb, hml, hown, hts⟩ hK hP hN hS (c_X7_beginsOne l D cA ad hI σ0 τ0 hR (σ0 1 9)) (va_cwS 1 hts gX7_readOne_X7_beginsOne rfl rfl rfl (by decide +kernel) ⟨by decide, by decide⟩) rfl hl.1 rfl (Nat.le_of_ble_eq_true rfl) dX7_readOne_9 (Nat.zero_le _) (Nat.zero_le _) (fun r1 u1 H1 locs1 hp1 hP hS => ?_)
  obtain ⟨σ1, τ1⟩ := u1
  obtain ⟨hR, f1, fL1, hq1⟩ : P_X7_beginsOne σ0 τ0 (σ0 1 9) r1 σ1 τ1 := hp1
  have hP : va_P D vwCl (gw cA ad σ1 τ1) H1 := hP
  obtain rfl := FrL.nil fL1
  obtain rfl := Fr.nil f1
  refine r_if_ne (tgt := 24) hx hb dX7_readOne_12 (by decide) (fun c2 => ?_) (fun c2 => ?_)
  · refine lv_aload_n hx hb dX7_readOne_24 rfl (lv_at hl 1 rfl) ?_
    refine fg_7_2 (k := 27) hx hb hts in_X7_readOne_7 hown hK hP (by decide) (by decide) (hts _ lk_X7_readOne_19) dX7_readOne_25 ?_
    refine fgN_6_1 (k := 24) hx hb hts in_X7_readOne_6 hown hK hP (by decide) (by decide) (hN.use nw_7_61) dX7_readOne_28 ?_
    have hr3 := rg_6_1 hR (k := 24) (by decide) (by decide)
    refine r_bipush hx hb dX7_readOne_31 (by decide) (fun z4 ez4 => ?_)
    refine r_icmp_ge (tgt := 42) hx hb dX7_readOne_33 (by decide) (fun c5 => ?_) (fun c5 => ?_)
    · refine lv_aload_n hx hb dX7_readOne_42 rfl (lv_at hl 1 rfl) ?_
      refine fg_7_0 (k := 27) hx hb hts in_X7_readOne_7 hown hK hP (by decide) (by decide) (hts _ lk_X7_readOne_9) dX7_readOne_43 ?_
      refine r_iconst hx hb dX7_readOne_46 (by decide) (fun z6 ez6 => ?_)
      refine r_cVi (k := 1) (As := [.int z6]) (rest := []) ⟨hx, hb, hml, hown, hts⟩ hK hP hN hS (c_X8_blame l D cA ad hI σ0 τ0 hR z6 (by omega)) (cwV 1 hts gX7_readOne_X8_blame rfl rfl rfl (by decide +kernel) ⟨by decide, by decide⟩) (rv_Tape hK hP (by decide) (by decide)) rfl hl.1 rfl (Nat.le_of_ble_eq_true rfl) dX7_readOne_47 (Nat.zero_le _) (Nat.zero_le _) (fun r7 u7 H7 locs7 hp7 hP hS => ?_)
      obtain ⟨σ7, τ7⟩ := u7
      obtain ⟨hR, f7, fL7, hq7⟩ : P_X8_blame σ0 τ0 z6 r7 σ7 τ7 := hp7
      have hP : va_P D vwCl (gw cA ad σ7 τ7) H7 := hP
      obtain rfl := FrL.nil fL7
      have hF := hF.step f7 (by decide)
      have t8 : (σ7 24 1).toInt = (σ0 24 1).toInt := congrArg Int32.toInt (f7.at 24 1 (by decide))
      exact r_zret hx hb hr hK hP hS hk (by omega) dX7_readOne_50 (show P_X7_readOne_d4 σ0 τ0 a1 r7 σ7 τ0 from ⟨hR, hF, hFL, by omega⟩)
    · refine lv_iload_n hx hb dX7_readOne_36 rfl (lv_at hl 2 rfl) ?_
      refine r_bipush hx hb dX7_readOne_37 (by decide) (fun z9 ez9 => ?_)
      refine r_icmp_le (tgt := 51) hx hb dX7_readOne_39 (by decide) (fun c10 => ?_) (fun c10 => ?_)
      · refine lv_aload_n hx hb dX7_readOne_51 rfl (lv_at hl 1 rfl) ?_
        refine fg_7_2 (k := 27) hx hb hts in_X7_readOne_7 hown hK hP (by decide) (by decide) (hts _ lk_X7_readOne_19) dX7_readOne_52 ?_
        refine lv_dup hx hb dX7_readOne_55 rfl ?_
        refine fgN_6_1 (k := 24) hx hb hts in_X7_readOne_6 hown hK hP (by decide) (by decide) (hN.use nw_7_61) dX7_readOne_56 ?_
        refine r_iconst hx hb dX7_readOne_59 (by decide) (fun z11 ez11 => ?_)
        refine r_iadd hx hb dX7_readOne_60 (by omega) (fun z12 ez12 => ?_)
        refine fpN_6_1 (k := 24) hx hb hts in_X7_readOne_6 hown hK hP (by decide) (by decide) (hN.use nw_7_61) hI hR hS (by omega) dX7_readOne_61 (fun σ13 H13 locs13 u13 v13 hR hP hS => ?_)
        have hF := hF.puts u13 4 rfl (by decide) (by decide) (by decide) (by decide)
        refine lv_aload_n hx hb dX7_readOne_64 rfl (lv_at hl 1 rfl) ?_
        refine fg_7_0 (k := 27) hx hb hts in_X7_readOne_7 hown hK hP (by decide) (by decide) (hts _ lk_X7_readOne_9) dX7_readOne_65 ?_
        refine r_cVv (k := 1) (As := []) (rest := []) ⟨hx, hb, hml, hown, hts⟩ hK hP hN hS (c_X8_next l D cA ad hI σ13 τ0 hR) (cwV 0 hts gX7_readOne_X8_next rfl rfl rfl (by decide +kernel) ⟨by decide, by decide⟩) (rv_Tape hK hP (by decide) (by decide)) rfl hl.1 rfl (Nat.le_of_ble_eq_true rfl) dX7_readOne_68 (Nat.zero_le _) (Nat.zero_le _) (fun u14 H14 locs14 hp14 hP hS => ?_)
        obtain ⟨σ14, τ14⟩ := u14
        obtain ⟨hR, f14, fL14⟩ : P_X8_next σ13 τ0 σ14 τ14 := hp14
        have hP : va_P D vwCl (gw cA ad σ14 τ14) H14 := hP
        have hFL := hFL.step fL14 (by decide)
        have hF := hF.step f14 (by decide)
        have t15 : (σ14 24 1).toInt = (σ13 24 1).toInt := congrArg Int32.toInt (f14.at 24 1 (by decide))
        refine lv_iload_n hx hb dX7_readOne_71 rfl (lv_at hl 0 rfl) ?_
        by_cases c16 : (σ0 1 9).toInt = 22
        · refine lv_tableIn (off := 108) (tgt := 180) hx hb dX7_readOne_72 (by omega) (by omega) (by rw [c16]; rfl) (by decide) ?_
          refine lv_aload_n hx hb dX7_readOne_180 rfl (lv_at hl 1 rfl) ?_
          refine lv_iload_n hx hb dX7_readOne_181 rfl (lv_at hl 2 rfl) ?_
          refine r_iconst hx hb dX7_readOne_182 (by decide) (fun z17 ez17 => ?_)
          refine r_iadd hx hb dX7_readOne_183 (by omega) (fun z18 ez18 => ?_)
          refine r_cVi (k := 27) (As := [.int z18]) (rest := []) ⟨hx, hb, hml, hown, hts⟩ hK hP hN hS (c_X7_readOne_d5 l D cA ad hI σ14 τ14 hR z18 (by omega)) (cwV 1 hts gX7_readOne_X7_readOne rfl rfl rfl (by decide +kernel) ⟨by decide, by decide⟩) (rv_SText hK hP (by decide) (by decide)) rfl hl.1 rfl (Nat.le_of_ble_eq_true rfl) dX7_readOne_184 (Nat.zero_le _) (Nat.zero_le _) (fun r19 u19 H19 locs19 hp19 hP hS => ?_)
          obtain ⟨σ19, τ19⟩ := u19
          obtain ⟨hR, f19, fL19, hq19⟩ : P_X7_readOne_d5 σ14 τ14 z18 r19 σ19 τ19 := hp19
          have hP : va_P D vwCl (gw cA ad σ19 τ19) H19 := hP
          have hFL := hFL.step fL19 (by decide)
          have hF := hF.step f19 (by decide)
          refine r_if_eq (tgt := 208) hx hb dX7_readOne_187 (by decide) (fun c20 => ?_) (fun c20 => ?_)
          · refine r_iconst hx hb dX7_readOne_208 (by decide) (fun z21 ez21 => ?_)
            exact r_zret hx hb hr hK hP hS hk (by omega) dX7_readOne_209 (show P_X7_readOne_d4 σ0 τ0 a1 z21 σ19 τ19 from ⟨hR, hF, hFL, by omega⟩)
          · refine lv_aload_n hx hb dX7_readOne_190 rfl (lv_at hl 1 rfl) ?_
            refine fg_7_2 (k := 27) hx hb hts in_X7_readOne_7 hown hK hP (by decide) (by decide) (hts _ lk_X7_readOne_19) dX7_readOne_191 ?_
            refine r_bipush hx hb dX7_readOne_194 (by decide) (fun z22 ez22 => ?_)
            refine r_iconst hx hb dX7_readOne_196 (by decide) (fun z23 ez23 => ?_)
            refine r_iconst hx hb dX7_readOne_197 (by decide) (fun z24 ez24 => ?_)
            refine r_cVi (k := 24) (As := [.int z22, .int z23, .int z24]) (rest := []) ⟨hx, hb, hml, hown, hts⟩ hK hP hN hS (c_X6_add l D cA ad hI σ19 τ19 hR z22 z23 z24 (by omega)) (cwV 3 hts gX7_readOne_X6_add rfl rfl rfl (by decide +kernel) ⟨by decide, by decide⟩) (rv_Sent hK hP (by decide) (by decide)) rfl hl.1 rfl (Nat.le_of_ble_eq_true rfl) dX7_readOne_198 (Nat.zero_le _) (Nat.zero_le _) (fun r25 u25 H25 locs25 hp25 hP hS => ?_)
            obtain ⟨σ25, τ25⟩ := u25
            obtain ⟨hR, f25, fL25, hq25⟩ : P_X6_add σ19 τ19 z22 z23 z24 r25 σ25 τ25 := hp25
            have hP : va_P D vwCl (gw cA ad σ25 τ25) H25 := hP
            obtain rfl := FrL.nil fL25
            have hF := hF.step f25 (by decide)
            refine r_if_eq (tgt := 208) hx hb dX7_readOne_201 (by decide) (fun c26 => ?_) (fun c26 => ?_)
            · refine r_iconst hx hb dX7_readOne_208 (by decide) (fun z27 ez27 => ?_)
              exact r_zret hx hb hr hK hP hS hk (by omega) dX7_readOne_209 (show P_X7_readOne_d4 σ0 τ0 a1 z27 σ25 τ19 from ⟨hR, hF, hFL, by omega⟩)
            · refine r_iconst hx hb dX7_readOne_204 (by decide) (fun z28 ez28 => ?_)
              refine lv_goto (tgt := 209) hx hb dX7_readOne_205 (by decide) ?_
              exact r_zret hx hb hr hK hP hS hk (by omega) dX7_readOne_209 (show P_X7_readOne_d4 σ0 τ0 a1 z28 σ25 τ19 from ⟨hR, hF, hFL, by omega⟩)
        by_cases c29 : (σ0 1 9).toInt = 23
        · refine lv_tableIn (off := 177) (tgt := 249) hx hb dX7_readOne_72 (by omega) (by omega) (by rw [c29]; rfl) (by decide) ?_
          refine lv_aload_n hx hb dX7_readOne_249 rfl (lv_at hl 1 rfl) ?_
          refine fg_7_2 (k := 27) hx hb hts in_X7_readOne_7 hown hK hP (by decide) (by decide) (hts _ lk_X7_readOne_19) dX7_readOne_250 ?_
          refine lv_iload_n hx hb dX7_readOne_253 rfl (lv_at hl 0 rfl) ?_
          refine r_bipush hx hb dX7_readOne_254 (by decide) (fun z30 ez30 => ?_)
          refine r_iconst hx hb dX7_readOne_256 (by decide) (fun z31 ez31 => ?_)
          refine r_cVi (k := 24) (As := [.int (σ0 1 9), .int z30, .int z31]) (rest := []) ⟨hx, hb, hml, hown, hts⟩ hK hP hN hS (c_X6_add l D cA ad hI σ14 τ14 hR (σ0 1 9) z30 z31 (by omega)) (cwV 3 hts gX7_readOne_X6_add rfl rfl rfl (by decide +kernel) ⟨by decide, by decide⟩) (rv_Sent hK hP (by decide) (by decide)) rfl hl.1 rfl (Nat.le_of_ble_eq_true rfl) dX7_readOne_257 (Nat.zero_le _) (Nat.zero_le _) (fun r32 u32 H32 locs32 hp32 hP hS => ?_)
          obtain ⟨σ32, τ32⟩ := u32
          obtain ⟨hR, f32, fL32, hq32⟩ : P_X6_add σ14 τ14 (σ0 1 9) z30 z31 r32 σ32 τ32 := hp32
          have hP : va_P D vwCl (gw cA ad σ32 τ32) H32 := hP
          obtain rfl := FrL.nil fL32
          have hF := hF.step f32 (by decide)
          have t33 : (σ32 24 1).toInt = (σ14 24 1).toInt := congrArg Int32.toInt (f32.at 24 1 (by decide))
          exact r_zret hx hb hr hK hP hS hk (by omega) dX7_readOne_260 (show P_X7_readOne_d4 σ0 τ0 a1 r32 σ32 τ14 from ⟨hR, hF, hFL, by omega⟩)
        by_cases c34 : (σ0 1 9).toInt = 24
        · refine lv_tableIn (off := 177) (tgt := 249) hx hb dX7_readOne_72 (by omega) (by omega) (by rw [c34]; rfl) (by decide) ?_
          refine lv_aload_n hx hb dX7_readOne_249 rfl (lv_at hl 1 rfl) ?_
          refine fg_7_2 (k := 27) hx hb hts in_X7_readOne_7 hown hK hP (by decide) (by decide) (hts _ lk_X7_readOne_19) dX7_readOne_250 ?_
          refine lv_iload_n hx hb dX7_readOne_253 rfl (lv_at hl 0 rfl) ?_
          refine r_bipush hx hb dX7_readOne_254 (by decide) (fun z35 ez35 => ?_)
          refine r_iconst hx hb dX7_readOne_256 (by decide) (fun z36 ez36 => ?_)
          refine r_cVi (k := 24) (As := [.int (σ0 1 9), .int z35, .int z36]) (rest := []) ⟨hx, hb, hml, hown, hts⟩ hK hP hN hS (c_X6_add l D cA ad hI σ14 τ14 hR (σ0 1 9) z35 z36 (by omega)) (cwV 3 hts gX7_readOne_X6_add rfl rfl rfl (by decide +kernel) ⟨by decide, by decide⟩) (rv_Sent hK hP (by decide) (by decide)) rfl hl.1 rfl (Nat.le_of_ble_eq_true rfl) dX7_readOne_257 (Nat.zero_le _) (Nat.zero_le _) (fun r37 u37 H37 locs37 hp37 hP hS => ?_)
          obtain ⟨σ37, τ37⟩ := u37
          obtain ⟨hR, f37, fL37, hq37⟩ : P_X6_add σ14 τ14 (σ0 1 9) z35 z36 r37 σ37 τ37 := hp37
          have hP : va_P D vwCl (gw cA ad σ37 τ37) H37 := hP
          obtain rfl := FrL.nil fL37
          have hF := hF.step f37 (by decide)
          have t38 : (σ37 24 1).toInt = (σ14 24 1).toInt := congrArg Int32.toInt (f37.at 24 1 (by decide))
          exact r_zret hx hb hr hK hP hS hk (by omega) dX7_readOne_260 (show P_X7_readOne_d4 σ0 τ0 a1 r37 σ37 τ14 from ⟨hR, hF, hFL, by omega⟩)
        by_cases c39 : (σ0 1 9).toInt = 25
        · refine lv_tableIn (off := 166) (tgt := 238) hx hb dX7_readOne_72 (by omega) (by omega) (by rw [c39]; rfl) (by decide) ?_
          refine lv_aload_n hx hb dX7_readOne_238 rfl (lv_at hl 1 rfl) ?_
          refine r_cVi (k := 27) (As := []) (rest := []) ⟨hx, hb, hml, hown, hts⟩ hK hP hN hS (c_X7_readOn l D cA ad hI σ14 τ14 hR) (cwV 0 hts gX7_readOne_X7_readOn rfl rfl rfl (by decide +kernel) ⟨by decide, by decide⟩) (rv_SText hK hP (by decide) (by decide)) rfl hl.1 rfl (Nat.le_of_ble_eq_true rfl) dX7_readOne_239 (Nat.zero_le _) (Nat.zero_le _) (fun r40 u40 H40 locs40 hp40 hP hS => ?_)
          obtain ⟨σ40, τ40⟩ := u40
          obtain ⟨hR, f40, fL40, hq40⟩ : P_X7_readOn σ14 τ14 r40 σ40 τ40 := hp40
          have hP : va_P D vwCl (gw cA ad σ40 τ40) H40 := hP
          have hFL := hFL.step fL40 (by decide)
          have hF := hF.step f40 (by decide)
          have t41 : (σ40 24 1).toInt = (σ14 24 1).toInt := congrArg Int32.toInt (f40.at 24 1 (by decide))
          exact r_zret hx hb hr hK hP hS hk (by omega) dX7_readOne_242 (show P_X7_readOne_d4 σ0 τ0 a1 r40 σ40 τ40 from ⟨hR, hF, hFL, by omega⟩)
        by_cases c42 : (σ0 1 9).toInt = 26
        · refine lv_tableIn (off := 177) (tgt := 249) hx hb dX7_readOne_72 (by omega) (by omega) (by rw [c42]; rfl) (by decide) ?_
          refine lv_aload_n hx hb dX7_readOne_249 rfl (lv_at hl 1 rfl) ?_
          refine fg_7_2 (k := 27) hx hb hts in_X7_readOne_7 hown hK hP (by decide) (by decide) (hts _ lk_X7_readOne_19) dX7_readOne_250 ?_
          refine lv_iload_n hx hb dX7_readOne_253 rfl (lv_at hl 0 rfl) ?_
          refine r_bipush hx hb dX7_readOne_254 (by decide) (fun z43 ez43 => ?_)
          refine r_iconst hx hb dX7_readOne_256 (by decide) (fun z44 ez44 => ?_)
          refine r_cVi (k := 24) (As := [.int (σ0 1 9), .int z43, .int z44]) (rest := []) ⟨hx, hb, hml, hown, hts⟩ hK hP hN hS (c_X6_add l D cA ad hI σ14 τ14 hR (σ0 1 9) z43 z44 (by omega)) (cwV 3 hts gX7_readOne_X6_add rfl rfl rfl (by decide +kernel) ⟨by decide, by decide⟩) (rv_Sent hK hP (by decide) (by decide)) rfl hl.1 rfl (Nat.le_of_ble_eq_true rfl) dX7_readOne_257 (Nat.zero_le _) (Nat.zero_le _) (fun r45 u45 H45 locs45 hp45 hP hS => ?_)
          obtain ⟨σ45, τ45⟩ := u45
          obtain ⟨hR, f45, fL45, hq45⟩ : P_X6_add σ14 τ14 (σ0 1 9) z43 z44 r45 σ45 τ45 := hp45
          have hP : va_P D vwCl (gw cA ad σ45 τ45) H45 := hP
          obtain rfl := FrL.nil fL45
          have hF := hF.step f45 (by decide)
          have t46 : (σ45 24 1).toInt = (σ14 24 1).toInt := congrArg Int32.toInt (f45.at 24 1 (by decide))
          exact r_zret hx hb hr hK hP hS hk (by omega) dX7_readOne_260 (show P_X7_readOne_d4 σ0 τ0 a1 r45 σ45 τ14 from ⟨hR, hF, hFL, by omega⟩)
        by_cases c47 : (σ0 1 9).toInt = 27
        · refine lv_tableIn (off := 171) (tgt := 243) hx hb dX7_readOne_72 (by omega) (by omega) (by rw [c47]; rfl) (by decide) ?_
          refine lv_aload_n hx hb dX7_readOne_243 rfl (lv_at hl 1 rfl) ?_
          refine lv_iload_n hx hb dX7_readOne_244 rfl (lv_at hl 0 rfl) ?_
          refine r_cVi (k := 27) (As := [.int (σ0 1 9)]) (rest := []) ⟨hx, hb, hml, hown, hts⟩ hK hP hN hS (c_X7_readMeasure l D cA ad hI σ14 τ14 hR (σ0 1 9) (by omega)) (cwV 1 hts gX7_readOne_X7_readMeasure rfl rfl rfl (by decide +kernel) ⟨by decide, by decide⟩) (rv_SText hK hP (by decide) (by decide)) rfl hl.1 rfl (Nat.le_of_ble_eq_true rfl) dX7_readOne_245 (Nat.zero_le _) (Nat.zero_le _) (fun r48 u48 H48 locs48 hp48 hP hS => ?_)
          obtain ⟨σ48, τ48⟩ := u48
          obtain ⟨hR, f48, fL48, hq48⟩ : P_X7_readMeasure σ14 τ14 (σ0 1 9) r48 σ48 τ48 := hp48
          have hP : va_P D vwCl (gw cA ad σ48 τ48) H48 := hP
          have hFL := hFL.step fL48 (by decide)
          have hF := hF.step f48 (by decide)
          have t49 : (σ48 24 1).toInt = (σ14 24 1).toInt := congrArg Int32.toInt (f48.at 24 1 (by decide))
          exact r_zret hx hb hr hK hP hS hk (by omega) dX7_readOne_248 (show P_X7_readOne_d4 σ0 τ0 a1 r48 σ48 τ48 from ⟨hR, hF, hFL, by omega⟩)
        by_cases c50 : (σ0 1 9).toInt = 28
        · refine lv_tableIn (off := 171) (tgt := 243) hx hb dX7_readOne_72 (by omega) (by omega) (by rw [c50]; rfl) (by decide) ?_
          refine lv_aload_n hx hb dX7_readOne_243 rfl (lv_at hl 1 rfl) ?_
          refine lv_iload_n hx hb dX7_readOne_244 rfl (lv_at hl 0 rfl) ?_
          refine r_cVi (k := 27) (As := [.int (σ0 1 9)]) (rest := []) ⟨hx, hb, hml, hown, hts⟩ hK hP hN hS (c_X7_readMeasure l D cA ad hI σ14 τ14 hR (σ0 1 9) (by omega)) (cwV 1 hts gX7_readOne_X7_readMeasure rfl rfl rfl (by decide +kernel) ⟨by decide, by decide⟩) (rv_SText hK hP (by decide) (by decide)) rfl hl.1 rfl (Nat.le_of_ble_eq_true rfl) dX7_readOne_245 (Nat.zero_le _) (Nat.zero_le _) (fun r51 u51 H51 locs51 hp51 hP hS => ?_)
          obtain ⟨σ51, τ51⟩ := u51
          obtain ⟨hR, f51, fL51, hq51⟩ : P_X7_readMeasure σ14 τ14 (σ0 1 9) r51 σ51 τ51 := hp51
          have hP : va_P D vwCl (gw cA ad σ51 τ51) H51 := hP
          have hFL := hFL.step fL51 (by decide)
          have hF := hF.step f51 (by decide)
          have t52 : (σ51 24 1).toInt = (σ14 24 1).toInt := congrArg Int32.toInt (f51.at 24 1 (by decide))
          exact r_zret hx hb hr hK hP hS hk (by omega) dX7_readOne_248 (show P_X7_readOne_d4 σ0 τ0 a1 r51 σ51 τ51 from ⟨hR, hF, hFL, by omega⟩)
        by_cases c53 : (σ0 1 9).toInt = 29
        · refine lv_tableIn (off := 171) (tgt := 243) hx hb dX7_readOne_72 (by omega) (by omega) (by rw [c53]; rfl) (by decide) ?_
          refine lv_aload_n hx hb dX7_readOne_243 rfl (lv_at hl 1 rfl) ?_
          refine lv_iload_n hx hb dX7_readOne_244 rfl (lv_at hl 0 rfl) ?_
          refine r_cVi (k := 27) (As := [.int (σ0 1 9)]) (rest := []) ⟨hx, hb, hml, hown, hts⟩ hK hP hN hS (c_X7_readMeasure l D cA ad hI σ14 τ14 hR (σ0 1 9) (by omega)) (cwV 1 hts gX7_readOne_X7_readMeasure rfl rfl rfl (by decide +kernel) ⟨by decide, by decide⟩) (rv_SText hK hP (by decide) (by decide)) rfl hl.1 rfl (Nat.le_of_ble_eq_true rfl) dX7_readOne_245 (Nat.zero_le _) (Nat.zero_le _) (fun r54 u54 H54 locs54 hp54 hP hS => ?_)
          obtain ⟨σ54, τ54⟩ := u54
          obtain ⟨hR, f54, fL54, hq54⟩ : P_X7_readMeasure σ14 τ14 (σ0 1 9) r54 σ54 τ54 := hp54
          have hP : va_P D vwCl (gw cA ad σ54 τ54) H54 := hP
          have hFL := hFL.step fL54 (by decide)
          have hF := hF.step f54 (by decide)
          have t55 : (σ54 24 1).toInt = (σ14 24 1).toInt := congrArg Int32.toInt (f54.at 24 1 (by decide))
          exact r_zret hx hb hr hK hP hS hk (by omega) dX7_readOne_248 (show P_X7_readOne_d4 σ0 τ0 a1 r54 σ54 τ54 from ⟨hR, hF, hFL, by omega⟩)
        by_cases c56 : (σ0 1 9).toInt = 30
        · refine lv_tableIn (off := 171) (tgt := 243) hx hb dX7_readOne_72 (by omega) (by omega) (by rw [c56]; rfl) (by decide) ?_
          refine lv_aload_n hx hb dX7_readOne_243 rfl (lv_at hl 1 rfl) ?_
          refine lv_iload_n hx hb dX7_readOne_244 rfl (lv_at hl 0 rfl) ?_
          refine r_cVi (k := 27) (As := [.int (σ0 1 9)]) (rest := []) ⟨hx, hb, hml, hown, hts⟩ hK hP hN hS (c_X7_readMeasure l D cA ad hI σ14 τ14 hR (σ0 1 9) (by omega)) (cwV 1 hts gX7_readOne_X7_readMeasure rfl rfl rfl (by decide +kernel) ⟨by decide, by decide⟩) (rv_SText hK hP (by decide) (by decide)) rfl hl.1 rfl (Nat.le_of_ble_eq_true rfl) dX7_readOne_245 (Nat.zero_le _) (Nat.zero_le _) (fun r57 u57 H57 locs57 hp57 hP hS => ?_)
          obtain ⟨σ57, τ57⟩ := u57
          obtain ⟨hR, f57, fL57, hq57⟩ : P_X7_readMeasure σ14 τ14 (σ0 1 9) r57 σ57 τ57 := hp57
          have hP : va_P D vwCl (gw cA ad σ57 τ57) H57 := hP
          have hFL := hFL.step fL57 (by decide)
          have hF := hF.step f57 (by decide)
          have t58 : (σ57 24 1).toInt = (σ14 24 1).toInt := congrArg Int32.toInt (f57.at 24 1 (by decide))
          exact r_zret hx hb hr hK hP hS hk (by omega) dX7_readOne_248 (show P_X7_readOne_d4 σ0 τ0 a1 r57 σ57 τ57 from ⟨hR, hF, hFL, by omega⟩)
        by_cases c59 : (σ0 1 9).toInt = 31
        · refine lv_tableIn (off := 177) (tgt := 249) hx hb dX7_readOne_72 (by omega) (by omega) (by rw [c59]; rfl) (by decide) ?_
          refine lv_aload_n hx hb dX7_readOne_249 rfl (lv_at hl 1 rfl) ?_
          refine fg_7_2 (k := 27) hx hb hts in_X7_readOne_7 hown hK hP (by decide) (by decide) (hts _ lk_X7_readOne_19) dX7_readOne_250 ?_
          refine lv_iload_n hx hb dX7_readOne_253 rfl (lv_at hl 0 rfl) ?_
          refine r_bipush hx hb dX7_readOne_254 (by decide) (fun z60 ez60 => ?_)
          refine r_iconst hx hb dX7_readOne_256 (by decide) (fun z61 ez61 => ?_)
          refine r_cVi (k := 24) (As := [.int (σ0 1 9), .int z60, .int z61]) (rest := []) ⟨hx, hb, hml, hown, hts⟩ hK hP hN hS (c_X6_add l D cA ad hI σ14 τ14 hR (σ0 1 9) z60 z61 (by omega)) (cwV 3 hts gX7_readOne_X6_add rfl rfl rfl (by decide +kernel) ⟨by decide, by decide⟩) (rv_Sent hK hP (by decide) (by decide)) rfl hl.1 rfl (Nat.le_of_ble_eq_true rfl) dX7_readOne_257 (Nat.zero_le _) (Nat.zero_le _) (fun r62 u62 H62 locs62 hp62 hP hS => ?_)
          obtain ⟨σ62, τ62⟩ := u62
          obtain ⟨hR, f62, fL62, hq62⟩ : P_X6_add σ14 τ14 (σ0 1 9) z60 z61 r62 σ62 τ62 := hp62
          have hP : va_P D vwCl (gw cA ad σ62 τ62) H62 := hP
          obtain rfl := FrL.nil fL62
          have hF := hF.step f62 (by decide)
          have t63 : (σ62 24 1).toInt = (σ14 24 1).toInt := congrArg Int32.toInt (f62.at 24 1 (by decide))
          exact r_zret hx hb hr hK hP hS hk (by omega) dX7_readOne_260 (show P_X7_readOne_d4 σ0 τ0 a1 r62 σ62 τ14 from ⟨hR, hF, hFL, by omega⟩)
        by_cases c64 : (σ0 1 9).toInt = 32
        · refine lv_tableIn (off := 177) (tgt := 249) hx hb dX7_readOne_72 (by omega) (by omega) (by rw [c64]; rfl) (by decide) ?_
          refine lv_aload_n hx hb dX7_readOne_249 rfl (lv_at hl 1 rfl) ?_
          refine fg_7_2 (k := 27) hx hb hts in_X7_readOne_7 hown hK hP (by decide) (by decide) (hts _ lk_X7_readOne_19) dX7_readOne_250 ?_
          refine lv_iload_n hx hb dX7_readOne_253 rfl (lv_at hl 0 rfl) ?_
          refine r_bipush hx hb dX7_readOne_254 (by decide) (fun z65 ez65 => ?_)
          refine r_iconst hx hb dX7_readOne_256 (by decide) (fun z66 ez66 => ?_)
          refine r_cVi (k := 24) (As := [.int (σ0 1 9), .int z65, .int z66]) (rest := []) ⟨hx, hb, hml, hown, hts⟩ hK hP hN hS (c_X6_add l D cA ad hI σ14 τ14 hR (σ0 1 9) z65 z66 (by omega)) (cwV 3 hts gX7_readOne_X6_add rfl rfl rfl (by decide +kernel) ⟨by decide, by decide⟩) (rv_Sent hK hP (by decide) (by decide)) rfl hl.1 rfl (Nat.le_of_ble_eq_true rfl) dX7_readOne_257 (Nat.zero_le _) (Nat.zero_le _) (fun r67 u67 H67 locs67 hp67 hP hS => ?_)
          obtain ⟨σ67, τ67⟩ := u67
          obtain ⟨hR, f67, fL67, hq67⟩ : P_X6_add σ14 τ14 (σ0 1 9) z65 z66 r67 σ67 τ67 := hp67
          have hP : va_P D vwCl (gw cA ad σ67 τ67) H67 := hP
          obtain rfl := FrL.nil fL67
          have hF := hF.step f67 (by decide)
          have t68 : (σ67 24 1).toInt = (σ14 24 1).toInt := congrArg Int32.toInt (f67.at 24 1 (by decide))
          exact r_zret hx hb hr hK hP hS hk (by omega) dX7_readOne_260 (show P_X7_readOne_d4 σ0 τ0 a1 r67 σ67 τ14 from ⟨hR, hF, hFL, by omega⟩)
        by_cases c69 : (σ0 1 9).toInt = 33
        · refine lv_tableIn (off := 177) (tgt := 249) hx hb dX7_readOne_72 (by omega) (by omega) (by rw [c69]; rfl) (by decide) ?_
          refine lv_aload_n hx hb dX7_readOne_249 rfl (lv_at hl 1 rfl) ?_
          refine fg_7_2 (k := 27) hx hb hts in_X7_readOne_7 hown hK hP (by decide) (by decide) (hts _ lk_X7_readOne_19) dX7_readOne_250 ?_
          refine lv_iload_n hx hb dX7_readOne_253 rfl (lv_at hl 0 rfl) ?_
          refine r_bipush hx hb dX7_readOne_254 (by decide) (fun z70 ez70 => ?_)
          refine r_iconst hx hb dX7_readOne_256 (by decide) (fun z71 ez71 => ?_)
          refine r_cVi (k := 24) (As := [.int (σ0 1 9), .int z70, .int z71]) (rest := []) ⟨hx, hb, hml, hown, hts⟩ hK hP hN hS (c_X6_add l D cA ad hI σ14 τ14 hR (σ0 1 9) z70 z71 (by omega)) (cwV 3 hts gX7_readOne_X6_add rfl rfl rfl (by decide +kernel) ⟨by decide, by decide⟩) (rv_Sent hK hP (by decide) (by decide)) rfl hl.1 rfl (Nat.le_of_ble_eq_true rfl) dX7_readOne_257 (Nat.zero_le _) (Nat.zero_le _) (fun r72 u72 H72 locs72 hp72 hP hS => ?_)
          obtain ⟨σ72, τ72⟩ := u72
          obtain ⟨hR, f72, fL72, hq72⟩ : P_X6_add σ14 τ14 (σ0 1 9) z70 z71 r72 σ72 τ72 := hp72
          have hP : va_P D vwCl (gw cA ad σ72 τ72) H72 := hP
          obtain rfl := FrL.nil fL72
          have hF := hF.step f72 (by decide)
          have t73 : (σ72 24 1).toInt = (σ14 24 1).toInt := congrArg Int32.toInt (f72.at 24 1 (by decide))
          exact r_zret hx hb hr hK hP hS hk (by omega) dX7_readOne_260 (show P_X7_readOne_d4 σ0 τ0 a1 r72 σ72 τ14 from ⟨hR, hF, hFL, by omega⟩)
        by_cases c74 : (σ0 1 9).toInt = 34
        · refine lv_tableIn (off := 177) (tgt := 249) hx hb dX7_readOne_72 (by omega) (by omega) (by rw [c74]; rfl) (by decide) ?_
          refine lv_aload_n hx hb dX7_readOne_249 rfl (lv_at hl 1 rfl) ?_
          refine fg_7_2 (k := 27) hx hb hts in_X7_readOne_7 hown hK hP (by decide) (by decide) (hts _ lk_X7_readOne_19) dX7_readOne_250 ?_
          refine lv_iload_n hx hb dX7_readOne_253 rfl (lv_at hl 0 rfl) ?_
          refine r_bipush hx hb dX7_readOne_254 (by decide) (fun z75 ez75 => ?_)
          refine r_iconst hx hb dX7_readOne_256 (by decide) (fun z76 ez76 => ?_)
          refine r_cVi (k := 24) (As := [.int (σ0 1 9), .int z75, .int z76]) (rest := []) ⟨hx, hb, hml, hown, hts⟩ hK hP hN hS (c_X6_add l D cA ad hI σ14 τ14 hR (σ0 1 9) z75 z76 (by omega)) (cwV 3 hts gX7_readOne_X6_add rfl rfl rfl (by decide +kernel) ⟨by decide, by decide⟩) (rv_Sent hK hP (by decide) (by decide)) rfl hl.1 rfl (Nat.le_of_ble_eq_true rfl) dX7_readOne_257 (Nat.zero_le _) (Nat.zero_le _) (fun r77 u77 H77 locs77 hp77 hP hS => ?_)
          obtain ⟨σ77, τ77⟩ := u77
          obtain ⟨hR, f77, fL77, hq77⟩ : P_X6_add σ14 τ14 (σ0 1 9) z75 z76 r77 σ77 τ77 := hp77
          have hP : va_P D vwCl (gw cA ad σ77 τ77) H77 := hP
          obtain rfl := FrL.nil fL77
          have hF := hF.step f77 (by decide)
          have t78 : (σ77 24 1).toInt = (σ14 24 1).toInt := congrArg Int32.toInt (f77.at 24 1 (by decide))
          exact r_zret hx hb hr hK hP hS hk (by omega) dX7_readOne_260 (show P_X7_readOne_d4 σ0 τ0 a1 r77 σ77 τ14 from ⟨hR, hF, hFL, by omega⟩)
        by_cases c79 : (σ0 1 9).toInt = 35
        · refine lv_tableIn (off := 177) (tgt := 249) hx hb dX7_readOne_72 (by omega) (by omega) (by rw [c79]; rfl) (by decide) ?_
          refine lv_aload_n hx hb dX7_readOne_249 rfl (lv_at hl 1 rfl) ?_
          refine fg_7_2 (k := 27) hx hb hts in_X7_readOne_7 hown hK hP (by decide) (by decide) (hts _ lk_X7_readOne_19) dX7_readOne_250 ?_
          refine lv_iload_n hx hb dX7_readOne_253 rfl (lv_at hl 0 rfl) ?_
          refine r_bipush hx hb dX7_readOne_254 (by decide) (fun z80 ez80 => ?_)
          refine r_iconst hx hb dX7_readOne_256 (by decide) (fun z81 ez81 => ?_)
          refine r_cVi (k := 24) (As := [.int (σ0 1 9), .int z80, .int z81]) (rest := []) ⟨hx, hb, hml, hown, hts⟩ hK hP hN hS (c_X6_add l D cA ad hI σ14 τ14 hR (σ0 1 9) z80 z81 (by omega)) (cwV 3 hts gX7_readOne_X6_add rfl rfl rfl (by decide +kernel) ⟨by decide, by decide⟩) (rv_Sent hK hP (by decide) (by decide)) rfl hl.1 rfl (Nat.le_of_ble_eq_true rfl) dX7_readOne_257 (Nat.zero_le _) (Nat.zero_le _) (fun r82 u82 H82 locs82 hp82 hP hS => ?_)
          obtain ⟨σ82, τ82⟩ := u82
          obtain ⟨hR, f82, fL82, hq82⟩ : P_X6_add σ14 τ14 (σ0 1 9) z80 z81 r82 σ82 τ82 := hp82
          have hP : va_P D vwCl (gw cA ad σ82 τ82) H82 := hP
          obtain rfl := FrL.nil fL82
          have hF := hF.step f82 (by decide)
          have t83 : (σ82 24 1).toInt = (σ14 24 1).toInt := congrArg Int32.toInt (f82.at 24 1 (by decide))
          exact r_zret hx hb hr hK hP hS hk (by omega) dX7_readOne_260 (show P_X7_readOne_d4 σ0 τ0 a1 r82 σ82 τ14 from ⟨hR, hF, hFL, by omega⟩)
        by_cases c84 : (σ0 1 9).toInt = 36
        · refine lv_tableIn (off := 177) (tgt := 249) hx hb dX7_readOne_72 (by omega) (by omega) (by rw [c84]; rfl) (by decide) ?_
          refine lv_aload_n hx hb dX7_readOne_249 rfl (lv_at hl 1 rfl) ?_
          refine fg_7_2 (k := 27) hx hb hts in_X7_readOne_7 hown hK hP (by decide) (by decide) (hts _ lk_X7_readOne_19) dX7_readOne_250 ?_
          refine lv_iload_n hx hb dX7_readOne_253 rfl (lv_at hl 0 rfl) ?_
          refine r_bipush hx hb dX7_readOne_254 (by decide) (fun z85 ez85 => ?_)
          refine r_iconst hx hb dX7_readOne_256 (by decide) (fun z86 ez86 => ?_)
          refine r_cVi (k := 24) (As := [.int (σ0 1 9), .int z85, .int z86]) (rest := []) ⟨hx, hb, hml, hown, hts⟩ hK hP hN hS (c_X6_add l D cA ad hI σ14 τ14 hR (σ0 1 9) z85 z86 (by omega)) (cwV 3 hts gX7_readOne_X6_add rfl rfl rfl (by decide +kernel) ⟨by decide, by decide⟩) (rv_Sent hK hP (by decide) (by decide)) rfl hl.1 rfl (Nat.le_of_ble_eq_true rfl) dX7_readOne_257 (Nat.zero_le _) (Nat.zero_le _) (fun r87 u87 H87 locs87 hp87 hP hS => ?_)
          obtain ⟨σ87, τ87⟩ := u87
          obtain ⟨hR, f87, fL87, hq87⟩ : P_X6_add σ14 τ14 (σ0 1 9) z85 z86 r87 σ87 τ87 := hp87
          have hP : va_P D vwCl (gw cA ad σ87 τ87) H87 := hP
          obtain rfl := FrL.nil fL87
          have hF := hF.step f87 (by decide)
          have t88 : (σ87 24 1).toInt = (σ14 24 1).toInt := congrArg Int32.toInt (f87.at 24 1 (by decide))
          exact r_zret hx hb hr hK hP hS hk (by omega) dX7_readOne_260 (show P_X7_readOne_d4 σ0 τ0 a1 r87 σ87 τ14 from ⟨hR, hF, hFL, by omega⟩)
        by_cases c89 : (σ0 1 9).toInt = 37
        · refine lv_tableIn (off := 177) (tgt := 249) hx hb dX7_readOne_72 (by omega) (by omega) (by rw [c89]; rfl) (by decide) ?_
          refine lv_aload_n hx hb dX7_readOne_249 rfl (lv_at hl 1 rfl) ?_
          refine fg_7_2 (k := 27) hx hb hts in_X7_readOne_7 hown hK hP (by decide) (by decide) (hts _ lk_X7_readOne_19) dX7_readOne_250 ?_
          refine lv_iload_n hx hb dX7_readOne_253 rfl (lv_at hl 0 rfl) ?_
          refine r_bipush hx hb dX7_readOne_254 (by decide) (fun z90 ez90 => ?_)
          refine r_iconst hx hb dX7_readOne_256 (by decide) (fun z91 ez91 => ?_)
          refine r_cVi (k := 24) (As := [.int (σ0 1 9), .int z90, .int z91]) (rest := []) ⟨hx, hb, hml, hown, hts⟩ hK hP hN hS (c_X6_add l D cA ad hI σ14 τ14 hR (σ0 1 9) z90 z91 (by omega)) (cwV 3 hts gX7_readOne_X6_add rfl rfl rfl (by decide +kernel) ⟨by decide, by decide⟩) (rv_Sent hK hP (by decide) (by decide)) rfl hl.1 rfl (Nat.le_of_ble_eq_true rfl) dX7_readOne_257 (Nat.zero_le _) (Nat.zero_le _) (fun r92 u92 H92 locs92 hp92 hP hS => ?_)
          obtain ⟨σ92, τ92⟩ := u92
          obtain ⟨hR, f92, fL92, hq92⟩ : P_X6_add σ14 τ14 (σ0 1 9) z90 z91 r92 σ92 τ92 := hp92
          have hP : va_P D vwCl (gw cA ad σ92 τ92) H92 := hP
          obtain rfl := FrL.nil fL92
          have hF := hF.step f92 (by decide)
          have t93 : (σ92 24 1).toInt = (σ14 24 1).toInt := congrArg Int32.toInt (f92.at 24 1 (by decide))
          exact r_zret hx hb hr hK hP hS hk (by omega) dX7_readOne_260 (show P_X7_readOne_d4 σ0 τ0 a1 r92 σ92 τ14 from ⟨hR, hF, hFL, by omega⟩)
        by_cases c94 : (σ0 1 9).toInt = 38
        · refine lv_tableIn (off := 177) (tgt := 249) hx hb dX7_readOne_72 (by omega) (by omega) (by rw [c94]; rfl) (by decide) ?_
          refine lv_aload_n hx hb dX7_readOne_249 rfl (lv_at hl 1 rfl) ?_
          refine fg_7_2 (k := 27) hx hb hts in_X7_readOne_7 hown hK hP (by decide) (by decide) (hts _ lk_X7_readOne_19) dX7_readOne_250 ?_
          refine lv_iload_n hx hb dX7_readOne_253 rfl (lv_at hl 0 rfl) ?_
          refine r_bipush hx hb dX7_readOne_254 (by decide) (fun z95 ez95 => ?_)
          refine r_iconst hx hb dX7_readOne_256 (by decide) (fun z96 ez96 => ?_)
          refine r_cVi (k := 24) (As := [.int (σ0 1 9), .int z95, .int z96]) (rest := []) ⟨hx, hb, hml, hown, hts⟩ hK hP hN hS (c_X6_add l D cA ad hI σ14 τ14 hR (σ0 1 9) z95 z96 (by omega)) (cwV 3 hts gX7_readOne_X6_add rfl rfl rfl (by decide +kernel) ⟨by decide, by decide⟩) (rv_Sent hK hP (by decide) (by decide)) rfl hl.1 rfl (Nat.le_of_ble_eq_true rfl) dX7_readOne_257 (Nat.zero_le _) (Nat.zero_le _) (fun r97 u97 H97 locs97 hp97 hP hS => ?_)
          obtain ⟨σ97, τ97⟩ := u97
          obtain ⟨hR, f97, fL97, hq97⟩ : P_X6_add σ14 τ14 (σ0 1 9) z95 z96 r97 σ97 τ97 := hp97
          have hP : va_P D vwCl (gw cA ad σ97 τ97) H97 := hP
          obtain rfl := FrL.nil fL97
          have hF := hF.step f97 (by decide)
          have t98 : (σ97 24 1).toInt = (σ14 24 1).toInt := congrArg Int32.toInt (f97.at 24 1 (by decide))
          exact r_zret hx hb hr hK hP hS hk (by omega) dX7_readOne_260 (show P_X7_readOne_d4 σ0 τ0 a1 r97 σ97 τ14 from ⟨hR, hF, hFL, by omega⟩)
        by_cases c99 : (σ0 1 9).toInt = 39
        · refine lv_tableIn (off := 177) (tgt := 249) hx hb dX7_readOne_72 (by omega) (by omega) (by rw [c99]; rfl) (by decide) ?_
          refine lv_aload_n hx hb dX7_readOne_249 rfl (lv_at hl 1 rfl) ?_
          refine fg_7_2 (k := 27) hx hb hts in_X7_readOne_7 hown hK hP (by decide) (by decide) (hts _ lk_X7_readOne_19) dX7_readOne_250 ?_
          refine lv_iload_n hx hb dX7_readOne_253 rfl (lv_at hl 0 rfl) ?_
          refine r_bipush hx hb dX7_readOne_254 (by decide) (fun z100 ez100 => ?_)
          refine r_iconst hx hb dX7_readOne_256 (by decide) (fun z101 ez101 => ?_)
          refine r_cVi (k := 24) (As := [.int (σ0 1 9), .int z100, .int z101]) (rest := []) ⟨hx, hb, hml, hown, hts⟩ hK hP hN hS (c_X6_add l D cA ad hI σ14 τ14 hR (σ0 1 9) z100 z101 (by omega)) (cwV 3 hts gX7_readOne_X6_add rfl rfl rfl (by decide +kernel) ⟨by decide, by decide⟩) (rv_Sent hK hP (by decide) (by decide)) rfl hl.1 rfl (Nat.le_of_ble_eq_true rfl) dX7_readOne_257 (Nat.zero_le _) (Nat.zero_le _) (fun r102 u102 H102 locs102 hp102 hP hS => ?_)
          obtain ⟨σ102, τ102⟩ := u102
          obtain ⟨hR, f102, fL102, hq102⟩ : P_X6_add σ14 τ14 (σ0 1 9) z100 z101 r102 σ102 τ102 := hp102
          have hP : va_P D vwCl (gw cA ad σ102 τ102) H102 := hP
          obtain rfl := FrL.nil fL102
          have hF := hF.step f102 (by decide)
          have t103 : (σ102 24 1).toInt = (σ14 24 1).toInt := congrArg Int32.toInt (f102.at 24 1 (by decide))
          exact r_zret hx hb hr hK hP hS hk (by omega) dX7_readOne_260 (show P_X7_readOne_d4 σ0 τ0 a1 r102 σ102 τ14 from ⟨hR, hF, hFL, by omega⟩)
        by_cases c104 : (σ0 1 9).toInt = 40
        · refine lv_tableIn (off := 177) (tgt := 249) hx hb dX7_readOne_72 (by omega) (by omega) (by rw [c104]; rfl) (by decide) ?_
          refine lv_aload_n hx hb dX7_readOne_249 rfl (lv_at hl 1 rfl) ?_
          refine fg_7_2 (k := 27) hx hb hts in_X7_readOne_7 hown hK hP (by decide) (by decide) (hts _ lk_X7_readOne_19) dX7_readOne_250 ?_
          refine lv_iload_n hx hb dX7_readOne_253 rfl (lv_at hl 0 rfl) ?_
          refine r_bipush hx hb dX7_readOne_254 (by decide) (fun z105 ez105 => ?_)
          refine r_iconst hx hb dX7_readOne_256 (by decide) (fun z106 ez106 => ?_)
          refine r_cVi (k := 24) (As := [.int (σ0 1 9), .int z105, .int z106]) (rest := []) ⟨hx, hb, hml, hown, hts⟩ hK hP hN hS (c_X6_add l D cA ad hI σ14 τ14 hR (σ0 1 9) z105 z106 (by omega)) (cwV 3 hts gX7_readOne_X6_add rfl rfl rfl (by decide +kernel) ⟨by decide, by decide⟩) (rv_Sent hK hP (by decide) (by decide)) rfl hl.1 rfl (Nat.le_of_ble_eq_true rfl) dX7_readOne_257 (Nat.zero_le _) (Nat.zero_le _) (fun r107 u107 H107 locs107 hp107 hP hS => ?_)
          obtain ⟨σ107, τ107⟩ := u107
          obtain ⟨hR, f107, fL107, hq107⟩ : P_X6_add σ14 τ14 (σ0 1 9) z105 z106 r107 σ107 τ107 := hp107
          have hP : va_P D vwCl (gw cA ad σ107 τ107) H107 := hP
          obtain rfl := FrL.nil fL107
          have hF := hF.step f107 (by decide)
          have t108 : (σ107 24 1).toInt = (σ14 24 1).toInt := congrArg Int32.toInt (f107.at 24 1 (by decide))
          exact r_zret hx hb hr hK hP hS hk (by omega) dX7_readOne_260 (show P_X7_readOne_d4 σ0 τ0 a1 r107 σ107 τ14 from ⟨hR, hF, hFL, by omega⟩)
        by_cases c109 : (σ0 1 9).toInt = 41
        · refine lv_tableIn (off := 177) (tgt := 249) hx hb dX7_readOne_72 (by omega) (by omega) (by rw [c109]; rfl) (by decide) ?_
          refine lv_aload_n hx hb dX7_readOne_249 rfl (lv_at hl 1 rfl) ?_
          refine fg_7_2 (k := 27) hx hb hts in_X7_readOne_7 hown hK hP (by decide) (by decide) (hts _ lk_X7_readOne_19) dX7_readOne_250 ?_
          refine lv_iload_n hx hb dX7_readOne_253 rfl (lv_at hl 0 rfl) ?_
          refine r_bipush hx hb dX7_readOne_254 (by decide) (fun z110 ez110 => ?_)
          refine r_iconst hx hb dX7_readOne_256 (by decide) (fun z111 ez111 => ?_)
          refine r_cVi (k := 24) (As := [.int (σ0 1 9), .int z110, .int z111]) (rest := []) ⟨hx, hb, hml, hown, hts⟩ hK hP hN hS (c_X6_add l D cA ad hI σ14 τ14 hR (σ0 1 9) z110 z111 (by omega)) (cwV 3 hts gX7_readOne_X6_add rfl rfl rfl (by decide +kernel) ⟨by decide, by decide⟩) (rv_Sent hK hP (by decide) (by decide)) rfl hl.1 rfl (Nat.le_of_ble_eq_true rfl) dX7_readOne_257 (Nat.zero_le _) (Nat.zero_le _) (fun r112 u112 H112 locs112 hp112 hP hS => ?_)
          obtain ⟨σ112, τ112⟩ := u112
          obtain ⟨hR, f112, fL112, hq112⟩ : P_X6_add σ14 τ14 (σ0 1 9) z110 z111 r112 σ112 τ112 := hp112
          have hP : va_P D vwCl (gw cA ad σ112 τ112) H112 := hP
          obtain rfl := FrL.nil fL112
          have hF := hF.step f112 (by decide)
          have t113 : (σ112 24 1).toInt = (σ14 24 1).toInt := congrArg Int32.toInt (f112.at 24 1 (by decide))
          exact r_zret hx hb hr hK hP hS hk (by omega) dX7_readOne_260 (show P_X7_readOne_d4 σ0 τ0 a1 r112 σ112 τ14 from ⟨hR, hF, hFL, by omega⟩)
        by_cases c114 : (σ0 1 9).toInt = 42
        · refine lv_tableIn (off := 177) (tgt := 249) hx hb dX7_readOne_72 (by omega) (by omega) (by rw [c114]; rfl) (by decide) ?_
          refine lv_aload_n hx hb dX7_readOne_249 rfl (lv_at hl 1 rfl) ?_
          refine fg_7_2 (k := 27) hx hb hts in_X7_readOne_7 hown hK hP (by decide) (by decide) (hts _ lk_X7_readOne_19) dX7_readOne_250 ?_
          refine lv_iload_n hx hb dX7_readOne_253 rfl (lv_at hl 0 rfl) ?_
          refine r_bipush hx hb dX7_readOne_254 (by decide) (fun z115 ez115 => ?_)
          refine r_iconst hx hb dX7_readOne_256 (by decide) (fun z116 ez116 => ?_)
          refine r_cVi (k := 24) (As := [.int (σ0 1 9), .int z115, .int z116]) (rest := []) ⟨hx, hb, hml, hown, hts⟩ hK hP hN hS (c_X6_add l D cA ad hI σ14 τ14 hR (σ0 1 9) z115 z116 (by omega)) (cwV 3 hts gX7_readOne_X6_add rfl rfl rfl (by decide +kernel) ⟨by decide, by decide⟩) (rv_Sent hK hP (by decide) (by decide)) rfl hl.1 rfl (Nat.le_of_ble_eq_true rfl) dX7_readOne_257 (Nat.zero_le _) (Nat.zero_le _) (fun r117 u117 H117 locs117 hp117 hP hS => ?_)
          obtain ⟨σ117, τ117⟩ := u117
          obtain ⟨hR, f117, fL117, hq117⟩ : P_X6_add σ14 τ14 (σ0 1 9) z115 z116 r117 σ117 τ117 := hp117
          have hP : va_P D vwCl (gw cA ad σ117 τ117) H117 := hP
          obtain rfl := FrL.nil fL117
          have hF := hF.step f117 (by decide)
          have t118 : (σ117 24 1).toInt = (σ14 24 1).toInt := congrArg Int32.toInt (f117.at 24 1 (by decide))
          exact r_zret hx hb hr hK hP hS hk (by omega) dX7_readOne_260 (show P_X7_readOne_d4 σ0 τ0 a1 r117 σ117 τ14 from ⟨hR, hF, hFL, by omega⟩)
        by_cases c119 : (σ0 1 9).toInt = 43
        · refine lv_tableIn (off := 177) (tgt := 249) hx hb dX7_readOne_72 (by omega) (by omega) (by rw [c119]; rfl) (by decide) ?_
          refine lv_aload_n hx hb dX7_readOne_249 rfl (lv_at hl 1 rfl) ?_
          refine fg_7_2 (k := 27) hx hb hts in_X7_readOne_7 hown hK hP (by decide) (by decide) (hts _ lk_X7_readOne_19) dX7_readOne_250 ?_
          refine lv_iload_n hx hb dX7_readOne_253 rfl (lv_at hl 0 rfl) ?_
          refine r_bipush hx hb dX7_readOne_254 (by decide) (fun z120 ez120 => ?_)
          refine r_iconst hx hb dX7_readOne_256 (by decide) (fun z121 ez121 => ?_)
          refine r_cVi (k := 24) (As := [.int (σ0 1 9), .int z120, .int z121]) (rest := []) ⟨hx, hb, hml, hown, hts⟩ hK hP hN hS (c_X6_add l D cA ad hI σ14 τ14 hR (σ0 1 9) z120 z121 (by omega)) (cwV 3 hts gX7_readOne_X6_add rfl rfl rfl (by decide +kernel) ⟨by decide, by decide⟩) (rv_Sent hK hP (by decide) (by decide)) rfl hl.1 rfl (Nat.le_of_ble_eq_true rfl) dX7_readOne_257 (Nat.zero_le _) (Nat.zero_le _) (fun r122 u122 H122 locs122 hp122 hP hS => ?_)
          obtain ⟨σ122, τ122⟩ := u122
          obtain ⟨hR, f122, fL122, hq122⟩ : P_X6_add σ14 τ14 (σ0 1 9) z120 z121 r122 σ122 τ122 := hp122
          have hP : va_P D vwCl (gw cA ad σ122 τ122) H122 := hP
          obtain rfl := FrL.nil fL122
          have hF := hF.step f122 (by decide)
          have t123 : (σ122 24 1).toInt = (σ14 24 1).toInt := congrArg Int32.toInt (f122.at 24 1 (by decide))
          exact r_zret hx hb hr hK hP hS hk (by omega) dX7_readOne_260 (show P_X7_readOne_d4 σ0 τ0 a1 r122 σ122 τ14 from ⟨hR, hF, hFL, by omega⟩)
        by_cases c124 : (σ0 1 9).toInt = 44
        · refine lv_tableIn (off := 138) (tgt := 210) hx hb dX7_readOne_72 (by omega) (by omega) (by rw [c124]; rfl) (by decide) ?_
          refine lv_aload_n hx hb dX7_readOne_210 rfl (lv_at hl 1 rfl) ?_
          refine lv_iload_n hx hb dX7_readOne_211 rfl (lv_at hl 2 rfl) ?_
          refine r_iconst hx hb dX7_readOne_212 (by decide) (fun z125 ez125 => ?_)
          refine r_iadd hx hb dX7_readOne_213 (by omega) (fun z126 ez126 => ?_)
          refine r_cVi (k := 27) (As := [.int z126]) (rest := []) ⟨hx, hb, hml, hown, hts⟩ hK hP hN hS (c_X7_readCond_d5 l D cA ad hI σ14 τ14 hR z126 (by omega)) (cwV 1 hts gX7_readOne_X7_readCond rfl rfl rfl (by decide +kernel) ⟨by decide, by decide⟩) (rv_SText hK hP (by decide) (by decide)) rfl hl.1 rfl (Nat.le_of_ble_eq_true rfl) dX7_readOne_214 (Nat.zero_le _) (Nat.zero_le _) (fun r127 u127 H127 locs127 hp127 hP hS => ?_)
          obtain ⟨σ127, τ127⟩ := u127
          obtain ⟨hR, f127, fL127, hq127⟩ : P_X7_readCond_d5 σ14 τ14 z126 r127 σ127 τ127 := hp127
          have hP : va_P D vwCl (gw cA ad σ127 τ127) H127 := hP
          have hFL := hFL.step fL127 (by decide)
          have hF := hF.step f127 (by decide)
          refine r_if_eq (tgt := 236) hx hb dX7_readOne_217 (by decide) (fun c128 => ?_) (fun c128 => ?_)
          · refine r_iconst hx hb dX7_readOne_236 (by decide) (fun z129 ez129 => ?_)
            exact r_zret hx hb hr hK hP hS hk (by omega) dX7_readOne_237 (show P_X7_readOne_d4 σ0 τ0 a1 z129 σ127 τ127 from ⟨hR, hF, hFL, by omega⟩)
          · refine lv_aload_n hx hb dX7_readOne_220 rfl (lv_at hl 1 rfl) ?_
            refine fg_7_0 (k := 27) hx hb hts in_X7_readOne_7 hown hK hP (by decide) (by decide) (hts _ lk_X7_readOne_9) dX7_readOne_221 ?_
            refine r_bipush hx hb dX7_readOne_224 (by decide) (fun z130 ez130 => ?_)
            refine r_cVi (k := 1) (As := [.int z130]) (rest := []) ⟨hx, hb, hml, hown, hts⟩ hK hP hN hS (c_X8_take l D cA ad hI σ127 τ127 hR z130 (by omega)) (cwV 1 hts gX7_readOne_X8_take rfl rfl rfl (by decide +kernel) ⟨by decide, by decide⟩) (rv_Tape hK hP (by decide) (by decide)) rfl hl.1 rfl (Nat.le_of_ble_eq_true rfl) dX7_readOne_226 (Nat.zero_le _) (Nat.zero_le _) (fun r131 u131 H131 locs131 hp131 hP hS => ?_)
            obtain ⟨σ131, τ131⟩ := u131
            obtain ⟨hR, f131, fL131, hq131⟩ : P_X8_take σ127 τ127 z130 r131 σ131 τ131 := hp131
            have hP : va_P D vwCl (gw cA ad σ131 τ131) H131 := hP
            have hFL := hFL.step fL131 (by decide)
            have hF := hF.step f131 (by decide)
            refine r_if_eq (tgt := 236) hx hb dX7_readOne_229 (by decide) (fun c132 => ?_) (fun c132 => ?_)
            · refine r_iconst hx hb dX7_readOne_236 (by decide) (fun z133 ez133 => ?_)
              exact r_zret hx hb hr hK hP hS hk (by omega) dX7_readOne_237 (show P_X7_readOne_d4 σ0 τ0 a1 z133 σ131 τ131 from ⟨hR, hF, hFL, by omega⟩)
            · refine r_iconst hx hb dX7_readOne_232 (by decide) (fun z134 ez134 => ?_)
              refine lv_goto (tgt := 237) hx hb dX7_readOne_233 (by decide) ?_
              exact r_zret hx hb hr hK hP hS hk (by omega) dX7_readOne_237 (show P_X7_readOne_d4 σ0 τ0 a1 z134 σ131 τ131 from ⟨hR, hF, hFL, by omega⟩)
        refine lv_tableOut (tgt := 249) hx hb dX7_readOne_72 (by omega) (by decide) ?_
        refine lv_aload_n hx hb dX7_readOne_249 rfl (lv_at hl 1 rfl) ?_
        refine fg_7_2 (k := 27) hx hb hts in_X7_readOne_7 hown hK hP (by decide) (by decide) (hts _ lk_X7_readOne_19) dX7_readOne_250 ?_
        refine lv_iload_n hx hb dX7_readOne_253 rfl (lv_at hl 0 rfl) ?_
        refine r_bipush hx hb dX7_readOne_254 (by decide) (fun z135 ez135 => ?_)
        refine r_iconst hx hb dX7_readOne_256 (by decide) (fun z136 ez136 => ?_)
        refine r_cVi (k := 24) (As := [.int (σ0 1 9), .int z135, .int z136]) (rest := []) ⟨hx, hb, hml, hown, hts⟩ hK hP hN hS (c_X6_add l D cA ad hI σ14 τ14 hR (σ0 1 9) z135 z136 (by omega)) (cwV 3 hts gX7_readOne_X6_add rfl rfl rfl (by decide +kernel) ⟨by decide, by decide⟩) (rv_Sent hK hP (by decide) (by decide)) rfl hl.1 rfl (Nat.le_of_ble_eq_true rfl) dX7_readOne_257 (Nat.zero_le _) (Nat.zero_le _) (fun r137 u137 H137 locs137 hp137 hP hS => ?_)
        obtain ⟨σ137, τ137⟩ := u137
        obtain ⟨hR, f137, fL137, hq137⟩ : P_X6_add σ14 τ14 (σ0 1 9) z135 z136 r137 σ137 τ137 := hp137
        have hP : va_P D vwCl (gw cA ad σ137 τ137) H137 := hP
        obtain rfl := FrL.nil fL137
        have hF := hF.step f137 (by decide)
        have t138 : (σ137 24 1).toInt = (σ14 24 1).toInt := congrArg Int32.toInt (f137.at 24 1 (by decide))
        exact r_zret hx hb hr hK hP hS hk (by omega) dX7_readOne_260 (show P_X7_readOne_d4 σ0 τ0 a1 r137 σ137 τ14 from ⟨hR, hF, hFL, by omega⟩)
      · exfalso; omega
  · refine lv_aload_n hx hb dX7_readOne_15 rfl (lv_at hl 1 rfl) ?_
    refine fg_7_0 (k := 27) hx hb hts in_X7_readOne_7 hown hK hP (by decide) (by decide) (hts _ lk_X7_readOne_9) dX7_readOne_16 ?_
    refine r_iconst hx hb dX7_readOne_19 (by decide) (fun z139 ez139 => ?_)
    refine r_cVi (k := 1) (As := [.int z139]) (rest := []) ⟨hx, hb, hml, hown, hts⟩ hK hP hN hS (c_X8_blame l D cA ad hI σ0 τ0 hR z139 (by omega)) (cwV 1 hts gX7_readOne_X8_blame rfl rfl rfl (by decide +kernel) ⟨by decide, by decide⟩) (rv_Tape hK hP (by decide) (by decide)) rfl hl.1 rfl (Nat.le_of_ble_eq_true rfl) dX7_readOne_20 (Nat.zero_le _) (Nat.zero_le _) (fun r140 u140 H140 locs140 hp140 hP hS => ?_)
    obtain ⟨σ140, τ140⟩ := u140
    obtain ⟨hR, f140, fL140, hq140⟩ : P_X8_blame σ0 τ0 z139 r140 σ140 τ140 := hp140
    have hP : va_P D vwCl (gw cA ad σ140 τ140) H140 := hP
    obtain rfl := FrL.nil fL140
    have hF := hF.step f140 (by decide)
    exact r_zret hx hb hr hK hP hS hk (by omega) dX7_readOne_23 (show P_X7_readOne_d4 σ0 τ0 a1 r140 σ140 τ0 from ⟨hR, hF, hFL, by omega⟩)
