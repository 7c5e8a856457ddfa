theorem in_X6_add_6 : ∀ w ∈ u_ws RX6 TX6 7, w ∈ wsX6_add := by decide +kernel
theorem lk_X6_add_15 : Cond.fieldLink RX6 15 "CuckooShares$Sentence" "sign" "[I" ∈ wsX6_add := by decide +kernel
theorem lk_X6_add_18 : Cond.fieldLink RX6 18 "CuckooShares$Sentence" "value" "[I" ∈ wsX6_add := by decide +kernel
theorem lk_X6_add_32 : Cond.fieldLink RX6 32 "CuckooShares$Sentence" "steps" "I" ∈ wsX6_add := by decide +kernel
theorem lk_X6_add_9 : Cond.fieldLink RX6 9 "CuckooShares$Sentence" "word" "[I" ∈ wsX6_add := by decide +kernel
abbrev L_X6_add : List Rc := [(372, 372, 0, 39), (376, 376, 0, 39), (380, 380, 0, 39), (24, 24, 2, 2)]
abbrev LL_X6_add : List Rc := []
def P_X6_add (σ0 : Nat → Nat → Int32) (τ0 : Nat → Nat → Int64) (a1 : Int32) (a2 : Int32) (a3 : Int32) (r : Int32) (σ : Nat → Nat → Int32) (τ : Nat → Nat → Int64) : Prop := Rg σ ∧ Fr L_X6_add σ0 σ ∧ FrL LL_X6_add τ0 τ ∧ (0 ≤ r.toInt ∧ r.toInt ≤ 1) ∧ ((r.toInt = 1 ∧ (σ 24 2).toInt = (σ0 24 2).toInt + 1) ∨ (r.toInt = 0 ∧ 40 ≤ (σ0 24 2).toInt ∧ (σ 24 2).toInt = (σ0 24 2).toInt))
set_option maxHeartbeats 4000000 in
theorem c_X6_add (l : Launch) (D : va_G) (cA : Nat → ClassId) (ad : Nat → Nat) (hI : Inj ad) (σ0 : Nat → Nat → Int32) (τ0 : Nat → Nat → Int64) (hR : Rg σ0) (a1 : Int32) (a2 : Int32) (a3 : Int32) (ha2 : -1 ≤ a2.toInt ∧ a2.toInt ≤ 45) : Met l yX6_add wsX6_add ({ frames := 0, cells := 0, slots := 0, locals := 0 } : Room) (WQc D cA ad [.ref (ad 24), .int a1, .int a2, .int a3] σ0 τ0) (va_Qi (fun (r : Int32) (u : SS) => P_X6_add σ0 τ0 a1 a2 a3 r u.1 u.2) (WB D cA ad) (AA ad)) 0 0 (AA ad) := by
  refine Met.ofW (cc := cX6_add) (maxL := 4) (ret := (some .boolean)) (by decide) rfl ?_
  intro p e s m args below meth c s₁ B hml hv
  obtain ⟨rfl, hP, hK, hN⟩ := hv
  have C : Cy p s m _ meth c cX6_add 4 wsX6_add RX6 D cA ad (some .boolean) := ⟨B.exec, B.bytes, hml, findClass_of_methodNamed B.named, atoms_spec (ws := wsX6_add) B.pre, hK, B.notSynchronized, B.returns, hI, hN⟩
  have hl := lv_entry ([.ref (ad 24), .int a1, .int a2, .int a3]) (n := 4) (Nat.le_of_ble_eq_true rfl)
  rw [lg_entry_eq]
  generalize (lg_sl ([.ref (ad 24), .int a1, .int a2, .int a3]) ++ List.replicate (4 - (lg_sl ([.ref (ad 24), .int a1, .int a2, .int a3])).length) Slot.unset).toArray = ls at hl ⊢
  have hl : lv_has ls 4 [(0, .ref (ad 24)), (1, .int a1), (2, .int a2), (3, .int a3)] := hl
  have hS : va_S (AA ad) s.heap s.heap [] := va_S.rf
  have hF : Fr L_X6_add σ0 σ0 := Fr.rf
  have hFL : FrL LL_X6_add τ0 τ0 := FrL.rf
  obtain ⟨hx, hb, _, hown, hts, _, hk, hr, _, _⟩ := C
  refine lv_aload_n hx hb dX6_add_0 rfl (lv_at hl 0 rfl) ?_
  refine fg_6_2 (k := 24) hx hb hts in_X6_add_6 hown hK hP (by decide) (by decide) (hts _ lk_X6_add_32) dX6_add_1 ?_
  have hr1 := rg_6_2 hR (k := 24) (by decide) (by decide)
  refine r_bipush hx hb dX6_add_4 (by decide) (fun z2 ez2 => ?_)
  refine r_icmp_lt (tgt := 11) hx hb dX6_add_6 (by decide) (fun c3 => ?_) (fun c3 => ?_)
  · refine lv_aload_n hx hb dX6_add_11 rfl (lv_at hl 0 rfl) ?_
    refine fg_6_3 (k := 24) hx hb hts in_X6_add_6 hown hK hP (by decide) (by decide) (hts _ lk_X6_add_9) dX6_add_12 ?_
    refine lv_aload_n hx hb dX6_add_15 rfl (lv_at hl 0 rfl) ?_
    refine fg_6_2 (k := 24) hx hb hts in_X6_add_6 hown hK hP (by decide) (by decide) (hts _ lk_X6_add_32) dX6_add_16 ?_
    refine lv_iload_n hx hb dX6_add_19 rfl (lv_at hl 1 rfl) ?_
    obtain ⟨j4, ej4⟩ : ∃ j : Nat, (σ0 24 2).toInt = (j : Int) := ⟨_, ti_nat (by omega)⟩
    refine as_sent40 (k := 372) (j := j4) hx hb hK hP hI hR hS (by decide) (by decide) ej4 (by omega) dX6_add_20 (fun σ5 H5 locs5 u5 v5 hR hP hS => ?_)
    have hF := hF.puts u5 0 rfl (by decide) (by decide) (by omega) (by omega)
    have t6 : (σ5 24 2).toInt = (σ0 24 2).toInt := congrArg Int32.toInt (u5 24 2 (by omega))
    refine lv_aload_n hx hb dX6_add_21 rfl (lv_at hl 0 rfl) ?_
    refine fg_6_4 (k := 24) hx hb hts in_X6_add_6 hown hK hP (by decide) (by decide) (hts _ lk_X6_add_15) dX6_add_22 ?_
    refine lv_aload_n hx hb dX6_add_25 rfl (lv_at hl 0 rfl) ?_
    refine fg_6_2 (k := 24) hx hb hts in_X6_add_6 hown hK hP (by decide) (by decide) (hts _ lk_X6_add_32) dX6_add_26 ?_
    refine lv_iload_n hx hb dX6_add_29 rfl (lv_at hl 2 rfl) ?_
    refine as_sent40 (k := 376) (j := j4) hx hb hK hP hI hR hS (by decide) (by decide) (by omega) (by omega) dX6_add_30 (fun σ7 H7 locs7 u7 v7 hR hP hS => ?_)
    have hF := hF.puts u7 1 rfl (by decide) (by decide) (by omega) (by omega)
    have t8 : (σ7 24 2).toInt = (σ5 24 2).toInt := congrArg Int32.toInt (u7 24 2 (by omega))
    refine lv_aload_n hx hb dX6_add_31 rfl (lv_at hl 0 rfl) ?_
    refine fg_6_5 (k := 24) hx hb hts in_X6_add_6 hown hK hP (by decide) (by decide) (hts _ lk_X6_add_18) dX6_add_32 ?_
    refine lv_aload_n hx hb dX6_add_35 rfl (lv_at hl 0 rfl) ?_
    refine fg_6_2 (k := 24) hx hb hts in_X6_add_6 hown hK hP (by decide) (by decide) (hts _ lk_X6_add_32) dX6_add_36 ?_
    refine lv_iload_n hx hb dX6_add_39 rfl (lv_at hl 3 rfl) ?_
    refine as_sent40 (k := 380) (j := j4) hx hb hK hP hI hR hS (by decide) (by decide) (by omega) (by omega) dX6_add_40 (fun σ9 H9 locs9 u9 v9 hR hP hS => ?_)
    have hF := hF.puts u9 2 rfl (by decide) (by decide) (by omega) (by omega)
    have t10 : (σ9 24 2).toInt = (σ7 24 2).toInt := congrArg Int32.toInt (u9 24 2 (by omega))
    refine lv_aload_n hx hb dX6_add_41 rfl (lv_at hl 0 rfl) ?_
    refine lv_dup hx hb dX6_add_42 rfl ?_
    refine fg_6_2 (k := 24) hx hb hts in_X6_add_6 hown hK hP (by decide) (by decide) (hts _ lk_X6_add_32) dX6_add_43 ?_
    refine r_iconst hx hb dX6_add_46 (by decide) (fun z11 ez11 => ?_)
    refine r_iadd hx hb dX6_add_47 (by omega) (fun z12 ez12 => ?_)
    refine fp_6_2 (k := 24) hx hb hts in_X6_add_6 hown hK hP (by decide) (by decide) (hts _ lk_X6_add_32) hI hR hS (by omega) dX6_add_48 (fun σ13 H13 locs13 u13 v13 hR hP hS => ?_)
    have hF := hF.puts u13 3 rfl (by decide) (by decide) (by decide) (by decide)
    refine r_iconst hx hb dX6_add_51 (by decide) (fun z14 ez14 => ?_)
    exact r_zret hx hb hr hK hP hS hk (by omega) dX6_add_52 (show P_X6_add σ0 τ0 a1 a2 a3 z14 σ13 τ0 from ⟨hR, hF, hFL, by omega, by omega⟩)
  · refine r_iconst hx hb dX6_add_9 (by decide) (fun z15 ez15 => ?_)
    exact r_zret hx hb hr hK hP hS hk (by omega) dX6_add_10 (show P_X6_add σ0 τ0 a1 a2 a3 z15 σ0 τ0 from ⟨hR, hF, hFL, by omega, by omega⟩)
abbrev L_X7_beginsOne : List Rc := []
abbrev LL_X7_beginsOne : List Rc := []
def P_X7_beginsOne (σ0 : Nat → Nat → Int32) (τ0 : Nat → Nat → Int64) (a0 : Int32) (r : Int32) (σ : Nat → Nat → Int32) (τ : Nat → Nat → Int64) : Prop := Rg σ ∧ Fr L_X7_beginsOne σ0 σ ∧ FrL LL_X7_beginsOne τ0 τ ∧ (0 ≤ r.toInt ∧ r.toInt ≤ 1) ∧ ((r.toInt = 1 ∧ begq a0.toInt) ∨ (r.toInt = 0 ∧ ¬ begq a0.toInt))
set_option maxHeartbeats 4000000 in
theorem c_X7_beginsOne (l : Launch) (D : va_G) (cA : Nat → ClassId) (ad : Nat → Nat) (hI : Inj ad) (σ0 : Nat → Nat → Int32) (τ0 : Nat → Nat → Int64) (hR : Rg σ0) (a0 : Int32)  : Met l yX7_beginsOne wsX7_beginsOne ({ frames := 0, cells := 0, slots := 0, locals := 0 } : Room) (WQc D cA ad [.int a0] σ0 τ0) (va_Qi (fun (r : Int32) (u : SS) => P_X7_beginsOne σ0 τ0 a0 r u.1 u.2) (WB D cA ad) (AA ad)) 0 0 (AA ad) := by
  refine Met.ofW (cc := cX7_beginsOne) (maxL := 1) (ret := (some .boolean)) (by decide) rfl ?_
  intro p e s m args below meth c s₁ B hml hv
  obtain ⟨rfl, hP, hK, hN⟩ := hv
  have C : Cy p s m _ meth c cX7_beginsOne 1 wsX7_beginsOne RX7 D cA ad (some .boolean) := ⟨B.exec, B.bytes, hml, findClass_of_methodNamed B.named, atoms_spec (ws := wsX7_beginsOne) B.pre, hK, B.notSynchronized, B.returns, hI, hN⟩
  have hl := lv_entry ([.int a0]) (n := 1) (Nat.le_of_ble_eq_true rfl)
  rw [lg_entry_eq]
  generalize (lg_sl ([.int a0]) ++ List.replicate (1 - (lg_sl ([.int a0])).length) Slot.unset).toArray = ls at hl ⊢
  have hl : lv_has ls 1 [(0, .int a0)] := hl
  have hS : va_S (AA ad) s.heap s.heap [] := va_S.rf
  have hF : Fr L_X7_beginsOne σ0 σ0 := Fr.rf
  have hFL : FrL LL_X7_beginsOne τ0 τ0 := FrL.rf
  obtain ⟨hx, hb, _, hown, hts, _, hk, hr, _, _⟩ := C
  refine lv_iload_n hx hb dX7_beginsOne_0 rfl (lv_at hl 0 rfl) ?_
  by_cases c1 : a0.toInt = 10
  · refine lv_tableIn (off := 155) (tgt := 156) hx hb dX7_beginsOne_1 (by omega) (by omega) (by rw [c1]; rfl) (by decide) ?_
    refine r_iconst hx hb dX7_beginsOne_156 (by decide) (fun z2 ez2 => ?_)
    exact r_zret hx hb hr hK hP hS hk (by omega) dX7_beginsOne_157 (show P_X7_beginsOne σ0 τ0 a0 z2 σ0 τ0 from ⟨hR, hF, hFL, by omega, by omega⟩)
  by_cases c3 : a0.toInt = 11
  · refine lv_tableIn (off := 155) (tgt := 156) hx hb dX7_beginsOne_1 (by omega) (by omega) (by rw [c3]; rfl) (by decide) ?_
    refine r_iconst hx hb dX7_beginsOne_156 (by decide) (fun z4 ez4 => ?_)
    exact r_zret hx hb hr hK hP hS hk (by omega) dX7_beginsOne_157 (show P_X7_beginsOne σ0 τ0 a0 z4 σ0 τ0 from ⟨hR, hF, hFL, by omega, by omega⟩)
  by_cases c5 : a0.toInt = 12
  · refine lv_tableIn (off := 157) (tgt := 158) hx hb dX7_beginsOne_1 (by omega) (by omega) (by rw [c5]; rfl) (by decide) ?_
    refine r_iconst hx hb dX7_beginsOne_158 (by decide) (fun z6 ez6 => ?_)
    exact r_zret hx hb hr hK hP hS hk (by omega) dX7_beginsOne_159 (show P_X7_beginsOne σ0 τ0 a0 z6 σ0 τ0 from ⟨hR, hF, hFL, by omega, by omega⟩)
  by_cases c7 : a0.toInt = 13
  · refine lv_tableIn (off := 157) (tgt := 158) hx hb dX7_beginsOne_1 (by omega) (by omega) (by rw [c7]; rfl) (by decide) ?_
    refine r_iconst hx hb dX7_beginsOne_158 (by decide) (fun z8 ez8 => ?_)
    exact r_zret hx hb hr hK hP hS hk (by omega) dX7_beginsOne_159 (show P_X7_beginsOne σ0 τ0 a0 z8 σ0 τ0 from ⟨hR, hF, hFL, by omega, by omega⟩)
  by_cases c9 : a0.toInt = 14
  · refine lv_tableIn (off := 157) (tgt := 158) hx hb dX7_beginsOne_1 (by omega) (by omega) (by rw [c9]; rfl) (by decide) ?_
    refine r_iconst hx hb dX7_beginsOne_158 (by decide) (fun z10 ez10 => ?_)
    exact r_zret hx hb hr hK hP hS hk (by omega) dX7_beginsOne_159 (show P_X7_beginsOne σ0 τ0 a0 z10 σ0 τ0 from ⟨hR, hF, hFL, by omega, by omega⟩)
  by_cases c11 : a0.toInt = 15
  · refine lv_tableIn (off := 157) (tgt := 158) hx hb dX7_beginsOne_1 (by omega) (by omega) (by rw [c11]; rfl) (by decide) ?_
    refine r_iconst hx hb dX7_beginsOne_158 (by decide) (fun z12 ez12 => ?_)
    exact r_zret hx hb hr hK hP hS hk (by omega) dX7_beginsOne_159 (show P_X7_beginsOne σ0 τ0 a0 z12 σ0 τ0 from ⟨hR, hF, hFL, by omega, by omega⟩)
  by_cases c13 : a0.toInt = 16
  · refine lv_tableIn (off := 157) (tgt := 158) hx hb dX7_beginsOne_1 (by omega) (by omega) (by rw [c13]; rfl) (by decide) ?_
    refine r_iconst hx hb dX7_beginsOne_158 (by decide) (fun z14 ez14 => ?_)
    exact r_zret hx hb hr hK hP hS hk (by omega) dX7_beginsOne_159 (show P_X7_beginsOne σ0 τ0 a0 z14 σ0 τ0 from ⟨hR, hF, hFL, by omega, by omega⟩)
  by_cases c15 : a0.toInt = 17
  · refine lv_tableIn (off := 157) (tgt := 158) hx hb dX7_beginsOne_1 (by omega) (by omega) (by rw [c15]; rfl) (by decide) ?_
    refine r_iconst hx hb dX7_beginsOne_158 (by decide) (fun z16 ez16 => ?_)
    exact r_zret hx hb hr hK hP hS hk (by omega) dX7_beginsOne_159 (show P_X7_beginsOne σ0 τ0 a0 z16 σ0 τ0 from ⟨hR, hF, hFL, by omega, by omega⟩)
  by_cases c17 : a0.toInt = 18
  · refine lv_tableIn (off := 157) (tgt := 158) hx hb dX7_beginsOne_1 (by omega) (by omega) (by rw [c17]; rfl) (by decide) ?_
    refine r_iconst hx hb dX7_beginsOne_158 (by decide) (fun z18 ez18 => ?_)
    exact r_zret hx hb hr hK hP hS hk (by omega) dX7_beginsOne_159 (show P_X7_beginsOne σ0 τ0 a0 z18 σ0 τ0 from ⟨hR, hF, hFL, by omega, by omega⟩)
  by_cases c19 : a0.toInt = 19
  · refine lv_tableIn (off := 157) (tgt := 158) hx hb dX7_beginsOne_1 (by omega) (by omega) (by rw [c19]; rfl) (by decide) ?_
    refine r_iconst hx hb dX7_beginsOne_158 (by decide) (fun z20 ez20 => ?_)
    exact r_zret hx hb hr hK hP hS hk (by omega) dX7_beginsOne_159 (show P_X7_beginsOne σ0 τ0 a0 z20 σ0 τ0 from ⟨hR, hF, hFL, by omega, by omega⟩)
  by_cases c21 : a0.toInt = 20
  · refine lv_tableIn (off := 157) (tgt := 158) hx hb dX7_beginsOne_1 (by omega) (by omega) (by rw [c21]; rfl) (by decide) ?_
    refine r_iconst hx hb dX7_beginsOne_158 (by decide) (fun z22 ez22 => ?_)
    exact r_zret hx hb hr hK hP hS hk (by omega) dX7_beginsOne_159 (show P_X7_beginsOne σ0 τ0 a0 z22 σ0 τ0 from ⟨hR, hF, hFL, by omega, by omega⟩)
  by_cases c23 : a0.toInt = 21
  · refine lv_tableIn (off := 157) (tgt := 158) hx hb dX7_beginsOne_1 (by omega) (by omega) (by rw [c23]; rfl) (by decide) ?_
    refine r_iconst hx hb dX7_beginsOne_158 (by decide) (fun z24 ez24 => ?_)
    exact r_zret hx hb hr hK hP hS hk (by omega) dX7_beginsOne_159 (show P_X7_beginsOne σ0 τ0 a0 z24 σ0 τ0 from ⟨hR, hF, hFL, by omega, by omega⟩)
  by_cases c25 : a0.toInt = 22
  · refine lv_tableIn (off := 155) (tgt := 156) hx hb dX7_beginsOne_1 (by omega) (by omega) (by rw [c25]; rfl) (by decide) ?_
    refine r_iconst hx hb dX7_beginsOne_156 (by decide) (fun z26 ez26 => ?_)
    exact r_zret hx hb hr hK hP hS hk (by omega) dX7_beginsOne_157 (show P_X7_beginsOne σ0 τ0 a0 z26 σ0 τ0 from ⟨hR, hF, hFL, by omega, by omega⟩)
  by_cases c27 : a0.toInt = 23
  · refine lv_tableIn (off := 155) (tgt := 156) hx hb dX7_beginsOne_1 (by omega) (by omega) (by rw [c27]; rfl) (by decide) ?_
    refine r_iconst hx hb dX7_beginsOne_156 (by decide) (fun z28 ez28 => ?_)
    exact r_zret hx hb hr hK hP hS hk (by omega) dX7_beginsOne_157 (show P_X7_beginsOne σ0 τ0 a0 z28 σ0 τ0 from ⟨hR, hF, hFL, by omega, by omega⟩)
  by_cases c29 : a0.toInt = 24
  · refine lv_tableIn (off := 155) (tgt := 156) hx hb dX7_beginsOne_1 (by omega) (by omega) (by rw [c29]; rfl) (by decide) ?_
    refine r_iconst hx hb dX7_beginsOne_156 (by decide) (fun z30 ez30 => ?_)
    exact r_zret hx hb hr hK hP hS hk (by omega) dX7_beginsOne_157 (show P_X7_beginsOne σ0 τ0 a0 z30 σ0 τ0 from ⟨hR, hF, hFL, by omega, by omega⟩)
  by_cases c31 : a0.toInt = 25
  · refine lv_tableIn (off := 155) (tgt := 156) hx hb dX7_beginsOne_1 (by omega) (by omega) (by rw [c31]; rfl) (by decide) ?_
    refine r_iconst hx hb dX7_beginsOne_156 (by decide) (fun z32 ez32 => ?_)
    exact r_zret hx hb hr hK hP hS hk (by omega) dX7_beginsOne_157 (show P_X7_beginsOne σ0 τ0 a0 z32 σ0 τ0 from ⟨hR, hF, hFL, by omega, by omega⟩)
  by_cases c33 : a0.toInt = 26
  · refine lv_tableIn (off := 155) (tgt := 156) hx hb dX7_beginsOne_1 (by omega) (by omega) (by rw [c33]; rfl) (by decide) ?_
    refine r_iconst hx hb dX7_beginsOne_156 (by decide) (fun z34 ez34 => ?_)
    exact r_zret hx hb hr hK hP hS hk (by omega) dX7_beginsOne_157 (show P_X7_beginsOne σ0 τ0 a0 z34 σ0 τ0 from ⟨hR, hF, hFL, by omega, by omega⟩)
  by_cases c35 : a0.toInt = 27
  · refine lv_tableIn (off := 155) (tgt := 156) hx hb dX7_beginsOne_1 (by omega) (by omega) (by rw [c35]; rfl) (by decide) ?_
    refine r_iconst hx hb dX7_beginsOne_156 (by decide) (fun z36 ez36 => ?_)
    exact r_zret hx hb hr hK hP hS hk (by omega) dX7_beginsOne_157 (show P_X7_beginsOne σ0 τ0 a0 z36 σ0 τ0 from ⟨hR, hF, hFL, by omega, by omega⟩)
  by_cases c37 : a0.toInt = 28
  · refine lv_tableIn (off := 155) (tgt := 156) hx hb dX7_beginsOne_1 (by omega) (by omega) (by rw [c37]; rfl) (by decide) ?_
    refine r_iconst hx hb dX7_beginsOne_156 (by decide) (fun z38 ez38 => ?_)
    exact r_zret hx hb hr hK hP hS hk (by omega) dX7_beginsOne_157 (show P_X7_beginsOne σ0 τ0 a0 z38 σ0 τ0 from ⟨hR, hF, hFL, by omega, by omega⟩)
  by_cases c39 : a0.toInt = 29
  · refine lv_tableIn (off := 155) (tgt := 156) hx hb dX7_beginsOne_1 (by omega) (by omega) (by rw [c39]; rfl) (by decide) ?_
    refine r_iconst hx hb dX7_beginsOne_156 (by decide) (fun z40 ez40 => ?_)
    exact r_zret hx hb hr hK hP hS hk (by omega) dX7_beginsOne_157 (show P_X7_beginsOne σ0 τ0 a0 z40 σ0 τ0 from ⟨hR, hF, hFL, by omega, by omega⟩)
  by_cases c41 : a0.toInt = 30
  · refine lv_tableIn (off := 155) (tgt := 156) hx hb dX7_beginsOne_1 (by omega) (by omega) (by rw [c41]; rfl) (by decide) ?_
    refine r_iconst hx hb dX7_beginsOne_156 (by decide) (fun z42 ez42 => ?_)
    exact r_zret hx hb hr hK hP hS hk (by omega) dX7_beginsOne_157 (show P_X7_beginsOne σ0 τ0 a0 z42 σ0 τ0 from ⟨hR, hF, hFL, by omega, by omega⟩)
  by_cases c43 : a0.toInt = 31
  · refine lv_tableIn (off := 157) (tgt := 158) hx hb dX7_beginsOne_1 (by omega) (by omega) (by rw [c43]; rfl) (by decide) ?_
    refine r_iconst hx hb dX7_beginsOne_158 (by decide) (fun z44 ez44 => ?_)
    exact r_zret hx hb hr hK hP hS hk (by omega) dX7_beginsOne_159 (show P_X7_beginsOne σ0 τ0 a0 z44 σ0 τ0 from ⟨hR, hF, hFL, by omega, by omega⟩)
  by_cases c45 : a0.toInt = 32
  · refine lv_tableIn (off := 157) (tgt := 158) hx hb dX7_beginsOne_1 (by omega) (by omega) (by rw [c45]; rfl) (by decide) ?_
    refine r_iconst hx hb dX7_beginsOne_158 (by decide) (fun z46 ez46 => ?_)
    exact r_zret hx hb hr hK hP hS hk (by omega) dX7_beginsOne_159 (show P_X7_beginsOne σ0 τ0 a0 z46 σ0 τ0 from ⟨hR, hF, hFL, by omega, by omega⟩)
  by_cases c47 : a0.toInt = 33
  · refine lv_tableIn (off := 157) (tgt := 158) hx hb dX7_beginsOne_1 (by omega) (by omega) (by rw [c47]; rfl) (by decide) ?_
    refine r_iconst hx hb dX7_beginsOne_158 (by decide) (fun z48 ez48 => ?_)
    exact r_zret hx hb hr hK hP hS hk (by omega) dX7_beginsOne_159 (show P_X7_beginsOne σ0 τ0 a0 z48 σ0 τ0 from ⟨hR, hF, hFL, by omega, by omega⟩)
  by_cases c49 : a0.toInt = 34
  · refine lv_tableIn (off := 157) (tgt := 158) hx hb dX7_beginsOne_1 (by omega) (by omega) (by rw [c49]; rfl) (by decide) ?_
    refine r_iconst hx hb dX7_beginsOne_158 (by decide) (fun z50 ez50 => ?_)
    exact r_zret hx hb hr hK hP hS hk (by omega) dX7_beginsOne_159 (show P_X7_beginsOne σ0 τ0 a0 z50 σ0 τ0 from ⟨hR, hF, hFL, by omega, by omega⟩)
  by_cases c51 : a0.toInt = 35
  · refine lv_tableIn (off := 157) (tgt := 158) hx hb dX7_beginsOne_1 (by omega) (by omega) (by rw [c51]; rfl) (by decide) ?_
    refine r_iconst hx hb dX7_beginsOne_158 (by decide) (fun z52 ez52 => ?_)
    exact r_zret hx hb hr hK hP hS hk (by omega) dX7_beginsOne_159 (show P_X7_beginsOne σ0 τ0 a0 z52 σ0 τ0 from ⟨hR, hF, hFL, by omega, by omega⟩)
  by_cases c53 : a0.toInt = 36
  · refine lv_tableIn (off := 157) (tgt := 158) hx hb dX7_beginsOne_1 (by omega) (by omega) (by rw [c53]; rfl) (by decide) ?_
    refine r_iconst hx hb dX7_beginsOne_158 (by decide) (fun z54 ez54 => ?_)
    exact r_zret hx hb hr hK hP hS hk (by omega) dX7_beginsOne_159 (show P_X7_beginsOne σ0 τ0 a0 z54 σ0 τ0 from ⟨hR, hF, hFL, by omega, by omega⟩)
  by_cases c55 : a0.toInt = 37
  · refine lv_tableIn (off := 157) (tgt := 158) hx hb dX7_beginsOne_1 (by omega) (by omega) (by rw [c55]; rfl) (by decide) ?_
    refine r_iconst hx hb dX7_beginsOne_158 (by decide) (fun z56 ez56 => ?_)
    exact r_zret hx hb hr hK hP hS hk (by omega) dX7_beginsOne_159 (show P_X7_beginsOne σ0 τ0 a0 z56 σ0 τ0 from ⟨hR, hF, hFL, by omega, by omega⟩)
  by_cases c57 : a0.toInt = 38
  · refine lv_tableIn (off := 157) (tgt := 158) hx hb dX7_beginsOne_1 (by omega) (by omega) (by rw [c57]; rfl) (by decide) ?_
    refine r_iconst hx hb dX7_beginsOne_158 (by decide) (fun z58 ez58 => ?_)
    exact r_zret hx hb hr hK hP hS hk (by omega) dX7_beginsOne_159 (show P_X7_beginsOne σ0 τ0 a0 z58 σ0 τ0 from ⟨hR, hF, hFL, by omega, by omega⟩)
  by_cases c59 : a0.toInt = 39
  · refine lv_tableIn (off := 157) (tgt := 158) hx hb dX7_beginsOne_1 (by omega) (by omega) (by rw [c59]; rfl) (by decide) ?_
    refine r_iconst hx hb dX7_beginsOne_158 (by decide) (fun z60 ez60 => ?_)
    exact r_zret hx hb hr hK hP hS hk (by omega) dX7_beginsOne_159 (show P_X7_beginsOne σ0 τ0 a0 z60 σ0 τ0 from ⟨hR, hF, hFL, by omega, by omega⟩)
  by_cases c61 : a0.toInt = 40
  · refine lv_tableIn (off := 157) (tgt := 158) hx hb dX7_beginsOne_1 (by omega) (by omega) (by rw [c61]; rfl) (by decide) ?_
    refine r_iconst hx hb dX7_beginsOne_158 (by decide) (fun z62 ez62 => ?_)
    exact r_zret hx hb hr hK hP hS hk (by omega) dX7_beginsOne_159 (show P_X7_beginsOne σ0 τ0 a0 z62 σ0 τ0 from ⟨hR, hF, hFL, by omega, by omega⟩)
  by_cases c63 : a0.toInt = 41
  · refine lv_tableIn (off := 157) (tgt := 158) hx hb dX7_beginsOne_1 (by omega) (by omega) (by rw [c63]; rfl) (by decide) ?_
    refine r_iconst hx hb dX7_beginsOne_158 (by decide) (fun z64 ez64 => ?_)
    exact r_zret hx hb hr hK hP hS hk (by omega) dX7_beginsOne_159 (show P_X7_beginsOne σ0 τ0 a0 z64 σ0 τ0 from ⟨hR, hF, hFL, by omega, by omega⟩)
  by_cases c65 : a0.toInt = 42
  · refine lv_tableIn (off := 157) (tgt := 158) hx hb dX7_beginsOne_1 (by omega) (by omega) (by rw [c65]; rfl) (by decide) ?_
    refine r_iconst hx hb dX7_beginsOne_158 (by decide) (fun z66 ez66 => ?_)
    exact r_zret hx hb hr hK hP hS hk (by omega) dX7_beginsOne_159 (show P_X7_beginsOne σ0 τ0 a0 z66 σ0 τ0 from ⟨hR, hF, hFL, by omega, by omega⟩)
  by_cases c67 : a0.toInt = 43
  · refine lv_tableIn (off := 157) (tgt := 158) hx hb dX7_beginsOne_1 (by omega) (by omega) (by rw [c67]; rfl) (by decide) ?_
    refine r_iconst hx hb dX7_beginsOne_158 (by decide) (fun z68 ez68 => ?_)
    exact r_zret hx hb hr hK hP hS hk (by omega) dX7_beginsOne_159 (show P_X7_beginsOne σ0 τ0 a0 z68 σ0 τ0 from ⟨hR, hF, hFL, by omega, by omega⟩)
  by_cases c69 : a0.toInt = 44
  · refine lv_tableIn (off := 155) (tgt := 156) hx hb dX7_beginsOne_1 (by omega) (by omega) (by rw [c69]; rfl) (by decide) ?_
    refine r_iconst hx hb dX7_beginsOne_156 (by decide) (fun z70 ez70 => ?_)
    exact r_zret hx hb hr hK hP hS hk (by omega) dX7_beginsOne_157 (show P_X7_beginsOne σ0 τ0 a0 z70 σ0 τ0 from ⟨hR, hF, hFL, by omega, by omega⟩)
  refine lv_tableOut (tgt := 158) hx hb dX7_beginsOne_1 (by omega) (by decide) ?_
  refine r_iconst hx hb dX7_beginsOne_158 (by decide) (fun z71 ez71 => ?_)
  exact r_zret hx hb hr hK hP hS hk (by omega) dX7_beginsOne_159 (show P_X7_beginsOne σ0 τ0 a0 z71 σ0 τ0 from ⟨hR, hF, hFL, by omega, by omega⟩)
theorem in_X7_readOne_6 : ∀ w ∈ u_ws RX6 TX6 7, w ∈ wsX7_readOne := by decide +kernel
theorem in_X7_readOne_7 : ∀ w ∈ u_ws RX7 TX7 3, w ∈ wsX7_readOne := by decide +kernel
theorem in_X7_readOne_8 : ∀ w ∈ u_ws RX8 TX8 15, w ∈ wsX7_readOne := by decide +kernel
theorem lk_X7_readOne_19 : Cond.fieldLink RX7 19 "CuckooShares$SentenceText" "into" "LCuckooShares$Sentence;" ∈ wsX7_readOne := by decide +kernel
theorem lk_X7_readOne_9 : Cond.fieldLink RX7 9 "CuckooShares$SentenceText" "tape" "LCuckooShares$Tape;" ∈ wsX7_readOne := by decide +kernel
abbrev L_X7_readOne_d9 : List Rc := [(1, 1, 13, 14)]
abbrev LL_X7_readOne_d9 : List Rc := []
def P_X7_readOne_d9 (σ0 : Nat → Nat → Int32) (τ0 : Nat → Nat → Int64) (a1 : Int32) (b : Nat → Int) (N : Nat) (mo : Nat) (q : Nat) (nn : Nat) (nm : Nat → Int) (hc : Nat) (r : Int32) (σ : Nat → Nat → Int32) (τ : Nat → Nat → Int64) : Prop := Rg σ ∧ Fr L_X7_readOne_d9 σ0 σ ∧ FrL LL_X7_readOne_d9 τ0 τ ∧ (0 ≤ r.toInt ∧ r.toInt ≤ 0) ∧ (RO r σ (oneP b N mo nm hc 0 q nn) (fun s => CT σ τ b N mo s.1 ∧ (σ 24 1).toInt = (s.2 : Int) ∧ (σ 24 2).toInt + 2 * (nn : Int) + 1 ≤ (σ0 24 2).toInt + 2 * (s.2 : Int))) ∧ (r.toInt = 0 ∨ (σ 1 13).toInt = (σ0 1 13).toInt) ∧ WH σ τ nm hc
set_option maxHeartbeats 4000000 in
theorem c_X7_readOne_d9 (l : Launch) (D : va_G) (cA : Nat → ClassId) (ad : Nat → Nat) (hI : Inj ad) (σ0 : Nat → Nat → Int32) (τ0 : Nat → Nat → Int64) (hR : Rg σ0) (a1 : Int32) (b : Nat → Int) (N : Nat) (mo : Nat) (q : Nat) (nn : Nat) (nm : Nat → Int) (hc : Nat) (ha1 : 9 ≤ a1.toInt ∧ a1.toInt ≤ 9) (hpre0 : (σ0 24 1).toInt = (nn : Int)) (hpre1 : 0 ≤ (σ0 24 2).toInt ∧ (σ0 24 2).toInt ≤ 2 * (nn : Int)) (hpre2 : nn ≤ 20) (gCT0 : CT σ0 τ0 b N mo q) (gWH0 : WH σ0 τ0 nm hc) : Met l yX7_readOne wsX7_readOne ({ frames := 1, cells := 0, slots := 0, locals := 21 } : Room) (WQc D cA ad [.ref (ad 27), .int a1] σ0 τ0) (va_Qi (fun (r : Int32) (u : SS) => P_X7_readOne_d9 σ0 τ0 a1 b N mo q nn nm hc r u.1 u.2) (WB D cA ad) (AA ad)) 0 0 (AA ad) := by
  refine Met.ofW (cc := cX7_readOne) (maxL := 3) (ret := (some .boolean)) (by decide) rfl ?_
  intro p e s m args below meth c s₁ B hml hv
  obtain ⟨rfl, hP, hK, hN⟩ := hv
  have C : Cy p s m _ meth c cX7_readOne 3 wsX7_readOne RX7 D cA ad (some .boolean) := ⟨B.exec, B.bytes, hml, findClass_of_methodNamed B.named, atoms_spec (ws := wsX7_readOne) B.pre, hK, B.notSynchronized, B.returns, hI, hN⟩
  have hl := lv_entry ([.ref (ad 27), .int a1]) (n := 3) (Nat.le_of_ble_eq_true rfl)
  rw [lg_entry_eq]
  generalize (lg_sl ([.ref (ad 27), .int a1]) ++ List.replicate (3 - (lg_sl ([.ref (ad 27), .int a1])).length) Slot.unset).toArray = ls at hl ⊢
  have hl : lv_has ls 3 [(0, .ref (ad 27)), (1, .int a1)] := hl
  have hS : va_S (AA ad) s.heap s.heap [] := va_S.rf
  have hF : Fr L_X7_readOne_d9 σ0 σ0 := Fr.rf
  have hFL : FrL LL_X7_readOne_d9 τ0 τ0 := FrL.rf
  have gCT := gCT0
  have gWH := gWH0
  obtain ⟨hx, hb, _, hown, hts, _, hk, hr, _, _⟩ := C
  have htk := gCT.tk
  refine lv_aload_n hx hb dX7_readOne_0 rfl (lv_at hl 0 rfl) ?_
  refine fg_7_0 (k := 27) hx hb hts in_X7_readOne_7 hown hK hP (by decide) (by decide) (hts _ lk_X7_readOne_9) dX7_readOne_1 ?_
  refine fgN_8_9 (k := 1) hx hb hts in_X7_readOne_8 hown hK hP (by decide) (by decide) (hN.use nw_7_32) dX7_readOne_4 ?_
  refine lv_istore_n (lv' := [(2, .int (σ0 1 9)), (0, .ref (ad 27)), (1, .int a1)]) hx hb dX7_readOne_7 rfl hl (by decide) rfl (fun ls hl => ?_)
  refine lv_iload_n hx hb dX7_readOne_8 rfl (lv_at hl 0 rfl) ?_
  refine r_cSi (As := [.int (σ0 1 9)]) (rest := []) ⟨hx, hb, hml, hown, hts⟩ hK hP hN hS (c_X7_beginsOne l D cA ad hI σ0 τ0 hR (σ0 1 9)) (va_cwS 1 hts gX7_readOne_X7_beginsOne rfl rfl rfl (by decide +kernel) ⟨by decide, by decide⟩) rfl hl.1 rfl (Nat.le_of_ble_eq_true rfl) dX7_readOne_9 (Nat.zero_le _) (Nat.zero_le _) (fun r1 u1 H1 locs1 hp1 hP hS => ?_)
  obtain ⟨σ1, τ1⟩ := u1
  obtain ⟨hR, f1, fL1, hq1, hp1_0⟩ : P_X7_beginsOne σ0 τ0 (σ0 1 9) r1 σ1 τ1 := hp1
  have hP : va_P D vwCl (gw cA ad σ1 τ1) H1 := hP
  obtain rfl := FrL.nil fL1
  obtain rfl := Fr.nil f1
  refine r_if_ne (tgt := 24) hx hb dX7_readOne_12 (by decide) (fun c2 => ?_) (fun c2 => ?_)
  · refine lv_aload_n hx hb dX7_readOne_24 rfl (lv_at hl 1 rfl) ?_
    refine fg_7_2 (k := 27) hx hb hts in_X7_readOne_7 hown hK hP (by decide) (by decide) (hts _ lk_X7_readOne_19) dX7_readOne_25 ?_
    refine fgN_6_1 (k := 24) hx hb hts in_X7_readOne_6 hown hK hP (by decide) (by decide) (hN.use nw_7_61) dX7_readOne_28 ?_
    refine r_bipush hx hb dX7_readOne_31 (by decide) (fun z3 ez3 => ?_)
    refine r_icmp_ge (tgt := 42) hx hb dX7_readOne_33 (by decide) (fun c4 => ?_) (fun c4 => ?_)
    · refine lv_aload_n hx hb dX7_readOne_42 rfl (lv_at hl 1 rfl) ?_
      refine fg_7_0 (k := 27) hx hb hts in_X7_readOne_7 hown hK hP (by decide) (by decide) (hts _ lk_X7_readOne_9) dX7_readOne_43 ?_
      refine r_iconst hx hb dX7_readOne_46 (by decide) (fun z5 ez5 => ?_)
      refine r_cVi (k := 1) (As := [.int z5]) (rest := []) ⟨hx, hb, hml, hown, hts⟩ hK hP hN hS (c_X8_blame_v l D cA ad hI σ0 τ0 hR z5 _ _ _ _ (by omega) gCT) (cwV 1 hts gX7_readOne_X8_blame rfl rfl rfl (by decide +kernel) ⟨by decide, by decide⟩) (rv_Tape hK hP (by decide) (by decide)) rfl hl.1 rfl (Nat.le_of_ble_eq_true rfl) dX7_readOne_47 (Nat.zero_le _) (Nat.zero_le _) (fun r6 u6 H6 locs6 hp6 hP hS => ?_)
      obtain ⟨σ6, τ6⟩ := u6
      obtain ⟨hR, f6, fL6, hq6, hp6_0, hp6_1, hp6_2, gnCT⟩ : P_X8_blame_v σ0 τ0 z5 _ _ _ _ r6 σ6 τ6 := hp6
      have hP : va_P D vwCl (gw cA ad σ6 τ6) H6 := hP
      obtain rfl := FrL.nil fL6
      have hF := hF.step f6 (by decide)
      have gCT := gCT.ag (Agr.fr f6 (by decide))
      have gWH := gWH.ag (Agr.fr f6 (by decide))
      have t7 : (σ6 24 1).toInt = (σ0 24 1).toInt := congrArg Int32.toInt (f6.at 24 1 (by decide))
      have t8 : (σ6 24 2).toInt = (σ0 24 2).toInt := congrArg Int32.toInt (f6.at 24 2 (by decide))
      exact r_zret hx hb hr hK hP hS hk (by omega) dX7_readOne_50 (show P_X7_readOne_d9 σ0 τ0 a1 b N mo q nn nm hc r6 σ6 τ0 from ⟨hR, hF, hFL, by omega, by first | exact RO.ofk (one_x (by omega)) (by omega) (by omega) (by omega) | exact RO.ofk (one_4 (by omega) (by omega)) (by omega) (by omega) (by omega), by omega, gWH⟩)
    · refine lv_iload_n hx hb dX7_readOne_36 rfl (lv_at hl 2 rfl) ?_
      refine r_bipush hx hb dX7_readOne_37 (by decide) (fun z9 ez9 => ?_)
      refine r_icmp_le (tgt := 51) hx hb dX7_readOne_39 (by decide) (fun c10 => ?_) (fun c10 => ?_)
      · exfalso; omega
      · refine lv_aload_n hx hb dX7_readOne_42 rfl (lv_at hl 1 rfl) ?_
        refine fg_7_0 (k := 27) hx hb hts in_X7_readOne_7 hown hK hP (by decide) (by decide) (hts _ lk_X7_readOne_9) dX7_readOne_43 ?_
        refine r_iconst hx hb dX7_readOne_46 (by decide) (fun z11 ez11 => ?_)
        refine r_cVi (k := 1) (As := [.int z11]) (rest := []) ⟨hx, hb, hml, hown, hts⟩ hK hP hN hS (c_X8_blame_v l D cA ad hI σ0 τ0 hR z11 _ _ _ _ (by omega) gCT) (cwV 1 hts gX7_readOne_X8_blame rfl rfl rfl (by decide +kernel) ⟨by decide, by decide⟩) (rv_Tape hK hP (by decide) (by decide)) rfl hl.1 rfl (Nat.le_of_ble_eq_true rfl) dX7_readOne_47 (Nat.zero_le _) (Nat.zero_le _) (fun r12 u12 H12 locs12 hp12 hP hS => ?_)
        obtain ⟨σ12, τ12⟩ := u12
        obtain ⟨hR, f12, fL12, hq12, hp12_0, hp12_1, hp12_2, gnCT⟩ : P_X8_blame_v σ0 τ0 z11 _ _ _ _ r12 σ12 τ12 := hp12
        have hP : va_P D vwCl (gw cA ad σ12 τ12) H12 := hP
        obtain rfl := FrL.nil fL12
        have hF := hF.step f12 (by decide)
        have gCT := gCT.ag (Agr.fr f12 (by decide))
        have gWH := gWH.ag (Agr.fr f12 (by decide))
        have t13 : (σ12 24 1).toInt = (σ0 24 1).toInt := congrArg Int32.toInt (f12.at 24 1 (by decide))
        have t14 : (σ12 24 2).toInt = (σ0 24 2).toInt := congrArg Int32.toInt (f12.at 24 2 (by decide))
        exact r_zret hx hb hr hK hP hS hk (by omega) dX7_readOne_50 (show P_X7_readOne_d9 σ0 τ0 a1 b N mo q nn nm hc r12 σ12 τ0 from ⟨hR, hF, hFL, by omega, by first | exact RO.ofk (one_x (by omega)) (by omega) (by omega) (by omega) | exact RO.ofk (one_4 (by omega) (by omega)) (by omega) (by omega) (by omega), by omega, gWH⟩)
  · refine lv_aload_n hx hb dX7_readOne_15 rfl (lv_at hl 1 rfl) ?_
    refine fg_7_0 (k := 27) hx hb hts in_X7_readOne_7 hown hK hP (by decide) (by decide) (hts _ lk_X7_readOne_9) dX7_readOne_16 ?_
    refine r_iconst hx hb dX7_readOne_19 (by decide) (fun z15 ez15 => ?_)
    refine r_cVi (k := 1) (As := [.int z15]) (rest := []) ⟨hx, hb, hml, hown, hts⟩ hK hP hN hS (c_X8_blame_v l D cA ad hI σ0 τ0 hR z15 _ _ _ _ (by omega) gCT) (cwV 1 hts gX7_readOne_X8_blame rfl rfl rfl (by decide +kernel) ⟨by decide, by decide⟩) (rv_Tape hK hP (by decide) (by decide)) rfl hl.1 rfl (Nat.le_of_ble_eq_true rfl) dX7_readOne_20 (Nat.zero_le _) (Nat.zero_le _) (fun r16 u16 H16 locs16 hp16 hP hS => ?_)
    obtain ⟨σ16, τ16⟩ := u16
    obtain ⟨hR, f16, fL16, hq16, hp16_0, hp16_1, hp16_2, gnCT⟩ : P_X8_blame_v σ0 τ0 z15 _ _ _ _ r16 σ16 τ16 := hp16
    have hP : va_P D vwCl (gw cA ad σ16 τ16) H16 := hP
    obtain rfl := FrL.nil fL16
    have hF := hF.step f16 (by decide)
    have gCT := gCT.ag (Agr.fr f16 (by decide))
    have gWH := gWH.ag (Agr.fr f16 (by decide))
    have t17 : (σ16 24 1).toInt = (σ0 24 1).toInt := congrArg Int32.toInt (f16.at 24 1 (by decide))
    have t18 : (σ16 24 2).toInt = (σ0 24 2).toInt := congrArg Int32.toInt (f16.at 24 2 (by decide))
    exact r_zret hx hb hr hK hP hS hk (by omega) dX7_readOne_23 (show P_X7_readOne_d9 σ0 τ0 a1 b N mo q nn nm hc r16 σ16 τ0 from ⟨hR, hF, hFL, by omega, by first | exact RO.ofk (one_x (by omega)) (by omega) (by omega) (by omega) | exact RO.ofk (one_4 (by omega) (by omega)) (by omega) (by omega) (by omega), by omega, gWH⟩)
abbrev L_X7_readAll_d9 : List Rc := [(1, 1, 13, 14)]
abbrev LL_X7_readAll_d9 : List Rc := []
def P_X7_readAll_d9 (σ0 : Nat → Nat → Int32) (τ0 : Nat → Nat → Int64) (a1 : Int32) (b : Nat → Int) (N : Nat) (mo : Nat) (q : Nat) (nn : Nat) (nm : Nat → Int) (hc : Nat) (r : Int32) (σ : Nat → Nat → Int32) (τ : Nat → Nat → Int64) : Prop := Rg σ ∧ Fr L_X7_readAll_d9 σ0 σ ∧ FrL LL_X7_readAll_d9 τ0 τ ∧ (0 ≤ r.toInt ∧ r.toInt ≤ 0) ∧ (RO r σ (allP b N mo (fun q nn => oneP b N mo nm hc 0 q nn) q nn) (fun s => CT σ τ b N mo s.1 ∧ (σ 24 1).toInt = (s.2 : Int) ∧ (σ 24 2).toInt + 2 * (nn : Int) + 1 ≤ (σ0 24 2).toInt + 2 * (s.2 : Int))) ∧ (r.toInt = 0 ∨ (σ 1 13).toInt = (σ0 1 13).toInt) ∧ WH σ τ nm hc
set_option maxHeartbeats 4000000 in
theorem c_X7_readAll_d9 (l : Launch) (D : va_G) (cA : Nat → ClassId) (ad : Nat → Nat) (hI : Inj ad) (σ0 : Nat → Nat → Int32) (τ0 : Nat → Nat → Int64) (hR : Rg σ0) (a1 : Int32) (b : Nat → Int) (N : Nat) (mo : Nat) (q : Nat) (nn : Nat) (nm : Nat → Int) (hc : Nat) (ha1 : 9 ≤ a1.toInt ∧ a1.toInt ≤ 9) (hpre0 : (σ0 24 1).toInt = (nn : Int)) (hpre1 : 0 ≤ (σ0 24 2).toInt ∧ (σ0 24 2).toInt ≤ 2 * (nn : Int)) (hpre2 : nn ≤ 20) (gCT0 : CT σ0 τ0 b N mo q) (gWH0 : WH σ0 τ0 nm hc) : Met l yX7_readAll wsX7_readAll ({ frames := 2, cells := 0, slots := 0, locals := 43 } : Room) (WQc D cA ad [.ref (ad 27), .int a1] σ0 τ0) (va_Qi (fun (r : Int32) (u : SS) => P_X7_readAll_d9 σ0 τ0 a1 b N mo q nn nm hc r u.1 u.2) (WB D cA ad) (AA ad)) 0 0 (AA ad) := by
  refine Met.ofW (cc := cX7_readAll) (maxL := 3) (ret := (some .boolean)) (by decide) rfl ?_
  intro p e s m args below meth c s₁ B hml hv
  obtain ⟨rfl, hP, hK, hN⟩ := hv
  have C : Cy p s m _ meth c cX7_readAll 3 wsX7_readAll RX7 D cA ad (some .boolean) := ⟨B.exec, B.bytes, hml, findClass_of_methodNamed B.named, atoms_spec (ws := wsX7_readAll) B.pre, hK, B.notSynchronized, B.returns, hI, hN⟩
  have hl := lv_entry ([.ref (ad 27), .int a1]) (n := 3) (Nat.le_of_ble_eq_true rfl)
  rw [lg_entry_eq]
  generalize (lg_sl ([.ref (ad 27), .int a1]) ++ List.replicate (3 - (lg_sl ([.ref (ad 27), .int a1])).length) Slot.unset).toArray = ls at hl ⊢
  have hl : lv_has ls 3 [(0, .ref (ad 27)), (1, .int a1)] := hl
  have hS : va_S (AA ad) s.heap s.heap [] := va_S.rf
  have hF : Fr L_X7_readAll_d9 σ0 σ0 := Fr.rf
  have hFL : FrL LL_X7_readAll_d9 τ0 τ0 := FrL.rf
  have gCT := gCT0
  have gWH := gWH0
  obtain ⟨hx, hb, _, hown, hts, _, hk, hr, _, _⟩ := C
  refine lv_aload_n hx hb dX7_readAll_0 rfl (lv_at hl 0 rfl) ?_
  refine lv_iload_n hx hb dX7_readAll_1 rfl (lv_at hl 1 rfl) ?_
  refine r_cVi (k := 27) (As := [.int a1]) (rest := []) ⟨hx, hb, hml, hown, hts⟩ hK hP hN hS (c_X7_readOne_d9 l D cA ad hI σ0 τ0 hR a1 b N mo q nn nm hc (by omega) (by omega) (by omega) (by omega) gCT gWH) (cwV 1 hts gX7_readAll_X7_readOne rfl rfl rfl (by decide +kernel) ⟨by decide, by decide⟩) (rv_SText hK hP (by decide) (by decide)) rfl hl.1 rfl (Nat.le_of_ble_eq_true rfl) dX7_readAll_2 (Nat.zero_le _) (Nat.zero_le _) (fun r1 u1 H1 locs1 hp1 hP hS => ?_)
  obtain ⟨σ1, τ1⟩ := u1
  obtain ⟨hR, f1, fL1, hq1, hp1_0, hp1_1, gnWH⟩ : P_X7_readOne_d9 σ0 τ0 a1 b N mo q nn nm hc r1 σ1 τ1 := hp1
  have o1 := hp1_0
  have hP : va_P D vwCl (gw cA ad σ1 τ1) H1 := hP
  obtain rfl := FrL.nil fL1
  have hF := hF.step f1 (by decide)
  have gCT := gCT.ag (Agr.fr f1 (by decide))
  have gWH := gWH.ag (Agr.fr f1 (by decide))
  have t2 : (σ1 24 1).toInt = (σ0 24 1).toInt := congrArg Int32.toInt (f1.at 24 1 (by decide))
  have t3 : (σ1 24 2).toInt = (σ0 24 2).toInt := congrArg Int32.toInt (f1.at 24 2 (by decide))
  refine r_if_ne (tgt := 10) hx hb dX7_readAll_5 (by decide) (fun c4 => ?_) (fun c4 => ?_)
  · exfalso; omega
  · clear hp1_1
    refine r_iconst hx hb dX7_readAll_8 (by decide) (fun z5 ez5 => ?_)
    exact r_zret hx hb hr hK hP hS hk (by omega) dX7_readAll_9 (show P_X7_readAll_d9 σ0 τ0 a1 b N mo q nn nm hc z5 σ1 τ0 from ⟨hR, hF, hFL, by omega, by first | (exfalso; omega) | (obtain ⟨f, e1, x1, x2⟩ := o1.no (by omega); exact RO.ofl (all_f e1) (by omega) x1 x2) | exact RO.ofr (by rw [iv, lop_e (by omega)]) (by omega) ⟨gCT, by omega, by omega⟩ | (obtain ⟨f, e2, x1, x2⟩ := o2.no (by omega); exact RO.ofl (by rw [iv, lop_f (f := (fun q nn => oneP b N mo nm hc 0 q nn)) (by omega) (by omega) e2]) (by omega) x1 x2) | (exfalso; omega), by omega, gWH⟩)
abbrev L_X7_readCond_d9 : List Rc := [(1, 1, 13, 14)]
abbrev LL_X7_readCond_d9 : List Rc := []
def P_X7_readCond_d9 (σ0 : Nat → Nat → Int32) (τ0 : Nat → Nat → Int64) (a1 : Int32) (b : Nat → Int) (N : Nat) (mo : Nat) (q : Nat) (nn : Nat) (nm : Nat → Int) (hc : Nat) (r : Int32) (σ : Nat → Nat → Int32) (τ : Nat → Nat → Int64) : Prop := Rg σ ∧ Fr L_X7_readCond_d9 σ0 σ ∧ FrL LL_X7_readCond_d9 τ0 τ ∧ (0 ≤ r.toInt ∧ r.toInt ≤ 0) ∧ (RO r σ (conP b N mo (fun q nn => oneP b N mo nm hc 0 q nn) q nn) (fun s => CT σ τ b N mo s.1 ∧ (σ 24 1).toInt = (s.2 : Int) ∧ (σ 24 2).toInt + 2 * (nn : Int) + 1 ≤ (σ0 24 2).toInt + 2 * (s.2 : Int))) ∧ (r.toInt = 0 ∨ (σ 1 13).toInt = (σ0 1 13).toInt) ∧ WH σ τ nm hc
set_option maxHeartbeats 4000000 in
theorem c_X7_readCond_d9 (l : Launch) (D : va_G) (cA : Nat → ClassId) (ad : Nat → Nat) (hI : Inj ad) (σ0 : Nat → Nat → Int32) (τ0 : Nat → Nat → Int64) (hR : Rg σ0) (a1 : Int32) (b : Nat → Int) (N : Nat) (mo : Nat) (q : Nat) (nn : Nat) (nm : Nat → Int) (hc : Nat) (ha1 : 9 ≤ a1.toInt ∧ a1.toInt ≤ 9) (hpre0 : (σ0 24 1).toInt = (nn : Int)) (hpre1 : 0 ≤ (σ0 24 2).toInt ∧ (σ0 24 2).toInt ≤ 2 * (nn : Int)) (hpre2 : nn ≤ 20) (gCT0 : CT σ0 τ0 b N mo q) (gWH0 : WH σ0 τ0 nm hc) : Met l yX7_readCond wsX7_readCond ({ frames := 3, cells := 0, slots := 0, locals := 65 } : Room) (WQc D cA ad [.ref (ad 27), .int a1] σ0 τ0) (va_Qi (fun (r : Int32) (u : SS) => P_X7_readCond_d9 σ0 τ0 a1 b N mo q nn nm hc r u.1 u.2) (WB D cA ad) (AA ad)) 0 0 (AA ad) := by
  refine Met.ofW (cc := cX7_readCond) (maxL := 3) (ret := (some .boolean)) (by decide) rfl ?_
  intro p e s m args below meth c s₁ B hml hv
  obtain ⟨rfl, hP, hK, hN⟩ := hv
  have C : Cy p s m _ meth c cX7_readCond 3 wsX7_readCond RX7 D cA ad (some .boolean) := ⟨B.exec, B.bytes, hml, findClass_of_methodNamed B.named, atoms_spec (ws := wsX7_readCond) B.pre, hK, B.notSynchronized, B.returns, hI, hN⟩
  have hl := lv_entry ([.ref (ad 27), .int a1]) (n := 3) (Nat.le_of_ble_eq_true rfl)
  rw [lg_entry_eq]
  generalize (lg_sl ([.ref (ad 27), .int a1]) ++ List.replicate (3 - (lg_sl ([.ref (ad 27), .int a1])).length) Slot.unset).toArray = ls at hl ⊢
  have hl : lv_has ls 3 [(0, .ref (ad 27)), (1, .int a1)] := hl
  have hS : va_S (AA ad) s.heap s.heap [] := va_S.rf
  have hF : Fr L_X7_readCond_d9 σ0 σ0 := Fr.rf
  have hFL : FrL LL_X7_readCond_d9 τ0 τ0 := FrL.rf
  have gCT := gCT0
  have gWH := gWH0
  obtain ⟨hx, hb, _, hown, hts, _, hk, hr, _, _⟩ := C
  refine lv_aload_n hx hb dX7_readCond_0 rfl (lv_at hl 0 rfl) ?_
  refine lv_iload_n hx hb dX7_readCond_1 rfl (lv_at hl 1 rfl) ?_
  refine r_cVi (k := 27) (As := [.int a1]) (rest := []) ⟨hx, hb, hml, hown, hts⟩ hK hP hN hS (c_X7_readAll_d9 l D cA ad hI σ0 τ0 hR a1 b N mo q nn nm hc (by omega) (by omega) (by omega) (by omega) gCT gWH) (cwV 1 hts gX7_readCond_X7_readAll rfl rfl rfl (by decide +kernel) ⟨by decide, by decide⟩) (rv_SText hK hP (by decide) (by decide)) rfl hl.1 rfl (Nat.le_of_ble_eq_true rfl) dX7_readCond_2 (Nat.zero_le _) (Nat.zero_le _) (fun r1 u1 H1 locs1 hp1 hP hS => ?_)
  obtain ⟨σ1, τ1⟩ := u1
  obtain ⟨hR, f1, fL1, hq1, hp1_0, hp1_1, gnWH⟩ : P_X7_readAll_d9 σ0 τ0 a1 b N mo q nn nm hc r1 σ1 τ1 := hp1
  have o1 := hp1_0
  have hP : va_P D vwCl (gw cA ad σ1 τ1) H1 := hP
  obtain rfl := FrL.nil fL1
  have hF := hF.step f1 (by decide)
  have gCT := gCT.ag (Agr.fr f1 (by decide))
  have gWH := gWH.ag (Agr.fr f1 (by decide))
  have t2 : (σ1 24 1).toInt = (σ0 24 1).toInt := congrArg Int32.toInt (f1.at 24 1 (by decide))
  have t3 : (σ1 24 2).toInt = (σ0 24 2).toInt := congrArg Int32.toInt (f1.at 24 2 (by decide))
  refine r_if_ne (tgt := 10) hx hb dX7_readCond_5 (by decide) (fun c4 => ?_) (fun c4 => ?_)
  · exfalso; omega
  · clear hp1_1
    refine r_iconst hx hb dX7_readCond_8 (by decide) (fun z5 ez5 => ?_)
    exact r_zret hx hb hr hK hP hS hk (by omega) dX7_readCond_9 (show P_X7_readCond_d9 σ0 τ0 a1 b N mo q nn nm hc z5 σ1 τ0 from ⟨hR, hF, hFL, by omega, by first | (exfalso; omega) | (obtain ⟨f, e1, x1, x2⟩ := o1.no (by omega); exact RO.ofl (con_f e1) (by omega) x1 x2) | exact RO.ofr (by rw [iv, lop_e (by omega)]) (by omega) ⟨gCT, by omega, by omega⟩ | (obtain ⟨f, e2, x1, x2⟩ := o2.no (by omega); exact RO.ofl (by rw [iv, lop_f (f := (allP b N mo (fun q nn => oneP b N mo nm hc 0 q nn))) (by omega) (by omega) e2]) (by omega) x1 x2) | (exfalso; omega), by omega, gWH⟩)
theorem in_X7_readMeasure_7 : ∀ w ∈ u_ws RX7 TX7 3, w ∈ wsX7_readMeasure := by decide +kernel
theorem in_X7_readMeasure_8 : ∀ w ∈ u_ws RX8 TX8 15, w ∈ wsX7_readMeasure := by decide +kernel
theorem lk_X7_readMeasure_19 : Cond.fieldLink RX7 19 "CuckooShares$SentenceText" "into" "LCuckooShares$Sentence;" ∈ wsX7_readMeasure := by decide +kernel
theorem lk_X7_readMeasure_9 : Cond.fieldLink RX7 9 "CuckooShares$SentenceText" "tape" "LCuckooShares$Tape;" ∈ wsX7_readMeasure := by decide +kernel
abbrev L_X7_readMeasure : List Rc := [(1, 1, 7, 10), (1, 1, 12, 14), (372, 372, 0, 39), (376, 376, 0, 39), (380, 380, 0, 39), (24, 24, 2, 2)]
abbrev LL_X7_readMeasure : List Rc := [(1, 1, 11, 11)]
def P_X7_readMeasure (σ0 : Nat → Nat → Int32) (τ0 : Nat → Nat → Int64) (a1 : Int32) (b : Nat → Int) (N : Nat) (mo : Nat) (q : Nat) (nn : Nat) (nm : Nat → Int) (hc : Nat) (kk : Int) (r : Int32) (σ : Nat → Nat → Int32) (τ : Nat → Nat → Int64) : Prop := Rg σ ∧ Fr L_X7_readMeasure σ0 σ ∧ FrL LL_X7_readMeasure τ0 τ ∧ (0 ≤ r.toInt ∧ r.toInt ≤ 1) ∧ (RO r σ (leaP b N mo nm hc kk q nn) (fun s => CT σ τ b N mo s.1 ∧ (σ 24 1).toInt = (s.2 : Int) ∧ (σ 24 2).toInt = (σ0 24 2).toInt + 1)) ∧ (r.toInt = 0 ∨ (σ 1 13).toInt = (σ0 1 13).toInt) ∧ WH σ τ nm hc
set_option maxHeartbeats 4000000 in
theorem c_X7_readMeasure (l : Launch) (D : va_G) (cA : Nat → ClassId) (ad : Nat → Nat) (hI : Inj ad) (σ0 : Nat → Nat → Int32) (τ0 : Nat → Nat → Int64) (hR : Rg σ0) (a1 : Int32) (b : Nat → Int) (N : Nat) (mo : Nat) (q : Nat) (nn : Nat) (nm : Nat → Int) (hc : Nat) (kk : Int) (ha1 : 27 ≤ a1.toInt ∧ a1.toInt ≤ 30) (hpre0 : 27 ≤ kk ∧ kk ≤ 30) (hpre1 : (σ0 24 1).toInt = (nn : Int) ∧ nn ≤ 20) (hpre2 : 0 ≤ (σ0 24 2).toInt ∧ (σ0 24 2).toInt ≤ 38) (gCT0 : CT σ0 τ0 b N mo q) (gWH0 : WH σ0 τ0 nm hc) : Met l yX7_readMeasure wsX7_readMeasure ({ frames := 2, cells := 0, slots := 0, locals := 43 } : Room) (WQc D cA ad [.ref (ad 27), .int a1] σ0 τ0) (va_Qi (fun (r : Int32) (u : SS) => P_X7_readMeasure σ0 τ0 a1 b N mo q nn nm hc kk r u.1 u.2) (WB D cA ad) (AA ad)) 0 0 (AA ad) := by
  refine Met.ofW (cc := cX7_readMeasure) (maxL := 3) (ret := (some .boolean)) (by decide) rfl ?_
  intro p e s m args below meth c s₁ B hml hv
  obtain ⟨rfl, hP, hK, hN⟩ := hv
  have C : Cy p s m _ meth c cX7_readMeasure 3 wsX7_readMeasure RX7 D cA ad (some .boolean) := ⟨B.exec, B.bytes, hml, findClass_of_methodNamed B.named, atoms_spec (ws := wsX7_readMeasure) B.pre, hK, B.notSynchronized, B.returns, hI, hN⟩
  have hl := lv_entry ([.ref (ad 27), .int a1]) (n := 3) (Nat.le_of_ble_eq_true rfl)
  rw [lg_entry_eq]
  generalize (lg_sl ([.ref (ad 27), .int a1]) ++ List.replicate (3 - (lg_sl ([.ref (ad 27), .int a1])).length) Slot.unset).toArray = ls at hl ⊢
  have hl : lv_has ls 3 [(0, .ref (ad 27)), (1, .int a1)] := hl
  have hS : va_S (AA ad) s.heap s.heap [] := va_S.rf
  have hF : Fr L_X7_readMeasure σ0 σ0 := Fr.rf
  have hFL : FrL LL_X7_readMeasure τ0 τ0 := FrL.rf
  have gCT := gCT0
  have gWH := gWH0
  obtain ⟨hx, hb, _, hown, hts, _, hk, hr, _, _⟩ := C
  have htk := gCT.tk
  refine lv_aload_n hx hb dX7_readMeasure_0 rfl (lv_at hl 0 rfl) ?_
  refine fg_7_0 (k := 27) hx hb hts in_X7_readMeasure_7 hown hK hP (by decide) (by decide) (hts _ lk_X7_readMeasure_9) dX7_readMeasure_1 ?_
  refine fgN_8_9 (k := 1) hx hb hts in_X7_readMeasure_8 hown hK hP (by decide) (by decide) (hN.use nw_7_32) dX7_readMeasure_4 ?_
  refine lv_istore_n (lv' := [(2, .int (σ0 1 9)), (0, .ref (ad 27)), (1, .int a1)]) hx hb dX7_readMeasure_7 rfl hl (by decide) rfl (fun ls hl => ?_)
  refine lv_iload_n hx hb dX7_readMeasure_8 rfl (lv_at hl 0 rfl) ?_
  refine r_bipush hx hb dX7_readMeasure_9 (by decide) (fun z1 ez1 => ?_)
  refine r_icmp_eq (tgt := 35) hx hb dX7_readMeasure_11 (by decide) (fun c2 => ?_) (fun c2 => ?_)
  · refine lv_aload_n hx hb dX7_readMeasure_35 rfl (lv_at hl 1 rfl) ?_
    refine fg_7_0 (k := 27) hx hb hts in_X7_readMeasure_7 hown hK hP (by decide) (by decide) (hts _ lk_X7_readMeasure_9) dX7_readMeasure_36 ?_
    refine r_cVv (k := 1) (As := []) (rest := []) ⟨hx, hb, hml, hown, hts⟩ hK hP hN hS (c_X8_next_v l D cA ad hI σ0 τ0 hR _ _ _ _ gCT) (cwV 0 hts gX7_readMeasure_X8_next rfl rfl rfl (by decide +kernel) ⟨by decide, by decide⟩) (rv_Tape hK hP (by decide) (by decide)) rfl hl.1 rfl (Nat.le_of_ble_eq_true rfl) dX7_readMeasure_39 (Nat.zero_le _) (Nat.zero_le _) (fun u3 H3 locs3 hp3 hP hS => ?_)
    obtain ⟨σ3, τ3⟩ := u3
    obtain ⟨hR, f3, fL3, hp3_0⟩ : P_X8_next_v σ0 τ0 _ _ _ _ σ3 τ3 := hp3
    have hP : va_P D vwCl (gw cA ad σ3 τ3) H3 := hP
    have hFL := hFL.step fL3 (by decide)
    have gWH := gWH.agL (AgrL.fr fL3 (by decide))
    have hF := hF.step f3 (by decide)
    have gWH := gWH.ag (Agr.fr f3 (by decide))
    have t4 : (σ3 24 1).toInt = (σ0 24 1).toInt := congrArg Int32.toInt (f3.at 24 1 (by decide))
    have t5 : (σ3 24 2).toInt = (σ0 24 2).toInt := congrArg Int32.toInt (f3.at 24 2 (by decide))
    have t6 : (σ3 1 13).toInt = (σ0 1 13).toInt := congrArg Int32.toInt (f3.at 1 13 (by decide))
    have gCT := hp3_0
    refine lv_aload_n hx hb dX7_readMeasure_42 rfl (lv_at hl 1 rfl) ?_
    refine fg_7_0 (k := 27) hx hb hts in_X7_readMeasure_7 hown hK hP (by decide) (by decide) (hts _ lk_X7_readMeasure_9) dX7_readMeasure_43 ?_
    refine r_iconst hx hb dX7_readMeasure_46 (by decide) (fun z7 ez7 => ?_)
    refine r_sipush hx hb dX7_readMeasure_47 (by decide) (fun z8 ez8 => ?_)
    refine r_cVi (k := 1) (As := [.int z7, .int z8]) (rest := []) ⟨hx, hb, hml, hown, hts⟩ hK hP hN hS (c_X8_takeNumber_v l D cA ad hI σ3 τ3 hR z7 z8 b N mo _ 0 999 (by omega) (by omega) (by omega) (by omega) gCT) (cwV 2 hts gX7_readMeasure_X8_takeNumber rfl rfl rfl (by decide +kernel) ⟨by decide, by decide⟩) (rv_Tape hK hP (by decide) (by decide)) rfl hl.1 rfl (Nat.le_of_ble_eq_true rfl) dX7_readMeasure_50 (Nat.zero_le _) (Nat.zero_le _) (fun r9 u9 H9 locs9 hp9 hP hS => ?_)
    obtain ⟨σ9, τ9⟩ := u9
    obtain ⟨hR, f9, fL9, hq9, hp9_0, hp9_1⟩ : P_X8_takeNumber_v σ3 τ3 z7 z8 b N mo _ 0 999 r9 σ9 τ9 := hp9
    have o1 := hp9_0
    have hP : va_P D vwCl (gw cA ad σ9 τ9) H9 := hP
    have hFL := hFL.step fL9 (by decide)
    have gWH := gWH.agL (AgrL.fr fL9 (by decide))
    have hF := hF.step f9 (by decide)
    have gWH := gWH.ag (Agr.fr f9 (by decide))
    have t10 : (σ9 24 1).toInt = (σ3 24 1).toInt := congrArg Int32.toInt (f9.at 24 1 (by decide))
    have t11 : (σ9 24 2).toInt = (σ3 24 2).toInt := congrArg Int32.toInt (f9.at 24 2 (by decide))
    refine r_if_eq (tgt := 79) hx hb dX7_readMeasure_53 (by decide) (fun c12 => ?_) (fun c12 => ?_)
    · clear hp9_1
      refine r_iconst hx hb dX7_readMeasure_79 (by decide) (fun z13 ez13 => ?_)
      exact r_zret hx hb hr hK hP hS hk (by omega) dX7_readMeasure_80 (show P_X7_readMeasure σ0 τ0 a1 b N mo q nn nm hc kk z13 σ9 τ9 from ⟨hR, hF, hFL, by omega, by first | exact RO.ofk (by unfold leaP; rw [if_neg (by omega), if_pos (by omega), if_pos (by omega)]) (by omega) (by omega) (by omega) | (obtain ⟨f, e1, x1, x2⟩ := o1.no (by omega); exact RO.ofl (by unfold leaP; rw [if_neg (by omega), if_pos (by omega), if_neg (by omega), e1, bnd_l]) (by omega) x1 x2) | exact RO.ofr (by unfold leaP; rw [if_neg (by omega), if_pos (by omega), if_neg (by omega), e1, bnd_r]) (by omega) ⟨gCT, by omega, by omega⟩ | (exfalso; omega), by omega, gWH⟩)
    · replace hp9_1 := hp9_1.resolve_left (by omega)
      obtain ⟨y, e1, gCT, _⟩ := o1.ye (by omega)
      refine lv_aload_n hx hb dX7_readMeasure_56 rfl (lv_at hl 1 rfl) ?_
      refine fg_7_2 (k := 27) hx hb hts in_X7_readMeasure_7 hown hK hP (by decide) (by decide) (hts _ lk_X7_readMeasure_19) dX7_readMeasure_57 ?_
      refine lv_iload_n hx hb dX7_readMeasure_60 rfl (lv_at hl 2 rfl) ?_
      refine lv_iload_n hx hb dX7_readMeasure_61 rfl (lv_at hl 0 rfl) ?_
      refine lv_aload_n hx hb dX7_readMeasure_62 rfl (lv_at hl 1 rfl) ?_
      refine fg_7_0 (k := 27) hx hb hts in_X7_readMeasure_7 hown hK hP (by decide) (by decide) (hts _ lk_X7_readMeasure_9) dX7_readMeasure_63 ?_
      refine fgN_8_12 (k := 1) hx hb hts in_X7_readMeasure_8 hown hK hP (by decide) (by decide) (hN.use nw_7_82) dX7_readMeasure_66 ?_
      refine r_cVi (k := 24) (As := [.int a1, .int (σ0 1 9), .int (σ9 1 12)]) (rest := []) ⟨hx, hb, hml, hown, hts⟩ hK hP hN hS (c_X6_add l D cA ad hI σ9 τ9 hR a1 (σ0 1 9) (σ9 1 12) (by omega)) (cwV 3 hts gX7_readMeasure_X6_add rfl rfl rfl (by decide +kernel) ⟨by decide, by decide⟩) (rv_Sent hK hP (by decide) (by decide)) rfl hl.1 rfl (Nat.le_of_ble_eq_true rfl) dX7_readMeasure_69 (Nat.zero_le _) (Nat.zero_le _) (fun r14 u14 H14 locs14 hp14 hP hS => ?_)
      obtain ⟨σ14, τ14⟩ := u14
      obtain ⟨hR, f14, fL14, hq14, hp14_0⟩ : P_X6_add σ9 τ9 a1 (σ0 1 9) (σ9 1 12) r14 σ14 τ14 := hp14
      have hP : va_P D vwCl (gw cA ad σ14 τ14) H14 := hP
      obtain rfl := FrL.nil fL14
      have hF := hF.step f14 (by decide)
      have gCT := gCT.ag (Agr.fr f14 (by decide))
      have gWH := gWH.ag (Agr.fr f14 (by decide))
      have t15 : (σ14 24 1).toInt = (σ9 24 1).toInt := congrArg Int32.toInt (f14.at 24 1 (by decide))
      have t16 : (σ14 1 13).toInt = (σ9 1 13).toInt := congrArg Int32.toInt (f14.at 1 13 (by decide))
      have hr17 := rg_6_2 hR (k := 24) (by decide) (by decide)
      refine r_if_eq (tgt := 79) hx hb dX7_readMeasure_72 (by decide) (fun c18 => ?_) (fun c18 => ?_)
      · refine r_iconst hx hb dX7_readMeasure_79 (by decide) (fun z19 ez19 => ?_)
        exact r_zret hx hb hr hK hP hS hk (by omega) dX7_readMeasure_80 (show P_X7_readMeasure σ0 τ0 a1 b N mo q nn nm hc kk z19 σ14 τ9 from ⟨hR, hF, hFL, by omega, by first | exact RO.ofk (by unfold leaP; rw [if_neg (by omega), if_pos (by omega), if_pos (by omega)]) (by omega) (by omega) (by omega) | (obtain ⟨f, e1, x1, x2⟩ := o1.no (by omega); exact RO.ofl (by unfold leaP; rw [if_neg (by omega), if_pos (by omega), if_neg (by omega), e1, bnd_l]) (by omega) x1 x2) | exact RO.ofr (by unfold leaP; rw [if_neg (by omega), if_pos (by omega), if_neg (by omega), e1, bnd_r]) (by omega) ⟨gCT, by omega, by omega⟩ | (exfalso; omega), by omega, gWH⟩)
      · refine r_iconst hx hb dX7_readMeasure_75 (by decide) (fun z20 ez20 => ?_)
        refine lv_goto (tgt := 80) hx hb dX7_readMeasure_76 (by decide) ?_
        exact r_zret hx hb hr hK hP hS hk (by omega) dX7_readMeasure_80 (show P_X7_readMeasure σ0 τ0 a1 b N mo q nn nm hc kk z20 σ14 τ9 from ⟨hR, hF, hFL, by omega, by first | exact RO.ofk (by unfold leaP; rw [if_neg (by omega), if_pos (by omega), if_pos (by omega)]) (by omega) (by omega) (by omega) | (obtain ⟨f, e1, x1, x2⟩ := o1.no (by omega); exact RO.ofl (by unfold leaP; rw [if_neg (by omega), if_pos (by omega), if_neg (by omega), e1, bnd_l]) (by omega) x1 x2) | exact RO.ofr (by unfold leaP; rw [if_neg (by omega), if_pos (by omega), if_neg (by omega), e1, bnd_r]) (by omega) ⟨gCT, by omega, by omega⟩ | (exfalso; omega), by omega, gWH⟩)
  · refine lv_iload_n hx hb dX7_readMeasure_14 rfl (lv_at hl 0 rfl) ?_
    refine r_bipush hx hb dX7_readMeasure_15 (by decide) (fun z21 ez21 => ?_)
    refine r_icmp_eq (tgt := 35) hx hb dX7_readMeasure_17 (by decide) (fun c22 => ?_) (fun c22 => ?_)
    · refine lv_aload_n hx hb dX7_readMeasure_35 rfl (lv_at hl 1 rfl) ?_
      refine fg_7_0 (k := 27) hx hb hts in_X7_readMeasure_7 hown hK hP (by decide) (by decide) (hts _ lk_X7_readMeasure_9) dX7_readMeasure_36 ?_
      refine r_cVv (k := 1) (As := []) (rest := []) ⟨hx, hb, hml, hown, hts⟩ hK hP hN hS (c_X8_next_v l D cA ad hI σ0 τ0 hR _ _ _ _ gCT) (cwV 0 hts gX7_readMeasure_X8_next rfl rfl rfl (by decide +kernel) ⟨by decide, by decide⟩) (rv_Tape hK hP (by decide) (by decide)) rfl hl.1 rfl (Nat.le_of_ble_eq_true rfl) dX7_readMeasure_39 (Nat.zero_le _) (Nat.zero_le _) (fun u23 H23 locs23 hp23 hP hS => ?_)
      obtain ⟨σ23, τ23⟩ := u23
      obtain ⟨hR, f23, fL23, hp23_0⟩ : P_X8_next_v σ0 τ0 _ _ _ _ σ23 τ23 := hp23
      have hP : va_P D vwCl (gw cA ad σ23 τ23) H23 := hP
      have hFL := hFL.step fL23 (by decide)
      have gWH := gWH.agL (AgrL.fr fL23 (by decide))
      have hF := hF.step f23 (by decide)
      have gWH := gWH.ag (Agr.fr f23 (by decide))
      have t24 : (σ23 24 1).toInt = (σ0 24 1).toInt := congrArg Int32.toInt (f23.at 24 1 (by decide))
      have t25 : (σ23 24 2).toInt = (σ0 24 2).toInt := congrArg Int32.toInt (f23.at 24 2 (by decide))
      have t26 : (σ23 1 13).toInt = (σ0 1 13).toInt := congrArg Int32.toInt (f23.at 1 13 (by decide))
      have gCT := hp23_0
      refine lv_aload_n hx hb dX7_readMeasure_42 rfl (lv_at hl 1 rfl) ?_
      refine fg_7_0 (k := 27) hx hb hts in_X7_readMeasure_7 hown hK hP (by decide) (by decide) (hts _ lk_X7_readMeasure_9) dX7_readMeasure_43 ?_
      refine r_iconst hx hb dX7_readMeasure_46 (by decide) (fun z27 ez27 => ?_)
      refine r_sipush hx hb dX7_readMeasure_47 (by decide) (fun z28 ez28 => ?_)
      refine r_cVi (k := 1) (As := [.int z27, .int z28]) (rest := []) ⟨hx, hb, hml, hown, hts⟩ hK hP hN hS (c_X8_takeNumber_v l D cA ad hI σ23 τ23 hR z27 z28 b N mo _ 0 999 (by omega) (by omega) (by omega) (by omega) gCT) (cwV 2 hts gX7_readMeasure_X8_takeNumber rfl rfl rfl (by decide +kernel) ⟨by decide, by decide⟩) (rv_Tape hK hP (by decide) (by decide)) rfl hl.1 rfl (Nat.le_of_ble_eq_true rfl) dX7_readMeasure_50 (Nat.zero_le _) (Nat.zero_le _) (fun r29 u29 H29 locs29 hp29 hP hS => ?_)
      obtain ⟨σ29, τ29⟩ := u29
      obtain ⟨hR, f29, fL29, hq29, hp29_0, hp29_1⟩ : P_X8_takeNumber_v σ23 τ23 z27 z28 b N mo _ 0 999 r29 σ29 τ29 := hp29
      have o1 := hp29_0
      have hP : va_P D vwCl (gw cA ad σ29 τ29) H29 := hP
      have hFL := hFL.step fL29 (by decide)
      have gWH := gWH.agL (AgrL.fr fL29 (by decide))
      have hF := hF.step f29 (by decide)
      have gWH := gWH.ag (Agr.fr f29 (by decide))
      have t30 : (σ29 24 1).toInt = (σ23 24 1).toInt := congrArg Int32.toInt (f29.at 24 1 (by decide))
      have t31 : (σ29 24 2).toInt = (σ23 24 2).toInt := congrArg Int32.toInt (f29.at 24 2 (by decide))
      refine r_if_eq (tgt := 79) hx hb dX7_readMeasure_53 (by decide) (fun c32 => ?_) (fun c32 => ?_)
      · clear hp29_1
        refine r_iconst hx hb dX7_readMeasure_79 (by decide) (fun z33 ez33 => ?_)
        exact r_zret hx hb hr hK hP hS hk (by omega) dX7_readMeasure_80 (show P_X7_readMeasure σ0 τ0 a1 b N mo q nn nm hc kk z33 σ29 τ29 from ⟨hR, hF, hFL, by omega, by first | exact RO.ofk (by unfold leaP; rw [if_neg (by omega), if_pos (by omega), if_pos (by omega)]) (by omega) (by omega) (by omega) | (obtain ⟨f, e1, x1, x2⟩ := o1.no (by omega); exact RO.ofl (by unfold leaP; rw [if_neg (by omega), if_pos (by omega), if_neg (by omega), e1, bnd_l]) (by omega) x1 x2) | exact RO.ofr (by unfold leaP; rw [if_neg (by omega), if_pos (by omega), if_neg (by omega), e1, bnd_r]) (by omega) ⟨gCT, by omega, by omega⟩ | (exfalso; omega), by omega, gWH⟩)
      · replace hp29_1 := hp29_1.resolve_left (by omega)
        obtain ⟨y, e1, gCT, _⟩ := o1.ye (by omega)
        refine lv_aload_n hx hb dX7_readMeasure_56 rfl (lv_at hl 1 rfl) ?_
        refine fg_7_2 (k := 27) hx hb hts in_X7_readMeasure_7 hown hK hP (by decide) (by decide) (hts _ lk_X7_readMeasure_19) dX7_readMeasure_57 ?_
        refine lv_iload_n hx hb dX7_readMeasure_60 rfl (lv_at hl 2 rfl) ?_
        refine lv_iload_n hx hb dX7_readMeasure_61 rfl (lv_at hl 0 rfl) ?_
        refine lv_aload_n hx hb dX7_readMeasure_62 rfl (lv_at hl 1 rfl) ?_
        refine fg_7_0 (k := 27) hx hb hts in_X7_readMeasure_7 hown hK hP (by decide) (by decide) (hts _ lk_X7_readMeasure_9) dX7_readMeasure_63 ?_
        refine fgN_8_12 (k := 1) hx hb hts in_X7_readMeasure_8 hown hK hP (by decide) (by decide) (hN.use nw_7_82) dX7_readMeasure_66 ?_
        refine r_cVi (k := 24) (As := [.int a1, .int (σ0 1 9), .int (σ29 1 12)]) (rest := []) ⟨hx, hb, hml, hown, hts⟩ hK hP hN hS (c_X6_add l D cA ad hI σ29 τ29 hR a1 (σ0 1 9) (σ29 1 12) (by omega)) (cwV 3 hts gX7_readMeasure_X6_add rfl rfl rfl (by decide +kernel) ⟨by decide, by decide⟩) (rv_Sent hK hP (by decide) (by decide)) rfl hl.1 rfl (Nat.le_of_ble_eq_true rfl) dX7_readMeasure_69 (Nat.zero_le _) (Nat.zero_le _) (fun r34 u34 H34 locs34 hp34 hP hS => ?_)
        obtain ⟨σ34, τ34⟩ := u34
        obtain ⟨hR, f34, fL34, hq34, hp34_0⟩ : P_X6_add σ29 τ29 a1 (σ0 1 9) (σ29 1 12) r34 σ34 τ34 := hp34
        have hP : va_P D vwCl (gw cA ad σ34 τ34) H34 := hP
        obtain rfl := FrL.nil fL34
        have hF := hF.step f34 (by decide)
        have gCT := gCT.ag (Agr.fr f34 (by decide))
        have gWH := gWH.ag (Agr.fr f34 (by decide))
        have t35 : (σ34 24 1).toInt = (σ29 24 1).toInt := congrArg Int32.toInt (f34.at 24 1 (by decide))
        have t36 : (σ34 1 13).toInt = (σ29 1 13).toInt := congrArg Int32.toInt (f34.at 1 13 (by decide))
        have hr37 := rg_6_2 hR (k := 24) (by decide) (by decide)
        refine r_if_eq (tgt := 79) hx hb dX7_readMeasure_72 (by decide) (fun c38 => ?_) (fun c38 => ?_)
        · refine r_iconst hx hb dX7_readMeasure_79 (by decide) (fun z39 ez39 => ?_)
          exact r_zret hx hb hr hK hP hS hk (by omega) dX7_readMeasure_80 (show P_X7_readMeasure σ0 τ0 a1 b N mo q nn nm hc kk z39 σ34 τ29 from ⟨hR, hF, hFL, by omega, by first | exact RO.ofk (by unfold leaP; rw [if_neg (by omega), if_pos (by omega), if_pos (by omega)]) (by omega) (by omega) (by omega) | (obtain ⟨f, e1, x1, x2⟩ := o1.no (by omega); exact RO.ofl (by unfold leaP; rw [if_neg (by omega), if_pos (by omega), if_neg (by omega), e1, bnd_l]) (by omega) x1 x2) | exact RO.ofr (by unfold leaP; rw [if_neg (by omega), if_pos (by omega), if_neg (by omega), e1, bnd_r]) (by omega) ⟨gCT, by omega, by omega⟩ | (exfalso; omega), by omega, gWH⟩)
        · refine r_iconst hx hb dX7_readMeasure_75 (by decide) (fun z40 ez40 => ?_)
          refine lv_goto (tgt := 80) hx hb dX7_readMeasure_76 (by decide) ?_
          exact r_zret hx hb hr hK hP hS hk (by omega) dX7_readMeasure_80 (show P_X7_readMeasure σ0 τ0 a1 b N mo q nn nm hc kk z40 σ34 τ29 from ⟨hR, hF, hFL, by omega, by first | exact RO.ofk (by unfold leaP; rw [if_neg (by omega), if_pos (by omega), if_pos (by omega)]) (by omega) (by omega) (by omega) | (obtain ⟨f, e1, x1, x2⟩ := o1.no (by omega); exact RO.ofl (by unfold leaP; rw [if_neg (by omega), if_pos (by omega), if_neg (by omega), e1, bnd_l]) (by omega) x1 x2) | exact RO.ofr (by unfold leaP; rw [if_neg (by omega), if_pos (by omega), if_neg (by omega), e1, bnd_r]) (by omega) ⟨gCT, by omega, by omega⟩ | (exfalso; omega), by omega, gWH⟩)
    · refine lv_iload_n hx hb dX7_readMeasure_20 rfl (lv_at hl 0 rfl) ?_
      refine r_bipush hx hb dX7_readMeasure_21 (by decide) (fun z41 ez41 => ?_)
      refine r_icmp_eq (tgt := 35) hx hb dX7_readMeasure_23 (by decide) (fun c42 => ?_) (fun c42 => ?_)
      · refine lv_aload_n hx hb dX7_readMeasure_35 rfl (lv_at hl 1 rfl) ?_
        refine fg_7_0 (k := 27) hx hb hts in_X7_readMeasure_7 hown hK hP (by decide) (by decide) (hts _ lk_X7_readMeasure_9) dX7_readMeasure_36 ?_
        refine r_cVv (k := 1) (As := []) (rest := []) ⟨hx, hb, hml, hown, hts⟩ hK hP hN hS (c_X8_next_v l D cA ad hI σ0 τ0 hR _ _ _ _ gCT) (cwV 0 hts gX7_readMeasure_X8_next rfl rfl rfl (by decide +kernel) ⟨by decide, by decide⟩) (rv_Tape hK hP (by decide) (by decide)) rfl hl.1 rfl (Nat.le_of_ble_eq_true rfl) dX7_readMeasure_39 (Nat.zero_le _) (Nat.zero_le _) (fun u43 H43 locs43 hp43 hP hS => ?_)
        obtain ⟨σ43, τ43⟩ := u43
        obtain ⟨hR, f43, fL43, hp43_0⟩ : P_X8_next_v σ0 τ0 _ _ _ _ σ43 τ43 := hp43
        have hP : va_P D vwCl (gw cA ad σ43 τ43) H43 := hP
        have hFL := hFL.step fL43 (by decide)
        have gWH := gWH.agL (AgrL.fr fL43 (by decide))
        have hF := hF.step f43 (by decide)
        have gWH := gWH.ag (Agr.fr f43 (by decide))
        have t44 : (σ43 24 1).toInt = (σ0 24 1).toInt := congrArg Int32.toInt (f43.at 24 1 (by decide))
        have t45 : (σ43 24 2).toInt = (σ0 24 2).toInt := congrArg Int32.toInt (f43.at 24 2 (by decide))
        have t46 : (σ43 1 13).toInt = (σ0 1 13).toInt := congrArg Int32.toInt (f43.at 1 13 (by decide))
        have gCT := hp43_0
        refine lv_aload_n hx hb dX7_readMeasure_42 rfl (lv_at hl 1 rfl) ?_
        refine fg_7_0 (k := 27) hx hb hts in_X7_readMeasure_7 hown hK hP (by decide) (by decide) (hts _ lk_X7_readMeasure_9) dX7_readMeasure_43 ?_
        refine r_iconst hx hb dX7_readMeasure_46 (by decide) (fun z47 ez47 => ?_)
        refine r_sipush hx hb dX7_readMeasure_47 (by decide) (fun z48 ez48 => ?_)
        refine r_cVi (k := 1) (As := [.int z47, .int z48]) (rest := []) ⟨hx, hb, hml, hown, hts⟩ hK hP hN hS (c_X8_takeNumber_v l D cA ad hI σ43 τ43 hR z47 z48 b N mo _ 0 999 (by omega) (by omega) (by omega) (by omega) gCT) (cwV 2 hts gX7_readMeasure_X8_takeNumber rfl rfl rfl (by decide +kernel) ⟨by decide, by decide⟩) (rv_Tape hK hP (by decide) (by decide)) rfl hl.1 rfl (Nat.le_of_ble_eq_true rfl) dX7_readMeasure_50 (Nat.zero_le _) (Nat.zero_le _) (fun r49 u49 H49 locs49 hp49 hP hS => ?_)
        obtain ⟨σ49, τ49⟩ := u49
        obtain ⟨hR, f49, fL49, hq49, hp49_0, hp49_1⟩ : P_X8_takeNumber_v σ43 τ43 z47 z48 b N mo _ 0 999 r49 σ49 τ49 := hp49
        have o1 := hp49_0
        have hP : va_P D vwCl (gw cA ad σ49 τ49) H49 := hP
        have hFL := hFL.step fL49 (by decide)
        have gWH := gWH.agL (AgrL.fr fL49 (by decide))
        have hF := hF.step f49 (by decide)
        have gWH := gWH.ag (Agr.fr f49 (by decide))
        have t50 : (σ49 24 1).toInt = (σ43 24 1).toInt := congrArg Int32.toInt (f49.at 24 1 (by decide))
        have t51 : (σ49 24 2).toInt = (σ43 24 2).toInt := congrArg Int32.toInt (f49.at 24 2 (by decide))
        refine r_if_eq (tgt := 79) hx hb dX7_readMeasure_53 (by decide) (fun c52 => ?_) (fun c52 => ?_)
        · clear hp49_1
          refine r_iconst hx hb dX7_readMeasure_79 (by decide) (fun z53 ez53 => ?_)
          exact r_zret hx hb hr hK hP hS hk (by omega) dX7_readMeasure_80 (show P_X7_readMeasure σ0 τ0 a1 b N mo q nn nm hc kk z53 σ49 τ49 from ⟨hR, hF, hFL, by omega, by first | exact RO.ofk (by unfold leaP; rw [if_neg (by omega), if_pos (by omega), if_pos (by omega)]) (by omega) (by omega) (by omega) | (obtain ⟨f, e1, x1, x2⟩ := o1.no (by omega); exact RO.ofl (by unfold leaP; rw [if_neg (by omega), if_pos (by omega), if_neg (by omega), e1, bnd_l]) (by omega) x1 x2) | exact RO.ofr (by unfold leaP; rw [if_neg (by omega), if_pos (by omega), if_neg (by omega), e1, bnd_r]) (by omega) ⟨gCT, by omega, by omega⟩ | (exfalso; omega), by omega, gWH⟩)
        · replace hp49_1 := hp49_1.resolve_left (by omega)
          obtain ⟨y, e1, gCT, _⟩ := o1.ye (by omega)
          refine lv_aload_n hx hb dX7_readMeasure_56 rfl (lv_at hl 1 rfl) ?_
          refine fg_7_2 (k := 27) hx hb hts in_X7_readMeasure_7 hown hK hP (by decide) (by decide) (hts _ lk_X7_readMeasure_19) dX7_readMeasure_57 ?_
          refine lv_iload_n hx hb dX7_readMeasure_60 rfl (lv_at hl 2 rfl) ?_
          refine lv_iload_n hx hb dX7_readMeasure_61 rfl (lv_at hl 0 rfl) ?_
          refine lv_aload_n hx hb dX7_readMeasure_62 rfl (lv_at hl 1 rfl) ?_
          refine fg_7_0 (k := 27) hx hb hts in_X7_readMeasure_7 hown hK hP (by decide) (by decide) (hts _ lk_X7_readMeasure_9) dX7_readMeasure_63 ?_
          refine fgN_8_12 (k := 1) hx hb hts in_X7_readMeasure_8 hown hK hP (by decide) (by decide) (hN.use nw_7_82) dX7_readMeasure_66 ?_
          refine r_cVi (k := 24) (As := [.int a1, .int (σ0 1 9), .int (σ49 1 12)]) (rest := []) ⟨hx, hb, hml, hown, hts⟩ hK hP hN hS (c_X6_add l D cA ad hI σ49 τ49 hR a1 (σ0 1 9) (σ49 1 12) (by omega)) (cwV 3 hts gX7_readMeasure_X6_add rfl rfl rfl (by decide +kernel) ⟨by decide, by decide⟩) (rv_Sent hK hP (by decide) (by decide)) rfl hl.1 rfl (Nat.le_of_ble_eq_true rfl) dX7_readMeasure_69 (Nat.zero_le _) (Nat.zero_le _) (fun r54 u54 H54 locs54 hp54 hP hS => ?_)
          obtain ⟨σ54, τ54⟩ := u54
          obtain ⟨hR, f54, fL54, hq54, hp54_0⟩ : P_X6_add σ49 τ49 a1 (σ0 1 9) (σ49 1 12) r54 σ54 τ54 := hp54
          have hP : va_P D vwCl (gw cA ad σ54 τ54) H54 := hP
          obtain rfl := FrL.nil fL54
          have hF := hF.step f54 (by decide)
          have gCT := gCT.ag (Agr.fr f54 (by decide))
          have gWH := gWH.ag (Agr.fr f54 (by decide))
          have t55 : (σ54 24 1).toInt = (σ49 24 1).toInt := congrArg Int32.toInt (f54.at 24 1 (by decide))
          have t56 : (σ54 1 13).toInt = (σ49 1 13).toInt := congrArg Int32.toInt (f54.at 1 13 (by decide))
          have hr57 := rg_6_2 hR (k := 24) (by decide) (by decide)
          refine r_if_eq (tgt := 79) hx hb dX7_readMeasure_72 (by decide) (fun c58 => ?_) (fun c58 => ?_)
          · refine r_iconst hx hb dX7_readMeasure_79 (by decide) (fun z59 ez59 => ?_)
            exact r_zret hx hb hr hK hP hS hk (by omega) dX7_readMeasure_80 (show P_X7_readMeasure σ0 τ0 a1 b N mo q nn nm hc kk z59 σ54 τ49 from ⟨hR, hF, hFL, by omega, by first | exact RO.ofk (by unfold leaP; rw [if_neg (by omega), if_pos (by omega), if_pos (by omega)]) (by omega) (by omega) (by omega) | (obtain ⟨f, e1, x1, x2⟩ := o1.no (by omega); exact RO.ofl (by unfold leaP; rw [if_neg (by omega), if_pos (by omega), if_neg (by omega), e1, bnd_l]) (by omega) x1 x2) | exact RO.ofr (by unfold leaP; rw [if_neg (by omega), if_pos (by omega), if_neg (by omega), e1, bnd_r]) (by omega) ⟨gCT, by omega, by omega⟩ | (exfalso; omega), by omega, gWH⟩)
          · refine r_iconst hx hb dX7_readMeasure_75 (by decide) (fun z60 ez60 => ?_)
            refine lv_goto (tgt := 80) hx hb dX7_readMeasure_76 (by decide) ?_
            exact r_zret hx hb hr hK hP hS hk (by omega) dX7_readMeasure_80 (show P_X7_readMeasure σ0 τ0 a1 b N mo q nn nm hc kk z60 σ54 τ49 from ⟨hR, hF, hFL, by omega, by first | exact RO.ofk (by unfold leaP; rw [if_neg (by omega), if_pos (by omega), if_pos (by omega)]) (by omega) (by omega) (by omega) | (obtain ⟨f, e1, x1, x2⟩ := o1.no (by omega); exact RO.ofl (by unfold leaP; rw [if_neg (by omega), if_pos (by omega), if_neg (by omega), e1, bnd_l]) (by omega) x1 x2) | exact RO.ofr (by unfold leaP; rw [if_neg (by omega), if_pos (by omega), if_neg (by omega), e1, bnd_r]) (by omega) ⟨gCT, by omega, by omega⟩ | (exfalso; omega), by omega, gWH⟩)
      · refine lv_aload_n hx hb dX7_readMeasure_26 rfl (lv_at hl 1 rfl) ?_
        refine fg_7_0 (k := 27) hx hb hts in_X7_readMeasure_7 hown hK hP (by decide) (by decide) (hts _ lk_X7_readMeasure_9) dX7_readMeasure_27 ?_
        refine r_iconst hx hb dX7_readMeasure_30 (by decide) (fun z61 ez61 => ?_)
        refine r_cVi (k := 1) (As := [.int z61]) (rest := []) ⟨hx, hb, hml, hown, hts⟩ hK hP hN hS (c_X8_blame_v l D cA ad hI σ0 τ0 hR z61 _ _ _ _ (by omega) gCT) (cwV 1 hts gX7_readMeasure_X8_blame rfl rfl rfl (by decide +kernel) ⟨by decide, by decide⟩) (rv_Tape hK hP (by decide) (by decide)) rfl hl.1 rfl (Nat.le_of_ble_eq_true rfl) dX7_readMeasure_31 (Nat.zero_le _) (Nat.zero_le _) (fun r62 u62 H62 locs62 hp62 hP hS => ?_)
        obtain ⟨σ62, τ62⟩ := u62
        obtain ⟨hR, f62, fL62, hq62, hp62_0, hp62_1, hp62_2, gnCT⟩ : P_X8_blame_v σ0 τ0 z61 _ _ _ _ r62 σ62 τ62 := hp62
        have hP : va_P D vwCl (gw cA ad σ62 τ62) H62 := hP
        obtain rfl := FrL.nil fL62
        have hF := hF.step f62 (by decide)
        have gCT := gCT.ag (Agr.fr f62 (by decide))
        have gWH := gWH.ag (Agr.fr f62 (by decide))
        have t63 : (σ62 24 1).toInt = (σ0 24 1).toInt := congrArg Int32.toInt (f62.at 24 1 (by decide))
        have t64 : (σ62 24 2).toInt = (σ0 24 2).toInt := congrArg Int32.toInt (f62.at 24 2 (by decide))
        exact r_zret hx hb hr hK hP hS hk (by omega) dX7_readMeasure_34 (show P_X7_readMeasure σ0 τ0 a1 b N mo q nn nm hc kk r62 σ62 τ0 from ⟨hR, hF, hFL, by omega, by first | exact RO.ofk (by unfold leaP; rw [if_neg (by omega), if_pos (by omega), if_pos (by omega)]) (by omega) (by omega) (by omega) | (obtain ⟨f, e1, x1, x2⟩ := o1.no (by omega); exact RO.ofl (by unfold leaP; rw [if_neg (by omega), if_pos (by omega), if_neg (by omega), e1, bnd_l]) (by omega) x1 x2) | exact RO.ofr (by unfold leaP; rw [if_neg (by omega), if_pos (by omega), if_neg (by omega), e1, bnd_r]) (by omega) ⟨gCT, by omega, by omega⟩ | (exfalso; omega), by omega, gWH⟩)
theorem in_X7_readOn_7 : ∀ w ∈ u_ws RX7 TX7 3, w ∈ wsX7_readOn := by decide +kernel
theorem lk_X7_readOn_15 : Cond.fieldLink RX7 15 "CuckooShares$SentenceText" "valley" "LCuckooShares$Valley;" ∈ wsX7_readOn := by decide +kernel
theorem lk_X7_readOn_19 : Cond.fieldLink RX7 19 "CuckooShares$SentenceText" "into" "LCuckooShares$Sentence;" ∈ wsX7_readOn := by decide +kernel
theorem lk_X7_readOn_9 : Cond.fieldLink RX7 9 "CuckooShares$SentenceText" "tape" "LCuckooShares$Tape;" ∈ wsX7_readOn := by decide +kernel
abbrev L_X7_readOn : List Rc := [(1, 1, 13, 14), (1, 1, 7, 10), (372, 372, 0, 39), (376, 376, 0, 39), (380, 380, 0, 39), (24, 24, 2, 2)]
abbrev LL_X7_readOn : List Rc := [(1, 1, 11, 11)]
def P_X7_readOn (σ0 : Nat → Nat → Int32) (τ0 : Nat → Nat → Int64) (b : Nat → Int) (N : Nat) (mo : Nat) (q : Nat) (nn : Nat) (nm : Nat → Int) (hc : Nat) (kk : Int) (r : Int32) (σ : Nat → Nat → Int32) (τ : Nat → Nat → Int64) : Prop := Rg σ ∧ Fr L_X7_readOn σ0 σ ∧ FrL LL_X7_readOn τ0 τ ∧ (0 ≤ r.toInt ∧ r.toInt ≤ 1) ∧ (RO r σ (leaP b N mo nm hc kk q nn) (fun s => CT σ τ b N mo s.1 ∧ (σ 24 1).toInt = (s.2 : Int) ∧ (σ 24 2).toInt = (σ0 24 2).toInt + 1)) ∧ (r.toInt = 0 ∨ (σ 1 13).toInt = (σ0 1 13).toInt) ∧ WH σ τ nm hc
set_option maxHeartbeats 4000000 in
theorem c_X7_readOn (l : Launch) (D : va_G) (cA : Nat → ClassId) (ad : Nat → Nat) (hI : Inj ad) (σ0 : Nat → Nat → Int32) (τ0 : Nat → Nat → Int64) (hR : Rg σ0) (b : Nat → Int) (N : Nat) (mo : Nat) (q : Nat) (nn : Nat) (nm : Nat → Int) (hc : Nat) (kk : Int) (hpre0 : kk = 25) (hpre1 : (σ0 24 1).toInt = (nn : Int) ∧ nn ≤ 20) (hpre2 : 0 ≤ (σ0 24 2).toInt ∧ (σ0 24 2).toInt ≤ 38) (gCT0 : CT σ0 τ0 b N mo q) (gWH0 : WH σ0 τ0 nm hc) : Met l yX7_readOn wsX7_readOn ({ frames := 3, cells := 0, slots := 0, locals := 63 } : Room) (WQc D cA ad [.ref (ad 27)] σ0 τ0) (va_Qi (fun (r : Int32) (u : SS) => P_X7_readOn σ0 τ0 b N mo q nn nm hc kk r u.1 u.2) (WB D cA ad) (AA ad)) 0 0 (AA ad) := by
  refine Met.ofW (cc := cX7_readOn) (maxL := 2) (ret := (some .boolean)) (by decide) rfl ?_
  intro p e s m args below meth c s₁ B hml hv
  obtain ⟨rfl, hP, hK, hN⟩ := hv
  have C : Cy p s m _ meth c cX7_readOn 2 wsX7_readOn RX7 D cA ad (some .boolean) := ⟨B.exec, B.bytes, hml, findClass_of_methodNamed B.named, atoms_spec (ws := wsX7_readOn) B.pre, hK, B.notSynchronized, B.returns, hI, hN⟩
  have hl := lv_entry ([.ref (ad 27)]) (n := 2) (Nat.le_of_ble_eq_true rfl)
  rw [lg_entry_eq]
  generalize (lg_sl ([.ref (ad 27)]) ++ List.replicate (2 - (lg_sl ([.ref (ad 27)])).length) Slot.unset).toArray = ls at hl ⊢
  have hl : lv_has ls 2 [(0, .ref (ad 27))] := hl
  have hS : va_S (AA ad) s.heap s.heap [] := va_S.rf
  have hF : Fr L_X7_readOn σ0 σ0 := Fr.rf
  have hFL : FrL LL_X7_readOn τ0 τ0 := FrL.rf
  have gCT := gCT0
  have gWH := gWH0
  obtain ⟨hx, hb, _, hown, hts, _, hk, hr, _, _⟩ := C
  refine lv_aload_n hx hb dX7_readOn_0 rfl (lv_at hl 0 rfl) ?_
  refine fg_7_0 (k := 27) hx hb hts in_X7_readOn_7 hown hK hP (by decide) (by decide) (hts _ lk_X7_readOn_9) dX7_readOn_1 ?_
  refine lv_aload_n hx hb dX7_readOn_4 rfl (lv_at hl 0 rfl) ?_
  refine fg_7_1 (k := 27) hx hb hts in_X7_readOn_7 hown hK hP (by decide) (by decide) (hts _ lk_X7_readOn_15) dX7_readOn_5 ?_
  refine r_cVi (k := 1) (As := [.ref (ad 2)]) (rest := []) ⟨hx, hb, hml, hown, hts⟩ hK hP hN hS (c_X8_hillHere_w l D cA ad hI σ0 τ0 hR _ _ _ _ _ _ gCT gWH) (cwV 1 hts gX7_readOn_X8_hillHere rfl rfl rfl (by decide +kernel) ⟨by decide, by decide⟩) (rv_Tape hK hP (by decide) (by decide)) rfl hl.1 rfl (Nat.le_of_ble_eq_true rfl) dX7_readOn_8 (Nat.zero_le _) (Nat.zero_le _) (fun r1 u1 H1 locs1 hp1 hP hS => ?_)
  obtain ⟨σ1, τ1⟩ := u1
  obtain ⟨hR, f1, fL1, hq1, hp1_0, hp1_1, gnCT, gnWH⟩ : P_X8_hillHere_w σ0 τ0 _ _ _ _ _ _ r1 σ1 τ1 := hp1
  have o1 := hp1_0
  have hP : va_P D vwCl (gw cA ad σ1 τ1) H1 := hP
  obtain rfl := FrL.nil fL1
  have hF := hF.step f1 (by decide)
  have gCT := gCT.ag (Agr.fr f1 (by decide))
  have gWH := gWH.ag (Agr.fr f1 (by decide))
  have t2 : (σ1 24 1).toInt = (σ0 24 1).toInt := congrArg Int32.toInt (f1.at 24 1 (by decide))
  have t3 : (σ1 24 2).toInt = (σ0 24 2).toInt := congrArg Int32.toInt (f1.at 24 2 (by decide))
  refine lv_istore_n (lv' := [(1, .int r1), (0, .ref (ad 27))]) hx hb dX7_readOn_11 rfl hl (by decide) rfl (fun ls hl => ?_)
  refine lv_iload_n hx hb dX7_readOn_12 rfl (lv_at hl 0 rfl) ?_
  refine r_iconst hx hb dX7_readOn_13 (by decide) (fun z4 ez4 => ?_)
  refine r_icmp_ne (tgt := 19) hx hb dX7_readOn_14 (by decide) (fun c5 => ?_) (fun c5 => ?_)
  · obtain ⟨e1, _, _, _⟩ := o1.ye (by omega)
    refine lv_aload_n hx hb dX7_readOn_19 rfl (lv_at hl 1 rfl) ?_
    refine fg_7_0 (k := 27) hx hb hts in_X7_readOn_7 hown hK hP (by decide) (by decide) (hts _ lk_X7_readOn_9) dX7_readOn_20 ?_
    refine r_cVv (k := 1) (As := []) (rest := []) ⟨hx, hb, hml, hown, hts⟩ hK hP hN hS (c_X8_next_v l D cA ad hI σ1 τ0 hR _ _ _ _ gCT) (cwV 0 hts gX7_readOn_X8_next rfl rfl rfl (by decide +kernel) ⟨by decide, by decide⟩) (rv_Tape hK hP (by decide) (by decide)) rfl hl.1 rfl (Nat.le_of_ble_eq_true rfl) dX7_readOn_23 (Nat.zero_le _) (Nat.zero_le _) (fun u6 H6 locs6 hp6 hP hS => ?_)
    obtain ⟨σ6, τ6⟩ := u6
    obtain ⟨hR, f6, fL6, hp6_0⟩ : P_X8_next_v σ1 τ0 _ _ _ _ σ6 τ6 := hp6
    have hP : va_P D vwCl (gw cA ad σ6 τ6) H6 := hP
    have hFL := hFL.step fL6 (by decide)
    have gWH := gWH.agL (AgrL.fr fL6 (by decide))
    have hF := hF.step f6 (by decide)
    have gWH := gWH.ag (Agr.fr f6 (by decide))
    have t7 : (σ6 24 1).toInt = (σ1 24 1).toInt := congrArg Int32.toInt (f6.at 24 1 (by decide))
    have t8 : (σ6 24 2).toInt = (σ1 24 2).toInt := congrArg Int32.toInt (f6.at 24 2 (by decide))
    have t9 : (σ6 1 13).toInt = (σ1 1 13).toInt := congrArg Int32.toInt (f6.at 1 13 (by decide))
    have gCT := hp6_0
    refine lv_aload_n hx hb dX7_readOn_26 rfl (lv_at hl 1 rfl) ?_
    refine fg_7_2 (k := 27) hx hb hts in_X7_readOn_7 hown hK hP (by decide) (by decide) (hts _ lk_X7_readOn_19) dX7_readOn_27 ?_
    refine r_bipush hx hb dX7_readOn_30 (by decide) (fun z10 ez10 => ?_)
    refine r_bipush hx hb dX7_readOn_32 (by decide) (fun z11 ez11 => ?_)
    refine lv_iload_n hx hb dX7_readOn_34 rfl (lv_at hl 0 rfl) ?_
    refine r_cVi (k := 24) (As := [.int z10, .int z11, .int r1]) (rest := []) ⟨hx, hb, hml, hown, hts⟩ hK hP hN hS (c_X6_add l D cA ad hI σ6 τ6 hR z10 z11 r1 (by omega)) (cwV 3 hts gX7_readOn_X6_add rfl rfl rfl (by decide +kernel) ⟨by decide, by decide⟩) (rv_Sent hK hP (by decide) (by decide)) rfl hl.1 rfl (Nat.le_of_ble_eq_true rfl) dX7_readOn_35 (Nat.zero_le _) (Nat.zero_le _) (fun r12 u12 H12 locs12 hp12 hP hS => ?_)
    obtain ⟨σ12, τ12⟩ := u12
    obtain ⟨hR, f12, fL12, hq12, hp12_0⟩ : P_X6_add σ6 τ6 z10 z11 r1 r12 σ12 τ12 := hp12
    have hP : va_P D vwCl (gw cA ad σ12 τ12) H12 := hP
    obtain rfl := FrL.nil fL12
    have hF := hF.step f12 (by decide)
    have gCT := gCT.ag (Agr.fr f12 (by decide))
    have gWH := gWH.ag (Agr.fr f12 (by decide))
    have t13 : (σ12 24 1).toInt = (σ6 24 1).toInt := congrArg Int32.toInt (f12.at 24 1 (by decide))
    have t14 : (σ12 1 13).toInt = (σ6 1 13).toInt := congrArg Int32.toInt (f12.at 1 13 (by decide))
    have hr15 := rg_6_2 hR (k := 24) (by decide) (by decide)
    exact r_zret hx hb hr hK hP hS hk (by omega) dX7_readOn_38 (show P_X7_readOn σ0 τ0 b N mo q nn nm hc kk r12 σ12 τ6 from ⟨hR, hF, hFL, by omega, by first | (obtain ⟨f, e1, x1, x2⟩ := o1.no (by omega); exact RO.ofl (by unfold leaP; rw [if_pos hpre0, e1, bnd_l]) (by omega) x1 x2) | exact RO.ofr (by unfold leaP; rw [if_pos hpre0, e1, bnd_r]) (by omega) ⟨gCT, by omega, by omega⟩ | (exfalso; omega), by omega, gWH⟩)
  · refine r_iconst hx hb dX7_readOn_17 (by decide) (fun z16 ez16 => ?_)
    exact r_zret hx hb hr hK hP hS hk (by omega) dX7_readOn_18 (show P_X7_readOn σ0 τ0 b N mo q nn nm hc kk z16 σ1 τ0 from ⟨hR, hF, hFL, by omega, by first | (obtain ⟨f, e1, x1, x2⟩ := o1.no (by omega); exact RO.ofl (by unfold leaP; rw [if_pos hpre0, e1, bnd_l]) (by omega) x1 x2) | exact RO.ofr (by unfold leaP; rw [if_pos hpre0, e1, bnd_r]) (by omega) ⟨gCT, by omega, by omega⟩ | (exfalso; omega), by omega, gWH⟩)
abbrev L_X7_readOne_d8 : List Rc := [(1, 1, 7, 10), (372, 372, 0, 39), (376, 376, 0, 39), (380, 380, 0, 39), (24, 24, 1, 2), (1, 1, 12, 14)]
abbrev LL_X7_readOne_d8 : List Rc := [(1, 1, 11, 11)]
def P_X7_readOne_d8 (σ0 : Nat → Nat → Int32) (τ0 : Nat → Nat → Int64) (a1 : Int32) (b : Nat → Int) (N : Nat) (mo : Nat) (q : Nat) (nn : Nat) (nm : Nat → Int) (hc : Nat) (r : Int32) (σ : Nat → Nat → Int32) (τ : Nat → Nat → Int64) : Prop := Rg σ ∧ Fr L_X7_readOne_d8 σ0 σ ∧ FrL LL_X7_readOne_d8 τ0 τ ∧ (0 ≤ r.toInt ∧ r.toInt ≤ 1) ∧ (RO r σ (oneP b N mo nm hc 1 q nn) (fun s => CT σ τ b N mo s.1 ∧ (σ 24 1).toInt = (s.2 : Int) ∧ (σ 24 2).toInt + 2 * (nn : Int) + 1 ≤ (σ0 24 2).toInt + 2 * (s.2 : Int))) ∧ (r.toInt = 0 ∨ (σ 1 13).toInt = (σ0 1 13).toInt) ∧ WH σ τ nm hc
set_option maxHeartbeats 4000000 in
theorem c_X7_readOne_d8 (l : Launch) (D : va_G) (cA : Nat → ClassId) (ad : Nat → Nat) (hI : Inj ad) (σ0 : Nat → Nat → Int32) (τ0 : Nat → Nat → Int64) (hR : Rg σ0) (a1 : Int32) (b : Nat → Int) (N : Nat) (mo : Nat) (q : Nat) (nn : Nat) (nm : Nat → Int) (hc : Nat) (ha1 : 8 ≤ a1.toInt ∧ a1.toInt ≤ 8) (hpre0 : (σ0 24 1).toInt = (nn : Int)) (hpre1 : 0 ≤ (σ0 24 2).toInt ∧ (σ0 24 2).toInt ≤ 2 * (nn : Int)) (hpre2 : nn ≤ 20) (gCT0 : CT σ0 τ0 b N mo q) (gWH0 : WH σ0 τ0 nm hc) : Met l yX7_readOne wsX7_readOne ({ frames := 4, cells := 0, slots := 0, locals := 87 } : Room) (WQc D cA ad [.ref (ad 27), .int a1] σ0 τ0) (va_Qi (fun (r : Int32) (u : SS) => P_X7_readOne_d8 σ0 τ0 a1 b N mo q nn nm hc r u.1 u.2) (WB D cA ad) (AA ad)) 0 0 (AA ad) := by
  refine Met.ofW (cc := cX7_readOne) (maxL := 3) (ret := (some .boolean)) (by decide) rfl ?_
  intro p e s m args below meth c s₁ B hml hv
  obtain ⟨rfl, hP, hK, hN⟩ := hv
  have C : Cy p s m _ meth c cX7_readOne 3 wsX7_readOne RX7 D cA ad (some .boolean) := ⟨B.exec, B.bytes, hml, findClass_of_methodNamed B.named, atoms_spec (ws := wsX7_readOne) B.pre, hK, B.notSynchronized, B.returns, hI, hN⟩
  have hl := lv_entry ([.ref (ad 27), .int a1]) (n := 3) (Nat.le_of_ble_eq_true rfl)
  rw [lg_entry_eq]
  generalize (lg_sl ([.ref (ad 27), .int a1]) ++ List.replicate (3 - (lg_sl ([.ref (ad 27), .int a1])).length) Slot.unset).toArray = ls at hl ⊢
  have hl : lv_has ls 3 [(0, .ref (ad 27)), (1, .int a1)] := hl
  have hS : va_S (AA ad) s.heap s.heap [] := va_S.rf
  have hF : Fr L_X7_readOne_d8 σ0 σ0 := Fr.rf
  have hFL : FrL LL_X7_readOne_d8 τ0 τ0 := FrL.rf
  have gCT := gCT0
  have gWH := gWH0
  obtain ⟨hx, hb, _, hown, hts, _, hk, hr, _, _⟩ := C
  have htk := gCT.tk
  refine lv_aload_n hx hb dX7_readOne_0 rfl (lv_at hl 0 rfl) ?_
  refine fg_7_0 (k := 27) hx hb hts in_X7_readOne_7 hown hK hP (by decide) (by decide) (hts _ lk_X7_readOne_9) dX7_readOne_1 ?_
  refine fgN_8_9 (k := 1) hx hb hts in_X7_readOne_8 hown hK hP (by decide) (by decide) (hN.use nw_7_32) dX7_readOne_4 ?_
  refine lv_istore_n (lv' := [(2, .int (σ0 1 9)), (0, .ref (ad 27)), (1, .int a1)]) hx hb dX7_readOne_7 rfl hl (by decide) rfl (fun ls hl => ?_)
  refine lv_iload_n hx hb dX7_readOne_8 rfl (lv_at hl 0 rfl) ?_
  refine r_cSi (As := [.int (σ0 1 9)]) (rest := []) ⟨hx, hb, hml, hown, hts⟩ hK hP hN hS (c_X7_beginsOne l D cA ad hI σ0 τ0 hR (σ0 1 9)) (va_cwS 1 hts gX7_readOne_X7_beginsOne rfl rfl rfl (by decide +kernel) ⟨by decide, by decide⟩) rfl hl.1 rfl (Nat.le_of_ble_eq_true rfl) dX7_readOne_9 (Nat.zero_le _) (Nat.zero_le _) (fun r1 u1 H1 locs1 hp1 hP hS => ?_)
  obtain ⟨σ1, τ1⟩ := u1
  obtain ⟨hR, f1, fL1, hq1, hp1_0⟩ : P_X7_beginsOne σ0 τ0 (σ0 1 9) r1 σ1 τ1 := hp1
  have hP : va_P D vwCl (gw cA ad σ1 τ1) H1 := hP
  obtain rfl := FrL.nil fL1
  obtain rfl := Fr.nil f1
  refine r_if_ne (tgt := 24) hx hb dX7_readOne_12 (by decide) (fun c2 => ?_) (fun c2 => ?_)
  · refine lv_aload_n hx hb dX7_readOne_24 rfl (lv_at hl 1 rfl) ?_
    refine fg_7_2 (k := 27) hx hb hts in_X7_readOne_7 hown hK hP (by decide) (by decide) (hts _ lk_X7_readOne_19) dX7_readOne_25 ?_
    refine fgN_6_1 (k := 24) hx hb hts in_X7_readOne_6 hown hK hP (by decide) (by decide) (hN.use nw_7_61) dX7_readOne_28 ?_
    refine r_bipush hx hb dX7_readOne_31 (by decide) (fun z3 ez3 => ?_)
    refine r_icmp_ge (tgt := 42) hx hb dX7_readOne_33 (by decide) (fun c4 => ?_) (fun c4 => ?_)
    · refine lv_aload_n hx hb dX7_readOne_42 rfl (lv_at hl 1 rfl) ?_
      refine fg_7_0 (k := 27) hx hb hts in_X7_readOne_7 hown hK hP (by decide) (by decide) (hts _ lk_X7_readOne_9) dX7_readOne_43 ?_
      refine r_iconst hx hb dX7_readOne_46 (by decide) (fun z5 ez5 => ?_)
      refine r_cVi (k := 1) (As := [.int z5]) (rest := []) ⟨hx, hb, hml, hown, hts⟩ hK hP hN hS (c_X8_blame_v l D cA ad hI σ0 τ0 hR z5 _ _ _ _ (by omega) gCT) (cwV 1 hts gX7_readOne_X8_blame rfl rfl rfl (by decide +kernel) ⟨by decide, by decide⟩) (rv_Tape hK hP (by decide) (by decide)) rfl hl.1 rfl (Nat.le_of_ble_eq_true rfl) dX7_readOne_47 (Nat.zero_le _) (Nat.zero_le _) (fun r6 u6 H6 locs6 hp6 hP hS => ?_)
      obtain ⟨σ6, τ6⟩ := u6
      obtain ⟨hR, f6, fL6, hq6, hp6_0, hp6_1, hp6_2, gnCT⟩ : P_X8_blame_v σ0 τ0 z5 _ _ _ _ r6 σ6 τ6 := hp6
      have hP : va_P D vwCl (gw cA ad σ6 τ6) H6 := hP
      obtain rfl := FrL.nil fL6
      have hF := hF.step f6 (by decide)
      have gCT := gCT.ag (Agr.fr f6 (by decide))
      have gWH := gWH.ag (Agr.fr f6 (by decide))
      have t7 : (σ6 24 1).toInt = (σ0 24 1).toInt := congrArg Int32.toInt (f6.at 24 1 (by decide))
      have t8 : (σ6 24 2).toInt = (σ0 24 2).toInt := congrArg Int32.toInt (f6.at 24 2 (by decide))
      exact r_zret hx hb hr hK hP hS hk (by omega) dX7_readOne_50 (show P_X7_readOne_d8 σ0 τ0 a1 b N mo q nn nm hc r6 σ6 τ0 from ⟨hR, hF, hFL, by omega, by first | exact RO.ofr ((one_l (by omega) (by omega) (by omega) (by omega)).trans (lea_n (by omega) (by omega))) (by omega) ⟨gCT, by omega, by omega⟩ | (exfalso; omega) | exact RO.ofk (one_x (by omega)) (by omega) (by omega) (by omega) | exact RO.ofk (one_4 (by omega) (by omega)) (by omega) (by omega) (by omega) | (obtain ⟨f, e1, x1, x2⟩ := o1.no (by omega); exact RO.ofl ((one_n (by omega) (by omega)).trans e1) (by omega) x1 x2) | exact RO.ofr ((one_n (by omega) (by omega)).trans e1) (by omega) ⟨gCT, by omega, by omega⟩ | (obtain ⟨f, e2, x1, x2⟩ := o2.no (by omega); exact RO.ofl (by rw [one_o (by omega) (by omega), e2, bnd_l]) (by omega) x1 x2) | (obtain ⟨f, e3, x1, x2⟩ := o3.no (by omega); exact RO.ofl (by rw [one_o (by omega) (by omega), e2, bnd_r, e3, bnd_l]) (by omega) x1 x2) | exact RO.ofr (by rw [one_o (by omega) (by omega), e2, bnd_r, e3, bnd_r]) (by omega) ⟨gCT, by omega, by omega⟩ | (rw [one_l (by omega) (by omega) (by omega) (by omega)]; exact o4.map (fun s es h => ⟨h.1, h.2.1, by have h2 := h.2.2; have hl := lea_up es; omega⟩)) | (rw [one_l (by omega) (by omega) (by omega) (by omega)]; exact o5.map (fun s es h => ⟨h.1, h.2.1, by have h2 := h.2.2; have hl := lea_up es; omega⟩)), by omega, gWH⟩)
    · refine lv_iload_n hx hb dX7_readOne_36 rfl (lv_at hl 2 rfl) ?_
      refine r_bipush hx hb dX7_readOne_37 (by decide) (fun z9 ez9 => ?_)
      refine r_icmp_le (tgt := 51) hx hb dX7_readOne_39 (by decide) (fun c10 => ?_) (fun c10 => ?_)
      · refine lv_aload_n hx hb dX7_readOne_51 rfl (lv_at hl 1 rfl) ?_
        refine fg_7_2 (k := 27) hx hb hts in_X7_readOne_7 hown hK hP (by decide) (by decide) (hts _ lk_X7_readOne_19) dX7_readOne_52 ?_
        refine lv_dup hx hb dX7_readOne_55 rfl ?_
        refine fgN_6_1 (k := 24) hx hb hts in_X7_readOne_6 hown hK hP (by decide) (by decide) (hN.use nw_7_61) dX7_readOne_56 ?_
        refine r_iconst hx hb dX7_readOne_59 (by decide) (fun z11 ez11 => ?_)
        refine r_iadd hx hb dX7_readOne_60 (by omega) (fun z12 ez12 => ?_)
        refine fpN_6_1 (k := 24) hx hb hts in_X7_readOne_6 hown hK hP (by decide) (by decide) (hN.use nw_7_61) hI hR hS (by omega) dX7_readOne_61 (fun σ13 H13 locs13 u13 v13 hR hP hS => ?_)
        have hF := hF.puts u13 4 rfl (by decide) (by decide) (by decide) (by decide)
        have gCT := gCT.ag (Agr.put u13 (by decide))
        have gWH := gWH.ag (Agr.put u13 (by decide))
        have t14 : (σ13 24 2).toInt = (σ0 24 2).toInt := congrArg Int32.toInt (u13 24 2 (by omega))
        have t15 : (σ13 1 13).toInt = (σ0 1 13).toInt := congrArg Int32.toInt (u13 1 13 (by omega))
        refine lv_aload_n hx hb dX7_readOne_64 rfl (lv_at hl 1 rfl) ?_
        refine fg_7_0 (k := 27) hx hb hts in_X7_readOne_7 hown hK hP (by decide) (by decide) (hts _ lk_X7_readOne_9) dX7_readOne_65 ?_
        refine r_cVv (k := 1) (As := []) (rest := []) ⟨hx, hb, hml, hown, hts⟩ hK hP hN hS (c_X8_next_v l D cA ad hI σ13 τ0 hR _ _ _ _ gCT) (cwV 0 hts gX7_readOne_X8_next rfl rfl rfl (by decide +kernel) ⟨by decide, by decide⟩) (rv_Tape hK hP (by decide) (by decide)) rfl hl.1 rfl (Nat.le_of_ble_eq_true rfl) dX7_readOne_68 (Nat.zero_le _) (Nat.zero_le _) (fun u16 H16 locs16 hp16 hP hS => ?_)
        obtain ⟨σ16, τ16⟩ := u16
        obtain ⟨hR, f16, fL16, hp16_0⟩ : P_X8_next_v σ13 τ0 _ _ _ _ σ16 τ16 := hp16
        have hP : va_P D vwCl (gw cA ad σ16 τ16) H16 := hP
        have hFL := hFL.step fL16 (by decide)
        have gWH := gWH.agL (AgrL.fr fL16 (by decide))
        have hF := hF.step f16 (by decide)
        have gWH := gWH.ag (Agr.fr f16 (by decide))
        have t17 : (σ16 24 2).toInt = (σ13 24 2).toInt := congrArg Int32.toInt (f16.at 24 2 (by decide))
        have t18 : (σ16 1 13).toInt = (σ13 1 13).toInt := congrArg Int32.toInt (f16.at 1 13 (by decide))
        have t19 : (σ16 24 1).toInt = (σ13 24 1).toInt := congrArg Int32.toInt (f16.at 24 1 (by decide))
        have gCT := hp16_0
        refine lv_iload_n hx hb dX7_readOne_71 rfl (lv_at hl 0 rfl) ?_
        by_cases c20 : (σ0 1 9).toInt = 22
        · refine lv_tableIn (off := 108) (tgt := 180) hx hb dX7_readOne_72 (by omega) (by omega) (by rw [c20]; rfl) (by decide) ?_
          refine lv_aload_n hx hb dX7_readOne_180 rfl (lv_at hl 1 rfl) ?_
          refine lv_iload_n hx hb dX7_readOne_181 rfl (lv_at hl 2 rfl) ?_
          refine r_iconst hx hb dX7_readOne_182 (by decide) (fun z21 ez21 => ?_)
          refine r_iadd hx hb dX7_readOne_183 (by omega) (fun z22 ez22 => ?_)
          refine r_cVi (k := 27) (As := [.int z22]) (rest := []) ⟨hx, hb, hml, hown, hts⟩ hK hP hN hS (c_X7_readOne_d9 l D cA ad hI σ16 τ16 hR z22 b N mo _ (nn + 1) nm hc (by omega) (by omega) (by omega) (by omega) gCT gWH) (cwV 1 hts gX7_readOne_X7_readOne rfl rfl rfl (by decide +kernel) ⟨by decide, by decide⟩) (rv_SText hK hP (by decide) (by decide)) rfl hl.1 rfl (Nat.le_of_ble_eq_true rfl) dX7_readOne_184 (Nat.zero_le _) (Nat.zero_le _) (fun r23 u23 H23 locs23 hp23 hP hS => ?_)
          obtain ⟨σ23, τ23⟩ := u23
          obtain ⟨hR, f23, fL23, hq23, hp23_0, hp23_1, gnWH⟩ : P_X7_readOne_d9 σ16 τ16 z22 b N mo _ (nn + 1) nm hc r23 σ23 τ23 := hp23
          have o1 := hp23_0
          have hP : va_P D vwCl (gw cA ad σ23 τ23) H23 := hP
          obtain rfl := FrL.nil fL23
          have hF := hF.step f23 (by decide)
          have gCT := gCT.ag (Agr.fr f23 (by decide))
          have gWH := gWH.ag (Agr.fr f23 (by decide))
          have t24 : (σ23 24 2).toInt = (σ16 24 2).toInt := congrArg Int32.toInt (f23.at 24 2 (by decide))
          have t25 : (σ23 24 1).toInt = (σ16 24 1).toInt := congrArg Int32.toInt (f23.at 24 1 (by decide))
          refine r_if_eq (tgt := 208) hx hb dX7_readOne_187 (by decide) (fun c26 => ?_) (fun c26 => ?_)
          · clear hp23_1
            refine r_iconst hx hb dX7_readOne_208 (by decide) (fun z27 ez27 => ?_)
            exact r_zret hx hb hr hK hP hS hk (by omega) dX7_readOne_209 (show P_X7_readOne_d8 σ0 τ0 a1 b N mo q nn nm hc z27 σ23 τ16 from ⟨hR, hF, hFL, by omega, by first | exact RO.ofr ((one_l (by omega) (by omega) (by omega) (by omega)).trans (lea_n (by omega) (by omega))) (by omega) ⟨gCT, by omega, by omega⟩ | (exfalso; omega) | exact RO.ofk (one_x (by omega)) (by omega) (by omega) (by omega) | exact RO.ofk (one_4 (by omega) (by omega)) (by omega) (by omega) (by omega) | (obtain ⟨f, e1, x1, x2⟩ := o1.no (by omega); exact RO.ofl ((one_n (by omega) (by omega)).trans e1) (by omega) x1 x2) | exact RO.ofr ((one_n (by omega) (by omega)).trans e1) (by omega) ⟨gCT, by omega, by omega⟩ | (obtain ⟨f, e2, x1, x2⟩ := o2.no (by omega); exact RO.ofl (by rw [one_o (by omega) (by omega), e2, bnd_l]) (by omega) x1 x2) | (obtain ⟨f, e3, x1, x2⟩ := o3.no (by omega); exact RO.ofl (by rw [one_o (by omega) (by omega), e2, bnd_r, e3, bnd_l]) (by omega) x1 x2) | exact RO.ofr (by rw [one_o (by omega) (by omega), e2, bnd_r, e3, bnd_r]) (by omega) ⟨gCT, by omega, by omega⟩ | (rw [one_l (by omega) (by omega) (by omega) (by omega)]; exact o4.map (fun s es h => ⟨h.1, h.2.1, by have h2 := h.2.2; have hl := lea_up es; omega⟩)) | (rw [one_l (by omega) (by omega) (by omega) (by omega)]; exact o5.map (fun s es h => ⟨h.1, h.2.1, by have h2 := h.2.2; have hl := lea_up es; omega⟩)), by omega, gWH⟩)
          · exfalso; omega
        by_cases c28 : (σ0 1 9).toInt = 23
        · refine lv_tableIn (off := 177) (tgt := 249) hx hb dX7_readOne_72 (by omega) (by omega) (by rw [c28]; rfl) (by decide) ?_
          refine lv_aload_n hx hb dX7_readOne_249 rfl (lv_at hl 1 rfl) ?_
          refine fg_7_2 (k := 27) hx hb hts in_X7_readOne_7 hown hK hP (by decide) (by decide) (hts _ lk_X7_readOne_19) dX7_readOne_250 ?_
          refine lv_iload_n hx hb dX7_readOne_253 rfl (lv_at hl 0 rfl) ?_
          refine r_bipush hx hb dX7_readOne_254 (by decide) (fun z29 ez29 => ?_)
          refine r_iconst hx hb dX7_readOne_256 (by decide) (fun z30 ez30 => ?_)
          refine r_cVi (k := 24) (As := [.int (σ0 1 9), .int z29, .int z30]) (rest := []) ⟨hx, hb, hml, hown, hts⟩ hK hP hN hS (c_X6_add l D cA ad hI σ16 τ16 hR (σ0 1 9) z29 z30 (by omega)) (cwV 3 hts gX7_readOne_X6_add rfl rfl rfl (by decide +kernel) ⟨by decide, by decide⟩) (rv_Sent hK hP (by decide) (by decide)) rfl hl.1 rfl (Nat.le_of_ble_eq_true rfl) dX7_readOne_257 (Nat.zero_le _) (Nat.zero_le _) (fun r31 u31 H31 locs31 hp31 hP hS => ?_)
          obtain ⟨σ31, τ31⟩ := u31
          obtain ⟨hR, f31, fL31, hq31, hp31_0⟩ : P_X6_add σ16 τ16 (σ0 1 9) z29 z30 r31 σ31 τ31 := hp31
          have hP : va_P D vwCl (gw cA ad σ31 τ31) H31 := hP
          obtain rfl := FrL.nil fL31
          have hF := hF.step f31 (by decide)
          have gCT := gCT.ag (Agr.fr f31 (by decide))
          have gWH := gWH.ag (Agr.fr f31 (by decide))
          have t32 : (σ31 1 13).toInt = (σ16 1 13).toInt := congrArg Int32.toInt (f31.at 1 13 (by decide))
          have t33 : (σ31 24 1).toInt = (σ16 24 1).toInt := congrArg Int32.toInt (f31.at 24 1 (by decide))
          have hr34 := rg_6_2 hR (k := 24) (by decide) (by decide)
          exact r_zret hx hb hr hK hP hS hk (by omega) dX7_readOne_260 (show P_X7_readOne_d8 σ0 τ0 a1 b N mo q nn nm hc r31 σ31 τ16 from ⟨hR, hF, hFL, by omega, by first | exact RO.ofr ((one_l (by omega) (by omega) (by omega) (by omega)).trans (lea_n (by omega) (by omega))) (by omega) ⟨gCT, by omega, by omega⟩ | (exfalso; omega) | exact RO.ofk (one_x (by omega)) (by omega) (by omega) (by omega) | exact RO.ofk (one_4 (by omega) (by omega)) (by omega) (by omega) (by omega) | (obtain ⟨f, e1, x1, x2⟩ := o1.no (by omega); exact RO.ofl ((one_n (by omega) (by omega)).trans e1) (by omega) x1 x2) | exact RO.ofr ((one_n (by omega) (by omega)).trans e1) (by omega) ⟨gCT, by omega, by omega⟩ | (obtain ⟨f, e2, x1, x2⟩ := o2.no (by omega); exact RO.ofl (by rw [one_o (by omega) (by omega), e2, bnd_l]) (by omega) x1 x2) | (obtain ⟨f, e3, x1, x2⟩ := o3.no (by omega); exact RO.ofl (by rw [one_o (by omega) (by omega), e2, bnd_r, e3, bnd_l]) (by omega) x1 x2) | exact RO.ofr (by rw [one_o (by omega) (by omega), e2, bnd_r, e3, bnd_r]) (by omega) ⟨gCT, by omega, by omega⟩ | (rw [one_l (by omega) (by omega) (by omega) (by omega)]; exact o4.map (fun s es h => ⟨h.1, h.2.1, by have h2 := h.2.2; have hl := lea_up es; omega⟩)) | (rw [one_l (by omega) (by omega) (by omega) (by omega)]; exact o5.map (fun s es h => ⟨h.1, h.2.1, by have h2 := h.2.2; have hl := lea_up es; omega⟩)), by omega, gWH⟩)
        by_cases c35 : (σ0 1 9).toInt = 24
        · refine lv_tableIn (off := 177) (tgt := 249) hx hb dX7_readOne_72 (by omega) (by omega) (by rw [c35]; rfl) (by decide) ?_
          refine lv_aload_n hx hb dX7_readOne_249 rfl (lv_at hl 1 rfl) ?_
          refine fg_7_2 (k := 27) hx hb hts in_X7_readOne_7 hown hK hP (by decide) (by decide) (hts _ lk_X7_readOne_19) dX7_readOne_250 ?_
          refine lv_iload_n hx hb dX7_readOne_253 rfl (lv_at hl 0 rfl) ?_
          refine r_bipush hx hb dX7_readOne_254 (by decide) (fun z36 ez36 => ?_)
          refine r_iconst hx hb dX7_readOne_256 (by decide) (fun z37 ez37 => ?_)
          refine r_cVi (k := 24) (As := [.int (σ0 1 9), .int z36, .int z37]) (rest := []) ⟨hx, hb, hml, hown, hts⟩ hK hP hN hS (c_X6_add l D cA ad hI σ16 τ16 hR (σ0 1 9) z36 z37 (by omega)) (cwV 3 hts gX7_readOne_X6_add rfl rfl rfl (by decide +kernel) ⟨by decide, by decide⟩) (rv_Sent hK hP (by decide) (by decide)) rfl hl.1 rfl (Nat.le_of_ble_eq_true rfl) dX7_readOne_257 (Nat.zero_le _) (Nat.zero_le _) (fun r38 u38 H38 locs38 hp38 hP hS => ?_)
          obtain ⟨σ38, τ38⟩ := u38
          obtain ⟨hR, f38, fL38, hq38, hp38_0⟩ : P_X6_add σ16 τ16 (σ0 1 9) z36 z37 r38 σ38 τ38 := hp38
          have hP : va_P D vwCl (gw cA ad σ38 τ38) H38 := hP
          obtain rfl := FrL.nil fL38
          have hF := hF.step f38 (by decide)
          have gCT := gCT.ag (Agr.fr f38 (by decide))
          have gWH := gWH.ag (Agr.fr f38 (by decide))
          have t39 : (σ38 1 13).toInt = (σ16 1 13).toInt := congrArg Int32.toInt (f38.at 1 13 (by decide))
          have t40 : (σ38 24 1).toInt = (σ16 24 1).toInt := congrArg Int32.toInt (f38.at 24 1 (by decide))
          have hr41 := rg_6_2 hR (k := 24) (by decide) (by decide)
          exact r_zret hx hb hr hK hP hS hk (by omega) dX7_readOne_260 (show P_X7_readOne_d8 σ0 τ0 a1 b N mo q nn nm hc r38 σ38 τ16 from ⟨hR, hF, hFL, by omega, by first | exact RO.ofr ((one_l (by omega) (by omega) (by omega) (by omega)).trans (lea_n (by omega) (by omega))) (by omega) ⟨gCT, by omega, by omega⟩ | (exfalso; omega) | exact RO.ofk (one_x (by omega)) (by omega) (by omega) (by omega) | exact RO.ofk (one_4 (by omega) (by omega)) (by omega) (by omega) (by omega) | (obtain ⟨f, e1, x1, x2⟩ := o1.no (by omega); exact RO.ofl ((one_n (by omega) (by omega)).trans e1) (by omega) x1 x2) | exact RO.ofr ((one_n (by omega) (by omega)).trans e1) (by omega) ⟨gCT, by omega, by omega⟩ | (obtain ⟨f, e2, x1, x2⟩ := o2.no (by omega); exact RO.ofl (by rw [one_o (by omega) (by omega), e2, bnd_l]) (by omega) x1 x2) | (obtain ⟨f, e3, x1, x2⟩ := o3.no (by omega); exact RO.ofl (by rw [one_o (by omega) (by omega), e2, bnd_r, e3, bnd_l]) (by omega) x1 x2) | exact RO.ofr (by rw [one_o (by omega) (by omega), e2, bnd_r, e3, bnd_r]) (by omega) ⟨gCT, by omega, by omega⟩ | (rw [one_l (by omega) (by omega) (by omega) (by omega)]; exact o4.map (fun s es h => ⟨h.1, h.2.1, by have h2 := h.2.2; have hl := lea_up es; omega⟩)) | (rw [one_l (by omega) (by omega) (by omega) (by omega)]; exact o5.map (fun s es h => ⟨h.1, h.2.1, by have h2 := h.2.2; have hl := lea_up es; omega⟩)), by omega, gWH⟩)
        by_cases c42 : (σ0 1 9).toInt = 25
        · refine lv_tableIn (off := 166) (tgt := 238) hx hb dX7_readOne_72 (by omega) (by omega) (by rw [c42]; rfl) (by decide) ?_
          refine lv_aload_n hx hb dX7_readOne_238 rfl (lv_at hl 1 rfl) ?_
          refine r_cVi (k := 27) (As := []) (rest := []) ⟨hx, hb, hml, hown, hts⟩ hK hP hN hS (c_X7_readOn l D cA ad hI σ16 τ16 hR b N mo _ (nn + 1) nm hc (tkq b N mo q) (by omega) (by omega) (by omega) gCT gWH) (cwV 0 hts gX7_readOne_X7_readOn rfl rfl rfl (by decide +kernel) ⟨by decide, by decide⟩) (rv_SText hK hP (by decide) (by decide)) rfl hl.1 rfl (Nat.le_of_ble_eq_true rfl) dX7_readOne_239 (Nat.zero_le _) (Nat.zero_le _) (fun r43 u43 H43 locs43 hp43 hP hS => ?_)
          obtain ⟨σ43, τ43⟩ := u43
          obtain ⟨hR, f43, fL43, hq43, hp43_0, hp43_1, gnWH⟩ : P_X7_readOn σ16 τ16 b N mo _ (nn + 1) nm hc (tkq b N mo q) r43 σ43 τ43 := hp43
          have o4 := hp43_0
          have hP : va_P D vwCl (gw cA ad σ43 τ43) H43 := hP
          have hFL := hFL.step fL43 (by decide)
          have gWH := gWH.agL (AgrL.fr fL43 (by decide))
          have hF := hF.step f43 (by decide)
          have gWH := gWH.ag (Agr.fr f43 (by decide))
          have t44 : (σ43 24 1).toInt = (σ16 24 1).toInt := congrArg Int32.toInt (f43.at 24 1 (by decide))
          have hr45 := rg_6_2 hR (k := 24) (by decide) (by decide)
          exact r_zret hx hb hr hK hP hS hk (by omega) dX7_readOne_242 (show P_X7_readOne_d8 σ0 τ0 a1 b N mo q nn nm hc r43 σ43 τ43 from ⟨hR, hF, hFL, by omega, by first | exact RO.ofr ((one_l (by omega) (by omega) (by omega) (by omega)).trans (lea_n (by omega) (by omega))) (by omega) ⟨gCT, by omega, by omega⟩ | (exfalso; omega) | exact RO.ofk (one_x (by omega)) (by omega) (by omega) (by omega) | exact RO.ofk (one_4 (by omega) (by omega)) (by omega) (by omega) (by omega) | (obtain ⟨f, e1, x1, x2⟩ := o1.no (by omega); exact RO.ofl ((one_n (by omega) (by omega)).trans e1) (by omega) x1 x2) | exact RO.ofr ((one_n (by omega) (by omega)).trans e1) (by omega) ⟨gCT, by omega, by omega⟩ | (obtain ⟨f, e2, x1, x2⟩ := o2.no (by omega); exact RO.ofl (by rw [one_o (by omega) (by omega), e2, bnd_l]) (by omega) x1 x2) | (obtain ⟨f, e3, x1, x2⟩ := o3.no (by omega); exact RO.ofl (by rw [one_o (by omega) (by omega), e2, bnd_r, e3, bnd_l]) (by omega) x1 x2) | exact RO.ofr (by rw [one_o (by omega) (by omega), e2, bnd_r, e3, bnd_r]) (by omega) ⟨gCT, by omega, by omega⟩ | (rw [one_l (by omega) (by omega) (by omega) (by omega)]; exact o4.map (fun s es h => ⟨h.1, h.2.1, by have h2 := h.2.2; have hl := lea_up es; omega⟩)) | (rw [one_l (by omega) (by omega) (by omega) (by omega)]; exact o5.map (fun s es h => ⟨h.1, h.2.1, by have h2 := h.2.2; have hl := lea_up es; omega⟩)), by omega, gWH⟩)
        by_cases c46 : (σ0 1 9).toInt = 26
        · refine lv_tableIn (off := 177) (tgt := 249) hx hb dX7_readOne_72 (by omega) (by omega) (by rw [c46]; rfl) (by decide) ?_
          refine lv_aload_n hx hb dX7_readOne_249 rfl (lv_at hl 1 rfl) ?_
          refine fg_7_2 (k := 27) hx hb hts in_X7_readOne_7 hown hK hP (by decide) (by decide) (hts _ lk_X7_readOne_19) dX7_readOne_250 ?_
          refine lv_iload_n hx hb dX7_readOne_253 rfl (lv_at hl 0 rfl) ?_
          refine r_bipush hx hb dX7_readOne_254 (by decide) (fun z47 ez47 => ?_)
          refine r_iconst hx hb dX7_readOne_256 (by decide) (fun z48 ez48 => ?_)
          refine r_cVi (k := 24) (As := [.int (σ0 1 9), .int z47, .int z48]) (rest := []) ⟨hx, hb, hml, hown, hts⟩ hK hP hN hS (c_X6_add l D cA ad hI σ16 τ16 hR (σ0 1 9) z47 z48 (by omega)) (cwV 3 hts gX7_readOne_X6_add rfl rfl rfl (by decide +kernel) ⟨by decide, by decide⟩) (rv_Sent hK hP (by decide) (by decide)) rfl hl.1 rfl (Nat.le_of_ble_eq_true rfl) dX7_readOne_257 (Nat.zero_le _) (Nat.zero_le _) (fun r49 u49 H49 locs49 hp49 hP hS => ?_)
          obtain ⟨σ49, τ49⟩ := u49
          obtain ⟨hR, f49, fL49, hq49, hp49_0⟩ : P_X6_add σ16 τ16 (σ0 1 9) z47 z48 r49 σ49 τ49 := hp49
          have hP : va_P D vwCl (gw cA ad σ49 τ49) H49 := hP
          obtain rfl := FrL.nil fL49
          have hF := hF.step f49 (by decide)
          have gCT := gCT.ag (Agr.fr f49 (by decide))
          have gWH := gWH.ag (Agr.fr f49 (by decide))
          have t50 : (σ49 1 13).toInt = (σ16 1 13).toInt := congrArg Int32.toInt (f49.at 1 13 (by decide))
          have t51 : (σ49 24 1).toInt = (σ16 24 1).toInt := congrArg Int32.toInt (f49.at 24 1 (by decide))
          have hr52 := rg_6_2 hR (k := 24) (by decide) (by decide)
          exact r_zret hx hb hr hK hP hS hk (by omega) dX7_readOne_260 (show P_X7_readOne_d8 σ0 τ0 a1 b N mo q nn nm hc r49 σ49 τ16 from ⟨hR, hF, hFL, by omega, by first | exact RO.ofr ((one_l (by omega) (by omega) (by omega) (by omega)).trans (lea_n (by omega) (by omega))) (by omega) ⟨gCT, by omega, by omega⟩ | (exfalso; omega) | exact RO.ofk (one_x (by omega)) (by omega) (by omega) (by omega) | exact RO.ofk (one_4 (by omega) (by omega)) (by omega) (by omega) (by omega) | (obtain ⟨f, e1, x1, x2⟩ := o1.no (by omega); exact RO.ofl ((one_n (by omega) (by omega)).trans e1) (by omega) x1 x2) | exact RO.ofr ((one_n (by omega) (by omega)).trans e1) (by omega) ⟨gCT, by omega, by omega⟩ | (obtain ⟨f, e2, x1, x2⟩ := o2.no (by omega); exact RO.ofl (by rw [one_o (by omega) (by omega), e2, bnd_l]) (by omega) x1 x2) | (obtain ⟨f, e3, x1, x2⟩ := o3.no (by omega); exact RO.ofl (by rw [one_o (by omega) (by omega), e2, bnd_r, e3, bnd_l]) (by omega) x1 x2) | exact RO.ofr (by rw [one_o (by omega) (by omega), e2, bnd_r, e3, bnd_r]) (by omega) ⟨gCT, by omega, by omega⟩ | (rw [one_l (by omega) (by omega) (by omega) (by omega)]; exact o4.map (fun s es h => ⟨h.1, h.2.1, by have h2 := h.2.2; have hl := lea_up es; omega⟩)) | (rw [one_l (by omega) (by omega) (by omega) (by omega)]; exact o5.map (fun s es h => ⟨h.1, h.2.1, by have h2 := h.2.2; have hl := lea_up es; omega⟩)), by omega, gWH⟩)
        by_cases c53 : (σ0 1 9).toInt = 27
        · refine lv_tableIn (off := 171) (tgt := 243) hx hb dX7_readOne_72 (by omega) (by omega) (by rw [c53]; rfl) (by decide) ?_
          refine lv_aload_n hx hb dX7_readOne_243 rfl (lv_at hl 1 rfl) ?_
          refine lv_iload_n hx hb dX7_readOne_244 rfl (lv_at hl 0 rfl) ?_
          refine r_cVi (k := 27) (As := [.int (σ0 1 9)]) (rest := []) ⟨hx, hb, hml, hown, hts⟩ hK hP hN hS (c_X7_readMeasure l D cA ad hI σ16 τ16 hR (σ0 1 9) b N mo _ (nn + 1) nm hc (tkq b N mo q) (by omega) (by omega) (by omega) (by omega) gCT gWH) (cwV 1 hts gX7_readOne_X7_readMeasure rfl rfl rfl (by decide +kernel) ⟨by decide, by decide⟩) (rv_SText hK hP (by decide) (by decide)) rfl hl.1 rfl (Nat.le_of_ble_eq_true rfl) dX7_readOne_245 (Nat.zero_le _) (Nat.zero_le _) (fun r54 u54 H54 locs54 hp54 hP hS => ?_)
          obtain ⟨σ54, τ54⟩ := u54
          obtain ⟨hR, f54, fL54, hq54, hp54_0, hp54_1, gnWH⟩ : P_X7_readMeasure σ16 τ16 (σ0 1 9) b N mo _ (nn + 1) nm hc (tkq b N mo q) r54 σ54 τ54 := hp54
          have o5 := hp54_0
          have hP : va_P D vwCl (gw cA ad σ54 τ54) H54 := hP
          have hFL := hFL.step fL54 (by decide)
          have gWH := gWH.agL (AgrL.fr fL54 (by decide))
          have hF := hF.step f54 (by decide)
          have gWH := gWH.ag (Agr.fr f54 (by decide))
          have t55 : (σ54 24 1).toInt = (σ16 24 1).toInt := congrArg Int32.toInt (f54.at 24 1 (by decide))
          have hr56 := rg_6_2 hR (k := 24) (by decide) (by decide)
          exact r_zret hx hb hr hK hP hS hk (by omega) dX7_readOne_248 (show P_X7_readOne_d8 σ0 τ0 a1 b N mo q nn nm hc r54 σ54 τ54 from ⟨hR, hF, hFL, by omega, by first | exact RO.ofr ((one_l (by omega) (by omega) (by omega) (by omega)).trans (lea_n (by omega) (by omega))) (by omega) ⟨gCT, by omega, by omega⟩ | (exfalso; omega) | exact RO.ofk (one_x (by omega)) (by omega) (by omega) (by omega) | exact RO.ofk (one_4 (by omega) (by omega)) (by omega) (by omega) (by omega) | (obtain ⟨f, e1, x1, x2⟩ := o1.no (by omega); exact RO.ofl ((one_n (by omega) (by omega)).trans e1) (by omega) x1 x2) | exact RO.ofr ((one_n (by omega) (by omega)).trans e1) (by omega) ⟨gCT, by omega, by omega⟩ | (obtain ⟨f, e2, x1, x2⟩ := o2.no (by omega); exact RO.ofl (by rw [one_o (by omega) (by omega), e2, bnd_l]) (by omega) x1 x2) | (obtain ⟨f, e3, x1, x2⟩ := o3.no (by omega); exact RO.ofl (by rw [one_o (by omega) (by omega), e2, bnd_r, e3, bnd_l]) (by omega) x1 x2) | exact RO.ofr (by rw [one_o (by omega) (by omega), e2, bnd_r, e3, bnd_r]) (by omega) ⟨gCT, by omega, by omega⟩ | (rw [one_l (by omega) (by omega) (by omega) (by omega)]; exact o4.map (fun s es h => ⟨h.1, h.2.1, by have h2 := h.2.2; have hl := lea_up es; omega⟩)) | (rw [one_l (by omega) (by omega) (by omega) (by omega)]; exact o5.map (fun s es h => ⟨h.1, h.2.1, by have h2 := h.2.2; have hl := lea_up es; omega⟩)), by omega, gWH⟩)
        by_cases c57 : (σ0 1 9).toInt = 28
        · refine lv_tableIn (off := 171) (tgt := 243) hx hb dX7_readOne_72 (by omega) (by omega) (by rw [c57]; rfl) (by decide) ?_
          refine lv_aload_n hx hb dX7_readOne_243 rfl (lv_at hl 1 rfl) ?_
          refine lv_iload_n hx hb dX7_readOne_244 rfl (lv_at hl 0 rfl) ?_
          refine r_cVi (k := 27) (As := [.int (σ0 1 9)]) (rest := []) ⟨hx, hb, hml, hown, hts⟩ hK hP hN hS (c_X7_readMeasure l D cA ad hI σ16 τ16 hR (σ0 1 9) b N mo _ (nn + 1) nm hc (tkq b N mo q) (by omega) (by omega) (by omega) (by omega) gCT gWH) (cwV 1 hts gX7_readOne_X7_readMeasure rfl rfl rfl (by decide +kernel) ⟨by decide, by decide⟩) (rv_SText hK hP (by decide) (by decide)) rfl hl.1 rfl (Nat.le_of_ble_eq_true rfl) dX7_readOne_245 (Nat.zero_le _) (Nat.zero_le _) (fun r58 u58 H58 locs58 hp58 hP hS => ?_)
          obtain ⟨σ58, τ58⟩ := u58
          obtain ⟨hR, f58, fL58, hq58, hp58_0, hp58_1, gnWH⟩ : P_X7_readMeasure σ16 τ16 (σ0 1 9) b N mo _ (nn + 1) nm hc (tkq b N mo q) r58 σ58 τ58 := hp58
          have o5 := hp58_0
          have hP : va_P D vwCl (gw cA ad σ58 τ58) H58 := hP
          have hFL := hFL.step fL58 (by decide)
          have gWH := gWH.agL (AgrL.fr fL58 (by decide))
          have hF := hF.step f58 (by decide)
          have gWH := gWH.ag (Agr.fr f58 (by decide))
          have t59 : (σ58 24 1).toInt = (σ16 24 1).toInt := congrArg Int32.toInt (f58.at 24 1 (by decide))
          have hr60 := rg_6_2 hR (k := 24) (by decide) (by decide)
          exact r_zret hx hb hr hK hP hS hk (by omega) dX7_readOne_248 (show P_X7_readOne_d8 σ0 τ0 a1 b N mo q nn nm hc r58 σ58 τ58 from ⟨hR, hF, hFL, by omega, by first | exact RO.ofr ((one_l (by omega) (by omega) (by omega) (by omega)).trans (lea_n (by omega) (by omega))) (by omega) ⟨gCT, by omega, by omega⟩ | (exfalso; omega) | exact RO.ofk (one_x (by omega)) (by omega) (by omega) (by omega) | exact RO.ofk (one_4 (by omega) (by omega)) (by omega) (by omega) (by omega) | (obtain ⟨f, e1, x1, x2⟩ := o1.no (by omega); exact RO.ofl ((one_n (by omega) (by omega)).trans e1) (by omega) x1 x2) | exact RO.ofr ((one_n (by omega) (by omega)).trans e1) (by omega) ⟨gCT, by omega, by omega⟩ | (obtain ⟨f, e2, x1, x2⟩ := o2.no (by omega); exact RO.ofl (by rw [one_o (by omega) (by omega), e2, bnd_l]) (by omega) x1 x2) | (obtain ⟨f, e3, x1, x2⟩ := o3.no (by omega); exact RO.ofl (by rw [one_o (by omega) (by omega), e2, bnd_r, e3, bnd_l]) (by omega) x1 x2) | exact RO.ofr (by rw [one_o (by omega) (by omega), e2, bnd_r, e3, bnd_r]) (by omega) ⟨gCT, by omega, by omega⟩ | (rw [one_l (by omega) (by omega) (by omega) (by omega)]; exact o4.map (fun s es h => ⟨h.1, h.2.1, by have h2 := h.2.2; have hl := lea_up es; omega⟩)) | (rw [one_l (by omega) (by omega) (by omega) (by omega)]; exact o5.map (fun s es h => ⟨h.1, h.2.1, by have h2 := h.2.2; have hl := lea_up es; omega⟩)), by omega, gWH⟩)
        by_cases c61 : (σ0 1 9).toInt = 29
        · refine lv_tableIn (off := 171) (tgt := 243) hx hb dX7_readOne_72 (by omega) (by omega) (by rw [c61]; rfl) (by decide) ?_
          refine lv_aload_n hx hb dX7_readOne_243 rfl (lv_at hl 1 rfl) ?_
          refine lv_iload_n hx hb dX7_readOne_244 rfl (lv_at hl 0 rfl) ?_
          refine r_cVi (k := 27) (As := [.int (σ0 1 9)]) (rest := []) ⟨hx, hb, hml, hown, hts⟩ hK hP hN hS (c_X7_readMeasure l D cA ad hI σ16 τ16 hR (σ0 1 9) b N mo _ (nn + 1) nm hc (tkq b N mo q) (by omega) (by omega) (by omega) (by omega) gCT gWH) (cwV 1 hts gX7_readOne_X7_readMeasure rfl rfl rfl (by decide +kernel) ⟨by decide, by decide⟩) (rv_SText hK hP (by decide) (by decide)) rfl hl.1 rfl (Nat.le_of_ble_eq_true rfl) dX7_readOne_245 (Nat.zero_le _) (Nat.zero_le _) (fun r62 u62 H62 locs62 hp62 hP hS => ?_)
          obtain ⟨σ62, τ62⟩ := u62
          obtain ⟨hR, f62, fL62, hq62, hp62_0, hp62_1, gnWH⟩ : P_X7_readMeasure σ16 τ16 (σ0 1 9) b N mo _ (nn + 1) nm hc (tkq b N mo q) r62 σ62 τ62 := hp62
          have o5 := hp62_0
          have hP : va_P D vwCl (gw cA ad σ62 τ62) H62 := hP
          have hFL := hFL.step fL62 (by decide)
          have gWH := gWH.agL (AgrL.fr fL62 (by decide))
          have hF := hF.step f62 (by decide)
          have gWH := gWH.ag (Agr.fr f62 (by decide))
          have t63 : (σ62 24 1).toInt = (σ16 24 1).toInt := congrArg Int32.toInt (f62.at 24 1 (by decide))
          have hr64 := rg_6_2 hR (k := 24) (by decide) (by decide)
          exact r_zret hx hb hr hK hP hS hk (by omega) dX7_readOne_248 (show P_X7_readOne_d8 σ0 τ0 a1 b N mo q nn nm hc r62 σ62 τ62 from ⟨hR, hF, hFL, by omega, by first | exact RO.ofr ((one_l (by omega) (by omega) (by omega) (by omega)).trans (lea_n (by omega) (by omega))) (by omega) ⟨gCT, by omega, by omega⟩ | (exfalso; omega) | exact RO.ofk (one_x (by omega)) (by omega) (by omega) (by omega) | exact RO.ofk (one_4 (by omega) (by omega)) (by omega) (by omega) (by omega) | (obtain ⟨f, e1, x1, x2⟩ := o1.no (by omega); exact RO.ofl ((one_n (by omega) (by omega)).trans e1) (by omega) x1 x2) | exact RO.ofr ((one_n (by omega) (by omega)).trans e1) (by omega) ⟨gCT, by omega, by omega⟩ | (obtain ⟨f, e2, x1, x2⟩ := o2.no (by omega); exact RO.ofl (by rw [one_o (by omega) (by omega), e2, bnd_l]) (by omega) x1 x2) | (obtain ⟨f, e3, x1, x2⟩ := o3.no (by omega); exact RO.ofl (by rw [one_o (by omega) (by omega), e2, bnd_r, e3, bnd_l]) (by omega) x1 x2) | exact RO.ofr (by rw [one_o (by omega) (by omega), e2, bnd_r, e3, bnd_r]) (by omega) ⟨gCT, by omega, by omega⟩ | (rw [one_l (by omega) (by omega) (by omega) (by omega)]; exact o4.map (fun s es h => ⟨h.1, h.2.1, by have h2 := h.2.2; have hl := lea_up es; omega⟩)) | (rw [one_l (by omega) (by omega) (by omega) (by omega)]; exact o5.map (fun s es h => ⟨h.1, h.2.1, by have h2 := h.2.2; have hl := lea_up es; omega⟩)), by omega, gWH⟩)
        by_cases c65 : (σ0 1 9).toInt = 30
        · refine lv_tableIn (off := 171) (tgt := 243) hx hb dX7_readOne_72 (by omega) (by omega) (by rw [c65]; rfl) (by decide) ?_
          refine lv_aload_n hx hb dX7_readOne_243 rfl (lv_at hl 1 rfl) ?_
          refine lv_iload_n hx hb dX7_readOne_244 rfl (lv_at hl 0 rfl) ?_
          refine r_cVi (k := 27) (As := [.int (σ0 1 9)]) (rest := []) ⟨hx, hb, hml, hown, hts⟩ hK hP hN hS (c_X7_readMeasure l D cA ad hI σ16 τ16 hR (σ0 1 9) b N mo _ (nn + 1) nm hc (tkq b N mo q) (by omega) (by omega) (by omega) (by omega) gCT gWH) (cwV 1 hts gX7_readOne_X7_readMeasure rfl rfl rfl (by decide +kernel) ⟨by decide, by decide⟩) (rv_SText hK hP (by decide) (by decide)) rfl hl.1 rfl (Nat.le_of_ble_eq_true rfl) dX7_readOne_245 (Nat.zero_le _) (Nat.zero_le _) (fun r66 u66 H66 locs66 hp66 hP hS => ?_)
          obtain ⟨σ66, τ66⟩ := u66
          obtain ⟨hR, f66, fL66, hq66, hp66_0, hp66_1, gnWH⟩ : P_X7_readMeasure σ16 τ16 (σ0 1 9) b N mo _ (nn + 1) nm hc (tkq b N mo q) r66 σ66 τ66 := hp66
          have o5 := hp66_0
          have hP : va_P D vwCl (gw cA ad σ66 τ66) H66 := hP
          have hFL := hFL.step fL66 (by decide)
          have gWH := gWH.agL (AgrL.fr fL66 (by decide))
          have hF := hF.step f66 (by decide)
          have gWH := gWH.ag (Agr.fr f66 (by decide))
          have t67 : (σ66 24 1).toInt = (σ16 24 1).toInt := congrArg Int32.toInt (f66.at 24 1 (by decide))
          have hr68 := rg_6_2 hR (k := 24) (by decide) (by decide)
          exact r_zret hx hb hr hK hP hS hk (by omega) dX7_readOne_248 (show P_X7_readOne_d8 σ0 τ0 a1 b N mo q nn nm hc r66 σ66 τ66 from ⟨hR, hF, hFL, by omega, by first | exact RO.ofr ((one_l (by omega) (by omega) (by omega) (by omega)).trans (lea_n (by omega) (by omega))) (by omega) ⟨gCT, by omega, by omega⟩ | (exfalso; omega) | exact RO.ofk (one_x (by omega)) (by omega) (by omega) (by omega) | exact RO.ofk (one_4 (by omega) (by omega)) (by omega) (by omega) (by omega) | (obtain ⟨f, e1, x1, x2⟩ := o1.no (by omega); exact RO.ofl ((one_n (by omega) (by omega)).trans e1) (by omega) x1 x2) | exact RO.ofr ((one_n (by omega) (by omega)).trans e1) (by omega) ⟨gCT, by omega, by omega⟩ | (obtain ⟨f, e2, x1, x2⟩ := o2.no (by omega); exact RO.ofl (by rw [one_o (by omega) (by omega), e2, bnd_l]) (by omega) x1 x2) | (obtain ⟨f, e3, x1, x2⟩ := o3.no (by omega); exact RO.ofl (by rw [one_o (by omega) (by omega), e2, bnd_r, e3, bnd_l]) (by omega) x1 x2) | exact RO.ofr (by rw [one_o (by omega) (by omega), e2, bnd_r, e3, bnd_r]) (by omega) ⟨gCT, by omega, by omega⟩ | (rw [one_l (by omega) (by omega) (by omega) (by omega)]; exact o4.map (fun s es h => ⟨h.1, h.2.1, by have h2 := h.2.2; have hl := lea_up es; omega⟩)) | (rw [one_l (by omega) (by omega) (by omega) (by omega)]; exact o5.map (fun s es h => ⟨h.1, h.2.1, by have h2 := h.2.2; have hl := lea_up es; omega⟩)), by omega, gWH⟩)
        by_cases c69 : (σ0 1 9).toInt = 31
        · refine lv_tableIn (off := 177) (tgt := 249) hx hb dX7_readOne_72 (by omega) (by omega) (by rw [c69]; rfl) (by decide) ?_
          refine lv_aload_n hx hb dX7_readOne_249 rfl (lv_at hl 1 rfl) ?_
          refine fg_7_2 (k := 27) hx hb hts in_X7_readOne_7 hown hK hP (by decide) (by decide) (hts _ lk_X7_readOne_19) dX7_readOne_250 ?_
          refine lv_iload_n hx hb dX7_readOne_253 rfl (lv_at hl 0 rfl) ?_
          refine r_bipush hx hb dX7_readOne_254 (by decide) (fun z70 ez70 => ?_)
          refine r_iconst hx hb dX7_readOne_256 (by decide) (fun z71 ez71 => ?_)
          refine r_cVi (k := 24) (As := [.int (σ0 1 9), .int z70, .int z71]) (rest := []) ⟨hx, hb, hml, hown, hts⟩ hK hP hN hS (c_X6_add l D cA ad hI σ16 τ16 hR (σ0 1 9) z70 z71 (by omega)) (cwV 3 hts gX7_readOne_X6_add rfl rfl rfl (by decide +kernel) ⟨by decide, by decide⟩) (rv_Sent hK hP (by decide) (by decide)) rfl hl.1 rfl (Nat.le_of_ble_eq_true rfl) dX7_readOne_257 (Nat.zero_le _) (Nat.zero_le _) (fun r72 u72 H72 locs72 hp72 hP hS => ?_)
          obtain ⟨σ72, τ72⟩ := u72
          obtain ⟨hR, f72, fL72, hq72, hp72_0⟩ : P_X6_add σ16 τ16 (σ0 1 9) z70 z71 r72 σ72 τ72 := hp72
          have hP : va_P D vwCl (gw cA ad σ72 τ72) H72 := hP
          obtain rfl := FrL.nil fL72
          have hF := hF.step f72 (by decide)
          have gCT := gCT.ag (Agr.fr f72 (by decide))
          have gWH := gWH.ag (Agr.fr f72 (by decide))
          have t73 : (σ72 1 13).toInt = (σ16 1 13).toInt := congrArg Int32.toInt (f72.at 1 13 (by decide))
          have t74 : (σ72 24 1).toInt = (σ16 24 1).toInt := congrArg Int32.toInt (f72.at 24 1 (by decide))
          have hr75 := rg_6_2 hR (k := 24) (by decide) (by decide)
          exact r_zret hx hb hr hK hP hS hk (by omega) dX7_readOne_260 (show P_X7_readOne_d8 σ0 τ0 a1 b N mo q nn nm hc r72 σ72 τ16 from ⟨hR, hF, hFL, by omega, by first | exact RO.ofr ((one_l (by omega) (by omega) (by omega) (by omega)).trans (lea_n (by omega) (by omega))) (by omega) ⟨gCT, by omega, by omega⟩ | (exfalso; omega) | exact RO.ofk (one_x (by omega)) (by omega) (by omega) (by omega) | exact RO.ofk (one_4 (by omega) (by omega)) (by omega) (by omega) (by omega) | (obtain ⟨f, e1, x1, x2⟩ := o1.no (by omega); exact RO.ofl ((one_n (by omega) (by omega)).trans e1) (by omega) x1 x2) | exact RO.ofr ((one_n (by omega) (by omega)).trans e1) (by omega) ⟨gCT, by omega, by omega⟩ | (obtain ⟨f, e2, x1, x2⟩ := o2.no (by omega); exact RO.ofl (by rw [one_o (by omega) (by omega), e2, bnd_l]) (by omega) x1 x2) | (obtain ⟨f, e3, x1, x2⟩ := o3.no (by omega); exact RO.ofl (by rw [one_o (by omega) (by omega), e2, bnd_r, e3, bnd_l]) (by omega) x1 x2) | exact RO.ofr (by rw [one_o (by omega) (by omega), e2, bnd_r, e3, bnd_r]) (by omega) ⟨gCT, by omega, by omega⟩ | (rw [one_l (by omega) (by omega) (by omega) (by omega)]; exact o4.map (fun s es h => ⟨h.1, h.2.1, by have h2 := h.2.2; have hl := lea_up es; omega⟩)) | (rw [one_l (by omega) (by omega) (by omega) (by omega)]; exact o5.map (fun s es h => ⟨h.1, h.2.1, by have h2 := h.2.2; have hl := lea_up es; omega⟩)), by omega, gWH⟩)
        by_cases c76 : (σ0 1 9).toInt = 32
        · refine lv_tableIn (off := 177) (tgt := 249) hx hb dX7_readOne_72 (by omega) (by omega) (by rw [c76]; rfl) (by decide) ?_
          refine lv_aload_n hx hb dX7_readOne_249 rfl (lv_at hl 1 rfl) ?_
          refine fg_7_2 (k := 27) hx hb hts in_X7_readOne_7 hown hK hP (by decide) (by decide) (hts _ lk_X7_readOne_19) dX7_readOne_250 ?_
          refine lv_iload_n hx hb dX7_readOne_253 rfl (lv_at hl 0 rfl) ?_
          refine r_bipush hx hb dX7_readOne_254 (by decide) (fun z77 ez77 => ?_)
          refine r_iconst hx hb dX7_readOne_256 (by decide) (fun z78 ez78 => ?_)
          refine r_cVi (k := 24) (As := [.int (σ0 1 9), .int z77, .int z78]) (rest := []) ⟨hx, hb, hml, hown, hts⟩ hK hP hN hS (c_X6_add l D cA ad hI σ16 τ16 hR (σ0 1 9) z77 z78 (by omega)) (cwV 3 hts gX7_readOne_X6_add rfl rfl rfl (by decide +kernel) ⟨by decide, by decide⟩) (rv_Sent hK hP (by decide) (by decide)) rfl hl.1 rfl (Nat.le_of_ble_eq_true rfl) dX7_readOne_257 (Nat.zero_le _) (Nat.zero_le _) (fun r79 u79 H79 locs79 hp79 hP hS => ?_)
          obtain ⟨σ79, τ79⟩ := u79
          obtain ⟨hR, f79, fL79, hq79, hp79_0⟩ : P_X6_add σ16 τ16 (σ0 1 9) z77 z78 r79 σ79 τ79 := hp79
          have hP : va_P D vwCl (gw cA ad σ79 τ79) H79 := hP
          obtain rfl := FrL.nil fL79
          have hF := hF.step f79 (by decide)
          have gCT := gCT.ag (Agr.fr f79 (by decide))
          have gWH := gWH.ag (Agr.fr f79 (by decide))
          have t80 : (σ79 1 13).toInt = (σ16 1 13).toInt := congrArg Int32.toInt (f79.at 1 13 (by decide))
          have t81 : (σ79 24 1).toInt = (σ16 24 1).toInt := congrArg Int32.toInt (f79.at 24 1 (by decide))
          have hr82 := rg_6_2 hR (k := 24) (by decide) (by decide)
          exact r_zret hx hb hr hK hP hS hk (by omega) dX7_readOne_260 (show P_X7_readOne_d8 σ0 τ0 a1 b N mo q nn nm hc r79 σ79 τ16 from ⟨hR, hF, hFL, by omega, by first | exact RO.ofr ((one_l (by omega) (by omega) (by omega) (by omega)).trans (lea_n (by omega) (by omega))) (by omega) ⟨gCT, by omega, by omega⟩ | (exfalso; omega) | exact RO.ofk (one_x (by omega)) (by omega) (by omega) (by omega) | exact RO.ofk (one_4 (by omega) (by omega)) (by omega) (by omega) (by omega) | (obtain ⟨f, e1, x1, x2⟩ := o1.no (by omega); exact RO.ofl ((one_n (by omega) (by omega)).trans e1) (by omega) x1 x2) | exact RO.ofr ((one_n (by omega) (by omega)).trans e1) (by omega) ⟨gCT, by omega, by omega⟩ | (obtain ⟨f, e2, x1, x2⟩ := o2.no (by omega); exact RO.ofl (by rw [one_o (by omega) (by omega), e2, bnd_l]) (by omega) x1 x2) | (obtain ⟨f, e3, x1, x2⟩ := o3.no (by omega); exact RO.ofl (by rw [one_o (by omega) (by omega), e2, bnd_r, e3, bnd_l]) (by omega) x1 x2) | exact RO.ofr (by rw [one_o (by omega) (by omega), e2, bnd_r, e3, bnd_r]) (by omega) ⟨gCT, by omega, by omega⟩ | (rw [one_l (by omega) (by omega) (by omega) (by omega)]; exact o4.map (fun s es h => ⟨h.1, h.2.1, by have h2 := h.2.2; have hl := lea_up es; omega⟩)) | (rw [one_l (by omega) (by omega) (by omega) (by omega)]; exact o5.map (fun s es h => ⟨h.1, h.2.1, by have h2 := h.2.2; have hl := lea_up es; omega⟩)), by omega, gWH⟩)
        by_cases c83 : (σ0 1 9).toInt = 33
        · refine lv_tableIn (off := 177) (tgt := 249) hx hb dX7_readOne_72 (by omega) (by omega) (by rw [c83]; rfl) (by decide) ?_
          refine lv_aload_n hx hb dX7_readOne_249 rfl (lv_at hl 1 rfl) ?_
          refine fg_7_2 (k := 27) hx hb hts in_X7_readOne_7 hown hK hP (by decide) (by decide) (hts _ lk_X7_readOne_19) dX7_readOne_250 ?_
          refine lv_iload_n hx hb dX7_readOne_253 rfl (lv_at hl 0 rfl) ?_
          refine r_bipush hx hb dX7_readOne_254 (by decide) (fun z84 ez84 => ?_)
          refine r_iconst hx hb dX7_readOne_256 (by decide) (fun z85 ez85 => ?_)
          refine r_cVi (k := 24) (As := [.int (σ0 1 9), .int z84, .int z85]) (rest := []) ⟨hx, hb, hml, hown, hts⟩ hK hP hN hS (c_X6_add l D cA ad hI σ16 τ16 hR (σ0 1 9) z84 z85 (by omega)) (cwV 3 hts gX7_readOne_X6_add rfl rfl rfl (by decide +kernel) ⟨by decide, by decide⟩) (rv_Sent hK hP (by decide) (by decide)) rfl hl.1 rfl (Nat.le_of_ble_eq_true rfl) dX7_readOne_257 (Nat.zero_le _) (Nat.zero_le _) (fun r86 u86 H86 locs86 hp86 hP hS => ?_)
          obtain ⟨σ86, τ86⟩ := u86
          obtain ⟨hR, f86, fL86, hq86, hp86_0⟩ : P_X6_add σ16 τ16 (σ0 1 9) z84 z85 r86 σ86 τ86 := hp86
          have hP : va_P D vwCl (gw cA ad σ86 τ86) H86 := hP
          obtain rfl := FrL.nil fL86
          have hF := hF.step f86 (by decide)
          have gCT := gCT.ag (Agr.fr f86 (by decide))
          have gWH := gWH.ag (Agr.fr f86 (by decide))
          have t87 : (σ86 1 13).toInt = (σ16 1 13).toInt := congrArg Int32.toInt (f86.at 1 13 (by decide))
          have t88 : (σ86 24 1).toInt = (σ16 24 1).toInt := congrArg Int32.toInt (f86.at 24 1 (by decide))
          have hr89 := rg_6_2 hR (k := 24) (by decide) (by decide)
          exact r_zret hx hb hr hK hP hS hk (by omega) dX7_readOne_260 (show P_X7_readOne_d8 σ0 τ0 a1 b N mo q nn nm hc r86 σ86 τ16 from ⟨hR, hF, hFL, by omega, by first | exact RO.ofr ((one_l (by omega) (by omega) (by omega) (by omega)).trans (lea_n (by omega) (by omega))) (by omega) ⟨gCT, by omega, by omega⟩ | (exfalso; omega) | exact RO.ofk (one_x (by omega)) (by omega) (by omega) (by omega) | exact RO.ofk (one_4 (by omega) (by omega)) (by omega) (by omega) (by omega) | (obtain ⟨f, e1, x1, x2⟩ := o1.no (by omega); exact RO.ofl ((one_n (by omega) (by omega)).trans e1) (by omega) x1 x2) | exact RO.ofr ((one_n (by omega) (by omega)).trans e1) (by omega) ⟨gCT, by omega, by omega⟩ | (obtain ⟨f, e2, x1, x2⟩ := o2.no (by omega); exact RO.ofl (by rw [one_o (by omega) (by omega), e2, bnd_l]) (by omega) x1 x2) | (obtain ⟨f, e3, x1, x2⟩ := o3.no (by omega); exact RO.ofl (by rw [one_o (by omega) (by omega), e2, bnd_r, e3, bnd_l]) (by omega) x1 x2) | exact RO.ofr (by rw [one_o (by omega) (by omega), e2, bnd_r, e3, bnd_r]) (by omega) ⟨gCT, by omega, by omega⟩ | (rw [one_l (by omega) (by omega) (by omega) (by omega)]; exact o4.map (fun s es h => ⟨h.1, h.2.1, by have h2 := h.2.2; have hl := lea_up es; omega⟩)) | (rw [one_l (by omega) (by omega) (by omega) (by omega)]; exact o5.map (fun s es h => ⟨h.1, h.2.1, by have h2 := h.2.2; have hl := lea_up es; omega⟩)), by omega, gWH⟩)
        by_cases c90 : (σ0 1 9).toInt = 34
        · refine lv_tableIn (off := 177) (tgt := 249) hx hb dX7_readOne_72 (by omega) (by omega) (by rw [c90]; rfl) (by decide) ?_
          refine lv_aload_n hx hb dX7_readOne_249 rfl (lv_at hl 1 rfl) ?_
          refine fg_7_2 (k := 27) hx hb hts in_X7_readOne_7 hown hK hP (by decide) (by decide) (hts _ lk_X7_readOne_19) dX7_readOne_250 ?_
          refine lv_iload_n hx hb dX7_readOne_253 rfl (lv_at hl 0 rfl) ?_
          refine r_bipush hx hb dX7_readOne_254 (by decide) (fun z91 ez91 => ?_)
          refine r_iconst hx hb dX7_readOne_256 (by decide) (fun z92 ez92 => ?_)
          refine r_cVi (k := 24) (As := [.int (σ0 1 9), .int z91, .int z92]) (rest := []) ⟨hx, hb, hml, hown, hts⟩ hK hP hN hS (c_X6_add l D cA ad hI σ16 τ16 hR (σ0 1 9) z91 z92 (by omega)) (cwV 3 hts gX7_readOne_X6_add rfl rfl rfl (by decide +kernel) ⟨by decide, by decide⟩) (rv_Sent hK hP (by decide) (by decide)) rfl hl.1 rfl (Nat.le_of_ble_eq_true rfl) dX7_readOne_257 (Nat.zero_le _) (Nat.zero_le _) (fun r93 u93 H93 locs93 hp93 hP hS => ?_)
          obtain ⟨σ93, τ93⟩ := u93
          obtain ⟨hR, f93, fL93, hq93, hp93_0⟩ : P_X6_add σ16 τ16 (σ0 1 9) z91 z92 r93 σ93 τ93 := hp93
          have hP : va_P D vwCl (gw cA ad σ93 τ93) H93 := hP
          obtain rfl := FrL.nil fL93
          have hF := hF.step f93 (by decide)
          have gCT := gCT.ag (Agr.fr f93 (by decide))
          have gWH := gWH.ag (Agr.fr f93 (by decide))
          have t94 : (σ93 1 13).toInt = (σ16 1 13).toInt := congrArg Int32.toInt (f93.at 1 13 (by decide))
          have t95 : (σ93 24 1).toInt = (σ16 24 1).toInt := congrArg Int32.toInt (f93.at 24 1 (by decide))
          have hr96 := rg_6_2 hR (k := 24) (by decide) (by decide)
          exact r_zret hx hb hr hK hP hS hk (by omega) dX7_readOne_260 (show P_X7_readOne_d8 σ0 τ0 a1 b N mo q nn nm hc r93 σ93 τ16 from ⟨hR, hF, hFL, by omega, by first | exact RO.ofr ((one_l (by omega) (by omega) (by omega) (by omega)).trans (lea_n (by omega) (by omega))) (by omega) ⟨gCT, by omega, by omega⟩ | (exfalso; omega) | exact RO.ofk (one_x (by omega)) (by omega) (by omega) (by omega) | exact RO.ofk (one_4 (by omega) (by omega)) (by omega) (by omega) (by omega) | (obtain ⟨f, e1, x1, x2⟩ := o1.no (by omega); exact RO.ofl ((one_n (by omega) (by omega)).trans e1) (by omega) x1 x2) | exact RO.ofr ((one_n (by omega) (by omega)).trans e1) (by omega) ⟨gCT, by omega, by omega⟩ | (obtain ⟨f, e2, x1, x2⟩ := o2.no (by omega); exact RO.ofl (by rw [one_o (by omega) (by omega), e2, bnd_l]) (by omega) x1 x2) | (obtain ⟨f, e3, x1, x2⟩ := o3.no (by omega); exact RO.ofl (by rw [one_o (by omega) (by omega), e2, bnd_r, e3, bnd_l]) (by omega) x1 x2) | exact RO.ofr (by rw [one_o (by omega) (by omega), e2, bnd_r, e3, bnd_r]) (by omega) ⟨gCT, by omega, by omega⟩ | (rw [one_l (by omega) (by omega) (by omega) (by omega)]; exact o4.map (fun s es h => ⟨h.1, h.2.1, by have h2 := h.2.2; have hl := lea_up es; omega⟩)) | (rw [one_l (by omega) (by omega) (by omega) (by omega)]; exact o5.map (fun s es h => ⟨h.1, h.2.1, by have h2 := h.2.2; have hl := lea_up es; omega⟩)), by omega, gWH⟩)
        by_cases c97 : (σ0 1 9).toInt = 35
        · refine lv_tableIn (off := 177) (tgt := 249) hx hb dX7_readOne_72 (by omega) (by omega) (by rw [c97]; rfl) (by decide) ?_
          refine lv_aload_n hx hb dX7_readOne_249 rfl (lv_at hl 1 rfl) ?_
          refine fg_7_2 (k := 27) hx hb hts in_X7_readOne_7 hown hK hP (by decide) (by decide) (hts _ lk_X7_readOne_19) dX7_readOne_250 ?_
          refine lv_iload_n hx hb dX7_readOne_253 rfl (lv_at hl 0 rfl) ?_
          refine r_bipush hx hb dX7_readOne_254 (by decide) (fun z98 ez98 => ?_)
          refine r_iconst hx hb dX7_readOne_256 (by decide) (fun z99 ez99 => ?_)
          refine r_cVi (k := 24) (As := [.int (σ0 1 9), .int z98, .int z99]) (rest := []) ⟨hx, hb, hml, hown, hts⟩ hK hP hN hS (c_X6_add l D cA ad hI σ16 τ16 hR (σ0 1 9) z98 z99 (by omega)) (cwV 3 hts gX7_readOne_X6_add rfl rfl rfl (by decide +kernel) ⟨by decide, by decide⟩) (rv_Sent hK hP (by decide) (by decide)) rfl hl.1 rfl (Nat.le_of_ble_eq_true rfl) dX7_readOne_257 (Nat.zero_le _) (Nat.zero_le _) (fun r100 u100 H100 locs100 hp100 hP hS => ?_)
          obtain ⟨σ100, τ100⟩ := u100
          obtain ⟨hR, f100, fL100, hq100, hp100_0⟩ : P_X6_add σ16 τ16 (σ0 1 9) z98 z99 r100 σ100 τ100 := hp100
          have hP : va_P D vwCl (gw cA ad σ100 τ100) H100 := hP
          obtain rfl := FrL.nil fL100
          have hF := hF.step f100 (by decide)
          have gCT := gCT.ag (Agr.fr f100 (by decide))
          have gWH := gWH.ag (Agr.fr f100 (by decide))
          have t101 : (σ100 1 13).toInt = (σ16 1 13).toInt := congrArg Int32.toInt (f100.at 1 13 (by decide))
          have t102 : (σ100 24 1).toInt = (σ16 24 1).toInt := congrArg Int32.toInt (f100.at 24 1 (by decide))
          have hr103 := rg_6_2 hR (k := 24) (by decide) (by decide)
          exact r_zret hx hb hr hK hP hS hk (by omega) dX7_readOne_260 (show P_X7_readOne_d8 σ0 τ0 a1 b N mo q nn nm hc r100 σ100 τ16 from ⟨hR, hF, hFL, by omega, by first | exact RO.ofr ((one_l (by omega) (by omega) (by omega) (by omega)).trans (lea_n (by omega) (by omega))) (by omega) ⟨gCT, by omega, by omega⟩ | (exfalso; omega) | exact RO.ofk (one_x (by omega)) (by omega) (by omega) (by omega) | exact RO.ofk (one_4 (by omega) (by omega)) (by omega) (by omega) (by omega) | (obtain ⟨f, e1, x1, x2⟩ := o1.no (by omega); exact RO.ofl ((one_n (by omega) (by omega)).trans e1) (by omega) x1 x2) | exact RO.ofr ((one_n (by omega) (by omega)).trans e1) (by omega) ⟨gCT, by omega, by omega⟩ | (obtain ⟨f, e2, x1, x2⟩ := o2.no (by omega); exact RO.ofl (by rw [one_o (by omega) (by omega), e2, bnd_l]) (by omega) x1 x2) | (obtain ⟨f, e3, x1, x2⟩ := o3.no (by omega); exact RO.ofl (by rw [one_o (by omega) (by omega), e2, bnd_r, e3, bnd_l]) (by omega) x1 x2) | exact RO.ofr (by rw [one_o (by omega) (by omega), e2, bnd_r, e3, bnd_r]) (by omega) ⟨gCT, by omega, by omega⟩ | (rw [one_l (by omega) (by omega) (by omega) (by omega)]; exact o4.map (fun s es h => ⟨h.1, h.2.1, by have h2 := h.2.2; have hl := lea_up es; omega⟩)) | (rw [one_l (by omega) (by omega) (by omega) (by omega)]; exact o5.map (fun s es h => ⟨h.1, h.2.1, by have h2 := h.2.2; have hl := lea_up es; omega⟩)), by omega, gWH⟩)
        by_cases c104 : (σ0 1 9).toInt = 36
        · refine lv_tableIn (off := 177) (tgt := 249) hx hb dX7_readOne_72 (by omega) (by omega) (by rw [c104]; rfl) (by decide) ?_
          refine lv_aload_n hx hb dX7_readOne_249 rfl (lv_at hl 1 rfl) ?_
          refine fg_7_2 (k := 27) hx hb hts in_X7_readOne_7 hown hK hP (by decide) (by decide) (hts _ lk_X7_readOne_19) dX7_readOne_250 ?_
          refine lv_iload_n hx hb dX7_readOne_253 rfl (lv_at hl 0 rfl) ?_
          refine r_bipush hx hb dX7_readOne_254 (by decide) (fun z105 ez105 => ?_)
          refine r_iconst hx hb dX7_readOne_256 (by decide) (fun z106 ez106 => ?_)
          refine r_cVi (k := 24) (As := [.int (σ0 1 9), .int z105, .int z106]) (rest := []) ⟨hx, hb, hml, hown, hts⟩ hK hP hN hS (c_X6_add l D cA ad hI σ16 τ16 hR (σ0 1 9) z105 z106 (by omega)) (cwV 3 hts gX7_readOne_X6_add rfl rfl rfl (by decide +kernel) ⟨by decide, by decide⟩) (rv_Sent hK hP (by decide) (by decide)) rfl hl.1 rfl (Nat.le_of_ble_eq_true rfl) dX7_readOne_257 (Nat.zero_le _) (Nat.zero_le _) (fun r107 u107 H107 locs107 hp107 hP hS => ?_)
          obtain ⟨σ107, τ107⟩ := u107
          obtain ⟨hR, f107, fL107, hq107, hp107_0⟩ : P_X6_add σ16 τ16 (σ0 1 9) z105 z106 r107 σ107 τ107 := hp107
          have hP : va_P D vwCl (gw cA ad σ107 τ107) H107 := hP
          obtain rfl := FrL.nil fL107
          have hF := hF.step f107 (by decide)
          have gCT := gCT.ag (Agr.fr f107 (by decide))
          have gWH := gWH.ag (Agr.fr f107 (by decide))
          have t108 : (σ107 1 13).toInt = (σ16 1 13).toInt := congrArg Int32.toInt (f107.at 1 13 (by decide))
          have t109 : (σ107 24 1).toInt = (σ16 24 1).toInt := congrArg Int32.toInt (f107.at 24 1 (by decide))
          have hr110 := rg_6_2 hR (k := 24) (by decide) (by decide)
          exact r_zret hx hb hr hK hP hS hk (by omega) dX7_readOne_260 (show P_X7_readOne_d8 σ0 τ0 a1 b N mo q nn nm hc r107 σ107 τ16 from ⟨hR, hF, hFL, by omega, by first | exact RO.ofr ((one_l (by omega) (by omega) (by omega) (by omega)).trans (lea_n (by omega) (by omega))) (by omega) ⟨gCT, by omega, by omega⟩ | (exfalso; omega) | exact RO.ofk (one_x (by omega)) (by omega) (by omega) (by omega) | exact RO.ofk (one_4 (by omega) (by omega)) (by omega) (by omega) (by omega) | (obtain ⟨f, e1, x1, x2⟩ := o1.no (by omega); exact RO.ofl ((one_n (by omega) (by omega)).trans e1) (by omega) x1 x2) | exact RO.ofr ((one_n (by omega) (by omega)).trans e1) (by omega) ⟨gCT, by omega, by omega⟩ | (obtain ⟨f, e2, x1, x2⟩ := o2.no (by omega); exact RO.ofl (by rw [one_o (by omega) (by omega), e2, bnd_l]) (by omega) x1 x2) | (obtain ⟨f, e3, x1, x2⟩ := o3.no (by omega); exact RO.ofl (by rw [one_o (by omega) (by omega), e2, bnd_r, e3, bnd_l]) (by omega) x1 x2) | exact RO.ofr (by rw [one_o (by omega) (by omega), e2, bnd_r, e3, bnd_r]) (by omega) ⟨gCT, by omega, by omega⟩ | (rw [one_l (by omega) (by omega) (by omega) (by omega)]; exact o4.map (fun s es h => ⟨h.1, h.2.1, by have h2 := h.2.2; have hl := lea_up es; omega⟩)) | (rw [one_l (by omega) (by omega) (by omega) (by omega)]; exact o5.map (fun s es h => ⟨h.1, h.2.1, by have h2 := h.2.2; have hl := lea_up es; omega⟩)), by omega, gWH⟩)
        by_cases c111 : (σ0 1 9).toInt = 37
        · refine lv_tableIn (off := 177) (tgt := 249) hx hb dX7_readOne_72 (by omega) (by omega) (by rw [c111]; rfl) (by decide) ?_
          refine lv_aload_n hx hb dX7_readOne_249 rfl (lv_at hl 1 rfl) ?_
          refine fg_7_2 (k := 27) hx hb hts in_X7_readOne_7 hown hK hP (by decide) (by decide) (hts _ lk_X7_readOne_19) dX7_readOne_250 ?_
          refine lv_iload_n hx hb dX7_readOne_253 rfl (lv_at hl 0 rfl) ?_
          refine r_bipush hx hb dX7_readOne_254 (by decide) (fun z112 ez112 => ?_)
          refine r_iconst hx hb dX7_readOne_256 (by decide) (fun z113 ez113 => ?_)
          refine r_cVi (k := 24) (As := [.int (σ0 1 9), .int z112, .int z113]) (rest := []) ⟨hx, hb, hml, hown, hts⟩ hK hP hN hS (c_X6_add l D cA ad hI σ16 τ16 hR (σ0 1 9) z112 z113 (by omega)) (cwV 3 hts gX7_readOne_X6_add rfl rfl rfl (by decide +kernel) ⟨by decide, by decide⟩) (rv_Sent hK hP (by decide) (by decide)) rfl hl.1 rfl (Nat.le_of_ble_eq_true rfl) dX7_readOne_257 (Nat.zero_le _) (Nat.zero_le _) (fun r114 u114 H114 locs114 hp114 hP hS => ?_)
          obtain ⟨σ114, τ114⟩ := u114
          obtain ⟨hR, f114, fL114, hq114, hp114_0⟩ : P_X6_add σ16 τ16 (σ0 1 9) z112 z113 r114 σ114 τ114 := hp114
          have hP : va_P D vwCl (gw cA ad σ114 τ114) H114 := hP
          obtain rfl := FrL.nil fL114
          have hF := hF.step f114 (by decide)
          have gCT := gCT.ag (Agr.fr f114 (by decide))
          have gWH := gWH.ag (Agr.fr f114 (by decide))
          have t115 : (σ114 1 13).toInt = (σ16 1 13).toInt := congrArg Int32.toInt (f114.at 1 13 (by decide))
          have t116 : (σ114 24 1).toInt = (σ16 24 1).toInt := congrArg Int32.toInt (f114.at 24 1 (by decide))
          have hr117 := rg_6_2 hR (k := 24) (by decide) (by decide)
          exact r_zret hx hb hr hK hP hS hk (by omega) dX7_readOne_260 (show P_X7_readOne_d8 σ0 τ0 a1 b N mo q nn nm hc r114 σ114 τ16 from ⟨hR, hF, hFL, by omega, by first | exact RO.ofr ((one_l (by omega) (by omega) (by omega) (by omega)).trans (lea_n (by omega) (by omega))) (by omega) ⟨gCT, by omega, by omega⟩ | (exfalso; omega) | exact RO.ofk (one_x (by omega)) (by omega) (by omega) (by omega) | exact RO.ofk (one_4 (by omega) (by omega)) (by omega) (by omega) (by omega) | (obtain ⟨f, e1, x1, x2⟩ := o1.no (by omega); exact RO.ofl ((one_n (by omega) (by omega)).trans e1) (by omega) x1 x2) | exact RO.ofr ((one_n (by omega) (by omega)).trans e1) (by omega) ⟨gCT, by omega, by omega⟩ | (obtain ⟨f, e2, x1, x2⟩ := o2.no (by omega); exact RO.ofl (by rw [one_o (by omega) (by omega), e2, bnd_l]) (by omega) x1 x2) | (obtain ⟨f, e3, x1, x2⟩ := o3.no (by omega); exact RO.ofl (by rw [one_o (by omega) (by omega), e2, bnd_r, e3, bnd_l]) (by omega) x1 x2) | exact RO.ofr (by rw [one_o (by omega) (by omega), e2, bnd_r, e3, bnd_r]) (by omega) ⟨gCT, by omega, by omega⟩ | (rw [one_l (by omega) (by omega) (by omega) (by omega)]; exact o4.map (fun s es h => ⟨h.1, h.2.1, by have h2 := h.2.2; have hl := lea_up es; omega⟩)) | (rw [one_l (by omega) (by omega) (by omega) (by omega)]; exact o5.map (fun s es h => ⟨h.1, h.2.1, by have h2 := h.2.2; have hl := lea_up es; omega⟩)), by omega, gWH⟩)
        by_cases c118 : (σ0 1 9).toInt = 38
        · refine lv_tableIn (off := 177) (tgt := 249) hx hb dX7_readOne_72 (by omega) (by omega) (by rw [c118]; rfl) (by decide) ?_
          refine lv_aload_n hx hb dX7_readOne_249 rfl (lv_at hl 1 rfl) ?_
          refine fg_7_2 (k := 27) hx hb hts in_X7_readOne_7 hown hK hP (by decide) (by decide) (hts _ lk_X7_readOne_19) dX7_readOne_250 ?_
          refine lv_iload_n hx hb dX7_readOne_253 rfl (lv_at hl 0 rfl) ?_
          refine r_bipush hx hb dX7_readOne_254 (by decide) (fun z119 ez119 => ?_)
          refine r_iconst hx hb dX7_readOne_256 (by decide) (fun z120 ez120 => ?_)
          refine r_cVi (k := 24) (As := [.int (σ0 1 9), .int z119, .int z120]) (rest := []) ⟨hx, hb, hml, hown, hts⟩ hK hP hN hS (c_X6_add l D cA ad hI σ16 τ16 hR (σ0 1 9) z119 z120 (by omega)) (cwV 3 hts gX7_readOne_X6_add rfl rfl rfl (by decide +kernel) ⟨by decide, by decide⟩) (rv_Sent hK hP (by decide) (by decide)) rfl hl.1 rfl (Nat.le_of_ble_eq_true rfl) dX7_readOne_257 (Nat.zero_le _) (Nat.zero_le _) (fun r121 u121 H121 locs121 hp121 hP hS => ?_)
          obtain ⟨σ121, τ121⟩ := u121
          obtain ⟨hR, f121, fL121, hq121, hp121_0⟩ : P_X6_add σ16 τ16 (σ0 1 9) z119 z120 r121 σ121 τ121 := hp121
          have hP : va_P D vwCl (gw cA ad σ121 τ121) H121 := hP
          obtain rfl := FrL.nil fL121
          have hF := hF.step f121 (by decide)
          have gCT := gCT.ag (Agr.fr f121 (by decide))
          have gWH := gWH.ag (Agr.fr f121 (by decide))
          have t122 : (σ121 1 13).toInt = (σ16 1 13).toInt := congrArg Int32.toInt (f121.at 1 13 (by decide))
          have t123 : (σ121 24 1).toInt = (σ16 24 1).toInt := congrArg Int32.toInt (f121.at 24 1 (by decide))
          have hr124 := rg_6_2 hR (k := 24) (by decide) (by decide)
          exact r_zret hx hb hr hK hP hS hk (by omega) dX7_readOne_260 (show P_X7_readOne_d8 σ0 τ0 a1 b N mo q nn nm hc r121 σ121 τ16 from ⟨hR, hF, hFL, by omega, by first | exact RO.ofr ((one_l (by omega) (by omega) (by omega) (by omega)).trans (lea_n (by omega) (by omega))) (by omega) ⟨gCT, by omega, by omega⟩ | (exfalso; omega) | exact RO.ofk (one_x (by omega)) (by omega) (by omega) (by omega) | exact RO.ofk (one_4 (by omega) (by omega)) (by omega) (by omega) (by omega) | (obtain ⟨f, e1, x1, x2⟩ := o1.no (by omega); exact RO.ofl ((one_n (by omega) (by omega)).trans e1) (by omega) x1 x2) | exact RO.ofr ((one_n (by omega) (by omega)).trans e1) (by omega) ⟨gCT, by omega, by omega⟩ | (obtain ⟨f, e2, x1, x2⟩ := o2.no (by omega); exact RO.ofl (by rw [one_o (by omega) (by omega), e2, bnd_l]) (by omega) x1 x2) | (obtain ⟨f, e3, x1, x2⟩ := o3.no (by omega); exact RO.ofl (by rw [one_o (by omega) (by omega), e2, bnd_r, e3, bnd_l]) (by omega) x1 x2) | exact RO.ofr (by rw [one_o (by omega) (by omega), e2, bnd_r, e3, bnd_r]) (by omega) ⟨gCT, by omega, by omega⟩ | (rw [one_l (by omega) (by omega) (by omega) (by omega)]; exact o4.map (fun s es h => ⟨h.1, h.2.1, by have h2 := h.2.2; have hl := lea_up es; omega⟩)) | (rw [one_l (by omega) (by omega) (by omega) (by omega)]; exact o5.map (fun s es h => ⟨h.1, h.2.1, by have h2 := h.2.2; have hl := lea_up es; omega⟩)), by omega, gWH⟩)
        by_cases c125 : (σ0 1 9).toInt = 39
        · refine lv_tableIn (off := 177) (tgt := 249) hx hb dX7_readOne_72 (by omega) (by omega) (by rw [c125]; rfl) (by decide) ?_
          refine lv_aload_n hx hb dX7_readOne_249 rfl (lv_at hl 1 rfl) ?_
          refine fg_7_2 (k := 27) hx hb hts in_X7_readOne_7 hown hK hP (by decide) (by decide) (hts _ lk_X7_readOne_19) dX7_readOne_250 ?_
          refine lv_iload_n hx hb dX7_readOne_253 rfl (lv_at hl 0 rfl) ?_
          refine r_bipush hx hb dX7_readOne_254 (by decide) (fun z126 ez126 => ?_)
          refine r_iconst hx hb dX7_readOne_256 (by decide) (fun z127 ez127 => ?_)
          refine r_cVi (k := 24) (As := [.int (σ0 1 9), .int z126, .int z127]) (rest := []) ⟨hx, hb, hml, hown, hts⟩ hK hP hN hS (c_X6_add l D cA ad hI σ16 τ16 hR (σ0 1 9) z126 z127 (by omega)) (cwV 3 hts gX7_readOne_X6_add rfl rfl rfl (by decide +kernel) ⟨by decide, by decide⟩) (rv_Sent hK hP (by decide) (by decide)) rfl hl.1 rfl (Nat.le_of_ble_eq_true rfl) dX7_readOne_257 (Nat.zero_le _) (Nat.zero_le _) (fun r128 u128 H128 locs128 hp128 hP hS => ?_)
          obtain ⟨σ128, τ128⟩ := u128
          obtain ⟨hR, f128, fL128, hq128, hp128_0⟩ : P_X6_add σ16 τ16 (σ0 1 9) z126 z127 r128 σ128 τ128 := hp128
          have hP : va_P D vwCl (gw cA ad σ128 τ128) H128 := hP
          obtain rfl := FrL.nil fL128
          have hF := hF.step f128 (by decide)
          have gCT := gCT.ag (Agr.fr f128 (by decide))
          have gWH := gWH.ag (Agr.fr f128 (by decide))
          have t129 : (σ128 1 13).toInt = (σ16 1 13).toInt := congrArg Int32.toInt (f128.at 1 13 (by decide))
          have t130 : (σ128 24 1).toInt = (σ16 24 1).toInt := congrArg Int32.toInt (f128.at 24 1 (by decide))
          have hr131 := rg_6_2 hR (k := 24) (by decide) (by decide)
          exact r_zret hx hb hr hK hP hS hk (by omega) dX7_readOne_260 (show P_X7_readOne_d8 σ0 τ0 a1 b N mo q nn nm hc r128 σ128 τ16 from ⟨hR, hF, hFL, by omega, by first | exact RO.ofr ((one_l (by omega) (by omega) (by omega) (by omega)).trans (lea_n (by omega) (by omega))) (by omega) ⟨gCT, by omega, by omega⟩ | (exfalso; omega) | exact RO.ofk (one_x (by omega)) (by omega) (by omega) (by omega) | exact RO.ofk (one_4 (by omega) (by omega)) (by omega) (by omega) (by omega) | (obtain ⟨f, e1, x1, x2⟩ := o1.no (by omega); exact RO.ofl ((one_n (by omega) (by omega)).trans e1) (by omega) x1 x2) | exact RO.ofr ((one_n (by omega) (by omega)).trans e1) (by omega) ⟨gCT, by omega, by omega⟩ | (obtain ⟨f, e2, x1, x2⟩ := o2.no (by omega); exact RO.ofl (by rw [one_o (by omega) (by omega), e2, bnd_l]) (by omega) x1 x2) | (obtain ⟨f, e3, x1, x2⟩ := o3.no (by omega); exact RO.ofl (by rw [one_o (by omega) (by omega), e2, bnd_r, e3, bnd_l]) (by omega) x1 x2) | exact RO.ofr (by rw [one_o (by omega) (by omega), e2, bnd_r, e3, bnd_r]) (by omega) ⟨gCT, by omega, by omega⟩ | (rw [one_l (by omega) (by omega) (by omega) (by omega)]; exact o4.map (fun s es h => ⟨h.1, h.2.1, by have h2 := h.2.2; have hl := lea_up es; omega⟩)) | (rw [one_l (by omega) (by omega) (by omega) (by omega)]; exact o5.map (fun s es h => ⟨h.1, h.2.1, by have h2 := h.2.2; have hl := lea_up es; omega⟩)), by omega, gWH⟩)
        by_cases c132 : (σ0 1 9).toInt = 40
        · refine lv_tableIn (off := 177) (tgt := 249) hx hb dX7_readOne_72 (by omega) (by omega) (by rw [c132]; rfl) (by decide) ?_
          refine lv_aload_n hx hb dX7_readOne_249 rfl (lv_at hl 1 rfl) ?_
          refine fg_7_2 (k := 27) hx hb hts in_X7_readOne_7 hown hK hP (by decide) (by decide) (hts _ lk_X7_readOne_19) dX7_readOne_250 ?_
          refine lv_iload_n hx hb dX7_readOne_253 rfl (lv_at hl 0 rfl) ?_
          refine r_bipush hx hb dX7_readOne_254 (by decide) (fun z133 ez133 => ?_)
          refine r_iconst hx hb dX7_readOne_256 (by decide) (fun z134 ez134 => ?_)
          refine r_cVi (k := 24) (As := [.int (σ0 1 9), .int z133, .int z134]) (rest := []) ⟨hx, hb, hml, hown, hts⟩ hK hP hN hS (c_X6_add l D cA ad hI σ16 τ16 hR (σ0 1 9) z133 z134 (by omega)) (cwV 3 hts gX7_readOne_X6_add rfl rfl rfl (by decide +kernel) ⟨by decide, by decide⟩) (rv_Sent hK hP (by decide) (by decide)) rfl hl.1 rfl (Nat.le_of_ble_eq_true rfl) dX7_readOne_257 (Nat.zero_le _) (Nat.zero_le _) (fun r135 u135 H135 locs135 hp135 hP hS => ?_)
          obtain ⟨σ135, τ135⟩ := u135
          obtain ⟨hR, f135, fL135, hq135, hp135_0⟩ : P_X6_add σ16 τ16 (σ0 1 9) z133 z134 r135 σ135 τ135 := hp135
          have hP : va_P D vwCl (gw cA ad σ135 τ135) H135 := hP
          obtain rfl := FrL.nil fL135
          have hF := hF.step f135 (by decide)
          have gCT := gCT.ag (Agr.fr f135 (by decide))
          have gWH := gWH.ag (Agr.fr f135 (by decide))
          have t136 : (σ135 1 13).toInt = (σ16 1 13).toInt := congrArg Int32.toInt (f135.at 1 13 (by decide))
          have t137 : (σ135 24 1).toInt = (σ16 24 1).toInt := congrArg Int32.toInt (f135.at 24 1 (by decide))
          have hr138 := rg_6_2 hR (k := 24) (by decide) (by decide)
          exact r_zret hx hb hr hK hP hS hk (by omega) dX7_readOne_260 (show P_X7_readOne_d8 σ0 τ0 a1 b N mo q nn nm hc r135 σ135 τ16 from ⟨hR, hF, hFL, by omega, by first | exact RO.ofr ((one_l (by omega) (by omega) (by omega) (by omega)).trans (lea_n (by omega) (by omega))) (by omega) ⟨gCT, by omega, by omega⟩ | (exfalso; omega) | exact RO.ofk (one_x (by omega)) (by omega) (by omega) (by omega) | exact RO.ofk (one_4 (by omega) (by omega)) (by omega) (by omega) (by omega) | (obtain ⟨f, e1, x1, x2⟩ := o1.no (by omega); exact RO.ofl ((one_n (by omega) (by omega)).trans e1) (by omega) x1 x2) | exact RO.ofr ((one_n (by omega) (by omega)).trans e1) (by omega) ⟨gCT, by omega, by omega⟩ | (obtain ⟨f, e2, x1, x2⟩ := o2.no (by omega); exact RO.ofl (by rw [one_o (by omega) (by omega), e2, bnd_l]) (by omega) x1 x2) | (obtain ⟨f, e3, x1, x2⟩ := o3.no (by omega); exact RO.ofl (by rw [one_o (by omega) (by omega), e2, bnd_r, e3, bnd_l]) (by omega) x1 x2) | exact RO.ofr (by rw [one_o (by omega) (by omega), e2, bnd_r, e3, bnd_r]) (by omega) ⟨gCT, by omega, by omega⟩ | (rw [one_l (by omega) (by omega) (by omega) (by omega)]; exact o4.map (fun s es h => ⟨h.1, h.2.1, by have h2 := h.2.2; have hl := lea_up es; omega⟩)) | (rw [one_l (by omega) (by omega) (by omega) (by omega)]; exact o5.map (fun s es h => ⟨h.1, h.2.1, by have h2 := h.2.2; have hl := lea_up es; omega⟩)), by omega, gWH⟩)
        by_cases c139 : (σ0 1 9).toInt = 41
        · refine lv_tableIn (off := 177) (tgt := 249) hx hb dX7_readOne_72 (by omega) (by omega) (by rw [c139]; rfl) (by decide) ?_
          refine lv_aload_n hx hb dX7_readOne_249 rfl (lv_at hl 1 rfl) ?_
          refine fg_7_2 (k := 27) hx hb hts in_X7_readOne_7 hown hK hP (by decide) (by decide) (hts _ lk_X7_readOne_19) dX7_readOne_250 ?_
          refine lv_iload_n hx hb dX7_readOne_253 rfl (lv_at hl 0 rfl) ?_
          refine r_bipush hx hb dX7_readOne_254 (by decide) (fun z140 ez140 => ?_)
          refine r_iconst hx hb dX7_readOne_256 (by decide) (fun z141 ez141 => ?_)
          refine r_cVi (k := 24) (As := [.int (σ0 1 9), .int z140, .int z141]) (rest := []) ⟨hx, hb, hml, hown, hts⟩ hK hP hN hS (c_X6_add l D cA ad hI σ16 τ16 hR (σ0 1 9) z140 z141 (by omega)) (cwV 3 hts gX7_readOne_X6_add rfl rfl rfl (by decide +kernel) ⟨by decide, by decide⟩) (rv_Sent hK hP (by decide) (by decide)) rfl hl.1 rfl (Nat.le_of_ble_eq_true rfl) dX7_readOne_257 (Nat.zero_le _) (Nat.zero_le _) (fun r142 u142 H142 locs142 hp142 hP hS => ?_)
          obtain ⟨σ142, τ142⟩ := u142
          obtain ⟨hR, f142, fL142, hq142, hp142_0⟩ : P_X6_add σ16 τ16 (σ0 1 9) z140 z141 r142 σ142 τ142 := hp142
          have hP : va_P D vwCl (gw cA ad σ142 τ142) H142 := hP
          obtain rfl := FrL.nil fL142
          have hF := hF.step f142 (by decide)
          have gCT := gCT.ag (Agr.fr f142 (by decide))
          have gWH := gWH.ag (Agr.fr f142 (by decide))
          have t143 : (σ142 1 13).toInt = (σ16 1 13).toInt := congrArg Int32.toInt (f142.at 1 13 (by decide))
          have t144 : (σ142 24 1).toInt = (σ16 24 1).toInt := congrArg Int32.toInt (f142.at 24 1 (by decide))
          have hr145 := rg_6_2 hR (k := 24) (by decide) (by decide)
          exact r_zret hx hb hr hK hP hS hk (by omega) dX7_readOne_260 (show P_X7_readOne_d8 σ0 τ0 a1 b N mo q nn nm hc r142 σ142 τ16 from ⟨hR, hF, hFL, by omega, by first | exact RO.ofr ((one_l (by omega) (by omega) (by omega) (by omega)).trans (lea_n (by omega) (by omega))) (by omega) ⟨gCT, by omega, by omega⟩ | (exfalso; omega) | exact RO.ofk (one_x (by omega)) (by omega) (by omega) (by omega) | exact RO.ofk (one_4 (by omega) (by omega)) (by omega) (by omega) (by omega) | (obtain ⟨f, e1, x1, x2⟩ := o1.no (by omega); exact RO.ofl ((one_n (by omega) (by omega)).trans e1) (by omega) x1 x2) | exact RO.ofr ((one_n (by omega) (by omega)).trans e1) (by omega) ⟨gCT, by omega, by omega⟩ | (obtain ⟨f, e2, x1, x2⟩ := o2.no (by omega); exact RO.ofl (by rw [one_o (by omega) (by omega), e2, bnd_l]) (by omega) x1 x2) | (obtain ⟨f, e3, x1, x2⟩ := o3.no (by omega); exact RO.ofl (by rw [one_o (by omega) (by omega), e2, bnd_r, e3, bnd_l]) (by omega) x1 x2) | exact RO.ofr (by rw [one_o (by omega) (by omega), e2, bnd_r, e3, bnd_r]) (by omega) ⟨gCT, by omega, by omega⟩ | (rw [one_l (by omega) (by omega) (by omega) (by omega)]; exact o4.map (fun s es h => ⟨h.1, h.2.1, by have h2 := h.2.2; have hl := lea_up es; omega⟩)) | (rw [one_l (by omega) (by omega) (by omega) (by omega)]; exact o5.map (fun s es h => ⟨h.1, h.2.1, by have h2 := h.2.2; have hl := lea_up es; omega⟩)), by omega, gWH⟩)
        by_cases c146 : (σ0 1 9).toInt = 42
        · refine lv_tableIn (off := 177) (tgt := 249) hx hb dX7_readOne_72 (by omega) (by omega) (by rw [c146]; rfl) (by decide) ?_
          refine lv_aload_n hx hb dX7_readOne_249 rfl (lv_at hl 1 rfl) ?_
          refine fg_7_2 (k := 27) hx hb hts in_X7_readOne_7 hown hK hP (by decide) (by decide) (hts _ lk_X7_readOne_19) dX7_readOne_250 ?_
          refine lv_iload_n hx hb dX7_readOne_253 rfl (lv_at hl 0 rfl) ?_
          refine r_bipush hx hb dX7_readOne_254 (by decide) (fun z147 ez147 => ?_)
          refine r_iconst hx hb dX7_readOne_256 (by decide) (fun z148 ez148 => ?_)
          refine r_cVi (k := 24) (As := [.int (σ0 1 9), .int z147, .int z148]) (rest := []) ⟨hx, hb, hml, hown, hts⟩ hK hP hN hS (c_X6_add l D cA ad hI σ16 τ16 hR (σ0 1 9) z147 z148 (by omega)) (cwV 3 hts gX7_readOne_X6_add rfl rfl rfl (by decide +kernel) ⟨by decide, by decide⟩) (rv_Sent hK hP (by decide) (by decide)) rfl hl.1 rfl (Nat.le_of_ble_eq_true rfl) dX7_readOne_257 (Nat.zero_le _) (Nat.zero_le _) (fun r149 u149 H149 locs149 hp149 hP hS => ?_)
          obtain ⟨σ149, τ149⟩ := u149
          obtain ⟨hR, f149, fL149, hq149, hp149_0⟩ : P_X6_add σ16 τ16 (σ0 1 9) z147 z148 r149 σ149 τ149 := hp149
          have hP : va_P D vwCl (gw cA ad σ149 τ149) H149 := hP
          obtain rfl := FrL.nil fL149
          have hF := hF.step f149 (by decide)
          have gCT := gCT.ag (Agr.fr f149 (by decide))
          have gWH := gWH.ag (Agr.fr f149 (by decide))
          have t150 : (σ149 1 13).toInt = (σ16 1 13).toInt := congrArg Int32.toInt (f149.at 1 13 (by decide))
          have t151 : (σ149 24 1).toInt = (σ16 24 1).toInt := congrArg Int32.toInt (f149.at 24 1 (by decide))
          have hr152 := rg_6_2 hR (k := 24) (by decide) (by decide)
          exact r_zret hx hb hr hK hP hS hk (by omega) dX7_readOne_260 (show P_X7_readOne_d8 σ0 τ0 a1 b N mo q nn nm hc r149 σ149 τ16 from ⟨hR, hF, hFL, by omega, by first | exact RO.ofr ((one_l (by omega) (by omega) (by omega) (by omega)).trans (lea_n (by omega) (by omega))) (by omega) ⟨gCT, by omega, by omega⟩ | (exfalso; omega) | exact RO.ofk (one_x (by omega)) (by omega) (by omega) (by omega) | exact RO.ofk (one_4 (by omega) (by omega)) (by omega) (by omega) (by omega) | (obtain ⟨f, e1, x1, x2⟩ := o1.no (by omega); exact RO.ofl ((one_n (by omega) (by omega)).trans e1) (by omega) x1 x2) | exact RO.ofr ((one_n (by omega) (by omega)).trans e1) (by omega) ⟨gCT, by omega, by omega⟩ | (obtain ⟨f, e2, x1, x2⟩ := o2.no (by omega); exact RO.ofl (by rw [one_o (by omega) (by omega), e2, bnd_l]) (by omega) x1 x2) | (obtain ⟨f, e3, x1, x2⟩ := o3.no (by omega); exact RO.ofl (by rw [one_o (by omega) (by omega), e2, bnd_r, e3, bnd_l]) (by omega) x1 x2) | exact RO.ofr (by rw [one_o (by omega) (by omega), e2, bnd_r, e3, bnd_r]) (by omega) ⟨gCT, by omega, by omega⟩ | (rw [one_l (by omega) (by omega) (by omega) (by omega)]; exact o4.map (fun s es h => ⟨h.1, h.2.1, by have h2 := h.2.2; have hl := lea_up es; omega⟩)) | (rw [one_l (by omega) (by omega) (by omega) (by omega)]; exact o5.map (fun s es h => ⟨h.1, h.2.1, by have h2 := h.2.2; have hl := lea_up es; omega⟩)), by omega, gWH⟩)
        by_cases c153 : (σ0 1 9).toInt = 43
        · refine lv_tableIn (off := 177) (tgt := 249) hx hb dX7_readOne_72 (by omega) (by omega) (by rw [c153]; rfl) (by decide) ?_
          refine lv_aload_n hx hb dX7_readOne_249 rfl (lv_at hl 1 rfl) ?_
          refine fg_7_2 (k := 27) hx hb hts in_X7_readOne_7 hown hK hP (by decide) (by decide) (hts _ lk_X7_readOne_19) dX7_readOne_250 ?_
          refine lv_iload_n hx hb dX7_readOne_253 rfl (lv_at hl 0 rfl) ?_
          refine r_bipush hx hb dX7_readOne_254 (by decide) (fun z154 ez154 => ?_)
          refine r_iconst hx hb dX7_readOne_256 (by decide) (fun z155 ez155 => ?_)
          refine r_cVi (k := 24) (As := [.int (σ0 1 9), .int z154, .int z155]) (rest := []) ⟨hx, hb, hml, hown, hts⟩ hK hP hN hS (c_X6_add l D cA ad hI σ16 τ16 hR (σ0 1 9) z154 z155 (by omega)) (cwV 3 hts gX7_readOne_X6_add rfl rfl rfl (by decide +kernel) ⟨by decide, by decide⟩) (rv_Sent hK hP (by decide) (by decide)) rfl hl.1 rfl (Nat.le_of_ble_eq_true rfl) dX7_readOne_257 (Nat.zero_le _) (Nat.zero_le _) (fun r156 u156 H156 locs156 hp156 hP hS => ?_)
          obtain ⟨σ156, τ156⟩ := u156
          obtain ⟨hR, f156, fL156, hq156, hp156_0⟩ : P_X6_add σ16 τ16 (σ0 1 9) z154 z155 r156 σ156 τ156 := hp156
          have hP : va_P D vwCl (gw cA ad σ156 τ156) H156 := hP
          obtain rfl := FrL.nil fL156
          have hF := hF.step f156 (by decide)
          have gCT := gCT.ag (Agr.fr f156 (by decide))
          have gWH := gWH.ag (Agr.fr f156 (by decide))
          have t157 : (σ156 1 13).toInt = (σ16 1 13).toInt := congrArg Int32.toInt (f156.at 1 13 (by decide))
          have t158 : (σ156 24 1).toInt = (σ16 24 1).toInt := congrArg Int32.toInt (f156.at 24 1 (by decide))
          have hr159 := rg_6_2 hR (k := 24) (by decide) (by decide)
          exact r_zret hx hb hr hK hP hS hk (by omega) dX7_readOne_260 (show P_X7_readOne_d8 σ0 τ0 a1 b N mo q nn nm hc r156 σ156 τ16 from ⟨hR, hF, hFL, by omega, by first | exact RO.ofr ((one_l (by omega) (by omega) (by omega) (by omega)).trans (lea_n (by omega) (by omega))) (by omega) ⟨gCT, by omega, by omega⟩ | (exfalso; omega) | exact RO.ofk (one_x (by omega)) (by omega) (by omega) (by omega) | exact RO.ofk (one_4 (by omega) (by omega)) (by omega) (by omega) (by omega) | (obtain ⟨f, e1, x1, x2⟩ := o1.no (by omega); exact RO.ofl ((one_n (by omega) (by omega)).trans e1) (by omega) x1 x2) | exact RO.ofr ((one_n (by omega) (by omega)).trans e1) (by omega) ⟨gCT, by omega, by omega⟩ | (obtain ⟨f, e2, x1, x2⟩ := o2.no (by omega); exact RO.ofl (by rw [one_o (by omega) (by omega), e2, bnd_l]) (by omega) x1 x2) | (obtain ⟨f, e3, x1, x2⟩ := o3.no (by omega); exact RO.ofl (by rw [one_o (by omega) (by omega), e2, bnd_r, e3, bnd_l]) (by omega) x1 x2) | exact RO.ofr (by rw [one_o (by omega) (by omega), e2, bnd_r, e3, bnd_r]) (by omega) ⟨gCT, by omega, by omega⟩ | (rw [one_l (by omega) (by omega) (by omega) (by omega)]; exact o4.map (fun s es h => ⟨h.1, h.2.1, by have h2 := h.2.2; have hl := lea_up es; omega⟩)) | (rw [one_l (by omega) (by omega) (by omega) (by omega)]; exact o5.map (fun s es h => ⟨h.1, h.2.1, by have h2 := h.2.2; have hl := lea_up es; omega⟩)), by omega, gWH⟩)
        by_cases c160 : (σ0 1 9).toInt = 44
        · refine lv_tableIn (off := 138) (tgt := 210) hx hb dX7_readOne_72 (by omega) (by omega) (by rw [c160]; rfl) (by decide) ?_
          refine lv_aload_n hx hb dX7_readOne_210 rfl (lv_at hl 1 rfl) ?_
          refine lv_iload_n hx hb dX7_readOne_211 rfl (lv_at hl 2 rfl) ?_
          refine r_iconst hx hb dX7_readOne_212 (by decide) (fun z161 ez161 => ?_)
          refine r_iadd hx hb dX7_readOne_213 (by omega) (fun z162 ez162 => ?_)
          refine r_cVi (k := 27) (As := [.int z162]) (rest := []) ⟨hx, hb, hml, hown, hts⟩ hK hP hN hS (c_X7_readCond_d9 l D cA ad hI σ16 τ16 hR z162 b N mo _ (nn + 1) nm hc (by omega) (by omega) (by omega) (by omega) gCT gWH) (cwV 1 hts gX7_readOne_X7_readCond rfl rfl rfl (by decide +kernel) ⟨by decide, by decide⟩) (rv_SText hK hP (by decide) (by decide)) rfl hl.1 rfl (Nat.le_of_ble_eq_true rfl) dX7_readOne_214 (Nat.zero_le _) (Nat.zero_le _) (fun r163 u163 H163 locs163 hp163 hP hS => ?_)
          obtain ⟨σ163, τ163⟩ := u163
          obtain ⟨hR, f163, fL163, hq163, hp163_0, hp163_1, gnWH⟩ : P_X7_readCond_d9 σ16 τ16 z162 b N mo _ (nn + 1) nm hc r163 σ163 τ163 := hp163
          have o2 := hp163_0
          have hP : va_P D vwCl (gw cA ad σ163 τ163) H163 := hP
          obtain rfl := FrL.nil fL163
          have hF := hF.step f163 (by decide)
          have gCT := gCT.ag (Agr.fr f163 (by decide))
          have gWH := gWH.ag (Agr.fr f163 (by decide))
          have t164 : (σ163 24 2).toInt = (σ16 24 2).toInt := congrArg Int32.toInt (f163.at 24 2 (by decide))
          have t165 : (σ163 24 1).toInt = (σ16 24 1).toInt := congrArg Int32.toInt (f163.at 24 1 (by decide))
          refine r_if_eq (tgt := 236) hx hb dX7_readOne_217 (by decide) (fun c166 => ?_) (fun c166 => ?_)
          · clear hp163_1
            refine r_iconst hx hb dX7_readOne_236 (by decide) (fun z167 ez167 => ?_)
            exact r_zret hx hb hr hK hP hS hk (by omega) dX7_readOne_237 (show P_X7_readOne_d8 σ0 τ0 a1 b N mo q nn nm hc z167 σ163 τ16 from ⟨hR, hF, hFL, by omega, by first | exact RO.ofr ((one_l (by omega) (by omega) (by omega) (by omega)).trans (lea_n (by omega) (by omega))) (by omega) ⟨gCT, by omega, by omega⟩ | (exfalso; omega) | exact RO.ofk (one_x (by omega)) (by omega) (by omega) (by omega) | exact RO.ofk (one_4 (by omega) (by omega)) (by omega) (by omega) (by omega) | (obtain ⟨f, e1, x1, x2⟩ := o1.no (by omega); exact RO.ofl ((one_n (by omega) (by omega)).trans e1) (by omega) x1 x2) | exact RO.ofr ((one_n (by omega) (by omega)).trans e1) (by omega) ⟨gCT, by omega, by omega⟩ | (obtain ⟨f, e2, x1, x2⟩ := o2.no (by omega); exact RO.ofl (by rw [one_o (by omega) (by omega), e2, bnd_l]) (by omega) x1 x2) | (obtain ⟨f, e3, x1, x2⟩ := o3.no (by omega); exact RO.ofl (by rw [one_o (by omega) (by omega), e2, bnd_r, e3, bnd_l]) (by omega) x1 x2) | exact RO.ofr (by rw [one_o (by omega) (by omega), e2, bnd_r, e3, bnd_r]) (by omega) ⟨gCT, by omega, by omega⟩ | (rw [one_l (by omega) (by omega) (by omega) (by omega)]; exact o4.map (fun s es h => ⟨h.1, h.2.1, by have h2 := h.2.2; have hl := lea_up es; omega⟩)) | (rw [one_l (by omega) (by omega) (by omega) (by omega)]; exact o5.map (fun s es h => ⟨h.1, h.2.1, by have h2 := h.2.2; have hl := lea_up es; omega⟩)), by omega, gWH⟩)
          · exfalso; omega
        refine lv_tableOut (tgt := 249) hx hb dX7_readOne_72 (by omega) (by decide) ?_
        refine lv_aload_n hx hb dX7_readOne_249 rfl (lv_at hl 1 rfl) ?_
        refine fg_7_2 (k := 27) hx hb hts in_X7_readOne_7 hown hK hP (by decide) (by decide) (hts _ lk_X7_readOne_19) dX7_readOne_250 ?_
        refine lv_iload_n hx hb dX7_readOne_253 rfl (lv_at hl 0 rfl) ?_
        refine r_bipush hx hb dX7_readOne_254 (by decide) (fun z168 ez168 => ?_)
        refine r_iconst hx hb dX7_readOne_256 (by decide) (fun z169 ez169 => ?_)
        refine r_cVi (k := 24) (As := [.int (σ0 1 9), .int z168, .int z169]) (rest := []) ⟨hx, hb, hml, hown, hts⟩ hK hP hN hS (c_X6_add l D cA ad hI σ16 τ16 hR (σ0 1 9) z168 z169 (by omega)) (cwV 3 hts gX7_readOne_X6_add rfl rfl rfl (by decide +kernel) ⟨by decide, by decide⟩) (rv_Sent hK hP (by decide) (by decide)) rfl hl.1 rfl (Nat.le_of_ble_eq_true rfl) dX7_readOne_257 (Nat.zero_le _) (Nat.zero_le _) (fun r170 u170 H170 locs170 hp170 hP hS => ?_)
        obtain ⟨σ170, τ170⟩ := u170
        obtain ⟨hR, f170, fL170, hq170, hp170_0⟩ : P_X6_add σ16 τ16 (σ0 1 9) z168 z169 r170 σ170 τ170 := hp170
        have hP : va_P D vwCl (gw cA ad σ170 τ170) H170 := hP
        obtain rfl := FrL.nil fL170
        have hF := hF.step f170 (by decide)
        have gCT := gCT.ag (Agr.fr f170 (by decide))
        have gWH := gWH.ag (Agr.fr f170 (by decide))
        have t171 : (σ170 1 13).toInt = (σ16 1 13).toInt := congrArg Int32.toInt (f170.at 1 13 (by decide))
        have t172 : (σ170 24 1).toInt = (σ16 24 1).toInt := congrArg Int32.toInt (f170.at 24 1 (by decide))
        have hr173 := rg_6_2 hR (k := 24) (by decide) (by decide)
        exact r_zret hx hb hr hK hP hS hk (by omega) dX7_readOne_260 (show P_X7_readOne_d8 σ0 τ0 a1 b N mo q nn nm hc r170 σ170 τ16 from ⟨hR, hF, hFL, by omega, by first | exact RO.ofr ((one_l (by omega) (by omega) (by omega) (by omega)).trans (lea_n (by omega) (by omega))) (by omega) ⟨gCT, by omega, by omega⟩ | (exfalso; omega) | exact RO.ofk (one_x (by omega)) (by omega) (by omega) (by omega) | exact RO.ofk (one_4 (by omega) (by omega)) (by omega) (by omega) (by omega) | (obtain ⟨f, e1, x1, x2⟩ := o1.no (by omega); exact RO.ofl ((one_n (by omega) (by omega)).trans e1) (by omega) x1 x2) | exact RO.ofr ((one_n (by omega) (by omega)).trans e1) (by omega) ⟨gCT, by omega, by omega⟩ | (obtain ⟨f, e2, x1, x2⟩ := o2.no (by omega); exact RO.ofl (by rw [one_o (by omega) (by omega), e2, bnd_l]) (by omega) x1 x2) | (obtain ⟨f, e3, x1, x2⟩ := o3.no (by omega); exact RO.ofl (by rw [one_o (by omega) (by omega), e2, bnd_r, e3, bnd_l]) (by omega) x1 x2) | exact RO.ofr (by rw [one_o (by omega) (by omega), e2, bnd_r, e3, bnd_r]) (by omega) ⟨gCT, by omega, by omega⟩ | (rw [one_l (by omega) (by omega) (by omega) (by omega)]; exact o4.map (fun s es h => ⟨h.1, h.2.1, by have h2 := h.2.2; have hl := lea_up es; omega⟩)) | (rw [one_l (by omega) (by omega) (by omega) (by omega)]; exact o5.map (fun s es h => ⟨h.1, h.2.1, by have h2 := h.2.2; have hl := lea_up es; omega⟩)), by omega, gWH⟩)
      · exfalso; omega
  · refine lv_aload_n hx hb dX7_readOne_15 rfl (lv_at hl 1 rfl) ?_
    refine fg_7_0 (k := 27) hx hb hts in_X7_readOne_7 hown hK hP (by decide) (by decide) (hts _ lk_X7_readOne_9) dX7_readOne_16 ?_
    refine r_iconst hx hb dX7_readOne_19 (by decide) (fun z174 ez174 => ?_)
    refine r_cVi (k := 1) (As := [.int z174]) (rest := []) ⟨hx, hb, hml, hown, hts⟩ hK hP hN hS (c_X8_blame_v l D cA ad hI σ0 τ0 hR z174 _ _ _ _ (by omega) gCT) (cwV 1 hts gX7_readOne_X8_blame rfl rfl rfl (by decide +kernel) ⟨by decide, by decide⟩) (rv_Tape hK hP (by decide) (by decide)) rfl hl.1 rfl (Nat.le_of_ble_eq_true rfl) dX7_readOne_20 (Nat.zero_le _) (Nat.zero_le _) (fun r175 u175 H175 locs175 hp175 hP hS => ?_)
    obtain ⟨σ175, τ175⟩ := u175
    obtain ⟨hR, f175, fL175, hq175, hp175_0, hp175_1, hp175_2, gnCT⟩ : P_X8_blame_v σ0 τ0 z174 _ _ _ _ r175 σ175 τ175 := hp175
    have hP : va_P D vwCl (gw cA ad σ175 τ175) H175 := hP
    obtain rfl := FrL.nil fL175
    have hF := hF.step f175 (by decide)
    have gCT := gCT.ag (Agr.fr f175 (by decide))
    have gWH := gWH.ag (Agr.fr f175 (by decide))
    have t176 : (σ175 24 1).toInt = (σ0 24 1).toInt := congrArg Int32.toInt (f175.at 24 1 (by decide))
    have t177 : (σ175 24 2).toInt = (σ0 24 2).toInt := congrArg Int32.toInt (f175.at 24 2 (by decide))
    exact r_zret hx hb hr hK hP hS hk (by omega) dX7_readOne_23 (show P_X7_readOne_d8 σ0 τ0 a1 b N mo q nn nm hc r175 σ175 τ0 from ⟨hR, hF, hFL, by omega, by first | exact RO.ofr ((one_l (by omega) (by omega) (by omega) (by omega)).trans (lea_n (by omega) (by omega))) (by omega) ⟨gCT, by omega, by omega⟩ | (exfalso; omega) | exact RO.ofk (one_x (by omega)) (by omega) (by omega) (by omega) | exact RO.ofk (one_4 (by omega) (by omega)) (by omega) (by omega) (by omega) | (obtain ⟨f, e1, x1, x2⟩ := o1.no (by omega); exact RO.ofl ((one_n (by omega) (by omega)).trans e1) (by omega) x1 x2) | exact RO.ofr ((one_n (by omega) (by omega)).trans e1) (by omega) ⟨gCT, by omega, by omega⟩ | (obtain ⟨f, e2, x1, x2⟩ := o2.no (by omega); exact RO.ofl (by rw [one_o (by omega) (by omega), e2, bnd_l]) (by omega) x1 x2) | (obtain ⟨f, e3, x1, x2⟩ := o3.no (by omega); exact RO.ofl (by rw [one_o (by omega) (by omega), e2, bnd_r, e3, bnd_l]) (by omega) x1 x2) | exact RO.ofr (by rw [one_o (by omega) (by omega), e2, bnd_r, e3, bnd_r]) (by omega) ⟨gCT, by omega, by omega⟩ | (rw [one_l (by omega) (by omega) (by omega) (by omega)]; exact o4.map (fun s es h => ⟨h.1, h.2.1, by have h2 := h.2.2; have hl := lea_up es; omega⟩)) | (rw [one_l (by omega) (by omega) (by omega) (by omega)]; exact o5.map (fun s es h => ⟨h.1, h.2.1, by have h2 := h.2.2; have hl := lea_up es; omega⟩)), by omega, gWH⟩)
theorem in_X7_readAll_7 : ∀ w ∈ u_ws RX7 TX7 3, w ∈ wsX7_readAll := by decide +kernel
theorem in_X7_readAll_8 : ∀ w ∈ u_ws RX8 TX8 15, w ∈ wsX7_readAll := by decide +kernel
theorem lk_X7_readAll_19 : Cond.fieldLink RX7 19 "CuckooShares$SentenceText" "into" "LCuckooShares$Sentence;" ∈ wsX7_readAll := by decide +kernel
theorem lk_X7_readAll_9 : Cond.fieldLink RX7 9 "CuckooShares$SentenceText" "tape" "LCuckooShares$Tape;" ∈ wsX7_readAll := by decide +kernel
abbrev L_X7_readAll_d8 : List Rc := [(1, 1, 7, 10), (372, 372, 0, 39), (376, 376, 0, 39), (380, 380, 0, 39), (24, 24, 1, 2), (1, 1, 12, 14)]
abbrev LL_X7_readAll_d8 : List Rc := [(1, 1, 11, 11)]
def P_X7_readAll_d8 (σ0 : Nat → Nat → Int32) (τ0 : Nat → Nat → Int64) (a1 : Int32) (b : Nat → Int) (N : Nat) (mo : Nat) (q : Nat) (nn : Nat) (nm : Nat → Int) (hc : Nat) (r : Int32) (σ : Nat → Nat → Int32) (τ : Nat → Nat → Int64) : Prop := Rg σ ∧ Fr L_X7_readAll_d8 σ0 σ ∧ FrL LL_X7_readAll_d8 τ0 τ ∧ (0 ≤ r.toInt ∧ r.toInt ≤ 1) ∧ (RO r σ (allP b N mo (fun q nn => oneP b N mo nm hc 1 q nn) q nn) (fun s => CT σ τ b N mo s.1 ∧ (σ 24 1).toInt = (s.2 : Int) ∧ (σ 24 2).toInt + 2 * (nn : Int) + 1 ≤ (σ0 24 2).toInt + 2 * (s.2 : Int))) ∧ (r.toInt = 0 ∨ (σ 1 13).toInt = (σ0 1 13).toInt) ∧ WH σ τ nm hc
def J_X7_readAll_d8_12 (p : Program) (l : Launch) (e : Env) (s : State) (m : MethodId) (args : Array Value) (below : List Frame) (meth : Method) (c : Code) (D : va_G) (cA : Nat → ClassId) (ad : Nat → Nat) (σ0 : Nat → Nat → Int32) (τ0 : Nat → Nat → Int64) (a1 : Int32) (b : Nat → Int) (N : Nat) (mo : Nat) (q : Nat) (nn : Nat) (nm : Nat → Int) (hc : Nat) (n : Nat) : Prop := ∀ (σ : Nat → Nat → Int32) (τ : Nat → Nat → Int64) (H : Heap) (locs : List Loc) (x2 : Int32) (fu : Nat) (q1 : Nat) (n1 : Nat) (ls : Array Slot), Rg σ → Fr L_X7_readAll_d8 σ0 σ → FrL LL_X7_readAll_d8 τ0 τ → va_P D vwCl (gw cA ad σ τ) H → va_S (AA ad) s.heap H locs → (0 ≤ x2.toInt ∧ x2.toInt ≤ 200) → (0 ≤ (σ 24 1).toInt ∧ (σ 24 1).toInt ≤ 20) → (0 ≤ (σ 24 2).toInt ∧ (σ 24 2).toInt ≤ 40) → (allP b N mo (fun q nn => oneP b N mo nm hc 1 q nn) q nn = lopP b N mo 21 (fun q nn => oneP b N mo nm hc 1 q nn) fu q1 n1) → ((σ 24 1).toInt = (n1 : Int)) → (0 ≤ (σ 24 2).toInt ∧ (σ 24 2).toInt + 2 * (nn : Int) + 1 ≤ (σ0 24 2).toInt + 2 * (n1 : Int)) → ((fu : Int) + x2.toInt = 200) → (n1 ≤ 20) → ((σ 1 13).toInt = (σ0 1 13).toInt) → (CT σ τ b N mo q1) → (WH σ τ nm hc) → (CT σ τ b N mo q1) → lv_has ls 3 [(0, .ref (ad 27)), (1, .int a1), (2, .int x2)] → 2 * (200 - x2.toInt) + 1 < (n : Int) → W p l e ({ frames := 5, cells := 0, slots := 0, locals := 109 } : Room) s m args below meth c H locs 0 0 (MQ below (va_Qi (fun (r : Int32) (u : SS) => P_X7_readAll_d8 σ0 τ0 a1 b N mo q nn nm hc r u.1 u.2) (WB D cA ad) (AA ad)) args s 0 0 (AA ad)) (F0 m 12 ls [])
set_option maxHeartbeats 4000000 in
theorem B_X7_readAll_d8_12 (p : Program) (l : Launch) (e : Env) (s : State) (m : MethodId) (args : Array Value) (below : List Frame) (meth : Method) (c : Code) (D : va_G) (cA : Nat → ClassId) (ad : Nat → Nat) (σ0 : Nat → Nat → Int32) (τ0 : Nat → Nat → Int64) (a1 : Int32) (b : Nat → Int) (N : Nat) (mo : Nat) (q : Nat) (nn : Nat) (nm : Nat → Int) (hc : Nat) (n : Nat) (C : Cy p s m args meth c cX7_readAll 3 wsX7_readAll RX7 D cA ad (some .boolean)) (ha1 : 8 ≤ a1.toInt ∧ a1.toInt ≤ 8) (hpre0 : (σ0 24 1).toInt = (nn : Int)) (hpre1 : 0 ≤ (σ0 24 2).toInt ∧ (σ0 24 2).toInt ≤ 2 * (nn : Int)) (hpre2 : nn ≤ 20) (gCT0 : CT σ0 τ0 b N mo q) (gWH0 : WH σ0 τ0 nm hc) (K12 : J_X7_readAll_d8_12 p l e s m args below meth c D cA ad σ0 τ0 a1 b N mo q nn nm hc n) : J_X7_readAll_d8_12 p l e s m args below meth c D cA ad σ0 τ0 a1 b N mo q nn nm hc (n + 1) := by
  obtain ⟨hx, hb, hml, hown, hts, hK, hk, hr, hI, hN⟩ := C
  intro σ τ H locs x2 fu q1 n1 ls hR hF hFL hP hS hc0 hc1 hc2 iv ib2 ib3 ifu in20 ik13 gCT gWH gCT hl hm
  refine lv_iload_n hx hb dX7_readAll_12 rfl (lv_at hl 2 rfl) ?_
  refine r_sipush hx hb dX7_readAll_13 (by decide) (fun z1 ez1 => ?_)
  refine r_icmp_ge (tgt := 68) hx hb dX7_readAll_16 (by decide) (fun c2 => ?_) (fun c2 => ?_)
  · refine r_iconst hx hb dX7_readAll_68 (by decide) (fun z3 ez3 => ?_)
    exact r_zret hx hb hr hK hP hS hk (by omega) dX7_readAll_69 (show P_X7_readAll_d8 σ0 τ0 a1 b N mo q nn nm hc z3 σ τ from ⟨hR, hF, hFL, by omega, by first | (exfalso; omega) | (obtain ⟨f, e1, x1, x2⟩ := o1.no (by omega); exact RO.ofl (all_f e1) (by omega) x1 x2) | exact RO.ofr (by rw [iv, lop_e (by omega)]) (by omega) ⟨gCT, by omega, by omega⟩ | (obtain ⟨f, e2, x1, x2⟩ := o2.no (by omega); exact RO.ofl (by rw [iv, lop_f (f := (fun q nn => oneP b N mo nm hc 1 q nn)) (by omega) (by omega) e2]) (by omega) x1 x2) | (exfalso; omega), by omega, gWH⟩)
  · have htk := gCT.tk
    refine lv_aload_n hx hb dX7_readAll_19 rfl (lv_at hl 0 rfl) ?_
    refine fg_7_0 (k := 27) hx hb hts in_X7_readAll_7 hown hK hP (by decide) (by decide) (hts _ lk_X7_readAll_9) dX7_readAll_20 ?_
    refine fgN_8_9 (k := 1) hx hb hts in_X7_readAll_8 hown hK hP (by decide) (by decide) (hN.use nw_7_32) dX7_readAll_23 ?_
    refine r_bipush hx hb dX7_readAll_26 (by decide) (fun z4 ez4 => ?_)
    refine r_icmp_ne (tgt := 68) hx hb dX7_readAll_28 (by decide) (fun c5 => ?_) (fun c5 => ?_)
    · refine r_iconst hx hb dX7_readAll_68 (by decide) (fun z6 ez6 => ?_)
      exact r_zret hx hb hr hK hP hS hk (by omega) dX7_readAll_69 (show P_X7_readAll_d8 σ0 τ0 a1 b N mo q nn nm hc z6 σ τ from ⟨hR, hF, hFL, by omega, by first | (exfalso; omega) | (obtain ⟨f, e1, x1, x2⟩ := o1.no (by omega); exact RO.ofl (all_f e1) (by omega) x1 x2) | exact RO.ofr (by rw [iv, lop_e (by omega)]) (by omega) ⟨gCT, by omega, by omega⟩ | (obtain ⟨f, e2, x1, x2⟩ := o2.no (by omega); exact RO.ofl (by rw [iv, lop_f (f := (fun q nn => oneP b N mo nm hc 1 q nn)) (by omega) (by omega) e2]) (by omega) x1 x2) | (exfalso; omega), by omega, gWH⟩)
    · refine lv_aload_n hx hb dX7_readAll_31 rfl (lv_at hl 0 rfl) ?_
      refine fg_7_0 (k := 27) hx hb hts in_X7_readAll_7 hown hK hP (by decide) (by decide) (hts _ lk_X7_readAll_9) dX7_readAll_32 ?_
      refine r_cVv (k := 1) (As := []) (rest := []) ⟨hx, hb, hml, hown, hts⟩ hK hP hN hS (c_X8_next_v l D cA ad hI σ τ hR _ _ _ _ gCT) (cwV 0 hts gX7_readAll_X8_next rfl rfl rfl (by decide +kernel) ⟨by decide, by decide⟩) (rv_Tape hK hP (by decide) (by decide)) rfl hl.1 rfl (Nat.le_of_ble_eq_true rfl) dX7_readAll_35 (Nat.zero_le _) (Nat.zero_le _) (fun u7 H7 locs7 hp7 hP hS => ?_)
      obtain ⟨σ7, τ7⟩ := u7
      obtain ⟨hR, f7, fL7, hp7_0⟩ : P_X8_next_v σ τ _ _ _ _ σ7 τ7 := hp7
      have hP : va_P D vwCl (gw cA ad σ7 τ7) H7 := hP
      have hFL := hFL.step fL7 (by decide)
      have gWH := gWH.agL (AgrL.fr fL7 (by decide))
      have hF := hF.step f7 (by decide)
      have gWH := gWH.ag (Agr.fr f7 (by decide))
      have t8 : (σ7 24 1).toInt = (σ 24 1).toInt := congrArg Int32.toInt (f7.at 24 1 (by decide))
      have t9 : (σ7 24 2).toInt = (σ 24 2).toInt := congrArg Int32.toInt (f7.at 24 2 (by decide))
      have t10 : (σ7 1 13).toInt = (σ 1 13).toInt := congrArg Int32.toInt (f7.at 1 13 (by decide))
      have gCT := hp7_0
      refine lv_aload_n hx hb dX7_readAll_38 rfl (lv_at hl 0 rfl) ?_
      refine lv_iload_n hx hb dX7_readAll_39 rfl (lv_at hl 1 rfl) ?_
      refine r_cVi (k := 27) (As := [.int a1]) (rest := []) ⟨hx, hb, hml, hown, hts⟩ hK hP hN hS (c_X7_readOne_d8 l D cA ad hI σ7 τ7 hR a1 b N mo _ n1 nm hc (by omega) (by omega) (by omega) (by omega) gCT gWH) (cwV 1 hts gX7_readAll_X7_readOne rfl rfl rfl (by decide +kernel) ⟨by decide, by decide⟩) (rv_SText hK hP (by decide) (by decide)) rfl hl.1 rfl (Nat.le_of_ble_eq_true rfl) dX7_readAll_40 (Nat.zero_le _) (Nat.zero_le _) (fun r11 u11 H11 locs11 hp11 hP hS => ?_)
      obtain ⟨σ11, τ11⟩ := u11
      obtain ⟨hR, f11, fL11, hq11, hp11_0, hp11_1, gnWH⟩ : P_X7_readOne_d8 σ7 τ7 a1 b N mo _ n1 nm hc r11 σ11 τ11 := hp11
      have o2 := hp11_0
      have hP : va_P D vwCl (gw cA ad σ11 τ11) H11 := hP
      have hFL := hFL.step fL11 (by decide)
      have gWH := gWH.agL (AgrL.fr fL11 (by decide))
      have hF := hF.step f11 (by decide)
      have gWH := gWH.ag (Agr.fr f11 (by decide))
      have hr12 := rg_6_1 hR (k := 24) (by decide) (by decide)
      have hr13 := rg_6_2 hR (k := 24) (by decide) (by decide)
      refine r_if_eq (tgt := 60) hx hb dX7_readAll_43 (by decide) (fun c14 => ?_) (fun c14 => ?_)
      · clear hp11_1
        refine r_iconst hx hb dX7_readAll_60 (by decide) (fun z15 ez15 => ?_)
        exact r_zret hx hb hr hK hP hS hk (by omega) dX7_readAll_61 (show P_X7_readAll_d8 σ0 τ0 a1 b N mo q nn nm hc z15 σ11 τ11 from ⟨hR, hF, hFL, by omega, by first | (exfalso; omega) | (obtain ⟨f, e1, x1, x2⟩ := o1.no (by omega); exact RO.ofl (all_f e1) (by omega) x1 x2) | exact RO.ofr (by rw [iv, lop_e (by omega)]) (by omega) ⟨gCT, by omega, by omega⟩ | (obtain ⟨f, e2, x1, x2⟩ := o2.no (by omega); exact RO.ofl (by rw [iv, lop_f (f := (fun q nn => oneP b N mo nm hc 1 q nn)) (by omega) (by omega) e2]) (by omega) x1 x2) | (exfalso; omega), by omega, gWH⟩)
      · replace hp11_1 := hp11_1.resolve_left (by omega)
        obtain ⟨s2, e2, gCT, hs3, hs4⟩ := o2.ye (by omega)
        have hu2 := one_up _ _ _ _ e2
        refine lv_aload_n hx hb dX7_readAll_46 rfl (lv_at hl 0 rfl) ?_
        refine fg_7_2 (k := 27) hx hb hts in_X7_readAll_7 hown hK hP (by decide) (by decide) (hts _ lk_X7_readAll_19) dX7_readAll_47 ?_
        refine r_bipush hx hb dX7_readAll_50 (by decide) (fun z16 ez16 => ?_)
        refine r_iconst hx hb dX7_readAll_52 (by decide) (fun z17 ez17 => ?_)
        refine r_iconst hx hb dX7_readAll_53 (by decide) (fun z18 ez18 => ?_)
        refine r_cVi (k := 24) (As := [.int z16, .int z17, .int z18]) (rest := []) ⟨hx, hb, hml, hown, hts⟩ hK hP hN hS (c_X6_add l D cA ad hI σ11 τ11 hR z16 z17 z18 (by omega)) (cwV 3 hts gX7_readAll_X6_add rfl rfl rfl (by decide +kernel) ⟨by decide, by decide⟩) (rv_Sent hK hP (by decide) (by decide)) rfl hl.1 rfl (Nat.le_of_ble_eq_true rfl) dX7_readAll_54 (Nat.zero_le _) (Nat.zero_le _) (fun r19 u19 H19 locs19 hp19 hP hS => ?_)
        obtain ⟨σ19, τ19⟩ := u19
        obtain ⟨hR, f19, fL19, hq19, hp19_0⟩ : P_X6_add σ11 τ11 z16 z17 z18 r19 σ19 τ19 := hp19
        have hP : va_P D vwCl (gw cA ad σ19 τ19) H19 := hP
        obtain rfl := FrL.nil fL19
        have hF := hF.step f19 (by decide)
        have gCT := gCT.ag (Agr.fr f19 (by decide))
        have gWH := gWH.ag (Agr.fr f19 (by decide))
        have t20 : (σ19 24 1).toInt = (σ11 24 1).toInt := congrArg Int32.toInt (f19.at 24 1 (by decide))
        have t21 : (σ19 1 13).toInt = (σ11 1 13).toInt := congrArg Int32.toInt (f19.at 1 13 (by decide))
        have hr22 := rg_6_2 hR (k := 24) (by decide) (by decide)
        refine r_if_ne (tgt := 62) hx hb dX7_readAll_57 (by decide) (fun c23 => ?_) (fun c23 => ?_)
        · refine r_iinc (k := 2) (lv1 := fun z24 => [(2, .int z24), (0, .ref (ad 27)), (1, .int a1)]) hx hb dX7_readAll_62 hl rfl (by decide) (fun _ => rfl) (by decide) (by omega) (fun z24 ls ez24 hl => ?_)
          refine lv_goto (tgt := 12) hx hb dX7_readAll_65 (by decide) ?_
          exact K12 σ19 τ11 H19 locs19 z24 (fu - 1) _ _ ls hR hF hFL hP hS (by omega) (by omega) (by omega) (by first | exact all_s e1 | rw [iv, lop_s (f := (fun q nn => oneP b N mo nm hc 1 q nn)) (by omega) (by omega) e2]) (by omega) (by omega) (by omega) (by omega) (by omega) gCT gWH gCT (lv_sub hl [1, 2, 0] rfl) (by omega)
        · refine r_iconst hx hb dX7_readAll_60 (by decide) (fun z25 ez25 => ?_)
          exact r_zret hx hb hr hK hP hS hk (by omega) dX7_readAll_61 (show P_X7_readAll_d8 σ0 τ0 a1 b N mo q nn nm hc z25 σ19 τ11 from ⟨hR, hF, hFL, by omega, by first | (exfalso; omega) | (obtain ⟨f, e1, x1, x2⟩ := o1.no (by omega); exact RO.ofl (all_f e1) (by omega) x1 x2) | exact RO.ofr (by rw [iv, lop_e (by omega)]) (by omega) ⟨gCT, by omega, by omega⟩ | (obtain ⟨f, e2, x1, x2⟩ := o2.no (by omega); exact RO.ofl (by rw [iv, lop_f (f := (fun q nn => oneP b N mo nm hc 1 q nn)) (by omega) (by omega) e2]) (by omega) x1 x2) | (exfalso; omega), by omega, gWH⟩)
theorem A_X7_readAll_d8 (p : Program) (l : Launch) (e : Env) (s : State) (m : MethodId) (args : Array Value) (below : List Frame) (meth : Method) (c : Code) (D : va_G) (cA : Nat → ClassId) (ad : Nat → Nat) (σ0 : Nat → Nat → Int32) (τ0 : Nat → Nat → Int64) (a1 : Int32) (b : Nat → Int) (N : Nat) (mo : Nat) (q : Nat) (nn : Nat) (nm : Nat → Int) (hc : Nat) (C : Cy p s m args meth c cX7_readAll 3 wsX7_readAll RX7 D cA ad (some .boolean)) (ha1 : 8 ≤ a1.toInt ∧ a1.toInt ≤ 8) (hpre0 : (σ0 24 1).toInt = (nn : Int)) (hpre1 : 0 ≤ (σ0 24 2).toInt ∧ (σ0 24 2).toInt ≤ 2 * (nn : Int)) (hpre2 : nn ≤ 20) (gCT0 : CT σ0 τ0 b N mo q) (gWH0 : WH σ0 τ0 nm hc) : ∀ n : Nat, J_X7_readAll_d8_12 p l e s m args below meth c D cA ad σ0 τ0 a1 b N mo q nn nm hc n := by
  intro n
  induction n with
  | zero =>
    exact (by intro σ τ H locs x2 fu q1 n1 ls hR hF hFL hP hS hc0 hc1 hc2 iv ib2 ib3 ifu in20 ik13 gCT gWH gCT hl hm; exfalso; omega)
  | succ n ih =>
    exact B_X7_readAll_d8_12 p l e s m args below meth c D cA ad σ0 τ0 a1 b N mo q nn nm hc n C ha1 hpre0 hpre1 hpre2 gCT0 gWH0 ih
set_option maxHeartbeats 4000000 in
theorem c_X7_readAll_d8 (l : Launch) (D : va_G) (cA : Nat → ClassId) (ad : Nat → Nat) (hI : Inj ad) (σ0 : Nat → Nat → Int32) (τ0 : Nat → Nat → Int64) (hR : Rg σ0) (a1 : Int32) (b : Nat → Int) (N : Nat) (mo : Nat) (q : Nat) (nn : Nat) (nm : Nat → Int) (hc : Nat) (ha1 : 8 ≤ a1.toInt ∧ a1.toInt ≤ 8) (hpre0 : (σ0 24 1).toInt = (nn : Int)) (hpre1 : 0 ≤ (σ0 24 2).toInt ∧ (σ0 24 2).toInt ≤ 2 * (nn : Int)) (hpre2 : nn ≤ 20) (gCT0 : CT σ0 τ0 b N mo q) (gWH0 : WH σ0 τ0 nm hc) : Met l yX7_readAll wsX7_readAll ({ frames := 5, cells := 0, slots := 0, locals := 109 } : Room) (WQc D cA ad [.ref (ad 27), .int a1] σ0 τ0) (va_Qi (fun (r : Int32) (u : SS) => P_X7_readAll_d8 σ0 τ0 a1 b N mo q nn nm hc r u.1 u.2) (WB D cA ad) (AA ad)) 0 0 (AA ad) := by
  refine Met.ofW (cc := cX7_readAll) (maxL := 3) (ret := (some .boolean)) (by decide) rfl ?_
  intro p e s m args below meth c s₁ B hml hv
  obtain ⟨rfl, hP, hK, hN⟩ := hv
  have C : Cy p s m _ meth c cX7_readAll 3 wsX7_readAll RX7 D cA ad (some .boolean) := ⟨B.exec, B.bytes, hml, findClass_of_methodNamed B.named, atoms_spec (ws := wsX7_readAll) B.pre, hK, B.notSynchronized, B.returns, hI, hN⟩
  have hl := lv_entry ([.ref (ad 27), .int a1]) (n := 3) (Nat.le_of_ble_eq_true rfl)
  rw [lg_entry_eq]
  generalize (lg_sl ([.ref (ad 27), .int a1]) ++ List.replicate (3 - (lg_sl ([.ref (ad 27), .int a1])).length) Slot.unset).toArray = ls at hl ⊢
  have hl : lv_has ls 3 [(0, .ref (ad 27)), (1, .int a1)] := hl
  have hS : va_S (AA ad) s.heap s.heap [] := va_S.rf
  have hF : Fr L_X7_readAll_d8 σ0 σ0 := Fr.rf
  have hFL : FrL LL_X7_readAll_d8 τ0 τ0 := FrL.rf
  have gCT := gCT0
  have gWH := gWH0
  have hA := A_X7_readAll_d8 p l e s m _ below meth c D cA ad σ0 τ0 a1 b N mo q nn nm hc C ha1 hpre0 hpre1 hpre2 gCT0 gWH0 810
  have K12 := hA
  clear hA
  obtain ⟨hx, hb, _, hown, hts, _, hk, hr, _, _⟩ := C
  refine lv_aload_n hx hb dX7_readAll_0 rfl (lv_at hl 0 rfl) ?_
  refine lv_iload_n hx hb dX7_readAll_1 rfl (lv_at hl 1 rfl) ?_
  refine r_cVi (k := 27) (As := [.int a1]) (rest := []) ⟨hx, hb, hml, hown, hts⟩ hK hP hN hS (c_X7_readOne_d8 l D cA ad hI σ0 τ0 hR a1 b N mo q nn nm hc (by omega) (by omega) (by omega) (by omega) gCT gWH) (cwV 1 hts gX7_readAll_X7_readOne rfl rfl rfl (by decide +kernel) ⟨by decide, by decide⟩) (rv_SText hK hP (by decide) (by decide)) rfl hl.1 rfl (Nat.le_of_ble_eq_true rfl) dX7_readAll_2 (Nat.zero_le _) (Nat.zero_le _) (fun r1 u1 H1 locs1 hp1 hP hS => ?_)
  obtain ⟨σ1, τ1⟩ := u1
  obtain ⟨hR, f1, fL1, hq1, hp1_0, hp1_1, gnWH⟩ : P_X7_readOne_d8 σ0 τ0 a1 b N mo q nn nm hc r1 σ1 τ1 := hp1
  have o1 := hp1_0
  have hP : va_P D vwCl (gw cA ad σ1 τ1) H1 := hP
  have hFL := hFL.step fL1 (by decide)
  have gWH := gWH.agL (AgrL.fr fL1 (by decide))
  have hF := hF.step f1 (by decide)
  have gWH := gWH.ag (Agr.fr f1 (by decide))
  have hr2 := rg_6_1 hR (k := 24) (by decide) (by decide)
  have hr3 := rg_6_2 hR (k := 24) (by decide) (by decide)
  refine r_if_ne (tgt := 10) hx hb dX7_readAll_5 (by decide) (fun c4 => ?_) (fun c4 => ?_)
  · replace hp1_1 := hp1_1.resolve_left (by omega)
    obtain ⟨s1, e1, gCT, hs1, hs2⟩ := o1.ye (by omega)
    have hu1 := one_up _ _ _ _ e1
    refine r_iconst hx hb dX7_readAll_10 (by decide) (fun z5 ez5 => ?_)
    refine lv_istore_n (lv' := [(2, .int z5), (0, .ref (ad 27)), (1, .int a1)]) hx hb dX7_readAll_11 rfl hl (by decide) rfl (fun ls hl => ?_)
    exact K12 σ1 τ1 H1 locs1 z5 200 _ _ ls hR hF hFL hP hS (by omega) (by omega) (by omega) (by first | exact all_s e1 | rw [iv, lop_s (f := (fun q nn => oneP b N mo nm hc 1 q nn)) (by omega) (by omega) e2]) (by omega) (by omega) (by omega) (by omega) (by omega) gCT gWH gCT (lv_sub hl [1, 2, 0] rfl) (by omega)
  · clear hp1_1
    refine r_iconst hx hb dX7_readAll_8 (by decide) (fun z6 ez6 => ?_)
    exact r_zret hx hb hr hK hP hS hk (by omega) dX7_readAll_9 (show P_X7_readAll_d8 σ0 τ0 a1 b N mo q nn nm hc z6 σ1 τ1 from ⟨hR, hF, hFL, by omega, by first | (exfalso; omega) | (obtain ⟨f, e1, x1, x2⟩ := o1.no (by omega); exact RO.ofl (all_f e1) (by omega) x1 x2) | exact RO.ofr (by rw [iv, lop_e (by omega)]) (by omega) ⟨gCT, by omega, by omega⟩ | (obtain ⟨f, e2, x1, x2⟩ := o2.no (by omega); exact RO.ofl (by rw [iv, lop_f (f := (fun q nn => oneP b N mo nm hc 1 q nn)) (by omega) (by omega) e2]) (by omega) x1 x2) | (exfalso; omega), by omega, gWH⟩)
theorem in_X7_readCond_7 : ∀ w ∈ u_ws RX7 TX7 3, w ∈ wsX7_readCond := by decide +kernel
theorem in_X7_readCond_8 : ∀ w ∈ u_ws RX8 TX8 15, w ∈ wsX7_readCond := by decide +kernel
theorem lk_X7_readCond_19 : Cond.fieldLink RX7 19 "CuckooShares$SentenceText" "into" "LCuckooShares$Sentence;" ∈ wsX7_readCond := by decide +kernel
theorem lk_X7_readCond_9 : Cond.fieldLink RX7 9 "CuckooShares$SentenceText" "tape" "LCuckooShares$Tape;" ∈ wsX7_readCond := by decide +kernel
abbrev L_X7_readCond_d8 : List Rc := [(1, 1, 7, 10), (372, 372, 0, 39), (376, 376, 0, 39), (380, 380, 0, 39), (24, 24, 1, 2), (1, 1, 12, 14)]
abbrev LL_X7_readCond_d8 : List Rc := [(1, 1, 11, 11)]
def P_X7_readCond_d8 (σ0 : Nat → Nat → Int32) (τ0 : Nat → Nat → Int64) (a1 : Int32) (b : Nat → Int) (N : Nat) (mo : Nat) (q : Nat) (nn : Nat) (nm : Nat → Int) (hc : Nat) (r : Int32) (σ : Nat → Nat → Int32) (τ : Nat → Nat → Int64) : Prop := Rg σ ∧ Fr L_X7_readCond_d8 σ0 σ ∧ FrL LL_X7_readCond_d8 τ0 τ ∧ (0 ≤ r.toInt ∧ r.toInt ≤ 1) ∧ (RO r σ (conP b N mo (fun q nn => oneP b N mo nm hc 1 q nn) q nn) (fun s => CT σ τ b N mo s.1 ∧ (σ 24 1).toInt = (s.2 : Int) ∧ (σ 24 2).toInt + 2 * (nn : Int) + 1 ≤ (σ0 24 2).toInt + 2 * (s.2 : Int))) ∧ (r.toInt = 0 ∨ (σ 1 13).toInt = (σ0 1 13).toInt) ∧ WH σ τ nm hc
def J_X7_readCond_d8_12 (p : Program) (l : Launch) (e : Env) (s : State) (m : MethodId) (args : Array Value) (below : List Frame) (meth : Method) (c : Code) (D : va_G) (cA : Nat → ClassId) (ad : Nat → Nat) (σ0 : Nat → Nat → Int32) (τ0 : Nat → Nat → Int64) (a1 : Int32) (b : Nat → Int) (N : Nat) (mo : Nat) (q : Nat) (nn : Nat) (nm : Nat → Int) (hc : Nat) (n : Nat) : Prop := ∀ (σ : Nat → Nat → Int32) (τ : Nat → Nat → Int64) (H : Heap) (locs : List Loc) (x2 : Int32) (fu : Nat) (q1 : Nat) (n1 : Nat) (ls : Array Slot), Rg σ → Fr L_X7_readCond_d8 σ0 σ → FrL LL_X7_readCond_d8 τ0 τ → va_P D vwCl (gw cA ad σ τ) H → va_S (AA ad) s.heap H locs → (0 ≤ x2.toInt ∧ x2.toInt ≤ 200) → (0 ≤ (σ 24 1).toInt ∧ (σ 24 1).toInt ≤ 20) → (0 ≤ (σ 24 2).toInt ∧ (σ 24 2).toInt ≤ 40) → (conP b N mo (fun q nn => oneP b N mo nm hc 1 q nn) q nn = lopP b N mo 20 (allP b N mo (fun q nn => oneP b N mo nm hc 1 q nn)) fu q1 n1) → ((σ 24 1).toInt = (n1 : Int)) → (0 ≤ (σ 24 2).toInt ∧ (σ 24 2).toInt + 2 * (nn : Int) + 1 ≤ (σ0 24 2).toInt + 2 * (n1 : Int)) → ((fu : Int) + x2.toInt = 200) → (n1 ≤ 20) → ((σ 1 13).toInt = (σ0 1 13).toInt) → (CT σ τ b N mo q1) → (WH σ τ nm hc) → (CT σ τ b N mo q1) → lv_has ls 3 [(0, .ref (ad 27)), (1, .int a1), (2, .int x2)] → 2 * (200 - x2.toInt) + 1 < (n : Int) → W p l e ({ frames := 6, cells := 0, slots := 0, locals := 131 } : Room) s m args below meth c H locs 0 0 (MQ below (va_Qi (fun (r : Int32) (u : SS) => P_X7_readCond_d8 σ0 τ0 a1 b N mo q nn nm hc r u.1 u.2) (WB D cA ad) (AA ad)) args s 0 0 (AA ad)) (F0 m 12 ls [])
set_option maxHeartbeats 4000000 in
theorem B_X7_readCond_d8_12 (p : Program) (l : Launch) (e : Env) (s : State) (m : MethodId) (args : Array Value) (below : List Frame) (meth : Method) (c : Code) (D : va_G) (cA : Nat → ClassId) (ad : Nat → Nat) (σ0 : Nat → Nat → Int32) (τ0 : Nat → Nat → Int64) (a1 : Int32) (b : Nat → Int) (N : Nat) (mo : Nat) (q : Nat) (nn : Nat) (nm : Nat → Int) (hc : Nat) (n : Nat) (C : Cy p s m args meth c cX7_readCond 3 wsX7_readCond RX7 D cA ad (some .boolean)) (ha1 : 8 ≤ a1.toInt ∧ a1.toInt ≤ 8) (hpre0 : (σ0 24 1).toInt = (nn : Int)) (hpre1 : 0 ≤ (σ0 24 2).toInt ∧ (σ0 24 2).toInt ≤ 2 * (nn : Int)) (hpre2 : nn ≤ 20) (gCT0 : CT σ0 τ0 b N mo q) (gWH0 : WH σ0 τ0 nm hc) (K12 : J_X7_readCond_d8_12 p l e s m args below meth c D cA ad σ0 τ0 a1 b N mo q nn nm hc n) : J_X7_readCond_d8_12 p l e s m args below meth c D cA ad σ0 τ0 a1 b N mo q nn nm hc (n + 1) := by
  obtain ⟨hx, hb, hml, hown, hts, hK, hk, hr, hI, hN⟩ := C
  intro σ τ H locs x2 fu q1 n1 ls hR hF hFL hP hS hc0 hc1 hc2 iv ib2 ib3 ifu in20 ik13 gCT gWH gCT hl hm
  refine lv_iload_n hx hb dX7_readCond_12 rfl (lv_at hl 2 rfl) ?_
  refine r_sipush hx hb dX7_readCond_13 (by decide) (fun z1 ez1 => ?_)
  refine r_icmp_ge (tgt := 68) hx hb dX7_readCond_16 (by decide) (fun c2 => ?_) (fun c2 => ?_)
  · refine r_iconst hx hb dX7_readCond_68 (by decide) (fun z3 ez3 => ?_)
    exact r_zret hx hb hr hK hP hS hk (by omega) dX7_readCond_69 (show P_X7_readCond_d8 σ0 τ0 a1 b N mo q nn nm hc z3 σ τ from ⟨hR, hF, hFL, by omega, by first | (exfalso; omega) | (obtain ⟨f, e1, x1, x2⟩ := o1.no (by omega); exact RO.ofl (con_f e1) (by omega) x1 x2) | exact RO.ofr (by rw [iv, lop_e (by omega)]) (by omega) ⟨gCT, by omega, by omega⟩ | (obtain ⟨f, e2, x1, x2⟩ := o2.no (by omega); exact RO.ofl (by rw [iv, lop_f (f := (allP b N mo (fun q nn => oneP b N mo nm hc 1 q nn))) (by omega) (by omega) e2]) (by omega) x1 x2) | (exfalso; omega), by omega, gWH⟩)
  · have htk := gCT.tk
    refine lv_aload_n hx hb dX7_readCond_19 rfl (lv_at hl 0 rfl) ?_
    refine fg_7_0 (k := 27) hx hb hts in_X7_readCond_7 hown hK hP (by decide) (by decide) (hts _ lk_X7_readCond_9) dX7_readCond_20 ?_
    refine fgN_8_9 (k := 1) hx hb hts in_X7_readCond_8 hown hK hP (by decide) (by decide) (hN.use nw_7_32) dX7_readCond_23 ?_
    refine r_bipush hx hb dX7_readCond_26 (by decide) (fun z4 ez4 => ?_)
    refine r_icmp_ne (tgt := 68) hx hb dX7_readCond_28 (by decide) (fun c5 => ?_) (fun c5 => ?_)
    · refine r_iconst hx hb dX7_readCond_68 (by decide) (fun z6 ez6 => ?_)
      exact r_zret hx hb hr hK hP hS hk (by omega) dX7_readCond_69 (show P_X7_readCond_d8 σ0 τ0 a1 b N mo q nn nm hc z6 σ τ from ⟨hR, hF, hFL, by omega, by first | (exfalso; omega) | (obtain ⟨f, e1, x1, x2⟩ := o1.no (by omega); exact RO.ofl (con_f e1) (by omega) x1 x2) | exact RO.ofr (by rw [iv, lop_e (by omega)]) (by omega) ⟨gCT, by omega, by omega⟩ | (obtain ⟨f, e2, x1, x2⟩ := o2.no (by omega); exact RO.ofl (by rw [iv, lop_f (f := (allP b N mo (fun q nn => oneP b N mo nm hc 1 q nn))) (by omega) (by omega) e2]) (by omega) x1 x2) | (exfalso; omega), by omega, gWH⟩)
    · refine lv_aload_n hx hb dX7_readCond_31 rfl (lv_at hl 0 rfl) ?_
      refine fg_7_0 (k := 27) hx hb hts in_X7_readCond_7 hown hK hP (by decide) (by decide) (hts _ lk_X7_readCond_9) dX7_readCond_32 ?_
      refine r_cVv (k := 1) (As := []) (rest := []) ⟨hx, hb, hml, hown, hts⟩ hK hP hN hS (c_X8_next_v l D cA ad hI σ τ hR _ _ _ _ gCT) (cwV 0 hts gX7_readCond_X8_next rfl rfl rfl (by decide +kernel) ⟨by decide, by decide⟩) (rv_Tape hK hP (by decide) (by decide)) rfl hl.1 rfl (Nat.le_of_ble_eq_true rfl) dX7_readCond_35 (Nat.zero_le _) (Nat.zero_le _) (fun u7 H7 locs7 hp7 hP hS => ?_)
      obtain ⟨σ7, τ7⟩ := u7
      obtain ⟨hR, f7, fL7, hp7_0⟩ : P_X8_next_v σ τ _ _ _ _ σ7 τ7 := hp7
      have hP : va_P D vwCl (gw cA ad σ7 τ7) H7 := hP
      have hFL := hFL.step fL7 (by decide)
      have gWH := gWH.agL (AgrL.fr fL7 (by decide))
      have hF := hF.step f7 (by decide)
      have gWH := gWH.ag (Agr.fr f7 (by decide))
      have t8 : (σ7 24 1).toInt = (σ 24 1).toInt := congrArg Int32.toInt (f7.at 24 1 (by decide))
      have t9 : (σ7 24 2).toInt = (σ 24 2).toInt := congrArg Int32.toInt (f7.at 24 2 (by decide))
      have t10 : (σ7 1 13).toInt = (σ 1 13).toInt := congrArg Int32.toInt (f7.at 1 13 (by decide))
      have gCT := hp7_0
      refine lv_aload_n hx hb dX7_readCond_38 rfl (lv_at hl 0 rfl) ?_
      refine lv_iload_n hx hb dX7_readCond_39 rfl (lv_at hl 1 rfl) ?_
      refine r_cVi (k := 27) (As := [.int a1]) (rest := []) ⟨hx, hb, hml, hown, hts⟩ hK hP hN hS (c_X7_readAll_d8 l D cA ad hI σ7 τ7 hR a1 b N mo _ n1 nm hc (by omega) (by omega) (by omega) (by omega) gCT gWH) (cwV 1 hts gX7_readCond_X7_readAll rfl rfl rfl (by decide +kernel) ⟨by decide, by decide⟩) (rv_SText hK hP (by decide) (by decide)) rfl hl.1 rfl (Nat.le_of_ble_eq_true rfl) dX7_readCond_40 (Nat.zero_le _) (Nat.zero_le _) (fun r11 u11 H11 locs11 hp11 hP hS => ?_)
      obtain ⟨σ11, τ11⟩ := u11
      obtain ⟨hR, f11, fL11, hq11, hp11_0, hp11_1, gnWH⟩ : P_X7_readAll_d8 σ7 τ7 a1 b N mo _ n1 nm hc r11 σ11 τ11 := hp11
      have o2 := hp11_0
      have hP : va_P D vwCl (gw cA ad σ11 τ11) H11 := hP
      have hFL := hFL.step fL11 (by decide)
      have gWH := gWH.agL (AgrL.fr fL11 (by decide))
      have hF := hF.step f11 (by decide)
      have gWH := gWH.ag (Agr.fr f11 (by decide))
      have hr12 := rg_6_1 hR (k := 24) (by decide) (by decide)
      have hr13 := rg_6_2 hR (k := 24) (by decide) (by decide)
      refine r_if_eq (tgt := 60) hx hb dX7_readCond_43 (by decide) (fun c14 => ?_) (fun c14 => ?_)
      · clear hp11_1
        refine r_iconst hx hb dX7_readCond_60 (by decide) (fun z15 ez15 => ?_)
        exact r_zret hx hb hr hK hP hS hk (by omega) dX7_readCond_61 (show P_X7_readCond_d8 σ0 τ0 a1 b N mo q nn nm hc z15 σ11 τ11 from ⟨hR, hF, hFL, by omega, by first | (exfalso; omega) | (obtain ⟨f, e1, x1, x2⟩ := o1.no (by omega); exact RO.ofl (con_f e1) (by omega) x1 x2) | exact RO.ofr (by rw [iv, lop_e (by omega)]) (by omega) ⟨gCT, by omega, by omega⟩ | (obtain ⟨f, e2, x1, x2⟩ := o2.no (by omega); exact RO.ofl (by rw [iv, lop_f (f := (allP b N mo (fun q nn => oneP b N mo nm hc 1 q nn))) (by omega) (by omega) e2]) (by omega) x1 x2) | (exfalso; omega), by omega, gWH⟩)
      · replace hp11_1 := hp11_1.resolve_left (by omega)
        obtain ⟨s2, e2, gCT, hs3, hs4⟩ := o2.ye (by omega)
        have hu2 := all_up (one_up _) _ _ _ e2
        refine lv_aload_n hx hb dX7_readCond_46 rfl (lv_at hl 0 rfl) ?_
        refine fg_7_2 (k := 27) hx hb hts in_X7_readCond_7 hown hK hP (by decide) (by decide) (hts _ lk_X7_readCond_19) dX7_readCond_47 ?_
        refine r_bipush hx hb dX7_readCond_50 (by decide) (fun z16 ez16 => ?_)
        refine r_iconst hx hb dX7_readCond_52 (by decide) (fun z17 ez17 => ?_)
        refine r_iconst hx hb dX7_readCond_53 (by decide) (fun z18 ez18 => ?_)
        refine r_cVi (k := 24) (As := [.int z16, .int z17, .int z18]) (rest := []) ⟨hx, hb, hml, hown, hts⟩ hK hP hN hS (c_X6_add l D cA ad hI σ11 τ11 hR z16 z17 z18 (by omega)) (cwV 3 hts gX7_readCond_X6_add rfl rfl rfl (by decide +kernel) ⟨by decide, by decide⟩) (rv_Sent hK hP (by decide) (by decide)) rfl hl.1 rfl (Nat.le_of_ble_eq_true rfl) dX7_readCond_54 (Nat.zero_le _) (Nat.zero_le _) (fun r19 u19 H19 locs19 hp19 hP hS => ?_)
        obtain ⟨σ19, τ19⟩ := u19
        obtain ⟨hR, f19, fL19, hq19, hp19_0⟩ : P_X6_add σ11 τ11 z16 z17 z18 r19 σ19 τ19 := hp19
        have hP : va_P D vwCl (gw cA ad σ19 τ19) H19 := hP
        obtain rfl := FrL.nil fL19
        have hF := hF.step f19 (by decide)
        have gCT := gCT.ag (Agr.fr f19 (by decide))
        have gWH := gWH.ag (Agr.fr f19 (by decide))
        have t20 : (σ19 24 1).toInt = (σ11 24 1).toInt := congrArg Int32.toInt (f19.at 24 1 (by decide))
        have t21 : (σ19 1 13).toInt = (σ11 1 13).toInt := congrArg Int32.toInt (f19.at 1 13 (by decide))
        have hr22 := rg_6_2 hR (k := 24) (by decide) (by decide)
        refine r_if_ne (tgt := 62) hx hb dX7_readCond_57 (by decide) (fun c23 => ?_) (fun c23 => ?_)
        · refine r_iinc (k := 2) (lv1 := fun z24 => [(2, .int z24), (0, .ref (ad 27)), (1, .int a1)]) hx hb dX7_readCond_62 hl rfl (by decide) (fun _ => rfl) (by decide) (by omega) (fun z24 ls ez24 hl => ?_)
          refine lv_goto (tgt := 12) hx hb dX7_readCond_65 (by decide) ?_
          exact K12 σ19 τ11 H19 locs19 z24 (fu - 1) _ _ ls hR hF hFL hP hS (by omega) (by omega) (by omega) (by first | exact con_s e1 | rw [iv, lop_s (f := (allP b N mo (fun q nn => oneP b N mo nm hc 1 q nn))) (by omega) (by omega) e2]) (by omega) (by omega) (by omega) (by omega) (by omega) gCT gWH gCT (lv_sub hl [1, 2, 0] rfl) (by omega)
        · refine r_iconst hx hb dX7_readCond_60 (by decide) (fun z25 ez25 => ?_)
          exact r_zret hx hb hr hK hP hS hk (by omega) dX7_readCond_61 (show P_X7_readCond_d8 σ0 τ0 a1 b N mo q nn nm hc z25 σ19 τ11 from ⟨hR, hF, hFL, by omega, by first | (exfalso; omega) | (obtain ⟨f, e1, x1, x2⟩ := o1.no (by omega); exact RO.ofl (con_f e1) (by omega) x1 x2) | exact RO.ofr (by rw [iv, lop_e (by omega)]) (by omega) ⟨gCT, by omega, by omega⟩ | (obtain ⟨f, e2, x1, x2⟩ := o2.no (by omega); exact RO.ofl (by rw [iv, lop_f (f := (allP b N mo (fun q nn => oneP b N mo nm hc 1 q nn))) (by omega) (by omega) e2]) (by omega) x1 x2) | (exfalso; omega), by omega, gWH⟩)
theorem A_X7_readCond_d8 (p : Program) (l : Launch) (e : Env) (s : State) (m : MethodId) (args : Array Value) (below : List Frame) (meth : Method) (c : Code) (D : va_G) (cA : Nat → ClassId) (ad : Nat → Nat) (σ0 : Nat → Nat → Int32) (τ0 : Nat → Nat → Int64) (a1 : Int32) (b : Nat → Int) (N : Nat) (mo : Nat) (q : Nat) (nn : Nat) (nm : Nat → Int) (hc : Nat) (C : Cy p s m args meth c cX7_readCond 3 wsX7_readCond RX7 D cA ad (some .boolean)) (ha1 : 8 ≤ a1.toInt ∧ a1.toInt ≤ 8) (hpre0 : (σ0 24 1).toInt = (nn : Int)) (hpre1 : 0 ≤ (σ0 24 2).toInt ∧ (σ0 24 2).toInt ≤ 2 * (nn : Int)) (hpre2 : nn ≤ 20) (gCT0 : CT σ0 τ0 b N mo q) (gWH0 : WH σ0 τ0 nm hc) : ∀ n : Nat, J_X7_readCond_d8_12 p l e s m args below meth c D cA ad σ0 τ0 a1 b N mo q nn nm hc n := by
  intro n
  induction n with
  | zero =>
    exact (by intro σ τ H locs x2 fu q1 n1 ls hR hF hFL hP hS hc0 hc1 hc2 iv ib2 ib3 ifu in20 ik13 gCT gWH gCT hl hm; exfalso; omega)
  | succ n ih =>
    exact B_X7_readCond_d8_12 p l e s m args below meth c D cA ad σ0 τ0 a1 b N mo q nn nm hc n C ha1 hpre0 hpre1 hpre2 gCT0 gWH0 ih
set_option maxHeartbeats 4000000 in
theorem c_X7_readCond_d8 (l : Launch) (D : va_G) (cA : Nat → ClassId) (ad : Nat → Nat) (hI : Inj ad) (σ0 : Nat → Nat → Int32) (τ0 : Nat → Nat → Int64) (hR : Rg σ0) (a1 : Int32) (b : Nat → Int) (N : Nat) (mo : Nat) (q : Nat) (nn : Nat) (nm : Nat → Int) (hc : Nat) (ha1 : 8 ≤ a1.toInt ∧ a1.toInt ≤ 8) (hpre0 : (σ0 24 1).toInt = (nn : Int)) (hpre1 : 0 ≤ (σ0 24 2).toInt ∧ (σ0 24 2).toInt ≤ 2 * (nn : Int)) (hpre2 : nn ≤ 20) (gCT0 : CT σ0 τ0 b N mo q) (gWH0 : WH σ0 τ0 nm hc) : Met l yX7_readCond wsX7_readCond ({ frames := 6, cells := 0, slots := 0, locals := 131 } : Room) (WQc D cA ad [.ref (ad 27), .int a1] σ0 τ0) (va_Qi (fun (r : Int32) (u : SS) => P_X7_readCond_d8 σ0 τ0 a1 b N mo q nn nm hc r u.1 u.2) (WB D cA ad) (AA ad)) 0 0 (AA ad) := by
  refine Met.ofW (cc := cX7_readCond) (maxL := 3) (ret := (some .boolean)) (by decide) rfl ?_
  intro p e s m args below meth c s₁ B hml hv
  obtain ⟨rfl, hP, hK, hN⟩ := hv
  have C : Cy p s m _ meth c cX7_readCond 3 wsX7_readCond RX7 D cA ad (some .boolean) := ⟨B.exec, B.bytes, hml, findClass_of_methodNamed B.named, atoms_spec (ws := wsX7_readCond) B.pre, hK, B.notSynchronized, B.returns, hI, hN⟩
  have hl := lv_entry ([.ref (ad 27), .int a1]) (n := 3) (Nat.le_of_ble_eq_true rfl)
  rw [lg_entry_eq]
  generalize (lg_sl ([.ref (ad 27), .int a1]) ++ List.replicate (3 - (lg_sl ([.ref (ad 27), .int a1])).length) Slot.unset).toArray = ls at hl ⊢
  have hl : lv_has ls 3 [(0, .ref (ad 27)), (1, .int a1)] := hl
  have hS : va_S (AA ad) s.heap s.heap [] := va_S.rf
  have hF : Fr L_X7_readCond_d8 σ0 σ0 := Fr.rf
  have hFL : FrL LL_X7_readCond_d8 τ0 τ0 := FrL.rf
  have gCT := gCT0
  have gWH := gWH0
  have hA := A_X7_readCond_d8 p l e s m _ below meth c D cA ad σ0 τ0 a1 b N mo q nn nm hc C ha1 hpre0 hpre1 hpre2 gCT0 gWH0 810
  have K12 := hA
  clear hA
  obtain ⟨hx, hb, _, hown, hts, _, hk, hr, _, _⟩ := C
  refine lv_aload_n hx hb dX7_readCond_0 rfl (lv_at hl 0 rfl) ?_
  refine lv_iload_n hx hb dX7_readCond_1 rfl (lv_at hl 1 rfl) ?_
  refine r_cVi (k := 27) (As := [.int a1]) (rest := []) ⟨hx, hb, hml, hown, hts⟩ hK hP hN hS (c_X7_readAll_d8 l D cA ad hI σ0 τ0 hR a1 b N mo q nn nm hc (by omega) (by omega) (by omega) (by omega) gCT gWH) (cwV 1 hts gX7_readCond_X7_readAll rfl rfl rfl (by decide +kernel) ⟨by decide, by decide⟩) (rv_SText hK hP (by decide) (by decide)) rfl hl.1 rfl (Nat.le_of_ble_eq_true rfl) dX7_readCond_2 (Nat.zero_le _) (Nat.zero_le _) (fun r1 u1 H1 locs1 hp1 hP hS => ?_)
  obtain ⟨σ1, τ1⟩ := u1
  obtain ⟨hR, f1, fL1, hq1, hp1_0, hp1_1, gnWH⟩ : P_X7_readAll_d8 σ0 τ0 a1 b N mo q nn nm hc r1 σ1 τ1 := hp1
  have o1 := hp1_0
  have hP : va_P D vwCl (gw cA ad σ1 τ1) H1 := hP
  have hFL := hFL.step fL1 (by decide)
  have gWH := gWH.agL (AgrL.fr fL1 (by decide))
  have hF := hF.step f1 (by decide)
  have gWH := gWH.ag (Agr.fr f1 (by decide))
  have hr2 := rg_6_1 hR (k := 24) (by decide) (by decide)
  have hr3 := rg_6_2 hR (k := 24) (by decide) (by decide)
  refine r_if_ne (tgt := 10) hx hb dX7_readCond_5 (by decide) (fun c4 => ?_) (fun c4 => ?_)
  · replace hp1_1 := hp1_1.resolve_left (by omega)
    obtain ⟨s1, e1, gCT, hs1, hs2⟩ := o1.ye (by omega)
    have hu1 := all_up (one_up _) _ _ _ e1
    refine r_iconst hx hb dX7_readCond_10 (by decide) (fun z5 ez5 => ?_)
    refine lv_istore_n (lv' := [(2, .int z5), (0, .ref (ad 27)), (1, .int a1)]) hx hb dX7_readCond_11 rfl hl (by decide) rfl (fun ls hl => ?_)
    exact K12 σ1 τ1 H1 locs1 z5 200 _ _ ls hR hF hFL hP hS (by omega) (by omega) (by omega) (by first | exact con_s e1 | rw [iv, lop_s (f := (allP b N mo (fun q nn => oneP b N mo nm hc 1 q nn))) (by omega) (by omega) e2]) (by omega) (by omega) (by omega) (by omega) (by omega) gCT gWH gCT (lv_sub hl [1, 2, 0] rfl) (by omega)
  · clear hp1_1
    refine r_iconst hx hb dX7_readCond_8 (by decide) (fun z6 ez6 => ?_)
    exact r_zret hx hb hr hK hP hS hk (by omega) dX7_readCond_9 (show P_X7_readCond_d8 σ0 τ0 a1 b N mo q nn nm hc z6 σ1 τ1 from ⟨hR, hF, hFL, by omega, by first | (exfalso; omega) | (obtain ⟨f, e1, x1, x2⟩ := o1.no (by omega); exact RO.ofl (con_f e1) (by omega) x1 x2) | exact RO.ofr (by rw [iv, lop_e (by omega)]) (by omega) ⟨gCT, by omega, by omega⟩ | (obtain ⟨f, e2, x1, x2⟩ := o2.no (by omega); exact RO.ofl (by rw [iv, lop_f (f := (allP b N mo (fun q nn => oneP b N mo nm hc 1 q nn))) (by omega) (by omega) e2]) (by omega) x1 x2) | (exfalso; omega), by omega, gWH⟩)
abbrev L_X7_readOne_d7 : List Rc := [(1, 1, 7, 10), (372, 372, 0, 39), (376, 376, 0, 39), (380, 380, 0, 39), (24, 24, 1, 2), (1, 1, 12, 14)]
abbrev LL_X7_readOne_d7 : List Rc := [(1, 1, 11, 11)]
def P_X7_readOne_d7 (σ0 : Nat → Nat → Int32) (τ0 : Nat → Nat → Int64) (a1 : Int32) (b : Nat → Int) (N : Nat) (mo : Nat) (q : Nat) (nn : Nat) (nm : Nat → Int) (hc : Nat) (r : Int32) (σ : Nat → Nat → Int32) (τ : Nat → Nat → Int64) : Prop := Rg σ ∧ Fr L_X7_readOne_d7 σ0 σ ∧ FrL LL_X7_readOne_d7 τ0 τ ∧ (0 ≤ r.toInt ∧ r.toInt ≤ 1) ∧ (RO r σ (oneP b N mo nm hc 2 q nn) (fun s => CT σ τ b N mo s.1 ∧ (σ 24 1).toInt = (s.2 : Int) ∧ (σ 24 2).toInt + 2 * (nn : Int) + 1 ≤ (σ0 24 2).toInt + 2 * (s.2 : Int))) ∧ (r.toInt = 0 ∨ (σ 1 13).toInt = (σ0 1 13).toInt) ∧ WH σ τ nm hc
set_option maxHeartbeats 4000000 in
theorem c_X7_readOne_d7 (l : Launch) (D : va_G) (cA : Nat → ClassId) (ad : Nat → Nat) (hI : Inj ad) (σ0 : Nat → Nat → Int32) (τ0 : Nat → Nat → Int64) (hR : Rg σ0) (a1 : Int32) (b : Nat → Int) (N : Nat) (mo : Nat) (q : Nat) (nn : Nat) (nm : Nat → Int) (hc : Nat) (ha1 : 7 ≤ a1.toInt ∧ a1.toInt ≤ 7) (hpre0 : (σ0 24 1).toInt = (nn : Int)) (hpre1 : 0 ≤ (σ0 24 2).toInt ∧ (σ0 24 2).toInt ≤ 2 * (nn : Int)) (hpre2 : nn ≤ 20) (gCT0 : CT σ0 τ0 b N mo q) (gWH0 : WH σ0 τ0 nm hc) : Met l yX7_readOne wsX7_readOne ({ frames := 7, cells := 0, slots := 0, locals := 153 } : Room) (WQc D cA ad [.ref (ad 27), .int a1] σ0 τ0) (va_Qi (fun (r : Int32) (u : SS) => P_X7_readOne_d7 σ0 τ0 a1 b N mo q nn nm hc r u.1 u.2) (WB D cA ad) (AA ad)) 0 0 (AA ad) := by
  refine Met.ofW (cc := cX7_readOne) (maxL := 3) (ret := (some .boolean)) (by decide) rfl ?_
  intro p e s m args below meth c s₁ B hml hv
  obtain ⟨rfl, hP, hK, hN⟩ := hv
  have C : Cy p s m _ meth c cX7_readOne 3 wsX7_readOne RX7 D cA ad (some .boolean) := ⟨B.exec, B.bytes, hml, findClass_of_methodNamed B.named, atoms_spec (ws := wsX7_readOne) B.pre, hK, B.notSynchronized, B.returns, hI, hN⟩
  have hl := lv_entry ([.ref (ad 27), .int a1]) (n := 3) (Nat.le_of_ble_eq_true rfl)
  rw [lg_entry_eq]
  generalize (lg_sl ([.ref (ad 27), .int a1]) ++ List.replicate (3 - (lg_sl ([.ref (ad 27), .int a1])).length) Slot.unset).toArray = ls at hl ⊢
  have hl : lv_has ls 3 [(0, .ref (ad 27)), (1, .int a1)] := hl
  have hS : va_S (AA ad) s.heap s.heap [] := va_S.rf
  have hF : Fr L_X7_readOne_d7 σ0 σ0 := Fr.rf
  have hFL : FrL LL_X7_readOne_d7 τ0 τ0 := FrL.rf
  have gCT := gCT0
  have gWH := gWH0
  obtain ⟨hx, hb, _, hown, hts, _, hk, hr, _, _⟩ := C
  have htk := gCT.tk
  refine lv_aload_n hx hb dX7_readOne_0 rfl (lv_at hl 0 rfl) ?_
  refine fg_7_0 (k := 27) hx hb hts in_X7_readOne_7 hown hK hP (by decide) (by decide) (hts _ lk_X7_readOne_9) dX7_readOne_1 ?_
  refine fgN_8_9 (k := 1) hx hb hts in_X7_readOne_8 hown hK hP (by decide) (by decide) (hN.use nw_7_32) dX7_readOne_4 ?_
  refine lv_istore_n (lv' := [(2, .int (σ0 1 9)), (0, .ref (ad 27)), (1, .int a1)]) hx hb dX7_readOne_7 rfl hl (by decide) rfl (fun ls hl => ?_)
  refine lv_iload_n hx hb dX7_readOne_8 rfl (lv_at hl 0 rfl) ?_
  refine r_cSi (As := [.int (σ0 1 9)]) (rest := []) ⟨hx, hb, hml, hown, hts⟩ hK hP hN hS (c_X7_beginsOne l D cA ad hI σ0 τ0 hR (σ0 1 9)) (va_cwS 1 hts gX7_readOne_X7_beginsOne rfl rfl rfl (by decide +kernel) ⟨by decide, by decide⟩) rfl hl.1 rfl (Nat.le_of_ble_eq_true rfl) dX7_readOne_9 (Nat.zero_le _) (Nat.zero_le _) (fun r1 u1 H1 locs1 hp1 hP hS => ?_)
  obtain ⟨σ1, τ1⟩ := u1
  obtain ⟨hR, f1, fL1, hq1, hp1_0⟩ : P_X7_beginsOne σ0 τ0 (σ0 1 9) r1 σ1 τ1 := hp1
  have hP : va_P D vwCl (gw cA ad σ1 τ1) H1 := hP
  obtain rfl := FrL.nil fL1
  obtain rfl := Fr.nil f1
  refine r_if_ne (tgt := 24) hx hb dX7_readOne_12 (by decide) (fun c2 => ?_) (fun c2 => ?_)
  · refine lv_aload_n hx hb dX7_readOne_24 rfl (lv_at hl 1 rfl) ?_
    refine fg_7_2 (k := 27) hx hb hts in_X7_readOne_7 hown hK hP (by decide) (by decide) (hts _ lk_X7_readOne_19) dX7_readOne_25 ?_
    refine fgN_6_1 (k := 24) hx hb hts in_X7_readOne_6 hown hK hP (by decide) (by decide) (hN.use nw_7_61) dX7_readOne_28 ?_
    refine r_bipush hx hb dX7_readOne_31 (by decide) (fun z3 ez3 => ?_)
    refine r_icmp_ge (tgt := 42) hx hb dX7_readOne_33 (by decide) (fun c4 => ?_) (fun c4 => ?_)
    · refine lv_aload_n hx hb dX7_readOne_42 rfl (lv_at hl 1 rfl) ?_
      refine fg_7_0 (k := 27) hx hb hts in_X7_readOne_7 hown hK hP (by decide) (by decide) (hts _ lk_X7_readOne_9) dX7_readOne_43 ?_
      refine r_iconst hx hb dX7_readOne_46 (by decide) (fun z5 ez5 => ?_)
      refine r_cVi (k := 1) (As := [.int z5]) (rest := []) ⟨hx, hb, hml, hown, hts⟩ hK hP hN hS (c_X8_blame_v l D cA ad hI σ0 τ0 hR z5 _ _ _ _ (by omega) gCT) (cwV 1 hts gX7_readOne_X8_blame rfl rfl rfl (by decide +kernel) ⟨by decide, by decide⟩) (rv_Tape hK hP (by decide) (by decide)) rfl hl.1 rfl (Nat.le_of_ble_eq_true rfl) dX7_readOne_47 (Nat.zero_le _) (Nat.zero_le _) (fun r6 u6 H6 locs6 hp6 hP hS => ?_)
      obtain ⟨σ6, τ6⟩ := u6
      obtain ⟨hR, f6, fL6, hq6, hp6_0, hp6_1, hp6_2, gnCT⟩ : P_X8_blame_v σ0 τ0 z5 _ _ _ _ r6 σ6 τ6 := hp6
      have hP : va_P D vwCl (gw cA ad σ6 τ6) H6 := hP
      obtain rfl := FrL.nil fL6
      have hF := hF.step f6 (by decide)
      have gCT := gCT.ag (Agr.fr f6 (by decide))
      have gWH := gWH.ag (Agr.fr f6 (by decide))
      have t7 : (σ6 24 1).toInt = (σ0 24 1).toInt := congrArg Int32.toInt (f6.at 24 1 (by decide))
      have t8 : (σ6 24 2).toInt = (σ0 24 2).toInt := congrArg Int32.toInt (f6.at 24 2 (by decide))
      exact r_zret hx hb hr hK hP hS hk (by omega) dX7_readOne_50 (show P_X7_readOne_d7 σ0 τ0 a1 b N mo q nn nm hc r6 σ6 τ0 from ⟨hR, hF, hFL, by omega, by first | exact RO.ofr ((one_l (by omega) (by omega) (by omega) (by omega)).trans (lea_n (by omega) (by omega))) (by omega) ⟨gCT, by omega, by omega⟩ | (exfalso; omega) | exact RO.ofk (one_x (by omega)) (by omega) (by omega) (by omega) | exact RO.ofk (one_4 (by omega) (by omega)) (by omega) (by omega) (by omega) | (obtain ⟨f, e1, x1, x2⟩ := o1.no (by omega); exact RO.ofl ((one_n (by omega) (by omega)).trans e1) (by omega) x1 x2) | exact RO.ofr ((one_n (by omega) (by omega)).trans e1) (by omega) ⟨gCT, by omega, by omega⟩ | (obtain ⟨f, e2, x1, x2⟩ := o2.no (by omega); exact RO.ofl (by rw [one_o (by omega) (by omega), e2, bnd_l]) (by omega) x1 x2) | (obtain ⟨f, e3, x1, x2⟩ := o3.no (by omega); exact RO.ofl (by rw [one_o (by omega) (by omega), e2, bnd_r, e3, bnd_l]) (by omega) x1 x2) | exact RO.ofr (by rw [one_o (by omega) (by omega), e2, bnd_r, e3, bnd_r]) (by omega) ⟨gCT, by omega, by omega⟩ | (rw [one_l (by omega) (by omega) (by omega) (by omega)]; exact o4.map (fun s es h => ⟨h.1, h.2.1, by have h2 := h.2.2; have hl := lea_up es; omega⟩)) | (rw [one_l (by omega) (by omega) (by omega) (by omega)]; exact o5.map (fun s es h => ⟨h.1, h.2.1, by have h2 := h.2.2; have hl := lea_up es; omega⟩)), by omega, gWH⟩)
    · refine lv_iload_n hx hb dX7_readOne_36 rfl (lv_at hl 2 rfl) ?_
      refine r_bipush hx hb dX7_readOne_37 (by decide) (fun z9 ez9 => ?_)
      refine r_icmp_le (tgt := 51) hx hb dX7_readOne_39 (by decide) (fun c10 => ?_) (fun c10 => ?_)
      · refine lv_aload_n hx hb dX7_readOne_51 rfl (lv_at hl 1 rfl) ?_
        refine fg_7_2 (k := 27) hx hb hts in_X7_readOne_7 hown hK hP (by decide) (by decide) (hts _ lk_X7_readOne_19) dX7_readOne_52 ?_
        refine lv_dup hx hb dX7_readOne_55 rfl ?_
        refine fgN_6_1 (k := 24) hx hb hts in_X7_readOne_6 hown hK hP (by decide) (by decide) (hN.use nw_7_61) dX7_readOne_56 ?_
        refine r_iconst hx hb dX7_readOne_59 (by decide) (fun z11 ez11 => ?_)
        refine r_iadd hx hb dX7_readOne_60 (by omega) (fun z12 ez12 => ?_)
        refine fpN_6_1 (k := 24) hx hb hts in_X7_readOne_6 hown hK hP (by decide) (by decide) (hN.use nw_7_61) hI hR hS (by omega) dX7_readOne_61 (fun σ13 H13 locs13 u13 v13 hR hP hS => ?_)
        have hF := hF.puts u13 4 rfl (by decide) (by decide) (by decide) (by decide)
        have gCT := gCT.ag (Agr.put u13 (by decide))
        have gWH := gWH.ag (Agr.put u13 (by decide))
        have t14 : (σ13 24 2).toInt = (σ0 24 2).toInt := congrArg Int32.toInt (u13 24 2 (by omega))
        have t15 : (σ13 1 13).toInt = (σ0 1 13).toInt := congrArg Int32.toInt (u13 1 13 (by omega))
        refine lv_aload_n hx hb dX7_readOne_64 rfl (lv_at hl 1 rfl) ?_
        refine fg_7_0 (k := 27) hx hb hts in_X7_readOne_7 hown hK hP (by decide) (by decide) (hts _ lk_X7_readOne_9) dX7_readOne_65 ?_
        refine r_cVv (k := 1) (As := []) (rest := []) ⟨hx, hb, hml, hown, hts⟩ hK hP hN hS (c_X8_next_v l D cA ad hI σ13 τ0 hR _ _ _ _ gCT) (cwV 0 hts gX7_readOne_X8_next rfl rfl rfl (by decide +kernel) ⟨by decide, by decide⟩) (rv_Tape hK hP (by decide) (by decide)) rfl hl.1 rfl (Nat.le_of_ble_eq_true rfl) dX7_readOne_68 (Nat.zero_le _) (Nat.zero_le _) (fun u16 H16 locs16 hp16 hP hS => ?_)
        obtain ⟨σ16, τ16⟩ := u16
        obtain ⟨hR, f16, fL16, hp16_0⟩ : P_X8_next_v σ13 τ0 _ _ _ _ σ16 τ16 := hp16
        have hP : va_P D vwCl (gw cA ad σ16 τ16) H16 := hP
        have hFL := hFL.step fL16 (by decide)
        have gWH := gWH.agL (AgrL.fr fL16 (by decide))
        have hF := hF.step f16 (by decide)
        have gWH := gWH.ag (Agr.fr f16 (by decide))
        have t17 : (σ16 24 2).toInt = (σ13 24 2).toInt := congrArg Int32.toInt (f16.at 24 2 (by decide))
        have t18 : (σ16 1 13).toInt = (σ13 1 13).toInt := congrArg Int32.toInt (f16.at 1 13 (by decide))
        have t19 : (σ16 24 1).toInt = (σ13 24 1).toInt := congrArg Int32.toInt (f16.at 24 1 (by decide))
        have gCT := hp16_0
        refine lv_iload_n hx hb dX7_readOne_71 rfl (lv_at hl 0 rfl) ?_
        by_cases c20 : (σ0 1 9).toInt = 22
        · refine lv_tableIn (off := 108) (tgt := 180) hx hb dX7_readOne_72 (by omega) (by omega) (by rw [c20]; rfl) (by decide) ?_
          refine lv_aload_n hx hb dX7_readOne_180 rfl (lv_at hl 1 rfl) ?_
          refine lv_iload_n hx hb dX7_readOne_181 rfl (lv_at hl 2 rfl) ?_
          refine r_iconst hx hb dX7_readOne_182 (by decide) (fun z21 ez21 => ?_)
          refine r_iadd hx hb dX7_readOne_183 (by omega) (fun z22 ez22 => ?_)
          refine r_cVi (k := 27) (As := [.int z22]) (rest := []) ⟨hx, hb, hml, hown, hts⟩ hK hP hN hS (c_X7_readOne_d8 l D cA ad hI σ16 τ16 hR z22 b N mo _ (nn + 1) nm hc (by omega) (by omega) (by omega) (by omega) gCT gWH) (cwV 1 hts gX7_readOne_X7_readOne rfl rfl rfl (by decide +kernel) ⟨by decide, by decide⟩) (rv_SText hK hP (by decide) (by decide)) rfl hl.1 rfl (Nat.le_of_ble_eq_true rfl) dX7_readOne_184 (Nat.zero_le _) (Nat.zero_le _) (fun r23 u23 H23 locs23 hp23 hP hS => ?_)
          obtain ⟨σ23, τ23⟩ := u23
          obtain ⟨hR, f23, fL23, hq23, hp23_0, hp23_1, gnWH⟩ : P_X7_readOne_d8 σ16 τ16 z22 b N mo _ (nn + 1) nm hc r23 σ23 τ23 := hp23
          have o1 := hp23_0
          have hP : va_P D vwCl (gw cA ad σ23 τ23) H23 := hP
          have hFL := hFL.step fL23 (by decide)
          have gWH := gWH.agL (AgrL.fr fL23 (by decide))
          have hF := hF.step f23 (by decide)
          have gWH := gWH.ag (Agr.fr f23 (by decide))
          have hr24 := rg_6_1 hR (k := 24) (by decide) (by decide)
          have hr25 := rg_6_2 hR (k := 24) (by decide) (by decide)
          refine r_if_eq (tgt := 208) hx hb dX7_readOne_187 (by decide) (fun c26 => ?_) (fun c26 => ?_)
          · clear hp23_1
            refine r_iconst hx hb dX7_readOne_208 (by decide) (fun z27 ez27 => ?_)
            exact r_zret hx hb hr hK hP hS hk (by omega) dX7_readOne_209 (show P_X7_readOne_d7 σ0 τ0 a1 b N mo q nn nm hc z27 σ23 τ23 from ⟨hR, hF, hFL, by omega, by first | exact RO.ofr ((one_l (by omega) (by omega) (by omega) (by omega)).trans (lea_n (by omega) (by omega))) (by omega) ⟨gCT, by omega, by omega⟩ | (exfalso; omega) | exact RO.ofk (one_x (by omega)) (by omega) (by omega) (by omega) | exact RO.ofk (one_4 (by omega) (by omega)) (by omega) (by omega) (by omega) | (obtain ⟨f, e1, x1, x2⟩ := o1.no (by omega); exact RO.ofl ((one_n (by omega) (by omega)).trans e1) (by omega) x1 x2) | exact RO.ofr ((one_n (by omega) (by omega)).trans e1) (by omega) ⟨gCT, by omega, by omega⟩ | (obtain ⟨f, e2, x1, x2⟩ := o2.no (by omega); exact RO.ofl (by rw [one_o (by omega) (by omega), e2, bnd_l]) (by omega) x1 x2) | (obtain ⟨f, e3, x1, x2⟩ := o3.no (by omega); exact RO.ofl (by rw [one_o (by omega) (by omega), e2, bnd_r, e3, bnd_l]) (by omega) x1 x2) | exact RO.ofr (by rw [one_o (by omega) (by omega), e2, bnd_r, e3, bnd_r]) (by omega) ⟨gCT, by omega, by omega⟩ | (rw [one_l (by omega) (by omega) (by omega) (by omega)]; exact o4.map (fun s es h => ⟨h.1, h.2.1, by have h2 := h.2.2; have hl := lea_up es; omega⟩)) | (rw [one_l (by omega) (by omega) (by omega) (by omega)]; exact o5.map (fun s es h => ⟨h.1, h.2.1, by have h2 := h.2.2; have hl := lea_up es; omega⟩)), by omega, gWH⟩)
          · replace hp23_1 := hp23_1.resolve_left (by omega)
            obtain ⟨s1, e1, gCT, hs1, hs2⟩ := o1.ye (by omega)
            have hu1 := one_up _ _ _ _ e1
            refine lv_aload_n hx hb dX7_readOne_190 rfl (lv_at hl 1 rfl) ?_
            refine fg_7_2 (k := 27) hx hb hts in_X7_readOne_7 hown hK hP (by decide) (by decide) (hts _ lk_X7_readOne_19) dX7_readOne_191 ?_
            refine r_bipush hx hb dX7_readOne_194 (by decide) (fun z28 ez28 => ?_)
            refine r_iconst hx hb dX7_readOne_196 (by decide) (fun z29 ez29 => ?_)
            refine r_iconst hx hb dX7_readOne_197 (by decide) (fun z30 ez30 => ?_)
            refine r_cVi (k := 24) (As := [.int z28, .int z29, .int z30]) (rest := []) ⟨hx, hb, hml, hown, hts⟩ hK hP hN hS (c_X6_add l D cA ad hI σ23 τ23 hR z28 z29 z30 (by omega)) (cwV 3 hts gX7_readOne_X6_add rfl rfl rfl (by decide +kernel) ⟨by decide, by decide⟩) (rv_Sent hK hP (by decide) (by decide)) rfl hl.1 rfl (Nat.le_of_ble_eq_true rfl) dX7_readOne_198 (Nat.zero_le _) (Nat.zero_le _) (fun r31 u31 H31 locs31 hp31 hP hS => ?_)
            obtain ⟨σ31, τ31⟩ := u31
            obtain ⟨hR, f31, fL31, hq31, hp31_0⟩ : P_X6_add σ23 τ23 z28 z29 z30 r31 σ31 τ31 := hp31
            have hP : va_P D vwCl (gw cA ad σ31 τ31) H31 := hP
            obtain rfl := FrL.nil fL31
            have hF := hF.step f31 (by decide)
            have gCT := gCT.ag (Agr.fr f31 (by decide))
            have gWH := gWH.ag (Agr.fr f31 (by decide))
            have t32 : (σ31 24 1).toInt = (σ23 24 1).toInt := congrArg Int32.toInt (f31.at 24 1 (by decide))
            have t33 : (σ31 1 13).toInt = (σ23 1 13).toInt := congrArg Int32.toInt (f31.at 1 13 (by decide))
            have hr34 := rg_6_2 hR (k := 24) (by decide) (by decide)
            refine r_if_eq (tgt := 208) hx hb dX7_readOne_201 (by decide) (fun c35 => ?_) (fun c35 => ?_)
            · refine r_iconst hx hb dX7_readOne_208 (by decide) (fun z36 ez36 => ?_)
              exact r_zret hx hb hr hK hP hS hk (by omega) dX7_readOne_209 (show P_X7_readOne_d7 σ0 τ0 a1 b N mo q nn nm hc z36 σ31 τ23 from ⟨hR, hF, hFL, by omega, by first | exact RO.ofr ((one_l (by omega) (by omega) (by omega) (by omega)).trans (lea_n (by omega) (by omega))) (by omega) ⟨gCT, by omega, by omega⟩ | (exfalso; omega) | exact RO.ofk (one_x (by omega)) (by omega) (by omega) (by omega) | exact RO.ofk (one_4 (by omega) (by omega)) (by omega) (by omega) (by omega) | (obtain ⟨f, e1, x1, x2⟩ := o1.no (by omega); exact RO.ofl ((one_n (by omega) (by omega)).trans e1) (by omega) x1 x2) | exact RO.ofr ((one_n (by omega) (by omega)).trans e1) (by omega) ⟨gCT, by omega, by omega⟩ | (obtain ⟨f, e2, x1, x2⟩ := o2.no (by omega); exact RO.ofl (by rw [one_o (by omega) (by omega), e2, bnd_l]) (by omega) x1 x2) | (obtain ⟨f, e3, x1, x2⟩ := o3.no (by omega); exact RO.ofl (by rw [one_o (by omega) (by omega), e2, bnd_r, e3, bnd_l]) (by omega) x1 x2) | exact RO.ofr (by rw [one_o (by omega) (by omega), e2, bnd_r, e3, bnd_r]) (by omega) ⟨gCT, by omega, by omega⟩ | (rw [one_l (by omega) (by omega) (by omega) (by omega)]; exact o4.map (fun s es h => ⟨h.1, h.2.1, by have h2 := h.2.2; have hl := lea_up es; omega⟩)) | (rw [one_l (by omega) (by omega) (by omega) (by omega)]; exact o5.map (fun s es h => ⟨h.1, h.2.1, by have h2 := h.2.2; have hl := lea_up es; omega⟩)), by omega, gWH⟩)
            · refine r_iconst hx hb dX7_readOne_204 (by decide) (fun z37 ez37 => ?_)
              refine lv_goto (tgt := 209) hx hb dX7_readOne_205 (by decide) ?_
              exact r_zret hx hb hr hK hP hS hk (by omega) dX7_readOne_209 (show P_X7_readOne_d7 σ0 τ0 a1 b N mo q nn nm hc z37 σ31 τ23 from ⟨hR, hF, hFL, by omega, by first | exact RO.ofr ((one_l (by omega) (by omega) (by omega) (by omega)).trans (lea_n (by omega) (by omega))) (by omega) ⟨gCT, by omega, by omega⟩ | (exfalso; omega) | exact RO.ofk (one_x (by omega)) (by omega) (by omega) (by omega) | exact RO.ofk (one_4 (by omega) (by omega)) (by omega) (by omega) (by omega) | (obtain ⟨f, e1, x1, x2⟩ := o1.no (by omega); exact RO.ofl ((one_n (by omega) (by omega)).trans e1) (by omega) x1 x2) | exact RO.ofr ((one_n (by omega) (by omega)).trans e1) (by omega) ⟨gCT, by omega, by omega⟩ | (obtain ⟨f, e2, x1, x2⟩ := o2.no (by omega); exact RO.ofl (by rw [one_o (by omega) (by omega), e2, bnd_l]) (by omega) x1 x2) | (obtain ⟨f, e3, x1, x2⟩ := o3.no (by omega); exact RO.ofl (by rw [one_o (by omega) (by omega), e2, bnd_r, e3, bnd_l]) (by omega) x1 x2) | exact RO.ofr (by rw [one_o (by omega) (by omega), e2, bnd_r, e3, bnd_r]) (by omega) ⟨gCT, by omega, by omega⟩ | (rw [one_l (by omega) (by omega) (by omega) (by omega)]; exact o4.map (fun s es h => ⟨h.1, h.2.1, by have h2 := h.2.2; have hl := lea_up es; omega⟩)) | (rw [one_l (by omega) (by omega) (by omega) (by omega)]; exact o5.map (fun s es h => ⟨h.1, h.2.1, by have h2 := h.2.2; have hl := lea_up es; omega⟩)), by omega, gWH⟩)
        by_cases c38 : (σ0 1 9).toInt = 23
        · refine lv_tableIn (off := 177) (tgt := 249) hx hb dX7_readOne_72 (by omega) (by omega) (by rw [c38]; rfl) (by decide) ?_
          refine lv_aload_n hx hb dX7_readOne_249 rfl (lv_at hl 1 rfl) ?_
          refine fg_7_2 (k := 27) hx hb hts in_X7_readOne_7 hown hK hP (by decide) (by decide) (hts _ lk_X7_readOne_19) dX7_readOne_250 ?_
          refine lv_iload_n hx hb dX7_readOne_253 rfl (lv_at hl 0 rfl) ?_
          refine r_bipush hx hb dX7_readOne_254 (by decide) (fun z39 ez39 => ?_)
          refine r_iconst hx hb dX7_readOne_256 (by decide) (fun z40 ez40 => ?_)
          refine r_cVi (k := 24) (As := [.int (σ0 1 9), .int z39, .int z40]) (rest := []) ⟨hx, hb, hml, hown, hts⟩ hK hP hN hS (c_X6_add l D cA ad hI σ16 τ16 hR (σ0 1 9) z39 z40 (by omega)) (cwV 3 hts gX7_readOne_X6_add rfl rfl rfl (by decide +kernel) ⟨by decide, by decide⟩) (rv_Sent hK hP (by decide) (by decide)) rfl hl.1 rfl (Nat.le_of_ble_eq_true rfl) dX7_readOne_257 (Nat.zero_le _) (Nat.zero_le _) (fun r41 u41 H41 locs41 hp41 hP hS => ?_)
          obtain ⟨σ41, τ41⟩ := u41
          obtain ⟨hR, f41, fL41, hq41, hp41_0⟩ : P_X6_add σ16 τ16 (σ0 1 9) z39 z40 r41 σ41 τ41 := hp41
          have hP : va_P D vwCl (gw cA ad σ41 τ41) H41 := hP
          obtain rfl := FrL.nil fL41
          have hF := hF.step f41 (by decide)
          have gCT := gCT.ag (Agr.fr f41 (by decide))
          have gWH := gWH.ag (Agr.fr f41 (by decide))
          have t42 : (σ41 1 13).toInt = (σ16 1 13).toInt := congrArg Int32.toInt (f41.at 1 13 (by decide))
          have t43 : (σ41 24 1).toInt = (σ16 24 1).toInt := congrArg Int32.toInt (f41.at 24 1 (by decide))
          have hr44 := rg_6_2 hR (k := 24) (by decide) (by decide)
          exact r_zret hx hb hr hK hP hS hk (by omega) dX7_readOne_260 (show P_X7_readOne_d7 σ0 τ0 a1 b N mo q nn nm hc r41 σ41 τ16 from ⟨hR, hF, hFL, by omega, by first | exact RO.ofr ((one_l (by omega) (by omega) (by omega) (by omega)).trans (lea_n (by omega) (by omega))) (by omega) ⟨gCT, by omega, by omega⟩ | (exfalso; omega) | exact RO.ofk (one_x (by omega)) (by omega) (by omega) (by omega) | exact RO.ofk (one_4 (by omega) (by omega)) (by omega) (by omega) (by omega) | (obtain ⟨f, e1, x1, x2⟩ := o1.no (by omega); exact RO.ofl ((one_n (by omega) (by omega)).trans e1) (by omega) x1 x2) | exact RO.ofr ((one_n (by omega) (by omega)).trans e1) (by omega) ⟨gCT, by omega, by omega⟩ | (obtain ⟨f, e2, x1, x2⟩ := o2.no (by omega); exact RO.ofl (by rw [one_o (by omega) (by omega), e2, bnd_l]) (by omega) x1 x2) | (obtain ⟨f, e3, x1, x2⟩ := o3.no (by omega); exact RO.ofl (by rw [one_o (by omega) (by omega), e2, bnd_r, e3, bnd_l]) (by omega) x1 x2) | exact RO.ofr (by rw [one_o (by omega) (by omega), e2, bnd_r, e3, bnd_r]) (by omega) ⟨gCT, by omega, by omega⟩ | (rw [one_l (by omega) (by omega) (by omega) (by omega)]; exact o4.map (fun s es h => ⟨h.1, h.2.1, by have h2 := h.2.2; have hl := lea_up es; omega⟩)) | (rw [one_l (by omega) (by omega) (by omega) (by omega)]; exact o5.map (fun s es h => ⟨h.1, h.2.1, by have h2 := h.2.2; have hl := lea_up es; omega⟩)), by omega, gWH⟩)
        by_cases c45 : (σ0 1 9).toInt = 24
        · refine lv_tableIn (off := 177) (tgt := 249) hx hb dX7_readOne_72 (by omega) (by omega) (by rw [c45]; rfl) (by decide) ?_
          refine lv_aload_n hx hb dX7_readOne_249 rfl (lv_at hl 1 rfl) ?_
          refine fg_7_2 (k := 27) hx hb hts in_X7_readOne_7 hown hK hP (by decide) (by decide) (hts _ lk_X7_readOne_19) dX7_readOne_250 ?_
          refine lv_iload_n hx hb dX7_readOne_253 rfl (lv_at hl 0 rfl) ?_
          refine r_bipush hx hb dX7_readOne_254 (by decide) (fun z46 ez46 => ?_)
          refine r_iconst hx hb dX7_readOne_256 (by decide) (fun z47 ez47 => ?_)
          refine r_cVi (k := 24) (As := [.int (σ0 1 9), .int z46, .int z47]) (rest := []) ⟨hx, hb, hml, hown, hts⟩ hK hP hN hS (c_X6_add l D cA ad hI σ16 τ16 hR (σ0 1 9) z46 z47 (by omega)) (cwV 3 hts gX7_readOne_X6_add rfl rfl rfl (by decide +kernel) ⟨by decide, by decide⟩) (rv_Sent hK hP (by decide) (by decide)) rfl hl.1 rfl (Nat.le_of_ble_eq_true rfl) dX7_readOne_257 (Nat.zero_le _) (Nat.zero_le _) (fun r48 u48 H48 locs48 hp48 hP hS => ?_)
          obtain ⟨σ48, τ48⟩ := u48
          obtain ⟨hR, f48, fL48, hq48, hp48_0⟩ : P_X6_add σ16 τ16 (σ0 1 9) z46 z47 r48 σ48 τ48 := hp48
          have hP : va_P D vwCl (gw cA ad σ48 τ48) H48 := hP
          obtain rfl := FrL.nil fL48
          have hF := hF.step f48 (by decide)
          have gCT := gCT.ag (Agr.fr f48 (by decide))
          have gWH := gWH.ag (Agr.fr f48 (by decide))
          have t49 : (σ48 1 13).toInt = (σ16 1 13).toInt := congrArg Int32.toInt (f48.at 1 13 (by decide))
          have t50 : (σ48 24 1).toInt = (σ16 24 1).toInt := congrArg Int32.toInt (f48.at 24 1 (by decide))
          have hr51 := rg_6_2 hR (k := 24) (by decide) (by decide)
          exact r_zret hx hb hr hK hP hS hk (by omega) dX7_readOne_260 (show P_X7_readOne_d7 σ0 τ0 a1 b N mo q nn nm hc r48 σ48 τ16 from ⟨hR, hF, hFL, by omega, by first | exact RO.ofr ((one_l (by omega) (by omega) (by omega) (by omega)).trans (lea_n (by omega) (by omega))) (by omega) ⟨gCT, by omega, by omega⟩ | (exfalso; omega) | exact RO.ofk (one_x (by omega)) (by omega) (by omega) (by omega) | exact RO.ofk (one_4 (by omega) (by omega)) (by omega) (by omega) (by omega) | (obtain ⟨f, e1, x1, x2⟩ := o1.no (by omega); exact RO.ofl ((one_n (by omega) (by omega)).trans e1) (by omega) x1 x2) | exact RO.ofr ((one_n (by omega) (by omega)).trans e1) (by omega) ⟨gCT, by omega, by omega⟩ | (obtain ⟨f, e2, x1, x2⟩ := o2.no (by omega); exact RO.ofl (by rw [one_o (by omega) (by omega), e2, bnd_l]) (by omega) x1 x2) | (obtain ⟨f, e3, x1, x2⟩ := o3.no (by omega); exact RO.ofl (by rw [one_o (by omega) (by omega), e2, bnd_r, e3, bnd_l]) (by omega) x1 x2) | exact RO.ofr (by rw [one_o (by omega) (by omega), e2, bnd_r, e3, bnd_r]) (by omega) ⟨gCT, by omega, by omega⟩ | (rw [one_l (by omega) (by omega) (by omega) (by omega)]; exact o4.map (fun s es h => ⟨h.1, h.2.1, by have h2 := h.2.2; have hl := lea_up es; omega⟩)) | (rw [one_l (by omega) (by omega) (by omega) (by omega)]; exact o5.map (fun s es h => ⟨h.1, h.2.1, by have h2 := h.2.2; have hl := lea_up es; omega⟩)), by omega, gWH⟩)
        by_cases c52 : (σ0 1 9).toInt = 25
        · refine lv_tableIn (off := 166) (tgt := 238) hx hb dX7_readOne_72 (by omega) (by omega) (by rw [c52]; rfl) (by decide) ?_
          refine lv_aload_n hx hb dX7_readOne_238 rfl (lv_at hl 1 rfl) ?_
          refine r_cVi (k := 27) (As := []) (rest := []) ⟨hx, hb, hml, hown, hts⟩ hK hP hN hS (c_X7_readOn l D cA ad hI σ16 τ16 hR b N mo _ (nn + 1) nm hc (tkq b N mo q) (by omega) (by omega) (by omega) gCT gWH) (cwV 0 hts gX7_readOne_X7_readOn rfl rfl rfl (by decide +kernel) ⟨by decide, by decide⟩) (rv_SText hK hP (by decide) (by decide)) rfl hl.1 rfl (Nat.le_of_ble_eq_true rfl) dX7_readOne_239 (Nat.zero_le _) (Nat.zero_le _) (fun r53 u53 H53 locs53 hp53 hP hS => ?_)
          obtain ⟨σ53, τ53⟩ := u53
          obtain ⟨hR, f53, fL53, hq53, hp53_0, hp53_1, gnWH⟩ : P_X7_readOn σ16 τ16 b N mo _ (nn + 1) nm hc (tkq b N mo q) r53 σ53 τ53 := hp53
          have o4 := hp53_0
          have hP : va_P D vwCl (gw cA ad σ53 τ53) H53 := hP
          have hFL := hFL.step fL53 (by decide)
          have gWH := gWH.agL (AgrL.fr fL53 (by decide))
          have hF := hF.step f53 (by decide)
          have gWH := gWH.ag (Agr.fr f53 (by decide))
          have t54 : (σ53 24 1).toInt = (σ16 24 1).toInt := congrArg Int32.toInt (f53.at 24 1 (by decide))
          have hr55 := rg_6_2 hR (k := 24) (by decide) (by decide)
          exact r_zret hx hb hr hK hP hS hk (by omega) dX7_readOne_242 (show P_X7_readOne_d7 σ0 τ0 a1 b N mo q nn nm hc r53 σ53 τ53 from ⟨hR, hF, hFL, by omega, by first | exact RO.ofr ((one_l (by omega) (by omega) (by omega) (by omega)).trans (lea_n (by omega) (by omega))) (by omega) ⟨gCT, by omega, by omega⟩ | (exfalso; omega) | exact RO.ofk (one_x (by omega)) (by omega) (by omega) (by omega) | exact RO.ofk (one_4 (by omega) (by omega)) (by omega) (by omega) (by omega) | (obtain ⟨f, e1, x1, x2⟩ := o1.no (by omega); exact RO.ofl ((one_n (by omega) (by omega)).trans e1) (by omega) x1 x2) | exact RO.ofr ((one_n (by omega) (by omega)).trans e1) (by omega) ⟨gCT, by omega, by omega⟩ | (obtain ⟨f, e2, x1, x2⟩ := o2.no (by omega); exact RO.ofl (by rw [one_o (by omega) (by omega), e2, bnd_l]) (by omega) x1 x2) | (obtain ⟨f, e3, x1, x2⟩ := o3.no (by omega); exact RO.ofl (by rw [one_o (by omega) (by omega), e2, bnd_r, e3, bnd_l]) (by omega) x1 x2) | exact RO.ofr (by rw [one_o (by omega) (by omega), e2, bnd_r, e3, bnd_r]) (by omega) ⟨gCT, by omega, by omega⟩ | (rw [one_l (by omega) (by omega) (by omega) (by omega)]; exact o4.map (fun s es h => ⟨h.1, h.2.1, by have h2 := h.2.2; have hl := lea_up es; omega⟩)) | (rw [one_l (by omega) (by omega) (by omega) (by omega)]; exact o5.map (fun s es h => ⟨h.1, h.2.1, by have h2 := h.2.2; have hl := lea_up es; omega⟩)), by omega, gWH⟩)
        by_cases c56 : (σ0 1 9).toInt = 26
        · refine lv_tableIn (off := 177) (tgt := 249) hx hb dX7_readOne_72 (by omega) (by omega) (by rw [c56]; rfl) (by decide) ?_
          refine lv_aload_n hx hb dX7_readOne_249 rfl (lv_at hl 1 rfl) ?_
          refine fg_7_2 (k := 27) hx hb hts in_X7_readOne_7 hown hK hP (by decide) (by decide) (hts _ lk_X7_readOne_19) dX7_readOne_250 ?_
          refine lv_iload_n hx hb dX7_readOne_253 rfl (lv_at hl 0 rfl) ?_
          refine r_bipush hx hb dX7_readOne_254 (by decide) (fun z57 ez57 => ?_)
          refine r_iconst hx hb dX7_readOne_256 (by decide) (fun z58 ez58 => ?_)
          refine r_cVi (k := 24) (As := [.int (σ0 1 9), .int z57, .int z58]) (rest := []) ⟨hx, hb, hml, hown, hts⟩ hK hP hN hS (c_X6_add l D cA ad hI σ16 τ16 hR (σ0 1 9) z57 z58 (by omega)) (cwV 3 hts gX7_readOne_X6_add rfl rfl rfl (by decide +kernel) ⟨by decide, by decide⟩) (rv_Sent hK hP (by decide) (by decide)) rfl hl.1 rfl (Nat.le_of_ble_eq_true rfl) dX7_readOne_257 (Nat.zero_le _) (Nat.zero_le _) (fun r59 u59 H59 locs59 hp59 hP hS => ?_)
          obtain ⟨σ59, τ59⟩ := u59
          obtain ⟨hR, f59, fL59, hq59, hp59_0⟩ : P_X6_add σ16 τ16 (σ0 1 9) z57 z58 r59 σ59 τ59 := hp59
          have hP : va_P D vwCl (gw cA ad σ59 τ59) H59 := hP
          obtain rfl := FrL.nil fL59
          have hF := hF.step f59 (by decide)
          have gCT := gCT.ag (Agr.fr f59 (by decide))
          have gWH := gWH.ag (Agr.fr f59 (by decide))
          have t60 : (σ59 1 13).toInt = (σ16 1 13).toInt := congrArg Int32.toInt (f59.at 1 13 (by decide))
          have t61 : (σ59 24 1).toInt = (σ16 24 1).toInt := congrArg Int32.toInt (f59.at 24 1 (by decide))
          have hr62 := rg_6_2 hR (k := 24) (by decide) (by decide)
          exact r_zret hx hb hr hK hP hS hk (by omega) dX7_readOne_260 (show P_X7_readOne_d7 σ0 τ0 a1 b N mo q nn nm hc r59 σ59 τ16 from ⟨hR, hF, hFL, by omega, by first | exact RO.ofr ((one_l (by omega) (by omega) (by omega) (by omega)).trans (lea_n (by omega) (by omega))) (by omega) ⟨gCT, by omega, by omega⟩ | (exfalso; omega) | exact RO.ofk (one_x (by omega)) (by omega) (by omega) (by omega) | exact RO.ofk (one_4 (by omega) (by omega)) (by omega) (by omega) (by omega) | (obtain ⟨f, e1, x1, x2⟩ := o1.no (by omega); exact RO.ofl ((one_n (by omega) (by omega)).trans e1) (by omega) x1 x2) | exact RO.ofr ((one_n (by omega) (by omega)).trans e1) (by omega) ⟨gCT, by omega, by omega⟩ | (obtain ⟨f, e2, x1, x2⟩ := o2.no (by omega); exact RO.ofl (by rw [one_o (by omega) (by omega), e2, bnd_l]) (by omega) x1 x2) | (obtain ⟨f, e3, x1, x2⟩ := o3.no (by omega); exact RO.ofl (by rw [one_o (by omega) (by omega), e2, bnd_r, e3, bnd_l]) (by omega) x1 x2) | exact RO.ofr (by rw [one_o (by omega) (by omega), e2, bnd_r, e3, bnd_r]) (by omega) ⟨gCT, by omega, by omega⟩ | (rw [one_l (by omega) (by omega) (by omega) (by omega)]; exact o4.map (fun s es h => ⟨h.1, h.2.1, by have h2 := h.2.2; have hl := lea_up es; omega⟩)) | (rw [one_l (by omega) (by omega) (by omega) (by omega)]; exact o5.map (fun s es h => ⟨h.1, h.2.1, by have h2 := h.2.2; have hl := lea_up es; omega⟩)), by omega, gWH⟩)
        by_cases c63 : (σ0 1 9).toInt = 27
        · refine lv_tableIn (off := 171) (tgt := 243) hx hb dX7_readOne_72 (by omega) (by omega) (by rw [c63]; rfl) (by decide) ?_
          refine lv_aload_n hx hb dX7_readOne_243 rfl (lv_at hl 1 rfl) ?_
          refine lv_iload_n hx hb dX7_readOne_244 rfl (lv_at hl 0 rfl) ?_
          refine r_cVi (k := 27) (As := [.int (σ0 1 9)]) (rest := []) ⟨hx, hb, hml, hown, hts⟩ hK hP hN hS (c_X7_readMeasure l D cA ad hI σ16 τ16 hR (σ0 1 9) b N mo _ (nn + 1) nm hc (tkq b N mo q) (by omega) (by omega) (by omega) (by omega) gCT gWH) (cwV 1 hts gX7_readOne_X7_readMeasure rfl rfl rfl (by decide +kernel) ⟨by decide, by decide⟩) (rv_SText hK hP (by decide) (by decide)) rfl hl.1 rfl (Nat.le_of_ble_eq_true rfl) dX7_readOne_245 (Nat.zero_le _) (Nat.zero_le _) (fun r64 u64 H64 locs64 hp64 hP hS => ?_)
          obtain ⟨σ64, τ64⟩ := u64
          obtain ⟨hR, f64, fL64, hq64, hp64_0, hp64_1, gnWH⟩ : P_X7_readMeasure σ16 τ16 (σ0 1 9) b N mo _ (nn + 1) nm hc (tkq b N mo q) r64 σ64 τ64 := hp64
          have o5 := hp64_0
          have hP : va_P D vwCl (gw cA ad σ64 τ64) H64 := hP
          have hFL := hFL.step fL64 (by decide)
          have gWH := gWH.agL (AgrL.fr fL64 (by decide))
          have hF := hF.step f64 (by decide)
          have gWH := gWH.ag (Agr.fr f64 (by decide))
          have t65 : (σ64 24 1).toInt = (σ16 24 1).toInt := congrArg Int32.toInt (f64.at 24 1 (by decide))
          have hr66 := rg_6_2 hR (k := 24) (by decide) (by decide)
          exact r_zret hx hb hr hK hP hS hk (by omega) dX7_readOne_248 (show P_X7_readOne_d7 σ0 τ0 a1 b N mo q nn nm hc r64 σ64 τ64 from ⟨hR, hF, hFL, by omega, by first | exact RO.ofr ((one_l (by omega) (by omega) (by omega) (by omega)).trans (lea_n (by omega) (by omega))) (by omega) ⟨gCT, by omega, by omega⟩ | (exfalso; omega) | exact RO.ofk (one_x (by omega)) (by omega) (by omega) (by omega) | exact RO.ofk (one_4 (by omega) (by omega)) (by omega) (by omega) (by omega) | (obtain ⟨f, e1, x1, x2⟩ := o1.no (by omega); exact RO.ofl ((one_n (by omega) (by omega)).trans e1) (by omega) x1 x2) | exact RO.ofr ((one_n (by omega) (by omega)).trans e1) (by omega) ⟨gCT, by omega, by omega⟩ | (obtain ⟨f, e2, x1, x2⟩ := o2.no (by omega); exact RO.ofl (by rw [one_o (by omega) (by omega), e2, bnd_l]) (by omega) x1 x2) | (obtain ⟨f, e3, x1, x2⟩ := o3.no (by omega); exact RO.ofl (by rw [one_o (by omega) (by omega), e2, bnd_r, e3, bnd_l]) (by omega) x1 x2) | exact RO.ofr (by rw [one_o (by omega) (by omega), e2, bnd_r, e3, bnd_r]) (by omega) ⟨gCT, by omega, by omega⟩ | (rw [one_l (by omega) (by omega) (by omega) (by omega)]; exact o4.map (fun s es h => ⟨h.1, h.2.1, by have h2 := h.2.2; have hl := lea_up es; omega⟩)) | (rw [one_l (by omega) (by omega) (by omega) (by omega)]; exact o5.map (fun s es h => ⟨h.1, h.2.1, by have h2 := h.2.2; have hl := lea_up es; omega⟩)), by omega, gWH⟩)
        by_cases c67 : (σ0 1 9).toInt = 28
        · refine lv_tableIn (off := 171) (tgt := 243) hx hb dX7_readOne_72 (by omega) (by omega) (by rw [c67]; rfl) (by decide) ?_
          refine lv_aload_n hx hb dX7_readOne_243 rfl (lv_at hl 1 rfl) ?_
          refine lv_iload_n hx hb dX7_readOne_244 rfl (lv_at hl 0 rfl) ?_
          refine r_cVi (k := 27) (As := [.int (σ0 1 9)]) (rest := []) ⟨hx, hb, hml, hown, hts⟩ hK hP hN hS (c_X7_readMeasure l D cA ad hI σ16 τ16 hR (σ0 1 9) b N mo _ (nn + 1) nm hc (tkq b N mo q) (by omega) (by omega) (by omega) (by omega) gCT gWH) (cwV 1 hts gX7_readOne_X7_readMeasure rfl rfl rfl (by decide +kernel) ⟨by decide, by decide⟩) (rv_SText hK hP (by decide) (by decide)) rfl hl.1 rfl (Nat.le_of_ble_eq_true rfl) dX7_readOne_245 (Nat.zero_le _) (Nat.zero_le _) (fun r68 u68 H68 locs68 hp68 hP hS => ?_)
          obtain ⟨σ68, τ68⟩ := u68
          obtain ⟨hR, f68, fL68, hq68, hp68_0, hp68_1, gnWH⟩ : P_X7_readMeasure σ16 τ16 (σ0 1 9) b N mo _ (nn + 1) nm hc (tkq b N mo q) r68 σ68 τ68 := hp68
          have o5 := hp68_0
          have hP : va_P D vwCl (gw cA ad σ68 τ68) H68 := hP
          have hFL := hFL.step fL68 (by decide)
          have gWH := gWH.agL (AgrL.fr fL68 (by decide))
          have hF := hF.step f68 (by decide)
          have gWH := gWH.ag (Agr.fr f68 (by decide))
          have t69 : (σ68 24 1).toInt = (σ16 24 1).toInt := congrArg Int32.toInt (f68.at 24 1 (by decide))
          have hr70 := rg_6_2 hR (k := 24) (by decide) (by decide)
          exact r_zret hx hb hr hK hP hS hk (by omega) dX7_readOne_248 (show P_X7_readOne_d7 σ0 τ0 a1 b N mo q nn nm hc r68 σ68 τ68 from ⟨hR, hF, hFL, by omega, by first | exact RO.ofr ((one_l (by omega) (by omega) (by omega) (by omega)).trans (lea_n (by omega) (by omega))) (by omega) ⟨gCT, by omega, by omega⟩ | (exfalso; omega) | exact RO.ofk (one_x (by omega)) (by omega) (by omega) (by omega) | exact RO.ofk (one_4 (by omega) (by omega)) (by omega) (by omega) (by omega) | (obtain ⟨f, e1, x1, x2⟩ := o1.no (by omega); exact RO.ofl ((one_n (by omega) (by omega)).trans e1) (by omega) x1 x2) | exact RO.ofr ((one_n (by omega) (by omega)).trans e1) (by omega) ⟨gCT, by omega, by omega⟩ | (obtain ⟨f, e2, x1, x2⟩ := o2.no (by omega); exact RO.ofl (by rw [one_o (by omega) (by omega), e2, bnd_l]) (by omega) x1 x2) | (obtain ⟨f, e3, x1, x2⟩ := o3.no (by omega); exact RO.ofl (by rw [one_o (by omega) (by omega), e2, bnd_r, e3, bnd_l]) (by omega) x1 x2) | exact RO.ofr (by rw [one_o (by omega) (by omega), e2, bnd_r, e3, bnd_r]) (by omega) ⟨gCT, by omega, by omega⟩ | (rw [one_l (by omega) (by omega) (by omega) (by omega)]; exact o4.map (fun s es h => ⟨h.1, h.2.1, by have h2 := h.2.2; have hl := lea_up es; omega⟩)) | (rw [one_l (by omega) (by omega) (by omega) (by omega)]; exact o5.map (fun s es h => ⟨h.1, h.2.1, by have h2 := h.2.2; have hl := lea_up es; omega⟩)), by omega, gWH⟩)
        by_cases c71 : (σ0 1 9).toInt = 29
        · refine lv_tableIn (off := 171) (tgt := 243) hx hb dX7_readOne_72 (by omega) (by omega) (by rw [c71]; rfl) (by decide) ?_
          refine lv_aload_n hx hb dX7_readOne_243 rfl (lv_at hl 1 rfl) ?_
          refine lv_iload_n hx hb dX7_readOne_244 rfl (lv_at hl 0 rfl) ?_
          refine r_cVi (k := 27) (As := [.int (σ0 1 9)]) (rest := []) ⟨hx, hb, hml, hown, hts⟩ hK hP hN hS (c_X7_readMeasure l D cA ad hI σ16 τ16 hR (σ0 1 9) b N mo _ (nn + 1) nm hc (tkq b N mo q) (by omega) (by omega) (by omega) (by omega) gCT gWH) (cwV 1 hts gX7_readOne_X7_readMeasure rfl rfl rfl (by decide +kernel) ⟨by decide, by decide⟩) (rv_SText hK hP (by decide) (by decide)) rfl hl.1 rfl (Nat.le_of_ble_eq_true rfl) dX7_readOne_245 (Nat.zero_le _) (Nat.zero_le _) (fun r72 u72 H72 locs72 hp72 hP hS => ?_)
          obtain ⟨σ72, τ72⟩ := u72
          obtain ⟨hR, f72, fL72, hq72, hp72_0, hp72_1, gnWH⟩ : P_X7_readMeasure σ16 τ16 (σ0 1 9) b N mo _ (nn + 1) nm hc (tkq b N mo q) r72 σ72 τ72 := hp72
          have o5 := hp72_0
          have hP : va_P D vwCl (gw cA ad σ72 τ72) H72 := hP
          have hFL := hFL.step fL72 (by decide)
          have gWH := gWH.agL (AgrL.fr fL72 (by decide))
          have hF := hF.step f72 (by decide)
          have gWH := gWH.ag (Agr.fr f72 (by decide))
          have t73 : (σ72 24 1).toInt = (σ16 24 1).toInt := congrArg Int32.toInt (f72.at 24 1 (by decide))
          have hr74 := rg_6_2 hR (k := 24) (by decide) (by decide)
          exact r_zret hx hb hr hK hP hS hk (by omega) dX7_readOne_248 (show P_X7_readOne_d7 σ0 τ0 a1 b N mo q nn nm hc r72 σ72 τ72 from ⟨hR, hF, hFL, by omega, by first | exact RO.ofr ((one_l (by omega) (by omega) (by omega) (by omega)).trans (lea_n (by omega) (by omega))) (by omega) ⟨gCT, by omega, by omega⟩ | (exfalso; omega) | exact RO.ofk (one_x (by omega)) (by omega) (by omega) (by omega) | exact RO.ofk (one_4 (by omega) (by omega)) (by omega) (by omega) (by omega) | (obtain ⟨f, e1, x1, x2⟩ := o1.no (by omega); exact RO.ofl ((one_n (by omega) (by omega)).trans e1) (by omega) x1 x2) | exact RO.ofr ((one_n (by omega) (by omega)).trans e1) (by omega) ⟨gCT, by omega, by omega⟩ | (obtain ⟨f, e2, x1, x2⟩ := o2.no (by omega); exact RO.ofl (by rw [one_o (by omega) (by omega), e2, bnd_l]) (by omega) x1 x2) | (obtain ⟨f, e3, x1, x2⟩ := o3.no (by omega); exact RO.ofl (by rw [one_o (by omega) (by omega), e2, bnd_r, e3, bnd_l]) (by omega) x1 x2) | exact RO.ofr (by rw [one_o (by omega) (by omega), e2, bnd_r, e3, bnd_r]) (by omega) ⟨gCT, by omega, by omega⟩ | (rw [one_l (by omega) (by omega) (by omega) (by omega)]; exact o4.map (fun s es h => ⟨h.1, h.2.1, by have h2 := h.2.2; have hl := lea_up es; omega⟩)) | (rw [one_l (by omega) (by omega) (by omega) (by omega)]; exact o5.map (fun s es h => ⟨h.1, h.2.1, by have h2 := h.2.2; have hl := lea_up es; omega⟩)), by omega, gWH⟩)
        by_cases c75 : (σ0 1 9).toInt = 30
        · refine lv_tableIn (off := 171) (tgt := 243) hx hb dX7_readOne_72 (by omega) (by omega) (by rw [c75]; rfl) (by decide) ?_
          refine lv_aload_n hx hb dX7_readOne_243 rfl (lv_at hl 1 rfl) ?_
          refine lv_iload_n hx hb dX7_readOne_244 rfl (lv_at hl 0 rfl) ?_
          refine r_cVi (k := 27) (As := [.int (σ0 1 9)]) (rest := []) ⟨hx, hb, hml, hown, hts⟩ hK hP hN hS (c_X7_readMeasure l D cA ad hI σ16 τ16 hR (σ0 1 9) b N mo _ (nn + 1) nm hc (tkq b N mo q) (by omega) (by omega) (by omega) (by omega) gCT gWH) (cwV 1 hts gX7_readOne_X7_readMeasure rfl rfl rfl (by decide +kernel) ⟨by decide, by decide⟩) (rv_SText hK hP (by decide) (by decide)) rfl hl.1 rfl (Nat.le_of_ble_eq_true rfl) dX7_readOne_245 (Nat.zero_le _) (Nat.zero_le _) (fun r76 u76 H76 locs76 hp76 hP hS => ?_)
          obtain ⟨σ76, τ76⟩ := u76
          obtain ⟨hR, f76, fL76, hq76, hp76_0, hp76_1, gnWH⟩ : P_X7_readMeasure σ16 τ16 (σ0 1 9) b N mo _ (nn + 1) nm hc (tkq b N mo q) r76 σ76 τ76 := hp76
          have o5 := hp76_0
          have hP : va_P D vwCl (gw cA ad σ76 τ76) H76 := hP
          have hFL := hFL.step fL76 (by decide)
          have gWH := gWH.agL (AgrL.fr fL76 (by decide))
          have hF := hF.step f76 (by decide)
          have gWH := gWH.ag (Agr.fr f76 (by decide))
          have t77 : (σ76 24 1).toInt = (σ16 24 1).toInt := congrArg Int32.toInt (f76.at 24 1 (by decide))
          have hr78 := rg_6_2 hR (k := 24) (by decide) (by decide)
          exact r_zret hx hb hr hK hP hS hk (by omega) dX7_readOne_248 (show P_X7_readOne_d7 σ0 τ0 a1 b N mo q nn nm hc r76 σ76 τ76 from ⟨hR, hF, hFL, by omega, by first | exact RO.ofr ((one_l (by omega) (by omega) (by omega) (by omega)).trans (lea_n (by omega) (by omega))) (by omega) ⟨gCT, by omega, by omega⟩ | (exfalso; omega) | exact RO.ofk (one_x (by omega)) (by omega) (by omega) (by omega) | exact RO.ofk (one_4 (by omega) (by omega)) (by omega) (by omega) (by omega) | (obtain ⟨f, e1, x1, x2⟩ := o1.no (by omega); exact RO.ofl ((one_n (by omega) (by omega)).trans e1) (by omega) x1 x2) | exact RO.ofr ((one_n (by omega) (by omega)).trans e1) (by omega) ⟨gCT, by omega, by omega⟩ | (obtain ⟨f, e2, x1, x2⟩ := o2.no (by omega); exact RO.ofl (by rw [one_o (by omega) (by omega), e2, bnd_l]) (by omega) x1 x2) | (obtain ⟨f, e3, x1, x2⟩ := o3.no (by omega); exact RO.ofl (by rw [one_o (by omega) (by omega), e2, bnd_r, e3, bnd_l]) (by omega) x1 x2) | exact RO.ofr (by rw [one_o (by omega) (by omega), e2, bnd_r, e3, bnd_r]) (by omega) ⟨gCT, by omega, by omega⟩ | (rw [one_l (by omega) (by omega) (by omega) (by omega)]; exact o4.map (fun s es h => ⟨h.1, h.2.1, by have h2 := h.2.2; have hl := lea_up es; omega⟩)) | (rw [one_l (by omega) (by omega) (by omega) (by omega)]; exact o5.map (fun s es h => ⟨h.1, h.2.1, by have h2 := h.2.2; have hl := lea_up es; omega⟩)), by omega, gWH⟩)
        by_cases c79 : (σ0 1 9).toInt = 31
        · refine lv_tableIn (off := 177) (tgt := 249) hx hb dX7_readOne_72 (by omega) (by omega) (by rw [c79]; rfl) (by decide) ?_
          refine lv_aload_n hx hb dX7_readOne_249 rfl (lv_at hl 1 rfl) ?_
          refine fg_7_2 (k := 27) hx hb hts in_X7_readOne_7 hown hK hP (by decide) (by decide) (hts _ lk_X7_readOne_19) dX7_readOne_250 ?_
          refine lv_iload_n hx hb dX7_readOne_253 rfl (lv_at hl 0 rfl) ?_
          refine r_bipush hx hb dX7_readOne_254 (by decide) (fun z80 ez80 => ?_)
          refine r_iconst hx hb dX7_readOne_256 (by decide) (fun z81 ez81 => ?_)
          refine r_cVi (k := 24) (As := [.int (σ0 1 9), .int z80, .int z81]) (rest := []) ⟨hx, hb, hml, hown, hts⟩ hK hP hN hS (c_X6_add l D cA ad hI σ16 τ16 hR (σ0 1 9) z80 z81 (by omega)) (cwV 3 hts gX7_readOne_X6_add rfl rfl rfl (by decide +kernel) ⟨by decide, by decide⟩) (rv_Sent hK hP (by decide) (by decide)) rfl hl.1 rfl (Nat.le_of_ble_eq_true rfl) dX7_readOne_257 (Nat.zero_le _) (Nat.zero_le _) (fun r82 u82 H82 locs82 hp82 hP hS => ?_)
          obtain ⟨σ82, τ82⟩ := u82
          obtain ⟨hR, f82, fL82, hq82, hp82_0⟩ : P_X6_add σ16 τ16 (σ0 1 9) z80 z81 r82 σ82 τ82 := hp82
          have hP : va_P D vwCl (gw cA ad σ82 τ82) H82 := hP
          obtain rfl := FrL.nil fL82
          have hF := hF.step f82 (by decide)
          have gCT := gCT.ag (Agr.fr f82 (by decide))
          have gWH := gWH.ag (Agr.fr f82 (by decide))
          have t83 : (σ82 1 13).toInt = (σ16 1 13).toInt := congrArg Int32.toInt (f82.at 1 13 (by decide))
          have t84 : (σ82 24 1).toInt = (σ16 24 1).toInt := congrArg Int32.toInt (f82.at 24 1 (by decide))
          have hr85 := rg_6_2 hR (k := 24) (by decide) (by decide)
          exact r_zret hx hb hr hK hP hS hk (by omega) dX7_readOne_260 (show P_X7_readOne_d7 σ0 τ0 a1 b N mo q nn nm hc r82 σ82 τ16 from ⟨hR, hF, hFL, by omega, by first | exact RO.ofr ((one_l (by omega) (by omega) (by omega) (by omega)).trans (lea_n (by omega) (by omega))) (by omega) ⟨gCT, by omega, by omega⟩ | (exfalso; omega) | exact RO.ofk (one_x (by omega)) (by omega) (by omega) (by omega) | exact RO.ofk (one_4 (by omega) (by omega)) (by omega) (by omega) (by omega) | (obtain ⟨f, e1, x1, x2⟩ := o1.no (by omega); exact RO.ofl ((one_n (by omega) (by omega)).trans e1) (by omega) x1 x2) | exact RO.ofr ((one_n (by omega) (by omega)).trans e1) (by omega) ⟨gCT, by omega, by omega⟩ | (obtain ⟨f, e2, x1, x2⟩ := o2.no (by omega); exact RO.ofl (by rw [one_o (by omega) (by omega), e2, bnd_l]) (by omega) x1 x2) | (obtain ⟨f, e3, x1, x2⟩ := o3.no (by omega); exact RO.ofl (by rw [one_o (by omega) (by omega), e2, bnd_r, e3, bnd_l]) (by omega) x1 x2) | exact RO.ofr (by rw [one_o (by omega) (by omega), e2, bnd_r, e3, bnd_r]) (by omega) ⟨gCT, by omega, by omega⟩ | (rw [one_l (by omega) (by omega) (by omega) (by omega)]; exact o4.map (fun s es h => ⟨h.1, h.2.1, by have h2 := h.2.2; have hl := lea_up es; omega⟩)) | (rw [one_l (by omega) (by omega) (by omega) (by omega)]; exact o5.map (fun s es h => ⟨h.1, h.2.1, by have h2 := h.2.2; have hl := lea_up es; omega⟩)), by omega, gWH⟩)
        by_cases c86 : (σ0 1 9).toInt = 32
        · refine lv_tableIn (off := 177) (tgt := 249) hx hb dX7_readOne_72 (by omega) (by omega) (by rw [c86]; rfl) (by decide) ?_
          refine lv_aload_n hx hb dX7_readOne_249 rfl (lv_at hl 1 rfl) ?_
          refine fg_7_2 (k := 27) hx hb hts in_X7_readOne_7 hown hK hP (by decide) (by decide) (hts _ lk_X7_readOne_19) dX7_readOne_250 ?_
          refine lv_iload_n hx hb dX7_readOne_253 rfl (lv_at hl 0 rfl) ?_
          refine r_bipush hx hb dX7_readOne_254 (by decide) (fun z87 ez87 => ?_)
          refine r_iconst hx hb dX7_readOne_256 (by decide) (fun z88 ez88 => ?_)
          refine r_cVi (k := 24) (As := [.int (σ0 1 9), .int z87, .int z88]) (rest := []) ⟨hx, hb, hml, hown, hts⟩ hK hP hN hS (c_X6_add l D cA ad hI σ16 τ16 hR (σ0 1 9) z87 z88 (by omega)) (cwV 3 hts gX7_readOne_X6_add rfl rfl rfl (by decide +kernel) ⟨by decide, by decide⟩) (rv_Sent hK hP (by decide) (by decide)) rfl hl.1 rfl (Nat.le_of_ble_eq_true rfl) dX7_readOne_257 (Nat.zero_le _) (Nat.zero_le _) (fun r89 u89 H89 locs89 hp89 hP hS => ?_)
          obtain ⟨σ89, τ89⟩ := u89
          obtain ⟨hR, f89, fL89, hq89, hp89_0⟩ : P_X6_add σ16 τ16 (σ0 1 9) z87 z88 r89 σ89 τ89 := hp89
          have hP : va_P D vwCl (gw cA ad σ89 τ89) H89 := hP
          obtain rfl := FrL.nil fL89
          have hF := hF.step f89 (by decide)
          have gCT := gCT.ag (Agr.fr f89 (by decide))
          have gWH := gWH.ag (Agr.fr f89 (by decide))
          have t90 : (σ89 1 13).toInt = (σ16 1 13).toInt := congrArg Int32.toInt (f89.at 1 13 (by decide))
          have t91 : (σ89 24 1).toInt = (σ16 24 1).toInt := congrArg Int32.toInt (f89.at 24 1 (by decide))
          have hr92 := rg_6_2 hR (k := 24) (by decide) (by decide)
          exact r_zret hx hb hr hK hP hS hk (by omega) dX7_readOne_260 (show P_X7_readOne_d7 σ0 τ0 a1 b N mo q nn nm hc r89 σ89 τ16 from ⟨hR, hF, hFL, by omega, by first | exact RO.ofr ((one_l (by omega) (by omega) (by omega) (by omega)).trans (lea_n (by omega) (by omega))) (by omega) ⟨gCT, by omega, by omega⟩ | (exfalso; omega) | exact RO.ofk (one_x (by omega)) (by omega) (by omega) (by omega) | exact RO.ofk (one_4 (by omega) (by omega)) (by omega) (by omega) (by omega) | (obtain ⟨f, e1, x1, x2⟩ := o1.no (by omega); exact RO.ofl ((one_n (by omega) (by omega)).trans e1) (by omega) x1 x2) | exact RO.ofr ((one_n (by omega) (by omega)).trans e1) (by omega) ⟨gCT, by omega, by omega⟩ | (obtain ⟨f, e2, x1, x2⟩ := o2.no (by omega); exact RO.ofl (by rw [one_o (by omega) (by omega), e2, bnd_l]) (by omega) x1 x2) | (obtain ⟨f, e3, x1, x2⟩ := o3.no (by omega); exact RO.ofl (by rw [one_o (by omega) (by omega), e2, bnd_r, e3, bnd_l]) (by omega) x1 x2) | exact RO.ofr (by rw [one_o (by omega) (by omega), e2, bnd_r, e3, bnd_r]) (by omega) ⟨gCT, by omega, by omega⟩ | (rw [one_l (by omega) (by omega) (by omega) (by omega)]; exact o4.map (fun s es h => ⟨h.1, h.2.1, by have h2 := h.2.2; have hl := lea_up es; omega⟩)) | (rw [one_l (by omega) (by omega) (by omega) (by omega)]; exact o5.map (fun s es h => ⟨h.1, h.2.1, by have h2 := h.2.2; have hl := lea_up es; omega⟩)), by omega, gWH⟩)
        by_cases c93 : (σ0 1 9).toInt = 33
        · refine lv_tableIn (off := 177) (tgt := 249) hx hb dX7_readOne_72 (by omega) (by omega) (by rw [c93]; rfl) (by decide) ?_
          refine lv_aload_n hx hb dX7_readOne_249 rfl (lv_at hl 1 rfl) ?_
          refine fg_7_2 (k := 27) hx hb hts in_X7_readOne_7 hown hK hP (by decide) (by decide) (hts _ lk_X7_readOne_19) dX7_readOne_250 ?_
          refine lv_iload_n hx hb dX7_readOne_253 rfl (lv_at hl 0 rfl) ?_
          refine r_bipush hx hb dX7_readOne_254 (by decide) (fun z94 ez94 => ?_)
          refine r_iconst hx hb dX7_readOne_256 (by decide) (fun z95 ez95 => ?_)
          refine r_cVi (k := 24) (As := [.int (σ0 1 9), .int z94, .int z95]) (rest := []) ⟨hx, hb, hml, hown, hts⟩ hK hP hN hS (c_X6_add l D cA ad hI σ16 τ16 hR (σ0 1 9) z94 z95 (by omega)) (cwV 3 hts gX7_readOne_X6_add rfl rfl rfl (by decide +kernel) ⟨by decide, by decide⟩) (rv_Sent hK hP (by decide) (by decide)) rfl hl.1 rfl (Nat.le_of_ble_eq_true rfl) dX7_readOne_257 (Nat.zero_le _) (Nat.zero_le _) (fun r96 u96 H96 locs96 hp96 hP hS => ?_)
          obtain ⟨σ96, τ96⟩ := u96
          obtain ⟨hR, f96, fL96, hq96, hp96_0⟩ : P_X6_add σ16 τ16 (σ0 1 9) z94 z95 r96 σ96 τ96 := hp96
          have hP : va_P D vwCl (gw cA ad σ96 τ96) H96 := hP
          obtain rfl := FrL.nil fL96
          have hF := hF.step f96 (by decide)
          have gCT := gCT.ag (Agr.fr f96 (by decide))
          have gWH := gWH.ag (Agr.fr f96 (by decide))
          have t97 : (σ96 1 13).toInt = (σ16 1 13).toInt := congrArg Int32.toInt (f96.at 1 13 (by decide))
          have t98 : (σ96 24 1).toInt = (σ16 24 1).toInt := congrArg Int32.toInt (f96.at 24 1 (by decide))
          have hr99 := rg_6_2 hR (k := 24) (by decide) (by decide)
          exact r_zret hx hb hr hK hP hS hk (by omega) dX7_readOne_260 (show P_X7_readOne_d7 σ0 τ0 a1 b N mo q nn nm hc r96 σ96 τ16 from ⟨hR, hF, hFL, by omega, by first | exact RO.ofr ((one_l (by omega) (by omega) (by omega) (by omega)).trans (lea_n (by omega) (by omega))) (by omega) ⟨gCT, by omega, by omega⟩ | (exfalso; omega) | exact RO.ofk (one_x (by omega)) (by omega) (by omega) (by omega) | exact RO.ofk (one_4 (by omega) (by omega)) (by omega) (by omega) (by omega) | (obtain ⟨f, e1, x1, x2⟩ := o1.no (by omega); exact RO.ofl ((one_n (by omega) (by omega)).trans e1) (by omega) x1 x2) | exact RO.ofr ((one_n (by omega) (by omega)).trans e1) (by omega) ⟨gCT, by omega, by omega⟩ | (obtain ⟨f, e2, x1, x2⟩ := o2.no (by omega); exact RO.ofl (by rw [one_o (by omega) (by omega), e2, bnd_l]) (by omega) x1 x2) | (obtain ⟨f, e3, x1, x2⟩ := o3.no (by omega); exact RO.ofl (by rw [one_o (by omega) (by omega), e2, bnd_r, e3, bnd_l]) (by omega) x1 x2) | exact RO.ofr (by rw [one_o (by omega) (by omega), e2, bnd_r, e3, bnd_r]) (by omega) ⟨gCT, by omega, by omega⟩ | (rw [one_l (by omega) (by omega) (by omega) (by omega)]; exact o4.map (fun s es h => ⟨h.1, h.2.1, by have h2 := h.2.2; have hl := lea_up es; omega⟩)) | (rw [one_l (by omega) (by omega) (by omega) (by omega)]; exact o5.map (fun s es h => ⟨h.1, h.2.1, by have h2 := h.2.2; have hl := lea_up es; omega⟩)), by omega, gWH⟩)
        by_cases c100 : (σ0 1 9).toInt = 34
        · refine lv_tableIn (off := 177) (tgt := 249) hx hb dX7_readOne_72 (by omega) (by omega) (by rw [c100]; rfl) (by decide) ?_
          refine lv_aload_n hx hb dX7_readOne_249 rfl (lv_at hl 1 rfl) ?_
          refine fg_7_2 (k := 27) hx hb hts in_X7_readOne_7 hown hK hP (by decide) (by decide) (hts _ lk_X7_readOne_19) dX7_readOne_250 ?_
          refine lv_iload_n hx hb dX7_readOne_253 rfl (lv_at hl 0 rfl) ?_
          refine r_bipush hx hb dX7_readOne_254 (by decide) (fun z101 ez101 => ?_)
          refine r_iconst hx hb dX7_readOne_256 (by decide) (fun z102 ez102 => ?_)
          refine r_cVi (k := 24) (As := [.int (σ0 1 9), .int z101, .int z102]) (rest := []) ⟨hx, hb, hml, hown, hts⟩ hK hP hN hS (c_X6_add l D cA ad hI σ16 τ16 hR (σ0 1 9) z101 z102 (by omega)) (cwV 3 hts gX7_readOne_X6_add rfl rfl rfl (by decide +kernel) ⟨by decide, by decide⟩) (rv_Sent hK hP (by decide) (by decide)) rfl hl.1 rfl (Nat.le_of_ble_eq_true rfl) dX7_readOne_257 (Nat.zero_le _) (Nat.zero_le _) (fun r103 u103 H103 locs103 hp103 hP hS => ?_)
          obtain ⟨σ103, τ103⟩ := u103
          obtain ⟨hR, f103, fL103, hq103, hp103_0⟩ : P_X6_add σ16 τ16 (σ0 1 9) z101 z102 r103 σ103 τ103 := hp103
          have hP : va_P D vwCl (gw cA ad σ103 τ103) H103 := hP
          obtain rfl := FrL.nil fL103
          have hF := hF.step f103 (by decide)
          have gCT := gCT.ag (Agr.fr f103 (by decide))
          have gWH := gWH.ag (Agr.fr f103 (by decide))
          have t104 : (σ103 1 13).toInt = (σ16 1 13).toInt := congrArg Int32.toInt (f103.at 1 13 (by decide))
          have t105 : (σ103 24 1).toInt = (σ16 24 1).toInt := congrArg Int32.toInt (f103.at 24 1 (by decide))
          have hr106 := rg_6_2 hR (k := 24) (by decide) (by decide)
          exact r_zret hx hb hr hK hP hS hk (by omega) dX7_readOne_260 (show P_X7_readOne_d7 σ0 τ0 a1 b N mo q nn nm hc r103 σ103 τ16 from ⟨hR, hF, hFL, by omega, by first | exact RO.ofr ((one_l (by omega) (by omega) (by omega) (by omega)).trans (lea_n (by omega) (by omega))) (by omega) ⟨gCT, by omega, by omega⟩ | (exfalso; omega) | exact RO.ofk (one_x (by omega)) (by omega) (by omega) (by omega) | exact RO.ofk (one_4 (by omega) (by omega)) (by omega) (by omega) (by omega) | (obtain ⟨f, e1, x1, x2⟩ := o1.no (by omega); exact RO.ofl ((one_n (by omega) (by omega)).trans e1) (by omega) x1 x2) | exact RO.ofr ((one_n (by omega) (by omega)).trans e1) (by omega) ⟨gCT, by omega, by omega⟩ | (obtain ⟨f, e2, x1, x2⟩ := o2.no (by omega); exact RO.ofl (by rw [one_o (by omega) (by omega), e2, bnd_l]) (by omega) x1 x2) | (obtain ⟨f, e3, x1, x2⟩ := o3.no (by omega); exact RO.ofl (by rw [one_o (by omega) (by omega), e2, bnd_r, e3, bnd_l]) (by omega) x1 x2) | exact RO.ofr (by rw [one_o (by omega) (by omega), e2, bnd_r, e3, bnd_r]) (by omega) ⟨gCT, by omega, by omega⟩ | (rw [one_l (by omega) (by omega) (by omega) (by omega)]; exact o4.map (fun s es h => ⟨h.1, h.2.1, by have h2 := h.2.2; have hl := lea_up es; omega⟩)) | (rw [one_l (by omega) (by omega) (by omega) (by omega)]; exact o5.map (fun s es h => ⟨h.1, h.2.1, by have h2 := h.2.2; have hl := lea_up es; omega⟩)), by omega, gWH⟩)
        by_cases c107 : (σ0 1 9).toInt = 35
        · refine lv_tableIn (off := 177) (tgt := 249) hx hb dX7_readOne_72 (by omega) (by omega) (by rw [c107]; rfl) (by decide) ?_
          refine lv_aload_n hx hb dX7_readOne_249 rfl (lv_at hl 1 rfl) ?_
          refine fg_7_2 (k := 27) hx hb hts in_X7_readOne_7 hown hK hP (by decide) (by decide) (hts _ lk_X7_readOne_19) dX7_readOne_250 ?_
          refine lv_iload_n hx hb dX7_readOne_253 rfl (lv_at hl 0 rfl) ?_
          refine r_bipush hx hb dX7_readOne_254 (by decide) (fun z108 ez108 => ?_)
          refine r_iconst hx hb dX7_readOne_256 (by decide) (fun z109 ez109 => ?_)
          refine r_cVi (k := 24) (As := [.int (σ0 1 9), .int z108, .int z109]) (rest := []) ⟨hx, hb, hml, hown, hts⟩ hK hP hN hS (c_X6_add l D cA ad hI σ16 τ16 hR (σ0 1 9) z108 z109 (by omega)) (cwV 3 hts gX7_readOne_X6_add rfl rfl rfl (by decide +kernel) ⟨by decide, by decide⟩) (rv_Sent hK hP (by decide) (by decide)) rfl hl.1 rfl (Nat.le_of_ble_eq_true rfl) dX7_readOne_257 (Nat.zero_le _) (Nat.zero_le _) (fun r110 u110 H110 locs110 hp110 hP hS => ?_)
          obtain ⟨σ110, τ110⟩ := u110
          obtain ⟨hR, f110, fL110, hq110, hp110_0⟩ : P_X6_add σ16 τ16 (σ0 1 9) z108 z109 r110 σ110 τ110 := hp110
          have hP : va_P D vwCl (gw cA ad σ110 τ110) H110 := hP
          obtain rfl := FrL.nil fL110
          have hF := hF.step f110 (by decide)
          have gCT := gCT.ag (Agr.fr f110 (by decide))
          have gWH := gWH.ag (Agr.fr f110 (by decide))
          have t111 : (σ110 1 13).toInt = (σ16 1 13).toInt := congrArg Int32.toInt (f110.at 1 13 (by decide))
          have t112 : (σ110 24 1).toInt = (σ16 24 1).toInt := congrArg Int32.toInt (f110.at 24 1 (by decide))
          have hr113 := rg_6_2 hR (k := 24) (by decide) (by decide)
          exact r_zret hx hb hr hK hP hS hk (by omega) dX7_readOne_260 (show P_X7_readOne_d7 σ0 τ0 a1 b N mo q nn nm hc r110 σ110 τ16 from ⟨hR, hF, hFL, by omega, by first | exact RO.ofr ((one_l (by omega) (by omega) (by omega) (by omega)).trans (lea_n (by omega) (by omega))) (by omega) ⟨gCT, by omega, by omega⟩ | (exfalso; omega) | exact RO.ofk (one_x (by omega)) (by omega) (by omega) (by omega) | exact RO.ofk (one_4 (by omega) (by omega)) (by omega) (by omega) (by omega) | (obtain ⟨f, e1, x1, x2⟩ := o1.no (by omega); exact RO.ofl ((one_n (by omega) (by omega)).trans e1) (by omega) x1 x2) | exact RO.ofr ((one_n (by omega) (by omega)).trans e1) (by omega) ⟨gCT, by omega, by omega⟩ | (obtain ⟨f, e2, x1, x2⟩ := o2.no (by omega); exact RO.ofl (by rw [one_o (by omega) (by omega), e2, bnd_l]) (by omega) x1 x2) | (obtain ⟨f, e3, x1, x2⟩ := o3.no (by omega); exact RO.ofl (by rw [one_o (by omega) (by omega), e2, bnd_r, e3, bnd_l]) (by omega) x1 x2) | exact RO.ofr (by rw [one_o (by omega) (by omega), e2, bnd_r, e3, bnd_r]) (by omega) ⟨gCT, by omega, by omega⟩ | (rw [one_l (by omega) (by omega) (by omega) (by omega)]; exact o4.map (fun s es h => ⟨h.1, h.2.1, by have h2 := h.2.2; have hl := lea_up es; omega⟩)) | (rw [one_l (by omega) (by omega) (by omega) (by omega)]; exact o5.map (fun s es h => ⟨h.1, h.2.1, by have h2 := h.2.2; have hl := lea_up es; omega⟩)), by omega, gWH⟩)
        by_cases c114 : (σ0 1 9).toInt = 36
        · refine lv_tableIn (off := 177) (tgt := 249) hx hb dX7_readOne_72 (by omega) (by omega) (by rw [c114]; rfl) (by decide) ?_
          refine lv_aload_n hx hb dX7_readOne_249 rfl (lv_at hl 1 rfl) ?_
          refine fg_7_2 (k := 27) hx hb hts in_X7_readOne_7 hown hK hP (by decide) (by decide) (hts _ lk_X7_readOne_19) dX7_readOne_250 ?_
          refine lv_iload_n hx hb dX7_readOne_253 rfl (lv_at hl 0 rfl) ?_
          refine r_bipush hx hb dX7_readOne_254 (by decide) (fun z115 ez115 => ?_)
          refine r_iconst hx hb dX7_readOne_256 (by decide) (fun z116 ez116 => ?_)
          refine r_cVi (k := 24) (As := [.int (σ0 1 9), .int z115, .int z116]) (rest := []) ⟨hx, hb, hml, hown, hts⟩ hK hP hN hS (c_X6_add l D cA ad hI σ16 τ16 hR (σ0 1 9) z115 z116 (by omega)) (cwV 3 hts gX7_readOne_X6_add rfl rfl rfl (by decide +kernel) ⟨by decide, by decide⟩) (rv_Sent hK hP (by decide) (by decide)) rfl hl.1 rfl (Nat.le_of_ble_eq_true rfl) dX7_readOne_257 (Nat.zero_le _) (Nat.zero_le _) (fun r117 u117 H117 locs117 hp117 hP hS => ?_)
          obtain ⟨σ117, τ117⟩ := u117
          obtain ⟨hR, f117, fL117, hq117, hp117_0⟩ : P_X6_add σ16 τ16 (σ0 1 9) z115 z116 r117 σ117 τ117 := hp117
          have hP : va_P D vwCl (gw cA ad σ117 τ117) H117 := hP
          obtain rfl := FrL.nil fL117
          have hF := hF.step f117 (by decide)
          have gCT := gCT.ag (Agr.fr f117 (by decide))
          have gWH := gWH.ag (Agr.fr f117 (by decide))
          have t118 : (σ117 1 13).toInt = (σ16 1 13).toInt := congrArg Int32.toInt (f117.at 1 13 (by decide))
          have t119 : (σ117 24 1).toInt = (σ16 24 1).toInt := congrArg Int32.toInt (f117.at 24 1 (by decide))
          have hr120 := rg_6_2 hR (k := 24) (by decide) (by decide)
          exact r_zret hx hb hr hK hP hS hk (by omega) dX7_readOne_260 (show P_X7_readOne_d7 σ0 τ0 a1 b N mo q nn nm hc r117 σ117 τ16 from ⟨hR, hF, hFL, by omega, by first | exact RO.ofr ((one_l (by omega) (by omega) (by omega) (by omega)).trans (lea_n (by omega) (by omega))) (by omega) ⟨gCT, by omega, by omega⟩ | (exfalso; omega) | exact RO.ofk (one_x (by omega)) (by omega) (by omega) (by omega) | exact RO.ofk (one_4 (by omega) (by omega)) (by omega) (by omega) (by omega) | (obtain ⟨f, e1, x1, x2⟩ := o1.no (by omega); exact RO.ofl ((one_n (by omega) (by omega)).trans e1) (by omega) x1 x2) | exact RO.ofr ((one_n (by omega) (by omega)).trans e1) (by omega) ⟨gCT, by omega, by omega⟩ | (obtain ⟨f, e2, x1, x2⟩ := o2.no (by omega); exact RO.ofl (by rw [one_o (by omega) (by omega), e2, bnd_l]) (by omega) x1 x2) | (obtain ⟨f, e3, x1, x2⟩ := o3.no (by omega); exact RO.ofl (by rw [one_o (by omega) (by omega), e2, bnd_r, e3, bnd_l]) (by omega) x1 x2) | exact RO.ofr (by rw [one_o (by omega) (by omega), e2, bnd_r, e3, bnd_r]) (by omega) ⟨gCT, by omega, by omega⟩ | (rw [one_l (by omega) (by omega) (by omega) (by omega)]; exact o4.map (fun s es h => ⟨h.1, h.2.1, by have h2 := h.2.2; have hl := lea_up es; omega⟩)) | (rw [one_l (by omega) (by omega) (by omega) (by omega)]; exact o5.map (fun s es h => ⟨h.1, h.2.1, by have h2 := h.2.2; have hl := lea_up es; omega⟩)), by omega, gWH⟩)
        by_cases c121 : (σ0 1 9).toInt = 37
        · refine lv_tableIn (off := 177) (tgt := 249) hx hb dX7_readOne_72 (by omega) (by omega) (by rw [c121]; rfl) (by decide) ?_
          refine lv_aload_n hx hb dX7_readOne_249 rfl (lv_at hl 1 rfl) ?_
          refine fg_7_2 (k := 27) hx hb hts in_X7_readOne_7 hown hK hP (by decide) (by decide) (hts _ lk_X7_readOne_19) dX7_readOne_250 ?_
          refine lv_iload_n hx hb dX7_readOne_253 rfl (lv_at hl 0 rfl) ?_
          refine r_bipush hx hb dX7_readOne_254 (by decide) (fun z122 ez122 => ?_)
          refine r_iconst hx hb dX7_readOne_256 (by decide) (fun z123 ez123 => ?_)
          refine r_cVi (k := 24) (As := [.int (σ0 1 9), .int z122, .int z123]) (rest := []) ⟨hx, hb, hml, hown, hts⟩ hK hP hN hS (c_X6_add l D cA ad hI σ16 τ16 hR (σ0 1 9) z122 z123 (by omega)) (cwV 3 hts gX7_readOne_X6_add rfl rfl rfl (by decide +kernel) ⟨by decide, by decide⟩) (rv_Sent hK hP (by decide) (by decide)) rfl hl.1 rfl (Nat.le_of_ble_eq_true rfl) dX7_readOne_257 (Nat.zero_le _) (Nat.zero_le _) (fun r124 u124 H124 locs124 hp124 hP hS => ?_)
          obtain ⟨σ124, τ124⟩ := u124
          obtain ⟨hR, f124, fL124, hq124, hp124_0⟩ : P_X6_add σ16 τ16 (σ0 1 9) z122 z123 r124 σ124 τ124 := hp124
          have hP : va_P D vwCl (gw cA ad σ124 τ124) H124 := hP
          obtain rfl := FrL.nil fL124
          have hF := hF.step f124 (by decide)
          have gCT := gCT.ag (Agr.fr f124 (by decide))
          have gWH := gWH.ag (Agr.fr f124 (by decide))
          have t125 : (σ124 1 13).toInt = (σ16 1 13).toInt := congrArg Int32.toInt (f124.at 1 13 (by decide))
          have t126 : (σ124 24 1).toInt = (σ16 24 1).toInt := congrArg Int32.toInt (f124.at 24 1 (by decide))
          have hr127 := rg_6_2 hR (k := 24) (by decide) (by decide)
          exact r_zret hx hb hr hK hP hS hk (by omega) dX7_readOne_260 (show P_X7_readOne_d7 σ0 τ0 a1 b N mo q nn nm hc r124 σ124 τ16 from ⟨hR, hF, hFL, by omega, by first | exact RO.ofr ((one_l (by omega) (by omega) (by omega) (by omega)).trans (lea_n (by omega) (by omega))) (by omega) ⟨gCT, by omega, by omega⟩ | (exfalso; omega) | exact RO.ofk (one_x (by omega)) (by omega) (by omega) (by omega) | exact RO.ofk (one_4 (by omega) (by omega)) (by omega) (by omega) (by omega) | (obtain ⟨f, e1, x1, x2⟩ := o1.no (by omega); exact RO.ofl ((one_n (by omega) (by omega)).trans e1) (by omega) x1 x2) | exact RO.ofr ((one_n (by omega) (by omega)).trans e1) (by omega) ⟨gCT, by omega, by omega⟩ | (obtain ⟨f, e2, x1, x2⟩ := o2.no (by omega); exact RO.ofl (by rw [one_o (by omega) (by omega), e2, bnd_l]) (by omega) x1 x2) | (obtain ⟨f, e3, x1, x2⟩ := o3.no (by omega); exact RO.ofl (by rw [one_o (by omega) (by omega), e2, bnd_r, e3, bnd_l]) (by omega) x1 x2) | exact RO.ofr (by rw [one_o (by omega) (by omega), e2, bnd_r, e3, bnd_r]) (by omega) ⟨gCT, by omega, by omega⟩ | (rw [one_l (by omega) (by omega) (by omega) (by omega)]; exact o4.map (fun s es h => ⟨h.1, h.2.1, by have h2 := h.2.2; have hl := lea_up es; omega⟩)) | (rw [one_l (by omega) (by omega) (by omega) (by omega)]; exact o5.map (fun s es h => ⟨h.1, h.2.1, by have h2 := h.2.2; have hl := lea_up es; omega⟩)), by omega, gWH⟩)
        by_cases c128 : (σ0 1 9).toInt = 38
        · refine lv_tableIn (off := 177) (tgt := 249) hx hb dX7_readOne_72 (by omega) (by omega) (by rw [c128]; rfl) (by decide) ?_
          refine lv_aload_n hx hb dX7_readOne_249 rfl (lv_at hl 1 rfl) ?_
          refine fg_7_2 (k := 27) hx hb hts in_X7_readOne_7 hown hK hP (by decide) (by decide) (hts _ lk_X7_readOne_19) dX7_readOne_250 ?_
          refine lv_iload_n hx hb dX7_readOne_253 rfl (lv_at hl 0 rfl) ?_
          refine r_bipush hx hb dX7_readOne_254 (by decide) (fun z129 ez129 => ?_)
          refine r_iconst hx hb dX7_readOne_256 (by decide) (fun z130 ez130 => ?_)
          refine r_cVi (k := 24) (As := [.int (σ0 1 9), .int z129, .int z130]) (rest := []) ⟨hx, hb, hml, hown, hts⟩ hK hP hN hS (c_X6_add l D cA ad hI σ16 τ16 hR (σ0 1 9) z129 z130 (by omega)) (cwV 3 hts gX7_readOne_X6_add rfl rfl rfl (by decide +kernel) ⟨by decide, by decide⟩) (rv_Sent hK hP (by decide) (by decide)) rfl hl.1 rfl (Nat.le_of_ble_eq_true rfl) dX7_readOne_257 (Nat.zero_le _) (Nat.zero_le _) (fun r131 u131 H131 locs131 hp131 hP hS => ?_)
          obtain ⟨σ131, τ131⟩ := u131
          obtain ⟨hR, f131, fL131, hq131, hp131_0⟩ : P_X6_add σ16 τ16 (σ0 1 9) z129 z130 r131 σ131 τ131 := hp131
          have hP : va_P D vwCl (gw cA ad σ131 τ131) H131 := hP
          obtain rfl := FrL.nil fL131
          have hF := hF.step f131 (by decide)
          have gCT := gCT.ag (Agr.fr f131 (by decide))
          have gWH := gWH.ag (Agr.fr f131 (by decide))
          have t132 : (σ131 1 13).toInt = (σ16 1 13).toInt := congrArg Int32.toInt (f131.at 1 13 (by decide))
          have t133 : (σ131 24 1).toInt = (σ16 24 1).toInt := congrArg Int32.toInt (f131.at 24 1 (by decide))
          have hr134 := rg_6_2 hR (k := 24) (by decide) (by decide)
          exact r_zret hx hb hr hK hP hS hk (by omega) dX7_readOne_260 (show P_X7_readOne_d7 σ0 τ0 a1 b N mo q nn nm hc r131 σ131 τ16 from ⟨hR, hF, hFL, by omega, by first | exact RO.ofr ((one_l (by omega) (by omega) (by omega) (by omega)).trans (lea_n (by omega) (by omega))) (by omega) ⟨gCT, by omega, by omega⟩ | (exfalso; omega) | exact RO.ofk (one_x (by omega)) (by omega) (by omega) (by omega) | exact RO.ofk (one_4 (by omega) (by omega)) (by omega) (by omega) (by omega) | (obtain ⟨f, e1, x1, x2⟩ := o1.no (by omega); exact RO.ofl ((one_n (by omega) (by omega)).trans e1) (by omega) x1 x2) | exact RO.ofr ((one_n (by omega) (by omega)).trans e1) (by omega) ⟨gCT, by omega, by omega⟩ | (obtain ⟨f, e2, x1, x2⟩ := o2.no (by omega); exact RO.ofl (by rw [one_o (by omega) (by omega), e2, bnd_l]) (by omega) x1 x2) | (obtain ⟨f, e3, x1, x2⟩ := o3.no (by omega); exact RO.ofl (by rw [one_o (by omega) (by omega), e2, bnd_r, e3, bnd_l]) (by omega) x1 x2) | exact RO.ofr (by rw [one_o (by omega) (by omega), e2, bnd_r, e3, bnd_r]) (by omega) ⟨gCT, by omega, by omega⟩ | (rw [one_l (by omega) (by omega) (by omega) (by omega)]; exact o4.map (fun s es h => ⟨h.1, h.2.1, by have h2 := h.2.2; have hl := lea_up es; omega⟩)) | (rw [one_l (by omega) (by omega) (by omega) (by omega)]; exact o5.map (fun s es h => ⟨h.1, h.2.1, by have h2 := h.2.2; have hl := lea_up es; omega⟩)), by omega, gWH⟩)
        by_cases c135 : (σ0 1 9).toInt = 39
        · refine lv_tableIn (off := 177) (tgt := 249) hx hb dX7_readOne_72 (by omega) (by omega) (by rw [c135]; rfl) (by decide) ?_
          refine lv_aload_n hx hb dX7_readOne_249 rfl (lv_at hl 1 rfl) ?_
          refine fg_7_2 (k := 27) hx hb hts in_X7_readOne_7 hown hK hP (by decide) (by decide) (hts _ lk_X7_readOne_19) dX7_readOne_250 ?_
          refine lv_iload_n hx hb dX7_readOne_253 rfl (lv_at hl 0 rfl) ?_
          refine r_bipush hx hb dX7_readOne_254 (by decide) (fun z136 ez136 => ?_)
          refine r_iconst hx hb dX7_readOne_256 (by decide) (fun z137 ez137 => ?_)
          refine r_cVi (k := 24) (As := [.int (σ0 1 9), .int z136, .int z137]) (rest := []) ⟨hx, hb, hml, hown, hts⟩ hK hP hN hS (c_X6_add l D cA ad hI σ16 τ16 hR (σ0 1 9) z136 z137 (by omega)) (cwV 3 hts gX7_readOne_X6_add rfl rfl rfl (by decide +kernel) ⟨by decide, by decide⟩) (rv_Sent hK hP (by decide) (by decide)) rfl hl.1 rfl (Nat.le_of_ble_eq_true rfl) dX7_readOne_257 (Nat.zero_le _) (Nat.zero_le _) (fun r138 u138 H138 locs138 hp138 hP hS => ?_)
          obtain ⟨σ138, τ138⟩ := u138
          obtain ⟨hR, f138, fL138, hq138, hp138_0⟩ : P_X6_add σ16 τ16 (σ0 1 9) z136 z137 r138 σ138 τ138 := hp138
          have hP : va_P D vwCl (gw cA ad σ138 τ138) H138 := hP
          obtain rfl := FrL.nil fL138
          have hF := hF.step f138 (by decide)
          have gCT := gCT.ag (Agr.fr f138 (by decide))
          have gWH := gWH.ag (Agr.fr f138 (by decide))
          have t139 : (σ138 1 13).toInt = (σ16 1 13).toInt := congrArg Int32.toInt (f138.at 1 13 (by decide))
          have t140 : (σ138 24 1).toInt = (σ16 24 1).toInt := congrArg Int32.toInt (f138.at 24 1 (by decide))
          have hr141 := rg_6_2 hR (k := 24) (by decide) (by decide)
          exact r_zret hx hb hr hK hP hS hk (by omega) dX7_readOne_260 (show P_X7_readOne_d7 σ0 τ0 a1 b N mo q nn nm hc r138 σ138 τ16 from ⟨hR, hF, hFL, by omega, by first | exact RO.ofr ((one_l (by omega) (by omega) (by omega) (by omega)).trans (lea_n (by omega) (by omega))) (by omega) ⟨gCT, by omega, by omega⟩ | (exfalso; omega) | exact RO.ofk (one_x (by omega)) (by omega) (by omega) (by omega) | exact RO.ofk (one_4 (by omega) (by omega)) (by omega) (by omega) (by omega) | (obtain ⟨f, e1, x1, x2⟩ := o1.no (by omega); exact RO.ofl ((one_n (by omega) (by omega)).trans e1) (by omega) x1 x2) | exact RO.ofr ((one_n (by omega) (by omega)).trans e1) (by omega) ⟨gCT, by omega, by omega⟩ | (obtain ⟨f, e2, x1, x2⟩ := o2.no (by omega); exact RO.ofl (by rw [one_o (by omega) (by omega), e2, bnd_l]) (by omega) x1 x2) | (obtain ⟨f, e3, x1, x2⟩ := o3.no (by omega); exact RO.ofl (by rw [one_o (by omega) (by omega), e2, bnd_r, e3, bnd_l]) (by omega) x1 x2) | exact RO.ofr (by rw [one_o (by omega) (by omega), e2, bnd_r, e3, bnd_r]) (by omega) ⟨gCT, by omega, by omega⟩ | (rw [one_l (by omega) (by omega) (by omega) (by omega)]; exact o4.map (fun s es h => ⟨h.1, h.2.1, by have h2 := h.2.2; have hl := lea_up es; omega⟩)) | (rw [one_l (by omega) (by omega) (by omega) (by omega)]; exact o5.map (fun s es h => ⟨h.1, h.2.1, by have h2 := h.2.2; have hl := lea_up es; omega⟩)), by omega, gWH⟩)
        by_cases c142 : (σ0 1 9).toInt = 40
        · refine lv_tableIn (off := 177) (tgt := 249) hx hb dX7_readOne_72 (by omega) (by omega) (by rw [c142]; rfl) (by decide) ?_
          refine lv_aload_n hx hb dX7_readOne_249 rfl (lv_at hl 1 rfl) ?_
          refine fg_7_2 (k := 27) hx hb hts in_X7_readOne_7 hown hK hP (by decide) (by decide) (hts _ lk_X7_readOne_19) dX7_readOne_250 ?_
          refine lv_iload_n hx hb dX7_readOne_253 rfl (lv_at hl 0 rfl) ?_
          refine r_bipush hx hb dX7_readOne_254 (by decide) (fun z143 ez143 => ?_)
          refine r_iconst hx hb dX7_readOne_256 (by decide) (fun z144 ez144 => ?_)
          refine r_cVi (k := 24) (As := [.int (σ0 1 9), .int z143, .int z144]) (rest := []) ⟨hx, hb, hml, hown, hts⟩ hK hP hN hS (c_X6_add l D cA ad hI σ16 τ16 hR (σ0 1 9) z143 z144 (by omega)) (cwV 3 hts gX7_readOne_X6_add rfl rfl rfl (by decide +kernel) ⟨by decide, by decide⟩) (rv_Sent hK hP (by decide) (by decide)) rfl hl.1 rfl (Nat.le_of_ble_eq_true rfl) dX7_readOne_257 (Nat.zero_le _) (Nat.zero_le _) (fun r145 u145 H145 locs145 hp145 hP hS => ?_)
          obtain ⟨σ145, τ145⟩ := u145
          obtain ⟨hR, f145, fL145, hq145, hp145_0⟩ : P_X6_add σ16 τ16 (σ0 1 9) z143 z144 r145 σ145 τ145 := hp145
          have hP : va_P D vwCl (gw cA ad σ145 τ145) H145 := hP
          obtain rfl := FrL.nil fL145
          have hF := hF.step f145 (by decide)
          have gCT := gCT.ag (Agr.fr f145 (by decide))
          have gWH := gWH.ag (Agr.fr f145 (by decide))
          have t146 : (σ145 1 13).toInt = (σ16 1 13).toInt := congrArg Int32.toInt (f145.at 1 13 (by decide))
          have t147 : (σ145 24 1).toInt = (σ16 24 1).toInt := congrArg Int32.toInt (f145.at 24 1 (by decide))
          have hr148 := rg_6_2 hR (k := 24) (by decide) (by decide)
          exact r_zret hx hb hr hK hP hS hk (by omega) dX7_readOne_260 (show P_X7_readOne_d7 σ0 τ0 a1 b N mo q nn nm hc r145 σ145 τ16 from ⟨hR, hF, hFL, by omega, by first | exact RO.ofr ((one_l (by omega) (by omega) (by omega) (by omega)).trans (lea_n (by omega) (by omega))) (by omega) ⟨gCT, by omega, by omega⟩ | (exfalso; omega) | exact RO.ofk (one_x (by omega)) (by omega) (by omega) (by omega) | exact RO.ofk (one_4 (by omega) (by omega)) (by omega) (by omega) (by omega) | (obtain ⟨f, e1, x1, x2⟩ := o1.no (by omega); exact RO.ofl ((one_n (by omega) (by omega)).trans e1) (by omega) x1 x2) | exact RO.ofr ((one_n (by omega) (by omega)).trans e1) (by omega) ⟨gCT, by omega, by omega⟩ | (obtain ⟨f, e2, x1, x2⟩ := o2.no (by omega); exact RO.ofl (by rw [one_o (by omega) (by omega), e2, bnd_l]) (by omega) x1 x2) | (obtain ⟨f, e3, x1, x2⟩ := o3.no (by omega); exact RO.ofl (by rw [one_o (by omega) (by omega), e2, bnd_r, e3, bnd_l]) (by omega) x1 x2) | exact RO.ofr (by rw [one_o (by omega) (by omega), e2, bnd_r, e3, bnd_r]) (by omega) ⟨gCT, by omega, by omega⟩ | (rw [one_l (by omega) (by omega) (by omega) (by omega)]; exact o4.map (fun s es h => ⟨h.1, h.2.1, by have h2 := h.2.2; have hl := lea_up es; omega⟩)) | (rw [one_l (by omega) (by omega) (by omega) (by omega)]; exact o5.map (fun s es h => ⟨h.1, h.2.1, by have h2 := h.2.2; have hl := lea_up es; omega⟩)), by omega, gWH⟩)
        by_cases c149 : (σ0 1 9).toInt = 41
        · refine lv_tableIn (off := 177) (tgt := 249) hx hb dX7_readOne_72 (by omega) (by omega) (by rw [c149]; rfl) (by decide) ?_
          refine lv_aload_n hx hb dX7_readOne_249 rfl (lv_at hl 1 rfl) ?_
          refine fg_7_2 (k := 27) hx hb hts in_X7_readOne_7 hown hK hP (by decide) (by decide) (hts _ lk_X7_readOne_19) dX7_readOne_250 ?_
          refine lv_iload_n hx hb dX7_readOne_253 rfl (lv_at hl 0 rfl) ?_
          refine r_bipush hx hb dX7_readOne_254 (by decide) (fun z150 ez150 => ?_)
          refine r_iconst hx hb dX7_readOne_256 (by decide) (fun z151 ez151 => ?_)
          refine r_cVi (k := 24) (As := [.int (σ0 1 9), .int z150, .int z151]) (rest := []) ⟨hx, hb, hml, hown, hts⟩ hK hP hN hS (c_X6_add l D cA ad hI σ16 τ16 hR (σ0 1 9) z150 z151 (by omega)) (cwV 3 hts gX7_readOne_X6_add rfl rfl rfl (by decide +kernel) ⟨by decide, by decide⟩) (rv_Sent hK hP (by decide) (by decide)) rfl hl.1 rfl (Nat.le_of_ble_eq_true rfl) dX7_readOne_257 (Nat.zero_le _) (Nat.zero_le _) (fun r152 u152 H152 locs152 hp152 hP hS => ?_)
          obtain ⟨σ152, τ152⟩ := u152
          obtain ⟨hR, f152, fL152, hq152, hp152_0⟩ : P_X6_add σ16 τ16 (σ0 1 9) z150 z151 r152 σ152 τ152 := hp152
          have hP : va_P D vwCl (gw cA ad σ152 τ152) H152 := hP
          obtain rfl := FrL.nil fL152
          have hF := hF.step f152 (by decide)
          have gCT := gCT.ag (Agr.fr f152 (by decide))
          have gWH := gWH.ag (Agr.fr f152 (by decide))
          have t153 : (σ152 1 13).toInt = (σ16 1 13).toInt := congrArg Int32.toInt (f152.at 1 13 (by decide))
          have t154 : (σ152 24 1).toInt = (σ16 24 1).toInt := congrArg Int32.toInt (f152.at 24 1 (by decide))
          have hr155 := rg_6_2 hR (k := 24) (by decide) (by decide)
          exact r_zret hx hb hr hK hP hS hk (by omega) dX7_readOne_260 (show P_X7_readOne_d7 σ0 τ0 a1 b N mo q nn nm hc r152 σ152 τ16 from ⟨hR, hF, hFL, by omega, by first | exact RO.ofr ((one_l (by omega) (by omega) (by omega) (by omega)).trans (lea_n (by omega) (by omega))) (by omega) ⟨gCT, by omega, by omega⟩ | (exfalso; omega) | exact RO.ofk (one_x (by omega)) (by omega) (by omega) (by omega) | exact RO.ofk (one_4 (by omega) (by omega)) (by omega) (by omega) (by omega) | (obtain ⟨f, e1, x1, x2⟩ := o1.no (by omega); exact RO.ofl ((one_n (by omega) (by omega)).trans e1) (by omega) x1 x2) | exact RO.ofr ((one_n (by omega) (by omega)).trans e1) (by omega) ⟨gCT, by omega, by omega⟩ | (obtain ⟨f, e2, x1, x2⟩ := o2.no (by omega); exact RO.ofl (by rw [one_o (by omega) (by omega), e2, bnd_l]) (by omega) x1 x2) | (obtain ⟨f, e3, x1, x2⟩ := o3.no (by omega); exact RO.ofl (by rw [one_o (by omega) (by omega), e2, bnd_r, e3, bnd_l]) (by omega) x1 x2) | exact RO.ofr (by rw [one_o (by omega) (by omega), e2, bnd_r, e3, bnd_r]) (by omega) ⟨gCT, by omega, by omega⟩ | (rw [one_l (by omega) (by omega) (by omega) (by omega)]; exact o4.map (fun s es h => ⟨h.1, h.2.1, by have h2 := h.2.2; have hl := lea_up es; omega⟩)) | (rw [one_l (by omega) (by omega) (by omega) (by omega)]; exact o5.map (fun s es h => ⟨h.1, h.2.1, by have h2 := h.2.2; have hl := lea_up es; omega⟩)), by omega, gWH⟩)
        by_cases c156 : (σ0 1 9).toInt = 42
        · refine lv_tableIn (off := 177) (tgt := 249) hx hb dX7_readOne_72 (by omega) (by omega) (by rw [c156]; rfl) (by decide) ?_
          refine lv_aload_n hx hb dX7_readOne_249 rfl (lv_at hl 1 rfl) ?_
          refine fg_7_2 (k := 27) hx hb hts in_X7_readOne_7 hown hK hP (by decide) (by decide) (hts _ lk_X7_readOne_19) dX7_readOne_250 ?_
          refine lv_iload_n hx hb dX7_readOne_253 rfl (lv_at hl 0 rfl) ?_
          refine r_bipush hx hb dX7_readOne_254 (by decide) (fun z157 ez157 => ?_)
          refine r_iconst hx hb dX7_readOne_256 (by decide) (fun z158 ez158 => ?_)
          refine r_cVi (k := 24) (As := [.int (σ0 1 9), .int z157, .int z158]) (rest := []) ⟨hx, hb, hml, hown, hts⟩ hK hP hN hS (c_X6_add l D cA ad hI σ16 τ16 hR (σ0 1 9) z157 z158 (by omega)) (cwV 3 hts gX7_readOne_X6_add rfl rfl rfl (by decide +kernel) ⟨by decide, by decide⟩) (rv_Sent hK hP (by decide) (by decide)) rfl hl.1 rfl (Nat.le_of_ble_eq_true rfl) dX7_readOne_257 (Nat.zero_le _) (Nat.zero_le _) (fun r159 u159 H159 locs159 hp159 hP hS => ?_)
          obtain ⟨σ159, τ159⟩ := u159
          obtain ⟨hR, f159, fL159, hq159, hp159_0⟩ : P_X6_add σ16 τ16 (σ0 1 9) z157 z158 r159 σ159 τ159 := hp159
          have hP : va_P D vwCl (gw cA ad σ159 τ159) H159 := hP
          obtain rfl := FrL.nil fL159
          have hF := hF.step f159 (by decide)
          have gCT := gCT.ag (Agr.fr f159 (by decide))
          have gWH := gWH.ag (Agr.fr f159 (by decide))
          have t160 : (σ159 1 13).toInt = (σ16 1 13).toInt := congrArg Int32.toInt (f159.at 1 13 (by decide))
          have t161 : (σ159 24 1).toInt = (σ16 24 1).toInt := congrArg Int32.toInt (f159.at 24 1 (by decide))
          have hr162 := rg_6_2 hR (k := 24) (by decide) (by decide)
          exact r_zret hx hb hr hK hP hS hk (by omega) dX7_readOne_260 (show P_X7_readOne_d7 σ0 τ0 a1 b N mo q nn nm hc r159 σ159 τ16 from ⟨hR, hF, hFL, by omega, by first | exact RO.ofr ((one_l (by omega) (by omega) (by omega) (by omega)).trans (lea_n (by omega) (by omega))) (by omega) ⟨gCT, by omega, by omega⟩ | (exfalso; omega) | exact RO.ofk (one_x (by omega)) (by omega) (by omega) (by omega) | exact RO.ofk (one_4 (by omega) (by omega)) (by omega) (by omega) (by omega) | (obtain ⟨f, e1, x1, x2⟩ := o1.no (by omega); exact RO.ofl ((one_n (by omega) (by omega)).trans e1) (by omega) x1 x2) | exact RO.ofr ((one_n (by omega) (by omega)).trans e1) (by omega) ⟨gCT, by omega, by omega⟩ | (obtain ⟨f, e2, x1, x2⟩ := o2.no (by omega); exact RO.ofl (by rw [one_o (by omega) (by omega), e2, bnd_l]) (by omega) x1 x2) | (obtain ⟨f, e3, x1, x2⟩ := o3.no (by omega); exact RO.ofl (by rw [one_o (by omega) (by omega), e2, bnd_r, e3, bnd_l]) (by omega) x1 x2) | exact RO.ofr (by rw [one_o (by omega) (by omega), e2, bnd_r, e3, bnd_r]) (by omega) ⟨gCT, by omega, by omega⟩ | (rw [one_l (by omega) (by omega) (by omega) (by omega)]; exact o4.map (fun s es h => ⟨h.1, h.2.1, by have h2 := h.2.2; have hl := lea_up es; omega⟩)) | (rw [one_l (by omega) (by omega) (by omega) (by omega)]; exact o5.map (fun s es h => ⟨h.1, h.2.1, by have h2 := h.2.2; have hl := lea_up es; omega⟩)), by omega, gWH⟩)
        by_cases c163 : (σ0 1 9).toInt = 43
        · refine lv_tableIn (off := 177) (tgt := 249) hx hb dX7_readOne_72 (by omega) (by omega) (by rw [c163]; rfl) (by decide) ?_
          refine lv_aload_n hx hb dX7_readOne_249 rfl (lv_at hl 1 rfl) ?_
          refine fg_7_2 (k := 27) hx hb hts in_X7_readOne_7 hown hK hP (by decide) (by decide) (hts _ lk_X7_readOne_19) dX7_readOne_250 ?_
          refine lv_iload_n hx hb dX7_readOne_253 rfl (lv_at hl 0 rfl) ?_
          refine r_bipush hx hb dX7_readOne_254 (by decide) (fun z164 ez164 => ?_)
          refine r_iconst hx hb dX7_readOne_256 (by decide) (fun z165 ez165 => ?_)
          refine r_cVi (k := 24) (As := [.int (σ0 1 9), .int z164, .int z165]) (rest := []) ⟨hx, hb, hml, hown, hts⟩ hK hP hN hS (c_X6_add l D cA ad hI σ16 τ16 hR (σ0 1 9) z164 z165 (by omega)) (cwV 3 hts gX7_readOne_X6_add rfl rfl rfl (by decide +kernel) ⟨by decide, by decide⟩) (rv_Sent hK hP (by decide) (by decide)) rfl hl.1 rfl (Nat.le_of_ble_eq_true rfl) dX7_readOne_257 (Nat.zero_le _) (Nat.zero_le _) (fun r166 u166 H166 locs166 hp166 hP hS => ?_)
          obtain ⟨σ166, τ166⟩ := u166
          obtain ⟨hR, f166, fL166, hq166, hp166_0⟩ : P_X6_add σ16 τ16 (σ0 1 9) z164 z165 r166 σ166 τ166 := hp166
          have hP : va_P D vwCl (gw cA ad σ166 τ166) H166 := hP
          obtain rfl := FrL.nil fL166
          have hF := hF.step f166 (by decide)
          have gCT := gCT.ag (Agr.fr f166 (by decide))
          have gWH := gWH.ag (Agr.fr f166 (by decide))
          have t167 : (σ166 1 13).toInt = (σ16 1 13).toInt := congrArg Int32.toInt (f166.at 1 13 (by decide))
          have t168 : (σ166 24 1).toInt = (σ16 24 1).toInt := congrArg Int32.toInt (f166.at 24 1 (by decide))
          have hr169 := rg_6_2 hR (k := 24) (by decide) (by decide)
          exact r_zret hx hb hr hK hP hS hk (by omega) dX7_readOne_260 (show P_X7_readOne_d7 σ0 τ0 a1 b N mo q nn nm hc r166 σ166 τ16 from ⟨hR, hF, hFL, by omega, by first | exact RO.ofr ((one_l (by omega) (by omega) (by omega) (by omega)).trans (lea_n (by omega) (by omega))) (by omega) ⟨gCT, by omega, by omega⟩ | (exfalso; omega) | exact RO.ofk (one_x (by omega)) (by omega) (by omega) (by omega) | exact RO.ofk (one_4 (by omega) (by omega)) (by omega) (by omega) (by omega) | (obtain ⟨f, e1, x1, x2⟩ := o1.no (by omega); exact RO.ofl ((one_n (by omega) (by omega)).trans e1) (by omega) x1 x2) | exact RO.ofr ((one_n (by omega) (by omega)).trans e1) (by omega) ⟨gCT, by omega, by omega⟩ | (obtain ⟨f, e2, x1, x2⟩ := o2.no (by omega); exact RO.ofl (by rw [one_o (by omega) (by omega), e2, bnd_l]) (by omega) x1 x2) | (obtain ⟨f, e3, x1, x2⟩ := o3.no (by omega); exact RO.ofl (by rw [one_o (by omega) (by omega), e2, bnd_r, e3, bnd_l]) (by omega) x1 x2) | exact RO.ofr (by rw [one_o (by omega) (by omega), e2, bnd_r, e3, bnd_r]) (by omega) ⟨gCT, by omega, by omega⟩ | (rw [one_l (by omega) (by omega) (by omega) (by omega)]; exact o4.map (fun s es h => ⟨h.1, h.2.1, by have h2 := h.2.2; have hl := lea_up es; omega⟩)) | (rw [one_l (by omega) (by omega) (by omega) (by omega)]; exact o5.map (fun s es h => ⟨h.1, h.2.1, by have h2 := h.2.2; have hl := lea_up es; omega⟩)), by omega, gWH⟩)
        by_cases c170 : (σ0 1 9).toInt = 44
        · refine lv_tableIn (off := 138) (tgt := 210) hx hb dX7_readOne_72 (by omega) (by omega) (by rw [c170]; rfl) (by decide) ?_
          refine lv_aload_n hx hb dX7_readOne_210 rfl (lv_at hl 1 rfl) ?_
          refine lv_iload_n hx hb dX7_readOne_211 rfl (lv_at hl 2 rfl) ?_
          refine r_iconst hx hb dX7_readOne_212 (by decide) (fun z171 ez171 => ?_)
          refine r_iadd hx hb dX7_readOne_213 (by omega) (fun z172 ez172 => ?_)
          refine r_cVi (k := 27) (As := [.int z172]) (rest := []) ⟨hx, hb, hml, hown, hts⟩ hK hP hN hS (c_X7_readCond_d8 l D cA ad hI σ16 τ16 hR z172 b N mo _ (nn + 1) nm hc (by omega) (by omega) (by omega) (by omega) gCT gWH) (cwV 1 hts gX7_readOne_X7_readCond rfl rfl rfl (by decide +kernel) ⟨by decide, by decide⟩) (rv_SText hK hP (by decide) (by decide)) rfl hl.1 rfl (Nat.le_of_ble_eq_true rfl) dX7_readOne_214 (Nat.zero_le _) (Nat.zero_le _) (fun r173 u173 H173 locs173 hp173 hP hS => ?_)
          obtain ⟨σ173, τ173⟩ := u173
          obtain ⟨hR, f173, fL173, hq173, hp173_0, hp173_1, gnWH⟩ : P_X7_readCond_d8 σ16 τ16 z172 b N mo _ (nn + 1) nm hc r173 σ173 τ173 := hp173
          have o2 := hp173_0
          have hP : va_P D vwCl (gw cA ad σ173 τ173) H173 := hP
          have hFL := hFL.step fL173 (by decide)
          have gWH := gWH.agL (AgrL.fr fL173 (by decide))
          have hF := hF.step f173 (by decide)
          have gWH := gWH.ag (Agr.fr f173 (by decide))
          have hr174 := rg_6_1 hR (k := 24) (by decide) (by decide)
          have hr175 := rg_6_2 hR (k := 24) (by decide) (by decide)
          refine r_if_eq (tgt := 236) hx hb dX7_readOne_217 (by decide) (fun c176 => ?_) (fun c176 => ?_)
          · clear hp173_1
            refine r_iconst hx hb dX7_readOne_236 (by decide) (fun z177 ez177 => ?_)
            exact r_zret hx hb hr hK hP hS hk (by omega) dX7_readOne_237 (show P_X7_readOne_d7 σ0 τ0 a1 b N mo q nn nm hc z177 σ173 τ173 from ⟨hR, hF, hFL, by omega, by first | exact RO.ofr ((one_l (by omega) (by omega) (by omega) (by omega)).trans (lea_n (by omega) (by omega))) (by omega) ⟨gCT, by omega, by omega⟩ | (exfalso; omega) | exact RO.ofk (one_x (by omega)) (by omega) (by omega) (by omega) | exact RO.ofk (one_4 (by omega) (by omega)) (by omega) (by omega) (by omega) | (obtain ⟨f, e1, x1, x2⟩ := o1.no (by omega); exact RO.ofl ((one_n (by omega) (by omega)).trans e1) (by omega) x1 x2) | exact RO.ofr ((one_n (by omega) (by omega)).trans e1) (by omega) ⟨gCT, by omega, by omega⟩ | (obtain ⟨f, e2, x1, x2⟩ := o2.no (by omega); exact RO.ofl (by rw [one_o (by omega) (by omega), e2, bnd_l]) (by omega) x1 x2) | (obtain ⟨f, e3, x1, x2⟩ := o3.no (by omega); exact RO.ofl (by rw [one_o (by omega) (by omega), e2, bnd_r, e3, bnd_l]) (by omega) x1 x2) | exact RO.ofr (by rw [one_o (by omega) (by omega), e2, bnd_r, e3, bnd_r]) (by omega) ⟨gCT, by omega, by omega⟩ | (rw [one_l (by omega) (by omega) (by omega) (by omega)]; exact o4.map (fun s es h => ⟨h.1, h.2.1, by have h2 := h.2.2; have hl := lea_up es; omega⟩)) | (rw [one_l (by omega) (by omega) (by omega) (by omega)]; exact o5.map (fun s es h => ⟨h.1, h.2.1, by have h2 := h.2.2; have hl := lea_up es; omega⟩)), by omega, gWH⟩)
          · replace hp173_1 := hp173_1.resolve_left (by omega)
            obtain ⟨s2, e2, gCT, hs1, hs2⟩ := o2.ye (by omega)
            have hu2 := con_up (one_up _) _ _ _ e2
            refine lv_aload_n hx hb dX7_readOne_220 rfl (lv_at hl 1 rfl) ?_
            refine fg_7_0 (k := 27) hx hb hts in_X7_readOne_7 hown hK hP (by decide) (by decide) (hts _ lk_X7_readOne_9) dX7_readOne_221 ?_
            refine r_bipush hx hb dX7_readOne_224 (by decide) (fun z178 ez178 => ?_)
            refine r_cVi (k := 1) (As := [.int z178]) (rest := []) ⟨hx, hb, hml, hown, hts⟩ hK hP hN hS (c_X8_take_v l D cA ad hI σ173 τ173 hR z178 b N mo _ 45 (by omega) (by omega) gCT) (cwV 1 hts gX7_readOne_X8_take rfl rfl rfl (by decide +kernel) ⟨by decide, by decide⟩) (rv_Tape hK hP (by decide) (by decide)) rfl hl.1 rfl (Nat.le_of_ble_eq_true rfl) dX7_readOne_226 (Nat.zero_le _) (Nat.zero_le _) (fun r179 u179 H179 locs179 hp179 hP hS => ?_)
            obtain ⟨σ179, τ179⟩ := u179
            obtain ⟨hR, f179, fL179, hq179, hp179_0, hp179_1⟩ : P_X8_take_v σ173 τ173 z178 b N mo _ 45 r179 σ179 τ179 := hp179
            have o3 := hp179_0
            have hP : va_P D vwCl (gw cA ad σ179 τ179) H179 := hP
            have hFL := hFL.step fL179 (by decide)
            have gWH := gWH.agL (AgrL.fr fL179 (by decide))
            have hF := hF.step f179 (by decide)
            have gWH := gWH.ag (Agr.fr f179 (by decide))
            have t180 : (σ179 24 1).toInt = (σ173 24 1).toInt := congrArg Int32.toInt (f179.at 24 1 (by decide))
            have t181 : (σ179 24 2).toInt = (σ173 24 2).toInt := congrArg Int32.toInt (f179.at 24 2 (by decide))
            refine r_if_eq (tgt := 236) hx hb dX7_readOne_229 (by decide) (fun c182 => ?_) (fun c182 => ?_)
            · clear hp179_1
              refine r_iconst hx hb dX7_readOne_236 (by decide) (fun z183 ez183 => ?_)
              exact r_zret hx hb hr hK hP hS hk (by omega) dX7_readOne_237 (show P_X7_readOne_d7 σ0 τ0 a1 b N mo q nn nm hc z183 σ179 τ179 from ⟨hR, hF, hFL, by omega, by first | exact RO.ofr ((one_l (by omega) (by omega) (by omega) (by omega)).trans (lea_n (by omega) (by omega))) (by omega) ⟨gCT, by omega, by omega⟩ | (exfalso; omega) | exact RO.ofk (one_x (by omega)) (by omega) (by omega) (by omega) | exact RO.ofk (one_4 (by omega) (by omega)) (by omega) (by omega) (by omega) | (obtain ⟨f, e1, x1, x2⟩ := o1.no (by omega); exact RO.ofl ((one_n (by omega) (by omega)).trans e1) (by omega) x1 x2) | exact RO.ofr ((one_n (by omega) (by omega)).trans e1) (by omega) ⟨gCT, by omega, by omega⟩ | (obtain ⟨f, e2, x1, x2⟩ := o2.no (by omega); exact RO.ofl (by rw [one_o (by omega) (by omega), e2, bnd_l]) (by omega) x1 x2) | (obtain ⟨f, e3, x1, x2⟩ := o3.no (by omega); exact RO.ofl (by rw [one_o (by omega) (by omega), e2, bnd_r, e3, bnd_l]) (by omega) x1 x2) | exact RO.ofr (by rw [one_o (by omega) (by omega), e2, bnd_r, e3, bnd_r]) (by omega) ⟨gCT, by omega, by omega⟩ | (rw [one_l (by omega) (by omega) (by omega) (by omega)]; exact o4.map (fun s es h => ⟨h.1, h.2.1, by have h2 := h.2.2; have hl := lea_up es; omega⟩)) | (rw [one_l (by omega) (by omega) (by omega) (by omega)]; exact o5.map (fun s es h => ⟨h.1, h.2.1, by have h2 := h.2.2; have hl := lea_up es; omega⟩)), by omega, gWH⟩)
            · replace hp179_1 := hp179_1.resolve_left (by omega)
              obtain ⟨q3, e3, gCT⟩ := o3.ye (by omega)
              refine r_iconst hx hb dX7_readOne_232 (by decide) (fun z184 ez184 => ?_)
              refine lv_goto (tgt := 237) hx hb dX7_readOne_233 (by decide) ?_
              exact r_zret hx hb hr hK hP hS hk (by omega) dX7_readOne_237 (show P_X7_readOne_d7 σ0 τ0 a1 b N mo q nn nm hc z184 σ179 τ179 from ⟨hR, hF, hFL, by omega, by first | exact RO.ofr ((one_l (by omega) (by omega) (by omega) (by omega)).trans (lea_n (by omega) (by omega))) (by omega) ⟨gCT, by omega, by omega⟩ | (exfalso; omega) | exact RO.ofk (one_x (by omega)) (by omega) (by omega) (by omega) | exact RO.ofk (one_4 (by omega) (by omega)) (by omega) (by omega) (by omega) | (obtain ⟨f, e1, x1, x2⟩ := o1.no (by omega); exact RO.ofl ((one_n (by omega) (by omega)).trans e1) (by omega) x1 x2) | exact RO.ofr ((one_n (by omega) (by omega)).trans e1) (by omega) ⟨gCT, by omega, by omega⟩ | (obtain ⟨f, e2, x1, x2⟩ := o2.no (by omega); exact RO.ofl (by rw [one_o (by omega) (by omega), e2, bnd_l]) (by omega) x1 x2) | (obtain ⟨f, e3, x1, x2⟩ := o3.no (by omega); exact RO.ofl (by rw [one_o (by omega) (by omega), e2, bnd_r, e3, bnd_l]) (by omega) x1 x2) | exact RO.ofr (by rw [one_o (by omega) (by omega), e2, bnd_r, e3, bnd_r]) (by omega) ⟨gCT, by omega, by omega⟩ | (rw [one_l (by omega) (by omega) (by omega) (by omega)]; exact o4.map (fun s es h => ⟨h.1, h.2.1, by have h2 := h.2.2; have hl := lea_up es; omega⟩)) | (rw [one_l (by omega) (by omega) (by omega) (by omega)]; exact o5.map (fun s es h => ⟨h.1, h.2.1, by have h2 := h.2.2; have hl := lea_up es; omega⟩)), by omega, gWH⟩)
        refine lv_tableOut (tgt := 249) hx hb dX7_readOne_72 (by omega) (by decide) ?_
        refine lv_aload_n hx hb dX7_readOne_249 rfl (lv_at hl 1 rfl) ?_
        refine fg_7_2 (k := 27) hx hb hts in_X7_readOne_7 hown hK hP (by decide) (by decide) (hts _ lk_X7_readOne_19) dX7_readOne_250 ?_
        refine lv_iload_n hx hb dX7_readOne_253 rfl (lv_at hl 0 rfl) ?_
        refine r_bipush hx hb dX7_readOne_254 (by decide) (fun z185 ez185 => ?_)
        refine r_iconst hx hb dX7_readOne_256 (by decide) (fun z186 ez186 => ?_)
        refine r_cVi (k := 24) (As := [.int (σ0 1 9), .int z185, .int z186]) (rest := []) ⟨hx, hb, hml, hown, hts⟩ hK hP hN hS (c_X6_add l D cA ad hI σ16 τ16 hR (σ0 1 9) z185 z186 (by omega)) (cwV 3 hts gX7_readOne_X6_add rfl rfl rfl (by decide +kernel) ⟨by decide, by decide⟩) (rv_Sent hK hP (by decide) (by decide)) rfl hl.1 rfl (Nat.le_of_ble_eq_true rfl) dX7_readOne_257 (Nat.zero_le _) (Nat.zero_le _) (fun r187 u187 H187 locs187 hp187 hP hS => ?_)
        obtain ⟨σ187, τ187⟩ := u187
        obtain ⟨hR, f187, fL187, hq187, hp187_0⟩ : P_X6_add σ16 τ16 (σ0 1 9) z185 z186 r187 σ187 τ187 := hp187
        have hP : va_P D vwCl (gw cA ad σ187 τ187) H187 := hP
        obtain rfl := FrL.nil fL187
        have hF := hF.step f187 (by decide)
        have gCT := gCT.ag (Agr.fr f187 (by decide))
        have gWH := gWH.ag (Agr.fr f187 (by decide))
        have t188 : (σ187 1 13).toInt = (σ16 1 13).toInt := congrArg Int32.toInt (f187.at 1 13 (by decide))
        have t189 : (σ187 24 1).toInt = (σ16 24 1).toInt := congrArg Int32.toInt (f187.at 24 1 (by decide))
        have hr190 := rg_6_2 hR (k := 24) (by decide) (by decide)
        exact r_zret hx hb hr hK hP hS hk (by omega) dX7_readOne_260 (show P_X7_readOne_d7 σ0 τ0 a1 b N mo q nn nm hc r187 σ187 τ16 from ⟨hR, hF, hFL, by omega, by first | exact RO.ofr ((one_l (by omega) (by omega) (by omega) (by omega)).trans (lea_n (by omega) (by omega))) (by omega) ⟨gCT, by omega, by omega⟩ | (exfalso; omega) | exact RO.ofk (one_x (by omega)) (by omega) (by omega) (by omega) | exact RO.ofk (one_4 (by omega) (by omega)) (by omega) (by omega) (by omega) | (obtain ⟨f, e1, x1, x2⟩ := o1.no (by omega); exact RO.ofl ((one_n (by omega) (by omega)).trans e1) (by omega) x1 x2) | exact RO.ofr ((one_n (by omega) (by omega)).trans e1) (by omega) ⟨gCT, by omega, by omega⟩ | (obtain ⟨f, e2, x1, x2⟩ := o2.no (by omega); exact RO.ofl (by rw [one_o (by omega) (by omega), e2, bnd_l]) (by omega) x1 x2) | (obtain ⟨f, e3, x1, x2⟩ := o3.no (by omega); exact RO.ofl (by rw [one_o (by omega) (by omega), e2, bnd_r, e3, bnd_l]) (by omega) x1 x2) | exact RO.ofr (by rw [one_o (by omega) (by omega), e2, bnd_r, e3, bnd_r]) (by omega) ⟨gCT, by omega, by omega⟩ | (rw [one_l (by omega) (by omega) (by omega) (by omega)]; exact o4.map (fun s es h => ⟨h.1, h.2.1, by have h2 := h.2.2; have hl := lea_up es; omega⟩)) | (rw [one_l (by omega) (by omega) (by omega) (by omega)]; exact o5.map (fun s es h => ⟨h.1, h.2.1, by have h2 := h.2.2; have hl := lea_up es; omega⟩)), by omega, gWH⟩)
      · exfalso; omega
  · refine lv_aload_n hx hb dX7_readOne_15 rfl (lv_at hl 1 rfl) ?_
    refine fg_7_0 (k := 27) hx hb hts in_X7_readOne_7 hown hK hP (by decide) (by decide) (hts _ lk_X7_readOne_9) dX7_readOne_16 ?_
    refine r_iconst hx hb dX7_readOne_19 (by decide) (fun z191 ez191 => ?_)
    refine r_cVi (k := 1) (As := [.int z191]) (rest := []) ⟨hx, hb, hml, hown, hts⟩ hK hP hN hS (c_X8_blame_v l D cA ad hI σ0 τ0 hR z191 _ _ _ _ (by omega) gCT) (cwV 1 hts gX7_readOne_X8_blame rfl rfl rfl (by decide +kernel) ⟨by decide, by decide⟩) (rv_Tape hK hP (by decide) (by decide)) rfl hl.1 rfl (Nat.le_of_ble_eq_true rfl) dX7_readOne_20 (Nat.zero_le _) (Nat.zero_le _) (fun r192 u192 H192 locs192 hp192 hP hS => ?_)
    obtain ⟨σ192, τ192⟩ := u192
    obtain ⟨hR, f192, fL192, hq192, hp192_0, hp192_1, hp192_2, gnCT⟩ : P_X8_blame_v σ0 τ0 z191 _ _ _ _ r192 σ192 τ192 := hp192
    have hP : va_P D vwCl (gw cA ad σ192 τ192) H192 := hP
    obtain rfl := FrL.nil fL192
    have hF := hF.step f192 (by decide)
    have gCT := gCT.ag (Agr.fr f192 (by decide))
    have gWH := gWH.ag (Agr.fr f192 (by decide))
    have t193 : (σ192 24 1).toInt = (σ0 24 1).toInt := congrArg Int32.toInt (f192.at 24 1 (by decide))
    have t194 : (σ192 24 2).toInt = (σ0 24 2).toInt := congrArg Int32.toInt (f192.at 24 2 (by decide))
    exact r_zret hx hb hr hK hP hS hk (by omega) dX7_readOne_23 (show P_X7_readOne_d7 σ0 τ0 a1 b N mo q nn nm hc r192 σ192 τ0 from ⟨hR, hF, hFL, by omega, by first | exact RO.ofr ((one_l (by omega) (by omega) (by omega) (by omega)).trans (lea_n (by omega) (by omega))) (by omega) ⟨gCT, by omega, by omega⟩ | (exfalso; omega) | exact RO.ofk (one_x (by omega)) (by omega) (by omega) (by omega) | exact RO.ofk (one_4 (by omega) (by omega)) (by omega) (by omega) (by omega) | (obtain ⟨f, e1, x1, x2⟩ := o1.no (by omega); exact RO.ofl ((one_n (by omega) (by omega)).trans e1) (by omega) x1 x2) | exact RO.ofr ((one_n (by omega) (by omega)).trans e1) (by omega) ⟨gCT, by omega, by omega⟩ | (obtain ⟨f, e2, x1, x2⟩ := o2.no (by omega); exact RO.ofl (by rw [one_o (by omega) (by omega), e2, bnd_l]) (by omega) x1 x2) | (obtain ⟨f, e3, x1, x2⟩ := o3.no (by omega); exact RO.ofl (by rw [one_o (by omega) (by omega), e2, bnd_r, e3, bnd_l]) (by omega) x1 x2) | exact RO.ofr (by rw [one_o (by omega) (by omega), e2, bnd_r, e3, bnd_r]) (by omega) ⟨gCT, by omega, by omega⟩ | (rw [one_l (by omega) (by omega) (by omega) (by omega)]; exact o4.map (fun s es h => ⟨h.1, h.2.1, by have h2 := h.2.2; have hl := lea_up es; omega⟩)) | (rw [one_l (by omega) (by omega) (by omega) (by omega)]; exact o5.map (fun s es h => ⟨h.1, h.2.1, by have h2 := h.2.2; have hl := lea_up es; omega⟩)), by omega, gWH⟩)
abbrev L_X7_readAll_d7 : List Rc := [(1, 1, 7, 10), (372, 372, 0, 39), (376, 376, 0, 39), (380, 380, 0, 39), (24, 24, 1, 2), (1, 1, 12, 14)]
abbrev LL_X7_readAll_d7 : List Rc := [(1, 1, 11, 11)]
def P_X7_readAll_d7 (σ0 : Nat → Nat → Int32) (τ0 : Nat → Nat → Int64) (a1 : Int32) (b : Nat → Int) (N : Nat) (mo : Nat) (q : Nat) (nn : Nat) (nm : Nat → Int) (hc : Nat) (r : Int32) (σ : Nat → Nat → Int32) (τ : Nat → Nat → Int64) : Prop := Rg σ ∧ Fr L_X7_readAll_d7 σ0 σ ∧ FrL LL_X7_readAll_d7 τ0 τ ∧ (0 ≤ r.toInt ∧ r.toInt ≤ 1) ∧ (RO r σ (allP b N mo (fun q nn => oneP b N mo nm hc 2 q nn) q nn) (fun s => CT σ τ b N mo s.1 ∧ (σ 24 1).toInt = (s.2 : Int) ∧ (σ 24 2).toInt + 2 * (nn : Int) + 1 ≤ (σ0 24 2).toInt + 2 * (s.2 : Int))) ∧ (r.toInt = 0 ∨ (σ 1 13).toInt = (σ0 1 13).toInt) ∧ WH σ τ nm hc
def J_X7_readAll_d7_12 (p : Program) (l : Launch) (e : Env) (s : State) (m : MethodId) (args : Array Value) (below : List Frame) (meth : Method) (c : Code) (D : va_G) (cA : Nat → ClassId) (ad : Nat → Nat) (σ0 : Nat → Nat → Int32) (τ0 : Nat → Nat → Int64) (a1 : Int32) (b : Nat → Int) (N : Nat) (mo : Nat) (q : Nat) (nn : Nat) (nm : Nat → Int) (hc : Nat) (n : Nat) : Prop := ∀ (σ : Nat → Nat → Int32) (τ : Nat → Nat → Int64) (H : Heap) (locs : List Loc) (x2 : Int32) (fu : Nat) (q1 : Nat) (n1 : Nat) (ls : Array Slot), Rg σ → Fr L_X7_readAll_d7 σ0 σ → FrL LL_X7_readAll_d7 τ0 τ → va_P D vwCl (gw cA ad σ τ) H → va_S (AA ad) s.heap H locs → (0 ≤ x2.toInt ∧ x2.toInt ≤ 200) → (0 ≤ (σ 24 1).toInt ∧ (σ 24 1).toInt ≤ 20) → (0 ≤ (σ 24 2).toInt ∧ (σ 24 2).toInt ≤ 40) → (allP b N mo (fun q nn => oneP b N mo nm hc 2 q nn) q nn = lopP b N mo 21 (fun q nn => oneP b N mo nm hc 2 q nn) fu q1 n1) → ((σ 24 1).toInt = (n1 : Int)) → (0 ≤ (σ 24 2).toInt ∧ (σ 24 2).toInt + 2 * (nn : Int) + 1 ≤ (σ0 24 2).toInt + 2 * (n1 : Int)) → ((fu : Int) + x2.toInt = 200) → (n1 ≤ 20) → ((σ 1 13).toInt = (σ0 1 13).toInt) → (CT σ τ b N mo q1) → (WH σ τ nm hc) → (CT σ τ b N mo q1) → lv_has ls 3 [(0, .ref (ad 27)), (1, .int a1), (2, .int x2)] → 2 * (200 - x2.toInt) + 1 < (n : Int) → W p l e ({ frames := 8, cells := 0, slots := 0, locals := 175 } : Room) s m args below meth c H locs 0 0 (MQ below (va_Qi (fun (r : Int32) (u : SS) => P_X7_readAll_d7 σ0 τ0 a1 b N mo q nn nm hc r u.1 u.2) (WB D cA ad) (AA ad)) args s 0 0 (AA ad)) (F0 m 12 ls [])
set_option maxHeartbeats 4000000 in
theorem B_X7_readAll_d7_12 (p : Program) (l : Launch) (e : Env) (s : State) (m : MethodId) (args : Array Value) (below : List Frame) (meth : Method) (c : Code) (D : va_G) (cA : Nat → ClassId) (ad : Nat → Nat) (σ0 : Nat → Nat → Int32) (τ0 : Nat → Nat → Int64) (a1 : Int32) (b : Nat → Int) (N : Nat) (mo : Nat) (q : Nat) (nn : Nat) (nm : Nat → Int) (hc : Nat) (n : Nat) (C : Cy p s m args meth c cX7_readAll 3 wsX7_readAll RX7 D cA ad (some .boolean)) (ha1 : 7 ≤ a1.toInt ∧ a1.toInt ≤ 7) (hpre0 : (σ0 24 1).toInt = (nn : Int)) (hpre1 : 0 ≤ (σ0 24 2).toInt ∧ (σ0 24 2).toInt ≤ 2 * (nn : Int)) (hpre2 : nn ≤ 20) (gCT0 : CT σ0 τ0 b N mo q) (gWH0 : WH σ0 τ0 nm hc) (K12 : J_X7_readAll_d7_12 p l e s m args below meth c D cA ad σ0 τ0 a1 b N mo q nn nm hc n) : J_X7_readAll_d7_12 p l e s m args below meth c D cA ad σ0 τ0 a1 b N mo q nn nm hc (n + 1) := by
  obtain ⟨hx, hb, hml, hown, hts, hK, hk, hr, hI, hN⟩ := C
  intro σ τ H locs x2 fu q1 n1 ls hR hF hFL hP hS hc0 hc1 hc2 iv ib2 ib3 ifu in20 ik13 gCT gWH gCT hl hm
  refine lv_iload_n hx hb dX7_readAll_12 rfl (lv_at hl 2 rfl) ?_
  refine r_sipush hx hb dX7_readAll_13 (by decide) (fun z1 ez1 => ?_)
  refine r_icmp_ge (tgt := 68) hx hb dX7_readAll_16 (by decide) (fun c2 => ?_) (fun c2 => ?_)
  · refine r_iconst hx hb dX7_readAll_68 (by decide) (fun z3 ez3 => ?_)
    exact r_zret hx hb hr hK hP hS hk (by omega) dX7_readAll_69 (show P_X7_readAll_d7 σ0 τ0 a1 b N mo q nn nm hc z3 σ τ from ⟨hR, hF, hFL, by omega, by first | (exfalso; omega) | (obtain ⟨f, e1, x1, x2⟩ := o1.no (by omega); exact RO.ofl (all_f e1) (by omega) x1 x2) | exact RO.ofr (by rw [iv, lop_e (by omega)]) (by omega) ⟨gCT, by omega, by omega⟩ | (obtain ⟨f, e2, x1, x2⟩ := o2.no (by omega); exact RO.ofl (by rw [iv, lop_f (f := (fun q nn => oneP b N mo nm hc 2 q nn)) (by omega) (by omega) e2]) (by omega) x1 x2) | (exfalso; omega), by omega, gWH⟩)
  · have htk := gCT.tk
    refine lv_aload_n hx hb dX7_readAll_19 rfl (lv_at hl 0 rfl) ?_
    refine fg_7_0 (k := 27) hx hb hts in_X7_readAll_7 hown hK hP (by decide) (by decide) (hts _ lk_X7_readAll_9) dX7_readAll_20 ?_
    refine fgN_8_9 (k := 1) hx hb hts in_X7_readAll_8 hown hK hP (by decide) (by decide) (hN.use nw_7_32) dX7_readAll_23 ?_
    refine r_bipush hx hb dX7_readAll_26 (by decide) (fun z4 ez4 => ?_)
    refine r_icmp_ne (tgt := 68) hx hb dX7_readAll_28 (by decide) (fun c5 => ?_) (fun c5 => ?_)
    · refine r_iconst hx hb dX7_readAll_68 (by decide) (fun z6 ez6 => ?_)
      exact r_zret hx hb hr hK hP hS hk (by omega) dX7_readAll_69 (show P_X7_readAll_d7 σ0 τ0 a1 b N mo q nn nm hc z6 σ τ from ⟨hR, hF, hFL, by omega, by first | (exfalso; omega) | (obtain ⟨f, e1, x1, x2⟩ := o1.no (by omega); exact RO.ofl (all_f e1) (by omega) x1 x2) | exact RO.ofr (by rw [iv, lop_e (by omega)]) (by omega) ⟨gCT, by omega, by omega⟩ | (obtain ⟨f, e2, x1, x2⟩ := o2.no (by omega); exact RO.ofl (by rw [iv, lop_f (f := (fun q nn => oneP b N mo nm hc 2 q nn)) (by omega) (by omega) e2]) (by omega) x1 x2) | (exfalso; omega), by omega, gWH⟩)
    · refine lv_aload_n hx hb dX7_readAll_31 rfl (lv_at hl 0 rfl) ?_
      refine fg_7_0 (k := 27) hx hb hts in_X7_readAll_7 hown hK hP (by decide) (by decide) (hts _ lk_X7_readAll_9) dX7_readAll_32 ?_
      refine r_cVv (k := 1) (As := []) (rest := []) ⟨hx, hb, hml, hown, hts⟩ hK hP hN hS (c_X8_next_v l D cA ad hI σ τ hR _ _ _ _ gCT) (cwV 0 hts gX7_readAll_X8_next rfl rfl rfl (by decide +kernel) ⟨by decide, by decide⟩) (rv_Tape hK hP (by decide) (by decide)) rfl hl.1 rfl (Nat.le_of_ble_eq_true rfl) dX7_readAll_35 (Nat.zero_le _) (Nat.zero_le _) (fun u7 H7 locs7 hp7 hP hS => ?_)
      obtain ⟨σ7, τ7⟩ := u7
      obtain ⟨hR, f7, fL7, hp7_0⟩ : P_X8_next_v σ τ _ _ _ _ σ7 τ7 := hp7
      have hP : va_P D vwCl (gw cA ad σ7 τ7) H7 := hP
      have hFL := hFL.step fL7 (by decide)
      have gWH := gWH.agL (AgrL.fr fL7 (by decide))
      have hF := hF.step f7 (by decide)
      have gWH := gWH.ag (Agr.fr f7 (by decide))
      have t8 : (σ7 24 1).toInt = (σ 24 1).toInt := congrArg Int32.toInt (f7.at 24 1 (by decide))
      have t9 : (σ7 24 2).toInt = (σ 24 2).toInt := congrArg Int32.toInt (f7.at 24 2 (by decide))
      have t10 : (σ7 1 13).toInt = (σ 1 13).toInt := congrArg Int32.toInt (f7.at 1 13 (by decide))
      have gCT := hp7_0
      refine lv_aload_n hx hb dX7_readAll_38 rfl (lv_at hl 0 rfl) ?_
      refine lv_iload_n hx hb dX7_readAll_39 rfl (lv_at hl 1 rfl) ?_
      refine r_cVi (k := 27) (As := [.int a1]) (rest := []) ⟨hx, hb, hml, hown, hts⟩ hK hP hN hS (c_X7_readOne_d7 l D cA ad hI σ7 τ7 hR a1 b N mo _ n1 nm hc (by omega) (by omega) (by omega) (by omega) gCT gWH) (cwV 1 hts gX7_readAll_X7_readOne rfl rfl rfl (by decide +kernel) ⟨by decide, by decide⟩) (rv_SText hK hP (by decide) (by decide)) rfl hl.1 rfl (Nat.le_of_ble_eq_true rfl) dX7_readAll_40 (Nat.zero_le _) (Nat.zero_le _) (fun r11 u11 H11 locs11 hp11 hP hS => ?_)
      obtain ⟨σ11, τ11⟩ := u11
      obtain ⟨hR, f11, fL11, hq11, hp11_0, hp11_1, gnWH⟩ : P_X7_readOne_d7 σ7 τ7 a1 b N mo _ n1 nm hc r11 σ11 τ11 := hp11
      have o2 := hp11_0
      have hP : va_P D vwCl (gw cA ad σ11 τ11) H11 := hP
      have hFL := hFL.step fL11 (by decide)
      have gWH := gWH.agL (AgrL.fr fL11 (by decide))
      have hF := hF.step f11 (by decide)
      have gWH := gWH.ag (Agr.fr f11 (by decide))
      have hr12 := rg_6_1 hR (k := 24) (by decide) (by decide)
      have hr13 := rg_6_2 hR (k := 24) (by decide) (by decide)
      refine r_if_eq (tgt := 60) hx hb dX7_readAll_43 (by decide) (fun c14 => ?_) (fun c14 => ?_)
      · clear hp11_1
        refine r_iconst hx hb dX7_readAll_60 (by decide) (fun z15 ez15 => ?_)
        exact r_zret hx hb hr hK hP hS hk (by omega) dX7_readAll_61 (show P_X7_readAll_d7 σ0 τ0 a1 b N mo q nn nm hc z15 σ11 τ11 from ⟨hR, hF, hFL, by omega, by first | (exfalso; omega) | (obtain ⟨f, e1, x1, x2⟩ := o1.no (by omega); exact RO.ofl (all_f e1) (by omega) x1 x2) | exact RO.ofr (by rw [iv, lop_e (by omega)]) (by omega) ⟨gCT, by omega, by omega⟩ | (obtain ⟨f, e2, x1, x2⟩ := o2.no (by omega); exact RO.ofl (by rw [iv, lop_f (f := (fun q nn => oneP b N mo nm hc 2 q nn)) (by omega) (by omega) e2]) (by omega) x1 x2) | (exfalso; omega), by omega, gWH⟩)
      · replace hp11_1 := hp11_1.resolve_left (by omega)
        obtain ⟨s2, e2, gCT, hs3, hs4⟩ := o2.ye (by omega)
        have hu2 := one_up _ _ _ _ e2
        refine lv_aload_n hx hb dX7_readAll_46 rfl (lv_at hl 0 rfl) ?_
        refine fg_7_2 (k := 27) hx hb hts in_X7_readAll_7 hown hK hP (by decide) (by decide) (hts _ lk_X7_readAll_19) dX7_readAll_47 ?_
        refine r_bipush hx hb dX7_readAll_50 (by decide) (fun z16 ez16 => ?_)
        refine r_iconst hx hb dX7_readAll_52 (by decide) (fun z17 ez17 => ?_)
        refine r_iconst hx hb dX7_readAll_53 (by decide) (fun z18 ez18 => ?_)
        refine r_cVi (k := 24) (As := [.int z16, .int z17, .int z18]) (rest := []) ⟨hx, hb, hml, hown, hts⟩ hK hP hN hS (c_X6_add l D cA ad hI σ11 τ11 hR z16 z17 z18 (by omega)) (cwV 3 hts gX7_readAll_X6_add rfl rfl rfl (by decide +kernel) ⟨by decide, by decide⟩) (rv_Sent hK hP (by decide) (by decide)) rfl hl.1 rfl (Nat.le_of_ble_eq_true rfl) dX7_readAll_54 (Nat.zero_le _) (Nat.zero_le _) (fun r19 u19 H19 locs19 hp19 hP hS => ?_)
        obtain ⟨σ19, τ19⟩ := u19
        obtain ⟨hR, f19, fL19, hq19, hp19_0⟩ : P_X6_add σ11 τ11 z16 z17 z18 r19 σ19 τ19 := hp19
        have hP : va_P D vwCl (gw cA ad σ19 τ19) H19 := hP
        obtain rfl := FrL.nil fL19
        have hF := hF.step f19 (by decide)
        have gCT := gCT.ag (Agr.fr f19 (by decide))
        have gWH := gWH.ag (Agr.fr f19 (by decide))
        have t20 : (σ19 24 1).toInt = (σ11 24 1).toInt := congrArg Int32.toInt (f19.at 24 1 (by decide))
        have t21 : (σ19 1 13).toInt = (σ11 1 13).toInt := congrArg Int32.toInt (f19.at 1 13 (by decide))
        have hr22 := rg_6_2 hR (k := 24) (by decide) (by decide)
        refine r_if_ne (tgt := 62) hx hb dX7_readAll_57 (by decide) (fun c23 => ?_) (fun c23 => ?_)
        · refine r_iinc (k := 2) (lv1 := fun z24 => [(2, .int z24), (0, .ref (ad 27)), (1, .int a1)]) hx hb dX7_readAll_62 hl rfl (by decide) (fun _ => rfl) (by decide) (by omega) (fun z24 ls ez24 hl => ?_)
          refine lv_goto (tgt := 12) hx hb dX7_readAll_65 (by decide) ?_
          exact K12 σ19 τ11 H19 locs19 z24 (fu - 1) _ _ ls hR hF hFL hP hS (by omega) (by omega) (by omega) (by first | exact all_s e1 | rw [iv, lop_s (f := (fun q nn => oneP b N mo nm hc 2 q nn)) (by omega) (by omega) e2]) (by omega) (by omega) (by omega) (by omega) (by omega) gCT gWH gCT (lv_sub hl [1, 2, 0] rfl) (by omega)
        · refine r_iconst hx hb dX7_readAll_60 (by decide) (fun z25 ez25 => ?_)
          exact r_zret hx hb hr hK hP hS hk (by omega) dX7_readAll_61 (show P_X7_readAll_d7 σ0 τ0 a1 b N mo q nn nm hc z25 σ19 τ11 from ⟨hR, hF, hFL, by omega, by first | (exfalso; omega) | (obtain ⟨f, e1, x1, x2⟩ := o1.no (by omega); exact RO.ofl (all_f e1) (by omega) x1 x2) | exact RO.ofr (by rw [iv, lop_e (by omega)]) (by omega) ⟨gCT, by omega, by omega⟩ | (obtain ⟨f, e2, x1, x2⟩ := o2.no (by omega); exact RO.ofl (by rw [iv, lop_f (f := (fun q nn => oneP b N mo nm hc 2 q nn)) (by omega) (by omega) e2]) (by omega) x1 x2) | (exfalso; omega), by omega, gWH⟩)
theorem A_X7_readAll_d7 (p : Program) (l : Launch) (e : Env) (s : State) (m : MethodId) (args : Array Value) (below : List Frame) (meth : Method) (c : Code) (D : va_G) (cA : Nat → ClassId) (ad : Nat → Nat) (σ0 : Nat → Nat → Int32) (τ0 : Nat → Nat → Int64) (a1 : Int32) (b : Nat → Int) (N : Nat) (mo : Nat) (q : Nat) (nn : Nat) (nm : Nat → Int) (hc : Nat) (C : Cy p s m args meth c cX7_readAll 3 wsX7_readAll RX7 D cA ad (some .boolean)) (ha1 : 7 ≤ a1.toInt ∧ a1.toInt ≤ 7) (hpre0 : (σ0 24 1).toInt = (nn : Int)) (hpre1 : 0 ≤ (σ0 24 2).toInt ∧ (σ0 24 2).toInt ≤ 2 * (nn : Int)) (hpre2 : nn ≤ 20) (gCT0 : CT σ0 τ0 b N mo q) (gWH0 : WH σ0 τ0 nm hc) : ∀ n : Nat, J_X7_readAll_d7_12 p l e s m args below meth c D cA ad σ0 τ0 a1 b N mo q nn nm hc n := by
  intro n
  induction n with
  | zero =>
    exact (by intro σ τ H locs x2 fu q1 n1 ls hR hF hFL hP hS hc0 hc1 hc2 iv ib2 ib3 ifu in20 ik13 gCT gWH gCT hl hm; exfalso; omega)
  | succ n ih =>
    exact B_X7_readAll_d7_12 p l e s m args below meth c D cA ad σ0 τ0 a1 b N mo q nn nm hc n C ha1 hpre0 hpre1 hpre2 gCT0 gWH0 ih
set_option maxHeartbeats 4000000 in
theorem c_X7_readAll_d7 (l : Launch) (D : va_G) (cA : Nat → ClassId) (ad : Nat → Nat) (hI : Inj ad) (σ0 : Nat → Nat → Int32) (τ0 : Nat → Nat → Int64) (hR : Rg σ0) (a1 : Int32) (b : Nat → Int) (N : Nat) (mo : Nat) (q : Nat) (nn : Nat) (nm : Nat → Int) (hc : Nat) (ha1 : 7 ≤ a1.toInt ∧ a1.toInt ≤ 7) (hpre0 : (σ0 24 1).toInt = (nn : Int)) (hpre1 : 0 ≤ (σ0 24 2).toInt ∧ (σ0 24 2).toInt ≤ 2 * (nn : Int)) (hpre2 : nn ≤ 20) (gCT0 : CT σ0 τ0 b N mo q) (gWH0 : WH σ0 τ0 nm hc) : Met l yX7_readAll wsX7_readAll ({ frames := 8, cells := 0, slots := 0, locals := 175 } : Room) (WQc D cA ad [.ref (ad 27), .int a1] σ0 τ0) (va_Qi (fun (r : Int32) (u : SS) => P_X7_readAll_d7 σ0 τ0 a1 b N mo q nn nm hc r u.1 u.2) (WB D cA ad) (AA ad)) 0 0 (AA ad) := by
  refine Met.ofW (cc := cX7_readAll) (maxL := 3) (ret := (some .boolean)) (by decide) rfl ?_
  intro p e s m args below meth c s₁ B hml hv
  obtain ⟨rfl, hP, hK, hN⟩ := hv
  have C : Cy p s m _ meth c cX7_readAll 3 wsX7_readAll RX7 D cA ad (some .boolean) := ⟨B.exec, B.bytes, hml, findClass_of_methodNamed B.named, atoms_spec (ws := wsX7_readAll) B.pre, hK, B.notSynchronized, B.returns, hI, hN⟩
  have hl := lv_entry ([.ref (ad 27), .int a1]) (n := 3) (Nat.le_of_ble_eq_true rfl)
  rw [lg_entry_eq]
  generalize (lg_sl ([.ref (ad 27), .int a1]) ++ List.replicate (3 - (lg_sl ([.ref (ad 27), .int a1])).length) Slot.unset).toArray = ls at hl ⊢
  have hl : lv_has ls 3 [(0, .ref (ad 27)), (1, .int a1)] := hl
  have hS : va_S (AA ad) s.heap s.heap [] := va_S.rf
  have hF : Fr L_X7_readAll_d7 σ0 σ0 := Fr.rf
  have hFL : FrL LL_X7_readAll_d7 τ0 τ0 := FrL.rf
  have gCT := gCT0
  have gWH := gWH0
  have hA := A_X7_readAll_d7 p l e s m _ below meth c D cA ad σ0 τ0 a1 b N mo q nn nm hc C ha1 hpre0 hpre1 hpre2 gCT0 gWH0 810
  have K12 := hA
  clear hA
  obtain ⟨hx, hb, _, hown, hts, _, hk, hr, _, _⟩ := C
  refine lv_aload_n hx hb dX7_readAll_0 rfl (lv_at hl 0 rfl) ?_
  refine lv_iload_n hx hb dX7_readAll_1 rfl (lv_at hl 1 rfl) ?_
  refine r_cVi (k := 27) (As := [.int a1]) (rest := []) ⟨hx, hb, hml, hown, hts⟩ hK hP hN hS (c_X7_readOne_d7 l D cA ad hI σ0 τ0 hR a1 b N mo q nn nm hc (by omega) (by omega) (by omega) (by omega) gCT gWH) (cwV 1 hts gX7_readAll_X7_readOne rfl rfl rfl (by decide +kernel) ⟨by decide, by decide⟩) (rv_SText hK hP (by decide) (by decide)) rfl hl.1 rfl (Nat.le_of_ble_eq_true rfl) dX7_readAll_2 (Nat.zero_le _) (Nat.zero_le _) (fun r1 u1 H1 locs1 hp1 hP hS => ?_)
  obtain ⟨σ1, τ1⟩ := u1
  obtain ⟨hR, f1, fL1, hq1, hp1_0, hp1_1, gnWH⟩ : P_X7_readOne_d7 σ0 τ0 a1 b N mo q nn nm hc r1 σ1 τ1 := hp1
  have o1 := hp1_0
  have hP : va_P D vwCl (gw cA ad σ1 τ1) H1 := hP
  have hFL := hFL.step fL1 (by decide)
  have gWH := gWH.agL (AgrL.fr fL1 (by decide))
  have hF := hF.step f1 (by decide)
  have gWH := gWH.ag (Agr.fr f1 (by decide))
  have hr2 := rg_6_1 hR (k := 24) (by decide) (by decide)
  have hr3 := rg_6_2 hR (k := 24) (by decide) (by decide)
  refine r_if_ne (tgt := 10) hx hb dX7_readAll_5 (by decide) (fun c4 => ?_) (fun c4 => ?_)
  · replace hp1_1 := hp1_1.resolve_left (by omega)
    obtain ⟨s1, e1, gCT, hs1, hs2⟩ := o1.ye (by omega)
    have hu1 := one_up _ _ _ _ e1
    refine r_iconst hx hb dX7_readAll_10 (by decide) (fun z5 ez5 => ?_)
    refine lv_istore_n (lv' := [(2, .int z5), (0, .ref (ad 27)), (1, .int a1)]) hx hb dX7_readAll_11 rfl hl (by decide) rfl (fun ls hl => ?_)
    exact K12 σ1 τ1 H1 locs1 z5 200 _ _ ls hR hF hFL hP hS (by omega) (by omega) (by omega) (by first | exact all_s e1 | rw [iv, lop_s (f := (fun q nn => oneP b N mo nm hc 2 q nn)) (by omega) (by omega) e2]) (by omega) (by omega) (by omega) (by omega) (by omega) gCT gWH gCT (lv_sub hl [1, 2, 0] rfl) (by omega)
  · clear hp1_1
    refine r_iconst hx hb dX7_readAll_8 (by decide) (fun z6 ez6 => ?_)
    exact r_zret hx hb hr hK hP hS hk (by omega) dX7_readAll_9 (show P_X7_readAll_d7 σ0 τ0 a1 b N mo q nn nm hc z6 σ1 τ1 from ⟨hR, hF, hFL, by omega, by first | (exfalso; omega) | (obtain ⟨f, e1, x1, x2⟩ := o1.no (by omega); exact RO.ofl (all_f e1) (by omega) x1 x2) | exact RO.ofr (by rw [iv, lop_e (by omega)]) (by omega) ⟨gCT, by omega, by omega⟩ | (obtain ⟨f, e2, x1, x2⟩ := o2.no (by omega); exact RO.ofl (by rw [iv, lop_f (f := (fun q nn => oneP b N mo nm hc 2 q nn)) (by omega) (by omega) e2]) (by omega) x1 x2) | (exfalso; omega), by omega, gWH⟩)
abbrev L_X7_readCond_d7 : List Rc := [(1, 1, 7, 10), (372, 372, 0, 39), (376, 376, 0, 39), (380, 380, 0, 39), (24, 24, 1, 2), (1, 1, 12, 14)]
abbrev LL_X7_readCond_d7 : List Rc := [(1, 1, 11, 11)]
def P_X7_readCond_d7 (σ0 : Nat → Nat → Int32) (τ0 : Nat → Nat → Int64) (a1 : Int32) (b : Nat → Int) (N : Nat) (mo : Nat) (q : Nat) (nn : Nat) (nm : Nat → Int) (hc : Nat) (r : Int32) (σ : Nat → Nat → Int32) (τ : Nat → Nat → Int64) : Prop := Rg σ ∧ Fr L_X7_readCond_d7 σ0 σ ∧ FrL LL_X7_readCond_d7 τ0 τ ∧ (0 ≤ r.toInt ∧ r.toInt ≤ 1) ∧ (RO r σ (conP b N mo (fun q nn => oneP b N mo nm hc 2 q nn) q nn) (fun s => CT σ τ b N mo s.1 ∧ (σ 24 1).toInt = (s.2 : Int) ∧ (σ 24 2).toInt + 2 * (nn : Int) + 1 ≤ (σ0 24 2).toInt + 2 * (s.2 : Int))) ∧ (r.toInt = 0 ∨ (σ 1 13).toInt = (σ0 1 13).toInt) ∧ WH σ τ nm hc
def J_X7_readCond_d7_12 (p : Program) (l : Launch) (e : Env) (s : State) (m : MethodId) (args : Array Value) (below : List Frame) (meth : Method) (c : Code) (D : va_G) (cA : Nat → ClassId) (ad : Nat → Nat) (σ0 : Nat → Nat → Int32) (τ0 : Nat → Nat → Int64) (a1 : Int32) (b : Nat → Int) (N : Nat) (mo : Nat) (q : Nat) (nn : Nat) (nm : Nat → Int) (hc : Nat) (n : Nat) : Prop := ∀ (σ : Nat → Nat → Int32) (τ : Nat → Nat → Int64) (H : Heap) (locs : List Loc) (x2 : Int32) (fu : Nat) (q1 : Nat) (n1 : Nat) (ls : Array Slot), Rg σ → Fr L_X7_readCond_d7 σ0 σ → FrL LL_X7_readCond_d7 τ0 τ → va_P D vwCl (gw cA ad σ τ) H → va_S (AA ad) s.heap H locs → (0 ≤ x2.toInt ∧ x2.toInt ≤ 200) → (0 ≤ (σ 24 1).toInt ∧ (σ 24 1).toInt ≤ 20) → (0 ≤ (σ 24 2).toInt ∧ (σ 24 2).toInt ≤ 40) → (conP b N mo (fun q nn => oneP b N mo nm hc 2 q nn) q nn = lopP b N mo 20 (allP b N mo (fun q nn => oneP b N mo nm hc 2 q nn)) fu q1 n1) → ((σ 24 1).toInt = (n1 : Int)) → (0 ≤ (σ 24 2).toInt ∧ (σ 24 2).toInt + 2 * (nn : Int) + 1 ≤ (σ0 24 2).toInt + 2 * (n1 : Int)) → ((fu : Int) + x2.toInt = 200) → (n1 ≤ 20) → ((σ 1 13).toInt = (σ0 1 13).toInt) → (CT σ τ b N mo q1) → (WH σ τ nm hc) → (CT σ τ b N mo q1) → lv_has ls 3 [(0, .ref (ad 27)), (1, .int a1), (2, .int x2)] → 2 * (200 - x2.toInt) + 1 < (n : Int) → W p l e ({ frames := 9, cells := 0, slots := 0, locals := 197 } : Room) s m args below meth c H locs 0 0 (MQ below (va_Qi (fun (r : Int32) (u : SS) => P_X7_readCond_d7 σ0 τ0 a1 b N mo q nn nm hc r u.1 u.2) (WB D cA ad) (AA ad)) args s 0 0 (AA ad)) (F0 m 12 ls [])
set_option maxHeartbeats 4000000 in
theorem B_X7_readCond_d7_12 (p : Program) (l : Launch) (e : Env) (s : State) (m : MethodId) (args : Array Value) (below : List Frame) (meth : Method) (c : Code) (D : va_G) (cA : Nat → ClassId) (ad : Nat → Nat) (σ0 : Nat → Nat → Int32) (τ0 : Nat → Nat → Int64) (a1 : Int32) (b : Nat → Int) (N : Nat) (mo : Nat) (q : Nat) (nn : Nat) (nm : Nat → Int) (hc : Nat) (n : Nat) (C : Cy p s m args meth c cX7_readCond 3 wsX7_readCond RX7 D cA ad (some .boolean)) (ha1 : 7 ≤ a1.toInt ∧ a1.toInt ≤ 7) (hpre0 : (σ0 24 1).toInt = (nn : Int)) (hpre1 : 0 ≤ (σ0 24 2).toInt ∧ (σ0 24 2).toInt ≤ 2 * (nn : Int)) (hpre2 : nn ≤ 20) (gCT0 : CT σ0 τ0 b N mo q) (gWH0 : WH σ0 τ0 nm hc) (K12 : J_X7_readCond_d7_12 p l e s m args below meth c D cA ad σ0 τ0 a1 b N mo q nn nm hc n) : J_X7_readCond_d7_12 p l e s m args below meth c D cA ad σ0 τ0 a1 b N mo q nn nm hc (n + 1) := by
  obtain ⟨hx, hb, hml, hown, hts, hK, hk, hr, hI, hN⟩ := C
  intro σ τ H locs x2 fu q1 n1 ls hR hF hFL hP hS hc0 hc1 hc2 iv ib2 ib3 ifu in20 ik13 gCT gWH gCT hl hm
  refine lv_iload_n hx hb dX7_readCond_12 rfl (lv_at hl 2 rfl) ?_
  refine r_sipush hx hb dX7_readCond_13 (by decide) (fun z1 ez1 => ?_)
  refine r_icmp_ge (tgt := 68) hx hb dX7_readCond_16 (by decide) (fun c2 => ?_) (fun c2 => ?_)
  · refine r_iconst hx hb dX7_readCond_68 (by decide) (fun z3 ez3 => ?_)
    exact r_zret hx hb hr hK hP hS hk (by omega) dX7_readCond_69 (show P_X7_readCond_d7 σ0 τ0 a1 b N mo q nn nm hc z3 σ τ from ⟨hR, hF, hFL, by omega, by first | (exfalso; omega) | (obtain ⟨f, e1, x1, x2⟩ := o1.no (by omega); exact RO.ofl (con_f e1) (by omega) x1 x2) | exact RO.ofr (by rw [iv, lop_e (by omega)]) (by omega) ⟨gCT, by omega, by omega⟩ | (obtain ⟨f, e2, x1, x2⟩ := o2.no (by omega); exact RO.ofl (by rw [iv, lop_f (f := (allP b N mo (fun q nn => oneP b N mo nm hc 2 q nn))) (by omega) (by omega) e2]) (by omega) x1 x2) | (exfalso; omega), by omega, gWH⟩)
  · have htk := gCT.tk
    refine lv_aload_n hx hb dX7_readCond_19 rfl (lv_at hl 0 rfl) ?_
    refine fg_7_0 (k := 27) hx hb hts in_X7_readCond_7 hown hK hP (by decide) (by decide) (hts _ lk_X7_readCond_9) dX7_readCond_20 ?_
    refine fgN_8_9 (k := 1) hx hb hts in_X7_readCond_8 hown hK hP (by decide) (by decide) (hN.use nw_7_32) dX7_readCond_23 ?_
    refine r_bipush hx hb dX7_readCond_26 (by decide) (fun z4 ez4 => ?_)
    refine r_icmp_ne (tgt := 68) hx hb dX7_readCond_28 (by decide) (fun c5 => ?_) (fun c5 => ?_)
    · refine r_iconst hx hb dX7_readCond_68 (by decide) (fun z6 ez6 => ?_)
      exact r_zret hx hb hr hK hP hS hk (by omega) dX7_readCond_69 (show P_X7_readCond_d7 σ0 τ0 a1 b N mo q nn nm hc z6 σ τ from ⟨hR, hF, hFL, by omega, by first | (exfalso; omega) | (obtain ⟨f, e1, x1, x2⟩ := o1.no (by omega); exact RO.ofl (con_f e1) (by omega) x1 x2) | exact RO.ofr (by rw [iv, lop_e (by omega)]) (by omega) ⟨gCT, by omega, by omega⟩ | (obtain ⟨f, e2, x1, x2⟩ := o2.no (by omega); exact RO.ofl (by rw [iv, lop_f (f := (allP b N mo (fun q nn => oneP b N mo nm hc 2 q nn))) (by omega) (by omega) e2]) (by omega) x1 x2) | (exfalso; omega), by omega, gWH⟩)
    · refine lv_aload_n hx hb dX7_readCond_31 rfl (lv_at hl 0 rfl) ?_
      refine fg_7_0 (k := 27) hx hb hts in_X7_readCond_7 hown hK hP (by decide) (by decide) (hts _ lk_X7_readCond_9) dX7_readCond_32 ?_
      refine r_cVv (k := 1) (As := []) (rest := []) ⟨hx, hb, hml, hown, hts⟩ hK hP hN hS (c_X8_next_v l D cA ad hI σ τ hR _ _ _ _ gCT) (cwV 0 hts gX7_readCond_X8_next rfl rfl rfl (by decide +kernel) ⟨by decide, by decide⟩) (rv_Tape hK hP (by decide) (by decide)) rfl hl.1 rfl (Nat.le_of_ble_eq_true rfl) dX7_readCond_35 (Nat.zero_le _) (Nat.zero_le _) (fun u7 H7 locs7 hp7 hP hS => ?_)
      obtain ⟨σ7, τ7⟩ := u7
      obtain ⟨hR, f7, fL7, hp7_0⟩ : P_X8_next_v σ τ _ _ _ _ σ7 τ7 := hp7
      have hP : va_P D vwCl (gw cA ad σ7 τ7) H7 := hP
      have hFL := hFL.step fL7 (by decide)
      have gWH := gWH.agL (AgrL.fr fL7 (by decide))
      have hF := hF.step f7 (by decide)
      have gWH := gWH.ag (Agr.fr f7 (by decide))
      have t8 : (σ7 24 1).toInt = (σ 24 1).toInt := congrArg Int32.toInt (f7.at 24 1 (by decide))
      have t9 : (σ7 24 2).toInt = (σ 24 2).toInt := congrArg Int32.toInt (f7.at 24 2 (by decide))
      have t10 : (σ7 1 13).toInt = (σ 1 13).toInt := congrArg Int32.toInt (f7.at 1 13 (by decide))
      have gCT := hp7_0
      refine lv_aload_n hx hb dX7_readCond_38 rfl (lv_at hl 0 rfl) ?_
      refine lv_iload_n hx hb dX7_readCond_39 rfl (lv_at hl 1 rfl) ?_
      refine r_cVi (k := 27) (As := [.int a1]) (rest := []) ⟨hx, hb, hml, hown, hts⟩ hK hP hN hS (c_X7_readAll_d7 l D cA ad hI σ7 τ7 hR a1 b N mo _ n1 nm hc (by omega) (by omega) (by omega) (by omega) gCT gWH) (cwV 1 hts gX7_readCond_X7_readAll rfl rfl rfl (by decide +kernel) ⟨by decide, by decide⟩) (rv_SText hK hP (by decide) (by decide)) rfl hl.1 rfl (Nat.le_of_ble_eq_true rfl) dX7_readCond_40 (Nat.zero_le _) (Nat.zero_le _) (fun r11 u11 H11 locs11 hp11 hP hS => ?_)
      obtain ⟨σ11, τ11⟩ := u11
      obtain ⟨hR, f11, fL11, hq11, hp11_0, hp11_1, gnWH⟩ : P_X7_readAll_d7 σ7 τ7 a1 b N mo _ n1 nm hc r11 σ11 τ11 := hp11
      have o2 := hp11_0
      have hP : va_P D vwCl (gw cA ad σ11 τ11) H11 := hP
      have hFL := hFL.step fL11 (by decide)
      have gWH := gWH.agL (AgrL.fr fL11 (by decide))
      have hF := hF.step f11 (by decide)
      have gWH := gWH.ag (Agr.fr f11 (by decide))
      have hr12 := rg_6_1 hR (k := 24) (by decide) (by decide)
      have hr13 := rg_6_2 hR (k := 24) (by decide) (by decide)
      refine r_if_eq (tgt := 60) hx hb dX7_readCond_43 (by decide) (fun c14 => ?_) (fun c14 => ?_)
      · clear hp11_1
        refine r_iconst hx hb dX7_readCond_60 (by decide) (fun z15 ez15 => ?_)
        exact r_zret hx hb hr hK hP hS hk (by omega) dX7_readCond_61 (show P_X7_readCond_d7 σ0 τ0 a1 b N mo q nn nm hc z15 σ11 τ11 from ⟨hR, hF, hFL, by omega, by first | (exfalso; omega) | (obtain ⟨f, e1, x1, x2⟩ := o1.no (by omega); exact RO.ofl (con_f e1) (by omega) x1 x2) | exact RO.ofr (by rw [iv, lop_e (by omega)]) (by omega) ⟨gCT, by omega, by omega⟩ | (obtain ⟨f, e2, x1, x2⟩ := o2.no (by omega); exact RO.ofl (by rw [iv, lop_f (f := (allP b N mo (fun q nn => oneP b N mo nm hc 2 q nn))) (by omega) (by omega) e2]) (by omega) x1 x2) | (exfalso; omega), by omega, gWH⟩)
      · replace hp11_1 := hp11_1.resolve_left (by omega)
        obtain ⟨s2, e2, gCT, hs3, hs4⟩ := o2.ye (by omega)
        have hu2 := all_up (one_up _) _ _ _ e2
        refine lv_aload_n hx hb dX7_readCond_46 rfl (lv_at hl 0 rfl) ?_
        refine fg_7_2 (k := 27) hx hb hts in_X7_readCond_7 hown hK hP (by decide) (by decide) (hts _ lk_X7_readCond_19) dX7_readCond_47 ?_
        refine r_bipush hx hb dX7_readCond_50 (by decide) (fun z16 ez16 => ?_)
        refine r_iconst hx hb dX7_readCond_52 (by decide) (fun z17 ez17 => ?_)
        refine r_iconst hx hb dX7_readCond_53 (by decide) (fun z18 ez18 => ?_)
        refine r_cVi (k := 24) (As := [.int z16, .int z17, .int z18]) (rest := []) ⟨hx, hb, hml, hown, hts⟩ hK hP hN hS (c_X6_add l D cA ad hI σ11 τ11 hR z16 z17 z18 (by omega)) (cwV 3 hts gX7_readCond_X6_add rfl rfl rfl (by decide +kernel) ⟨by decide, by decide⟩) (rv_Sent hK hP (by decide) (by decide)) rfl hl.1 rfl (Nat.le_of_ble_eq_true rfl) dX7_readCond_54 (Nat.zero_le _) (Nat.zero_le _) (fun r19 u19 H19 locs19 hp19 hP hS => ?_)
        obtain ⟨σ19, τ19⟩ := u19
        obtain ⟨hR, f19, fL19, hq19, hp19_0⟩ : P_X6_add σ11 τ11 z16 z17 z18 r19 σ19 τ19 := hp19
        have hP : va_P D vwCl (gw cA ad σ19 τ19) H19 := hP
        obtain rfl := FrL.nil fL19
        have hF := hF.step f19 (by decide)
        have gCT := gCT.ag (Agr.fr f19 (by decide))
        have gWH := gWH.ag (Agr.fr f19 (by decide))
        have t20 : (σ19 24 1).toInt = (σ11 24 1).toInt := congrArg Int32.toInt (f19.at 24 1 (by decide))
        have t21 : (σ19 1 13).toInt = (σ11 1 13).toInt := congrArg Int32.toInt (f19.at 1 13 (by decide))
        have hr22 := rg_6_2 hR (k := 24) (by decide) (by decide)
        refine r_if_ne (tgt := 62) hx hb dX7_readCond_57 (by decide) (fun c23 => ?_) (fun c23 => ?_)
        · refine r_iinc (k := 2) (lv1 := fun z24 => [(2, .int z24), (0, .ref (ad 27)), (1, .int a1)]) hx hb dX7_readCond_62 hl rfl (by decide) (fun _ => rfl) (by decide) (by omega) (fun z24 ls ez24 hl => ?_)
          refine lv_goto (tgt := 12) hx hb dX7_readCond_65 (by decide) ?_
          exact K12 σ19 τ11 H19 locs19 z24 (fu - 1) _ _ ls hR hF hFL hP hS (by omega) (by omega) (by omega) (by first | exact con_s e1 | rw [iv, lop_s (f := (allP b N mo (fun q nn => oneP b N mo nm hc 2 q nn))) (by omega) (by omega) e2]) (by omega) (by omega) (by omega) (by omega) (by omega) gCT gWH gCT (lv_sub hl [1, 2, 0] rfl) (by omega)
        · refine r_iconst hx hb dX7_readCond_60 (by decide) (fun z25 ez25 => ?_)
          exact r_zret hx hb hr hK hP hS hk (by omega) dX7_readCond_61 (show P_X7_readCond_d7 σ0 τ0 a1 b N mo q nn nm hc z25 σ19 τ11 from ⟨hR, hF, hFL, by omega, by first | (exfalso; omega) | (obtain ⟨f, e1, x1, x2⟩ := o1.no (by omega); exact RO.ofl (con_f e1) (by omega) x1 x2) | exact RO.ofr (by rw [iv, lop_e (by omega)]) (by omega) ⟨gCT, by omega, by omega⟩ | (obtain ⟨f, e2, x1, x2⟩ := o2.no (by omega); exact RO.ofl (by rw [iv, lop_f (f := (allP b N mo (fun q nn => oneP b N mo nm hc 2 q nn))) (by omega) (by omega) e2]) (by omega) x1 x2) | (exfalso; omega), by omega, gWH⟩)
theorem A_X7_readCond_d7 (p : Program) (l : Launch) (e : Env) (s : State) (m : MethodId) (args : Array Value) (below : List Frame) (meth : Method) (c : Code) (D : va_G) (cA : Nat → ClassId) (ad : Nat → Nat) (σ0 : Nat → Nat → Int32) (τ0 : Nat → Nat → Int64) (a1 : Int32) (b : Nat → Int) (N : Nat) (mo : Nat) (q : Nat) (nn : Nat) (nm : Nat → Int) (hc : Nat) (C : Cy p s m args meth c cX7_readCond 3 wsX7_readCond RX7 D cA ad (some .boolean)) (ha1 : 7 ≤ a1.toInt ∧ a1.toInt ≤ 7) (hpre0 : (σ0 24 1).toInt = (nn : Int)) (hpre1 : 0 ≤ (σ0 24 2).toInt ∧ (σ0 24 2).toInt ≤ 2 * (nn : Int)) (hpre2 : nn ≤ 20) (gCT0 : CT σ0 τ0 b N mo q) (gWH0 : WH σ0 τ0 nm hc) : ∀ n : Nat, J_X7_readCond_d7_12 p l e s m args below meth c D cA ad σ0 τ0 a1 b N mo q nn nm hc n := by
  intro n
  induction n with
  | zero =>
    exact (by intro σ τ H locs x2 fu q1 n1 ls hR hF hFL hP hS hc0 hc1 hc2 iv ib2 ib3 ifu in20 ik13 gCT gWH gCT hl hm; exfalso; omega)
  | succ n ih =>
    exact B_X7_readCond_d7_12 p l e s m args below meth c D cA ad σ0 τ0 a1 b N mo q nn nm hc n C ha1 hpre0 hpre1 hpre2 gCT0 gWH0 ih
set_option maxHeartbeats 4000000 in
theorem c_X7_readCond_d7 (l : Launch) (D : va_G) (cA : Nat → ClassId) (ad : Nat → Nat) (hI : Inj ad) (σ0 : Nat → Nat → Int32) (τ0 : Nat → Nat → Int64) (hR : Rg σ0) (a1 : Int32) (b : Nat → Int) (N : Nat) (mo : Nat) (q : Nat) (nn : Nat) (nm : Nat → Int) (hc : Nat) (ha1 : 7 ≤ a1.toInt ∧ a1.toInt ≤ 7) (hpre0 : (σ0 24 1).toInt = (nn : Int)) (hpre1 : 0 ≤ (σ0 24 2).toInt ∧ (σ0 24 2).toInt ≤ 2 * (nn : Int)) (hpre2 : nn ≤ 20) (gCT0 : CT σ0 τ0 b N mo q) (gWH0 : WH σ0 τ0 nm hc) : Met l yX7_readCond wsX7_readCond ({ frames := 9, cells := 0, slots := 0, locals := 197 } : Room) (WQc D cA ad [.ref (ad 27), .int a1] σ0 τ0) (va_Qi (fun (r : Int32) (u : SS) => P_X7_readCond_d7 σ0 τ0 a1 b N mo q nn nm hc r u.1 u.2) (WB D cA ad) (AA ad)) 0 0 (AA ad) := by
  refine Met.ofW (cc := cX7_readCond) (maxL := 3) (ret := (some .boolean)) (by decide) rfl ?_
  intro p e s m args below meth c s₁ B hml hv
  obtain ⟨rfl, hP, hK, hN⟩ := hv
  have C : Cy p s m _ meth c cX7_readCond 3 wsX7_readCond RX7 D cA ad (some .boolean) := ⟨B.exec, B.bytes, hml, findClass_of_methodNamed B.named, atoms_spec (ws := wsX7_readCond) B.pre, hK, B.notSynchronized, B.returns, hI, hN⟩
  have hl := lv_entry ([.ref (ad 27), .int a1]) (n := 3) (Nat.le_of_ble_eq_true rfl)
  rw [lg_entry_eq]
  generalize (lg_sl ([.ref (ad 27), .int a1]) ++ List.replicate (3 - (lg_sl ([.ref (ad 27), .int a1])).length) Slot.unset).toArray = ls at hl ⊢
  have hl : lv_has ls 3 [(0, .ref (ad 27)), (1, .int a1)] := hl
  have hS : va_S (AA ad) s.heap s.heap [] := va_S.rf
  have hF : Fr L_X7_readCond_d7 σ0 σ0 := Fr.rf
  have hFL : FrL LL_X7_readCond_d7 τ0 τ0 := FrL.rf
  have gCT := gCT0
  have gWH := gWH0
  have hA := A_X7_readCond_d7 p l e s m _ below meth c D cA ad σ0 τ0 a1 b N mo q nn nm hc C ha1 hpre0 hpre1 hpre2 gCT0 gWH0 810
  have K12 := hA
  clear hA
  obtain ⟨hx, hb, _, hown, hts, _, hk, hr, _, _⟩ := C
  refine lv_aload_n hx hb dX7_readCond_0 rfl (lv_at hl 0 rfl) ?_
  refine lv_iload_n hx hb dX7_readCond_1 rfl (lv_at hl 1 rfl) ?_
  refine r_cVi (k := 27) (As := [.int a1]) (rest := []) ⟨hx, hb, hml, hown, hts⟩ hK hP hN hS (c_X7_readAll_d7 l D cA ad hI σ0 τ0 hR a1 b N mo q nn nm hc (by omega) (by omega) (by omega) (by omega) gCT gWH) (cwV 1 hts gX7_readCond_X7_readAll rfl rfl rfl (by decide +kernel) ⟨by decide, by decide⟩) (rv_SText hK hP (by decide) (by decide)) rfl hl.1 rfl (Nat.le_of_ble_eq_true rfl) dX7_readCond_2 (Nat.zero_le _) (Nat.zero_le _) (fun r1 u1 H1 locs1 hp1 hP hS => ?_)
  obtain ⟨σ1, τ1⟩ := u1
  obtain ⟨hR, f1, fL1, hq1, hp1_0, hp1_1, gnWH⟩ : P_X7_readAll_d7 σ0 τ0 a1 b N mo q nn nm hc r1 σ1 τ1 := hp1
  have o1 := hp1_0
  have hP : va_P D vwCl (gw cA ad σ1 τ1) H1 := hP
  have hFL := hFL.step fL1 (by decide)
  have gWH := gWH.agL (AgrL.fr fL1 (by decide))
  have hF := hF.step f1 (by decide)
  have gWH := gWH.ag (Agr.fr f1 (by decide))
  have hr2 := rg_6_1 hR (k := 24) (by decide) (by decide)
  have hr3 := rg_6_2 hR (k := 24) (by decide) (by decide)
  refine r_if_ne (tgt := 10) hx hb dX7_readCond_5 (by decide) (fun c4 => ?_) (fun c4 => ?_)
  · replace hp1_1 := hp1_1.resolve_left (by omega)
    obtain ⟨s1, e1, gCT, hs1, hs2⟩ := o1.ye (by omega)
    have hu1 := all_up (one_up _) _ _ _ e1
    refine r_iconst hx hb dX7_readCond_10 (by decide) (fun z5 ez5 => ?_)
    refine lv_istore_n (lv' := [(2, .int z5), (0, .ref (ad 27)), (1, .int a1)]) hx hb dX7_readCond_11 rfl hl (by decide) rfl (fun ls hl => ?_)
    exact K12 σ1 τ1 H1 locs1 z5 200 _ _ ls hR hF hFL hP hS (by omega) (by omega) (by omega) (by first | exact con_s e1 | rw [iv, lop_s (f := (allP b N mo (fun q nn => oneP b N mo nm hc 2 q nn))) (by omega) (by omega) e2]) (by omega) (by omega) (by omega) (by omega) (by omega) gCT gWH gCT (lv_sub hl [1, 2, 0] rfl) (by omega)
  · clear hp1_1
    refine r_iconst hx hb dX7_readCond_8 (by decide) (fun z6 ez6 => ?_)
    exact r_zret hx hb hr hK hP hS hk (by omega) dX7_readCond_9 (show P_X7_readCond_d7 σ0 τ0 a1 b N mo q nn nm hc z6 σ1 τ1 from ⟨hR, hF, hFL, by omega, by first | (exfalso; omega) | (obtain ⟨f, e1, x1, x2⟩ := o1.no (by omega); exact RO.ofl (con_f e1) (by omega) x1 x2) | exact RO.ofr (by rw [iv, lop_e (by omega)]) (by omega) ⟨gCT, by omega, by omega⟩ | (obtain ⟨f, e2, x1, x2⟩ := o2.no (by omega); exact RO.ofl (by rw [iv, lop_f (f := (allP b N mo (fun q nn => oneP b N mo nm hc 2 q nn))) (by omega) (by omega) e2]) (by omega) x1 x2) | (exfalso; omega), by omega, gWH⟩)
abbrev L_X7_readOne_d6 : List Rc := [(1, 1, 7, 10), (372, 372, 0, 39), (376, 376, 0, 39), (380, 380, 0, 39), (24, 24, 1, 2), (1, 1, 12, 14)]
abbrev LL_X7_readOne_d6 : List Rc := [(1, 1, 11, 11)]
def P_X7_readOne_d6 (σ0 : Nat → Nat → Int32) (τ0 : Nat → Nat → Int64) (a1 : Int32) (b : Nat → Int) (N : Nat) (mo : Nat) (q : Nat) (nn : Nat) (nm : Nat → Int) (hc : Nat) (r : Int32) (σ : Nat → Nat → Int32) (τ : Nat → Nat → Int64) : Prop := Rg σ ∧ Fr L_X7_readOne_d6 σ0 σ ∧ FrL LL_X7_readOne_d6 τ0 τ ∧ (0 ≤ r.toInt ∧ r.toInt ≤ 1) ∧ (RO r σ (oneP b N mo nm hc 3 q nn) (fun s => CT σ τ b N mo s.1 ∧ (σ 24 1).toInt = (s.2 : Int) ∧ (σ 24 2).toInt + 2 * (nn : Int) + 1 ≤ (σ0 24 2).toInt + 2 * (s.2 : Int))) ∧ (r.toInt = 0 ∨ (σ 1 13).toInt = (σ0 1 13).toInt) ∧ WH σ τ nm hc
set_option maxHeartbeats 4000000 in
theorem c_X7_readOne_d6 (l : Launch) (D : va_G) (cA : Nat → ClassId) (ad : Nat → Nat) (hI : Inj ad) (σ0 : Nat → Nat → Int32) (τ0 : Nat → Nat → Int64) (hR : Rg σ0) (a1 : Int32) (b : Nat → Int) (N : Nat) (mo : Nat) (q : Nat) (nn : Nat) (nm : Nat → Int) (hc : Nat) (ha1 : 6 ≤ a1.toInt ∧ a1.toInt ≤ 6) (hpre0 : (σ0 24 1).toInt = (nn : Int)) (hpre1 : 0 ≤ (σ0 24 2).toInt ∧ (σ0 24 2).toInt ≤ 2 * (nn : Int)) (hpre2 : nn ≤ 20) (gCT0 : CT σ0 τ0 b N mo q) (gWH0 : WH σ0 τ0 nm hc) : Met l yX7_readOne wsX7_readOne ({ frames := 10, cells := 0, slots := 0, locals := 219 } : Room) (WQc D cA ad [.ref (ad 27), .int a1] σ0 τ0) (va_Qi (fun (r : Int32) (u : SS) => P_X7_readOne_d6 σ0 τ0 a1 b N mo q nn nm hc r u.1 u.2) (WB D cA ad) (AA ad)) 0 0 (AA ad) := by
  refine Met.ofW (cc := cX7_readOne) (maxL := 3) (ret := (some .boolean)) (by decide) rfl ?_
  intro p e s m args below meth c s₁ B hml hv
  obtain ⟨rfl, hP, hK, hN⟩ := hv
  have C : Cy p s m _ meth c cX7_readOne 3 wsX7_readOne RX7 D cA ad (some .boolean) := ⟨B.exec, B.bytes, hml, findClass_of_methodNamed B.named, atoms_spec (ws := wsX7_readOne) B.pre, hK, B.notSynchronized, B.returns, hI, hN⟩
  have hl := lv_entry ([.ref (ad 27), .int a1]) (n := 3) (Nat.le_of_ble_eq_true rfl)
  rw [lg_entry_eq]
  generalize (lg_sl ([.ref (ad 27), .int a1]) ++ List.replicate (3 - (lg_sl ([.ref (ad 27), .int a1])).length) Slot.unset).toArray = ls at hl ⊢
  have hl : lv_has ls 3 [(0, .ref (ad 27)), (1, .int a1)] := hl
  have hS : va_S (AA ad) s.heap s.heap [] := va_S.rf
  have hF : Fr L_X7_readOne_d6 σ0 σ0 := Fr.rf
  have hFL : FrL LL_X7_readOne_d6 τ0 τ0 := FrL.rf
  have gCT := gCT0
  have gWH := gWH0
  obtain ⟨hx, hb, _, hown, hts, _, hk, hr, _, _⟩ := C
  have htk := gCT.tk
  refine lv_aload_n hx hb dX7_readOne_0 rfl (lv_at hl 0 rfl) ?_
  refine fg_7_0 (k := 27) hx hb hts in_X7_readOne_7 hown hK hP (by decide) (by decide) (hts _ lk_X7_readOne_9) dX7_readOne_1 ?_
  refine fgN_8_9 (k := 1) hx hb hts in_X7_readOne_8 hown hK hP (by decide) (by decide) (hN.use nw_7_32) dX7_readOne_4 ?_
  refine lv_istore_n (lv' := [(2, .int (σ0 1 9)), (0, .ref (ad 27)), (1, .int a1)]) hx hb dX7_readOne_7 rfl hl (by decide) rfl (fun ls hl => ?_)
  refine lv_iload_n hx hb dX7_readOne_8 rfl (lv_at hl 0 rfl) ?_
  refine r_cSi (As := [.int (σ0 1 9)]) (rest := []) ⟨hx, hb, hml, hown, hts⟩ hK hP hN hS (c_X7_beginsOne l D cA ad hI σ0 τ0 hR (σ0 1 9)) (va_cwS 1 hts gX7_readOne_X7_beginsOne rfl rfl rfl (by decide +kernel) ⟨by decide, by decide⟩) rfl hl.1 rfl (Nat.le_of_ble_eq_true rfl) dX7_readOne_9 (Nat.zero_le _) (Nat.zero_le _) (fun r1 u1 H1 locs1 hp1 hP hS => ?_)
  obtain ⟨σ1, τ1⟩ := u1
  obtain ⟨hR, f1, fL1, hq1, hp1_0⟩ : P_X7_beginsOne σ0 τ0 (σ0 1 9) r1 σ1 τ1 := hp1
  have hP : va_P D vwCl (gw cA ad σ1 τ1) H1 := hP
  obtain rfl := FrL.nil fL1
  obtain rfl := Fr.nil f1
  refine r_if_ne (tgt := 24) hx hb dX7_readOne_12 (by decide) (fun c2 => ?_) (fun c2 => ?_)
  · refine lv_aload_n hx hb dX7_readOne_24 rfl (lv_at hl 1 rfl) ?_
    refine fg_7_2 (k := 27) hx hb hts in_X7_readOne_7 hown hK hP (by decide) (by decide) (hts _ lk_X7_readOne_19) dX7_readOne_25 ?_
    refine fgN_6_1 (k := 24) hx hb hts in_X7_readOne_6 hown hK hP (by decide) (by decide) (hN.use nw_7_61) dX7_readOne_28 ?_
    refine r_bipush hx hb dX7_readOne_31 (by decide) (fun z3 ez3 => ?_)
    refine r_icmp_ge (tgt := 42) hx hb dX7_readOne_33 (by decide) (fun c4 => ?_) (fun c4 => ?_)
    · refine lv_aload_n hx hb dX7_readOne_42 rfl (lv_at hl 1 rfl) ?_
      refine fg_7_0 (k := 27) hx hb hts in_X7_readOne_7 hown hK hP (by decide) (by decide) (hts _ lk_X7_readOne_9) dX7_readOne_43 ?_
      refine r_iconst hx hb dX7_readOne_46 (by decide) (fun z5 ez5 => ?_)
      refine r_cVi (k := 1) (As := [.int z5]) (rest := []) ⟨hx, hb, hml, hown, hts⟩ hK hP hN hS (c_X8_blame_v l D cA ad hI σ0 τ0 hR z5 _ _ _ _ (by omega) gCT) (cwV 1 hts gX7_readOne_X8_blame rfl rfl rfl (by decide +kernel) ⟨by decide, by decide⟩) (rv_Tape hK hP (by decide) (by decide)) rfl hl.1 rfl (Nat.le_of_ble_eq_true rfl) dX7_readOne_47 (Nat.zero_le _) (Nat.zero_le _) (fun r6 u6 H6 locs6 hp6 hP hS => ?_)
      obtain ⟨σ6, τ6⟩ := u6
      obtain ⟨hR, f6, fL6, hq6, hp6_0, hp6_1, hp6_2, gnCT⟩ : P_X8_blame_v σ0 τ0 z5 _ _ _ _ r6 σ6 τ6 := hp6
      have hP : va_P D vwCl (gw cA ad σ6 τ6) H6 := hP
      obtain rfl := FrL.nil fL6
      have hF := hF.step f6 (by decide)
      have gCT := gCT.ag (Agr.fr f6 (by decide))
      have gWH := gWH.ag (Agr.fr f6 (by decide))
      have t7 : (σ6 24 1).toInt = (σ0 24 1).toInt := congrArg Int32.toInt (f6.at 24 1 (by decide))
      have t8 : (σ6 24 2).toInt = (σ0 24 2).toInt := congrArg Int32.toInt (f6.at 24 2 (by decide))
      exact r_zret hx hb hr hK hP hS hk (by omega) dX7_readOne_50 (show P_X7_readOne_d6 σ0 τ0 a1 b N mo q nn nm hc r6 σ6 τ0 from ⟨hR, hF, hFL, by omega, by first | exact RO.ofr ((one_l (by omega) (by omega) (by omega) (by omega)).trans (lea_n (by omega) (by omega))) (by omega) ⟨gCT, by omega, by omega⟩ | (exfalso; omega) | exact RO.ofk (one_x (by omega)) (by omega) (by omega) (by omega) | exact RO.ofk (one_4 (by omega) (by omega)) (by omega) (by omega) (by omega) | (obtain ⟨f, e1, x1, x2⟩ := o1.no (by omega); exact RO.ofl ((one_n (by omega) (by omega)).trans e1) (by omega) x1 x2) | exact RO.ofr ((one_n (by omega) (by omega)).trans e1) (by omega) ⟨gCT, by omega, by omega⟩ | (obtain ⟨f, e2, x1, x2⟩ := o2.no (by omega); exact RO.ofl (by rw [one_o (by omega) (by omega), e2, bnd_l]) (by omega) x1 x2) | (obtain ⟨f, e3, x1, x2⟩ := o3.no (by omega); exact RO.ofl (by rw [one_o (by omega) (by omega), e2, bnd_r, e3, bnd_l]) (by omega) x1 x2) | exact RO.ofr (by rw [one_o (by omega) (by omega), e2, bnd_r, e3, bnd_r]) (by omega) ⟨gCT, by omega, by omega⟩ | (rw [one_l (by omega) (by omega) (by omega) (by omega)]; exact o4.map (fun s es h => ⟨h.1, h.2.1, by have h2 := h.2.2; have hl := lea_up es; omega⟩)) | (rw [one_l (by omega) (by omega) (by omega) (by omega)]; exact o5.map (fun s es h => ⟨h.1, h.2.1, by have h2 := h.2.2; have hl := lea_up es; omega⟩)), by omega, gWH⟩)
    · refine lv_iload_n hx hb dX7_readOne_36 rfl (lv_at hl 2 rfl) ?_
      refine r_bipush hx hb dX7_readOne_37 (by decide) (fun z9 ez9 => ?_)
      refine r_icmp_le (tgt := 51) hx hb dX7_readOne_39 (by decide) (fun c10 => ?_) (fun c10 => ?_)
      · refine lv_aload_n hx hb dX7_readOne_51 rfl (lv_at hl 1 rfl) ?_
        refine fg_7_2 (k := 27) hx hb hts in_X7_readOne_7 hown hK hP (by decide) (by decide) (hts _ lk_X7_readOne_19) dX7_readOne_52 ?_
        refine lv_dup hx hb dX7_readOne_55 rfl ?_
        refine fgN_6_1 (k := 24) hx hb hts in_X7_readOne_6 hown hK hP (by decide) (by decide) (hN.use nw_7_61) dX7_readOne_56 ?_
        refine r_iconst hx hb dX7_readOne_59 (by decide) (fun z11 ez11 => ?_)
        refine r_iadd hx hb dX7_readOne_60 (by omega) (fun z12 ez12 => ?_)
        refine fpN_6_1 (k := 24) hx hb hts in_X7_readOne_6 hown hK hP (by decide) (by decide) (hN.use nw_7_61) hI hR hS (by omega) dX7_readOne_61 (fun σ13 H13 locs13 u13 v13 hR hP hS => ?_)
        have hF := hF.puts u13 4 rfl (by decide) (by decide) (by decide) (by decide)
        have gCT := gCT.ag (Agr.put u13 (by decide))
        have gWH := gWH.ag (Agr.put u13 (by decide))
        have t14 : (σ13 24 2).toInt = (σ0 24 2).toInt := congrArg Int32.toInt (u13 24 2 (by omega))
        have t15 : (σ13 1 13).toInt = (σ0 1 13).toInt := congrArg Int32.toInt (u13 1 13 (by omega))
        refine lv_aload_n hx hb dX7_readOne_64 rfl (lv_at hl 1 rfl) ?_
        refine fg_7_0 (k := 27) hx hb hts in_X7_readOne_7 hown hK hP (by decide) (by decide) (hts _ lk_X7_readOne_9) dX7_readOne_65 ?_
        refine r_cVv (k := 1) (As := []) (rest := []) ⟨hx, hb, hml, hown, hts⟩ hK hP hN hS (c_X8_next_v l D cA ad hI σ13 τ0 hR _ _ _ _ gCT) (cwV 0 hts gX7_readOne_X8_next rfl rfl rfl (by decide +kernel) ⟨by decide, by decide⟩) (rv_Tape hK hP (by decide) (by decide)) rfl hl.1 rfl (Nat.le_of_ble_eq_true rfl) dX7_readOne_68 (Nat.zero_le _) (Nat.zero_le _) (fun u16 H16 locs16 hp16 hP hS => ?_)
        obtain ⟨σ16, τ16⟩ := u16
        obtain ⟨hR, f16, fL16, hp16_0⟩ : P_X8_next_v σ13 τ0 _ _ _ _ σ16 τ16 := hp16
        have hP : va_P D vwCl (gw cA ad σ16 τ16) H16 := hP
        have hFL := hFL.step fL16 (by decide)
        have gWH := gWH.agL (AgrL.fr fL16 (by decide))
        have hF := hF.step f16 (by decide)
        have gWH := gWH.ag (Agr.fr f16 (by decide))
        have t17 : (σ16 24 2).toInt = (σ13 24 2).toInt := congrArg Int32.toInt (f16.at 24 2 (by decide))
        have t18 : (σ16 1 13).toInt = (σ13 1 13).toInt := congrArg Int32.toInt (f16.at 1 13 (by decide))
        have t19 : (σ16 24 1).toInt = (σ13 24 1).toInt := congrArg Int32.toInt (f16.at 24 1 (by decide))
        have gCT := hp16_0
        refine lv_iload_n hx hb dX7_readOne_71 rfl (lv_at hl 0 rfl) ?_
        by_cases c20 : (σ0 1 9).toInt = 22
        · refine lv_tableIn (off := 108) (tgt := 180) hx hb dX7_readOne_72 (by omega) (by omega) (by rw [c20]; rfl) (by decide) ?_
          refine lv_aload_n hx hb dX7_readOne_180 rfl (lv_at hl 1 rfl) ?_
          refine lv_iload_n hx hb dX7_readOne_181 rfl (lv_at hl 2 rfl) ?_
          refine r_iconst hx hb dX7_readOne_182 (by decide) (fun z21 ez21 => ?_)
          refine r_iadd hx hb dX7_readOne_183 (by omega) (fun z22 ez22 => ?_)
          refine r_cVi (k := 27) (As := [.int z22]) (rest := []) ⟨hx, hb, hml, hown, hts⟩ hK hP hN hS (c_X7_readOne_d7 l D cA ad hI σ16 τ16 hR z22 b N mo _ (nn + 1) nm hc (by omega) (by omega) (by omega) (by omega) gCT gWH) (cwV 1 hts gX7_readOne_X7_readOne rfl rfl rfl (by decide +kernel) ⟨by decide, by decide⟩) (rv_SText hK hP (by decide) (by decide)) rfl hl.1 rfl (Nat.le_of_ble_eq_true rfl) dX7_readOne_184 (Nat.zero_le _) (Nat.zero_le _) (fun r23 u23 H23 locs23 hp23 hP hS => ?_)
          obtain ⟨σ23, τ23⟩ := u23
          obtain ⟨hR, f23, fL23, hq23, hp23_0, hp23_1, gnWH⟩ : P_X7_readOne_d7 σ16 τ16 z22 b N mo _ (nn + 1) nm hc r23 σ23 τ23 := hp23
          have o1 := hp23_0
          have hP : va_P D vwCl (gw cA ad σ23 τ23) H23 := hP
          have hFL := hFL.step fL23 (by decide)
          have gWH := gWH.agL (AgrL.fr fL23 (by decide))
          have hF := hF.step f23 (by decide)
          have gWH := gWH.ag (Agr.fr f23 (by decide))
          have hr24 := rg_6_1 hR (k := 24) (by decide) (by decide)
          have hr25 := rg_6_2 hR (k := 24) (by decide) (by decide)
          refine r_if_eq (tgt := 208) hx hb dX7_readOne_187 (by decide) (fun c26 => ?_) (fun c26 => ?_)
          · clear hp23_1
            refine r_iconst hx hb dX7_readOne_208 (by decide) (fun z27 ez27 => ?_)
            exact r_zret hx hb hr hK hP hS hk (by omega) dX7_readOne_209 (show P_X7_readOne_d6 σ0 τ0 a1 b N mo q nn nm hc z27 σ23 τ23 from ⟨hR, hF, hFL, by omega, by first | exact RO.ofr ((one_l (by omega) (by omega) (by omega) (by omega)).trans (lea_n (by omega) (by omega))) (by omega) ⟨gCT, by omega, by omega⟩ | (exfalso; omega) | exact RO.ofk (one_x (by omega)) (by omega) (by omega) (by omega) | exact RO.ofk (one_4 (by omega) (by omega)) (by omega) (by omega) (by omega) | (obtain ⟨f, e1, x1, x2⟩ := o1.no (by omega); exact RO.ofl ((one_n (by omega) (by omega)).trans e1) (by omega) x1 x2) | exact RO.ofr ((one_n (by omega) (by omega)).trans e1) (by omega) ⟨gCT, by omega, by omega⟩ | (obtain ⟨f, e2, x1, x2⟩ := o2.no (by omega); exact RO.ofl (by rw [one_o (by omega) (by omega), e2, bnd_l]) (by omega) x1 x2) | (obtain ⟨f, e3, x1, x2⟩ := o3.no (by omega); exact RO.ofl (by rw [one_o (by omega) (by omega), e2, bnd_r, e3, bnd_l]) (by omega) x1 x2) | exact RO.ofr (by rw [one_o (by omega) (by omega), e2, bnd_r, e3, bnd_r]) (by omega) ⟨gCT, by omega, by omega⟩ | (rw [one_l (by omega) (by omega) (by omega) (by omega)]; exact o4.map (fun s es h => ⟨h.1, h.2.1, by have h2 := h.2.2; have hl := lea_up es; omega⟩)) | (rw [one_l (by omega) (by omega) (by omega) (by omega)]; exact o5.map (fun s es h => ⟨h.1, h.2.1, by have h2 := h.2.2; have hl := lea_up es; omega⟩)), by omega, gWH⟩)
          · replace hp23_1 := hp23_1.resolve_left (by omega)
            obtain ⟨s1, e1, gCT, hs1, hs2⟩ := o1.ye (by omega)
            have hu1 := one_up _ _ _ _ e1
            refine lv_aload_n hx hb dX7_readOne_190 rfl (lv_at hl 1 rfl) ?_
            refine fg_7_2 (k := 27) hx hb hts in_X7_readOne_7 hown hK hP (by decide) (by decide) (hts _ lk_X7_readOne_19) dX7_readOne_191 ?_
            refine r_bipush hx hb dX7_readOne_194 (by decide) (fun z28 ez28 => ?_)
            refine r_iconst hx hb dX7_readOne_196 (by decide) (fun z29 ez29 => ?_)
            refine r_iconst hx hb dX7_readOne_197 (by decide) (fun z30 ez30 => ?_)
            refine r_cVi (k := 24) (As := [.int z28, .int z29, .int z30]) (rest := []) ⟨hx, hb, hml, hown, hts⟩ hK hP hN hS (c_X6_add l D cA ad hI σ23 τ23 hR z28 z29 z30 (by omega)) (cwV 3 hts gX7_readOne_X6_add rfl rfl rfl (by decide +kernel) ⟨by decide, by decide⟩) (rv_Sent hK hP (by decide) (by decide)) rfl hl.1 rfl (Nat.le_of_ble_eq_true rfl) dX7_readOne_198 (Nat.zero_le _) (Nat.zero_le _) (fun r31 u31 H31 locs31 hp31 hP hS => ?_)
            obtain ⟨σ31, τ31⟩ := u31
            obtain ⟨hR, f31, fL31, hq31, hp31_0⟩ : P_X6_add σ23 τ23 z28 z29 z30 r31 σ31 τ31 := hp31
            have hP : va_P D vwCl (gw cA ad σ31 τ31) H31 := hP
            obtain rfl := FrL.nil fL31
            have hF := hF.step f31 (by decide)
            have gCT := gCT.ag (Agr.fr f31 (by decide))
            have gWH := gWH.ag (Agr.fr f31 (by decide))
            have t32 : (σ31 24 1).toInt = (σ23 24 1).toInt := congrArg Int32.toInt (f31.at 24 1 (by decide))
            have t33 : (σ31 1 13).toInt = (σ23 1 13).toInt := congrArg Int32.toInt (f31.at 1 13 (by decide))
            have hr34 := rg_6_2 hR (k := 24) (by decide) (by decide)
            refine r_if_eq (tgt := 208) hx hb dX7_readOne_201 (by decide) (fun c35 => ?_) (fun c35 => ?_)
            · refine r_iconst hx hb dX7_readOne_208 (by decide) (fun z36 ez36 => ?_)
              exact r_zret hx hb hr hK hP hS hk (by omega) dX7_readOne_209 (show P_X7_readOne_d6 σ0 τ0 a1 b N mo q nn nm hc z36 σ31 τ23 from ⟨hR, hF, hFL, by omega, by first | exact RO.ofr ((one_l (by omega) (by omega) (by omega) (by omega)).trans (lea_n (by omega) (by omega))) (by omega) ⟨gCT, by omega, by omega⟩ | (exfalso; omega) | exact RO.ofk (one_x (by omega)) (by omega) (by omega) (by omega) | exact RO.ofk (one_4 (by omega) (by omega)) (by omega) (by omega) (by omega) | (obtain ⟨f, e1, x1, x2⟩ := o1.no (by omega); exact RO.ofl ((one_n (by omega) (by omega)).trans e1) (by omega) x1 x2) | exact RO.ofr ((one_n (by omega) (by omega)).trans e1) (by omega) ⟨gCT, by omega, by omega⟩ | (obtain ⟨f, e2, x1, x2⟩ := o2.no (by omega); exact RO.ofl (by rw [one_o (by omega) (by omega), e2, bnd_l]) (by omega) x1 x2) | (obtain ⟨f, e3, x1, x2⟩ := o3.no (by omega); exact RO.ofl (by rw [one_o (by omega) (by omega), e2, bnd_r, e3, bnd_l]) (by omega) x1 x2) | exact RO.ofr (by rw [one_o (by omega) (by omega), e2, bnd_r, e3, bnd_r]) (by omega) ⟨gCT, by omega, by omega⟩ | (rw [one_l (by omega) (by omega) (by omega) (by omega)]; exact o4.map (fun s es h => ⟨h.1, h.2.1, by have h2 := h.2.2; have hl := lea_up es; omega⟩)) | (rw [one_l (by omega) (by omega) (by omega) (by omega)]; exact o5.map (fun s es h => ⟨h.1, h.2.1, by have h2 := h.2.2; have hl := lea_up es; omega⟩)), by omega, gWH⟩)
            · refine r_iconst hx hb dX7_readOne_204 (by decide) (fun z37 ez37 => ?_)
              refine lv_goto (tgt := 209) hx hb dX7_readOne_205 (by decide) ?_
              exact r_zret hx hb hr hK hP hS hk (by omega) dX7_readOne_209 (show P_X7_readOne_d6 σ0 τ0 a1 b N mo q nn nm hc z37 σ31 τ23 from ⟨hR, hF, hFL, by omega, by first | exact RO.ofr ((one_l (by omega) (by omega) (by omega) (by omega)).trans (lea_n (by omega) (by omega))) (by omega) ⟨gCT, by omega, by omega⟩ | (exfalso; omega) | exact RO.ofk (one_x (by omega)) (by omega) (by omega) (by omega) | exact RO.ofk (one_4 (by omega) (by omega)) (by omega) (by omega) (by omega) | (obtain ⟨f, e1, x1, x2⟩ := o1.no (by omega); exact RO.ofl ((one_n (by omega) (by omega)).trans e1) (by omega) x1 x2) | exact RO.ofr ((one_n (by omega) (by omega)).trans e1) (by omega) ⟨gCT, by omega, by omega⟩ | (obtain ⟨f, e2, x1, x2⟩ := o2.no (by omega); exact RO.ofl (by rw [one_o (by omega) (by omega), e2, bnd_l]) (by omega) x1 x2) | (obtain ⟨f, e3, x1, x2⟩ := o3.no (by omega); exact RO.ofl (by rw [one_o (by omega) (by omega), e2, bnd_r, e3, bnd_l]) (by omega) x1 x2) | exact RO.ofr (by rw [one_o (by omega) (by omega), e2, bnd_r, e3, bnd_r]) (by omega) ⟨gCT, by omega, by omega⟩ | (rw [one_l (by omega) (by omega) (by omega) (by omega)]; exact o4.map (fun s es h => ⟨h.1, h.2.1, by have h2 := h.2.2; have hl := lea_up es; omega⟩)) | (rw [one_l (by omega) (by omega) (by omega) (by omega)]; exact o5.map (fun s es h => ⟨h.1, h.2.1, by have h2 := h.2.2; have hl := lea_up es; omega⟩)), by omega, gWH⟩)
        by_cases c38 : (σ0 1 9).toInt = 23
        · refine lv_tableIn (off := 177) (tgt := 249) hx hb dX7_readOne_72 (by omega) (by omega) (by rw [c38]; rfl) (by decide) ?_
          refine lv_aload_n hx hb dX7_readOne_249 rfl (lv_at hl 1 rfl) ?_
          refine fg_7_2 (k := 27) hx hb hts in_X7_readOne_7 hown hK hP (by decide) (by decide) (hts _ lk_X7_readOne_19) dX7_readOne_250 ?_
          refine lv_iload_n hx hb dX7_readOne_253 rfl (lv_at hl 0 rfl) ?_
          refine r_bipush hx hb dX7_readOne_254 (by decide) (fun z39 ez39 => ?_)
          refine r_iconst hx hb dX7_readOne_256 (by decide) (fun z40 ez40 => ?_)
          refine r_cVi (k := 24) (As := [.int (σ0 1 9), .int z39, .int z40]) (rest := []) ⟨hx, hb, hml, hown, hts⟩ hK hP hN hS (c_X6_add l D cA ad hI σ16 τ16 hR (σ0 1 9) z39 z40 (by omega)) (cwV 3 hts gX7_readOne_X6_add rfl rfl rfl (by decide +kernel) ⟨by decide, by decide⟩) (rv_Sent hK hP (by decide) (by decide)) rfl hl.1 rfl (Nat.le_of_ble_eq_true rfl) dX7_readOne_257 (Nat.zero_le _) (Nat.zero_le _) (fun r41 u41 H41 locs41 hp41 hP hS => ?_)
          obtain ⟨σ41, τ41⟩ := u41
          obtain ⟨hR, f41, fL41, hq41, hp41_0⟩ : P_X6_add σ16 τ16 (σ0 1 9) z39 z40 r41 σ41 τ41 := hp41
          have hP : va_P D vwCl (gw cA ad σ41 τ41) H41 := hP
          obtain rfl := FrL.nil fL41
          have hF := hF.step f41 (by decide)
          have gCT := gCT.ag (Agr.fr f41 (by decide))
          have gWH := gWH.ag (Agr.fr f41 (by decide))
          have t42 : (σ41 1 13).toInt = (σ16 1 13).toInt := congrArg Int32.toInt (f41.at 1 13 (by decide))
          have t43 : (σ41 24 1).toInt = (σ16 24 1).toInt := congrArg Int32.toInt (f41.at 24 1 (by decide))
          have hr44 := rg_6_2 hR (k := 24) (by decide) (by decide)
          exact r_zret hx hb hr hK hP hS hk (by omega) dX7_readOne_260 (show P_X7_readOne_d6 σ0 τ0 a1 b N mo q nn nm hc r41 σ41 τ16 from ⟨hR, hF, hFL, by omega, by first | exact RO.ofr ((one_l (by omega) (by omega) (by omega) (by omega)).trans (lea_n (by omega) (by omega))) (by omega) ⟨gCT, by omega, by omega⟩ | (exfalso; omega) | exact RO.ofk (one_x (by omega)) (by omega) (by omega) (by omega) | exact RO.ofk (one_4 (by omega) (by omega)) (by omega) (by omega) (by omega) | (obtain ⟨f, e1, x1, x2⟩ := o1.no (by omega); exact RO.ofl ((one_n (by omega) (by omega)).trans e1) (by omega) x1 x2) | exact RO.ofr ((one_n (by omega) (by omega)).trans e1) (by omega) ⟨gCT, by omega, by omega⟩ | (obtain ⟨f, e2, x1, x2⟩ := o2.no (by omega); exact RO.ofl (by rw [one_o (by omega) (by omega), e2, bnd_l]) (by omega) x1 x2) | (obtain ⟨f, e3, x1, x2⟩ := o3.no (by omega); exact RO.ofl (by rw [one_o (by omega) (by omega), e2, bnd_r, e3, bnd_l]) (by omega) x1 x2) | exact RO.ofr (by rw [one_o (by omega) (by omega), e2, bnd_r, e3, bnd_r]) (by omega) ⟨gCT, by omega, by omega⟩ | (rw [one_l (by omega) (by omega) (by omega) (by omega)]; exact o4.map (fun s es h => ⟨h.1, h.2.1, by have h2 := h.2.2; have hl := lea_up es; omega⟩)) | (rw [one_l (by omega) (by omega) (by omega) (by omega)]; exact o5.map (fun s es h => ⟨h.1, h.2.1, by have h2 := h.2.2; have hl := lea_up es; omega⟩)), by omega, gWH⟩)
        by_cases c45 : (σ0 1 9).toInt = 24
        · refine lv_tableIn (off := 177) (tgt := 249) hx hb dX7_readOne_72 (by omega) (by omega) (by rw [c45]; rfl) (by decide) ?_
          refine lv_aload_n hx hb dX7_readOne_249 rfl (lv_at hl 1 rfl) ?_
          refine fg_7_2 (k := 27) hx hb hts in_X7_readOne_7 hown hK hP (by decide) (by decide) (hts _ lk_X7_readOne_19) dX7_readOne_250 ?_
          refine lv_iload_n hx hb dX7_readOne_253 rfl (lv_at hl 0 rfl) ?_
          refine r_bipush hx hb dX7_readOne_254 (by decide) (fun z46 ez46 => ?_)
          refine r_iconst hx hb dX7_readOne_256 (by decide) (fun z47 ez47 => ?_)
          refine r_cVi (k := 24) (As := [.int (σ0 1 9), .int z46, .int z47]) (rest := []) ⟨hx, hb, hml, hown, hts⟩ hK hP hN hS (c_X6_add l D cA ad hI σ16 τ16 hR (σ0 1 9) z46 z47 (by omega)) (cwV 3 hts gX7_readOne_X6_add rfl rfl rfl (by decide +kernel) ⟨by decide, by decide⟩) (rv_Sent hK hP (by decide) (by decide)) rfl hl.1 rfl (Nat.le_of_ble_eq_true rfl) dX7_readOne_257 (Nat.zero_le _) (Nat.zero_le _) (fun r48 u48 H48 locs48 hp48 hP hS => ?_)
          obtain ⟨σ48, τ48⟩ := u48
          obtain ⟨hR, f48, fL48, hq48, hp48_0⟩ : P_X6_add σ16 τ16 (σ0 1 9) z46 z47 r48 σ48 τ48 := hp48
          have hP : va_P D vwCl (gw cA ad σ48 τ48) H48 := hP
          obtain rfl := FrL.nil fL48
          have hF := hF.step f48 (by decide)
          have gCT := gCT.ag (Agr.fr f48 (by decide))
          have gWH := gWH.ag (Agr.fr f48 (by decide))
          have t49 : (σ48 1 13).toInt = (σ16 1 13).toInt := congrArg Int32.toInt (f48.at 1 13 (by decide))
          have t50 : (σ48 24 1).toInt = (σ16 24 1).toInt := congrArg Int32.toInt (f48.at 24 1 (by decide))
          have hr51 := rg_6_2 hR (k := 24) (by decide) (by decide)
          exact r_zret hx hb hr hK hP hS hk (by omega) dX7_readOne_260 (show P_X7_readOne_d6 σ0 τ0 a1 b N mo q nn nm hc r48 σ48 τ16 from ⟨hR, hF, hFL, by omega, by first | exact RO.ofr ((one_l (by omega) (by omega) (by omega) (by omega)).trans (lea_n (by omega) (by omega))) (by omega) ⟨gCT, by omega, by omega⟩ | (exfalso; omega) | exact RO.ofk (one_x (by omega)) (by omega) (by omega) (by omega) | exact RO.ofk (one_4 (by omega) (by omega)) (by omega) (by omega) (by omega) | (obtain ⟨f, e1, x1, x2⟩ := o1.no (by omega); exact RO.ofl ((one_n (by omega) (by omega)).trans e1) (by omega) x1 x2) | exact RO.ofr ((one_n (by omega) (by omega)).trans e1) (by omega) ⟨gCT, by omega, by omega⟩ | (obtain ⟨f, e2, x1, x2⟩ := o2.no (by omega); exact RO.ofl (by rw [one_o (by omega) (by omega), e2, bnd_l]) (by omega) x1 x2) | (obtain ⟨f, e3, x1, x2⟩ := o3.no (by omega); exact RO.ofl (by rw [one_o (by omega) (by omega), e2, bnd_r, e3, bnd_l]) (by omega) x1 x2) | exact RO.ofr (by rw [one_o (by omega) (by omega), e2, bnd_r, e3, bnd_r]) (by omega) ⟨gCT, by omega, by omega⟩ | (rw [one_l (by omega) (by omega) (by omega) (by omega)]; exact o4.map (fun s es h => ⟨h.1, h.2.1, by have h2 := h.2.2; have hl := lea_up es; omega⟩)) | (rw [one_l (by omega) (by omega) (by omega) (by omega)]; exact o5.map (fun s es h => ⟨h.1, h.2.1, by have h2 := h.2.2; have hl := lea_up es; omega⟩)), by omega, gWH⟩)
        by_cases c52 : (σ0 1 9).toInt = 25
        · refine lv_tableIn (off := 166) (tgt := 238) hx hb dX7_readOne_72 (by omega) (by omega) (by rw [c52]; rfl) (by decide) ?_
          refine lv_aload_n hx hb dX7_readOne_238 rfl (lv_at hl 1 rfl) ?_
          refine r_cVi (k := 27) (As := []) (rest := []) ⟨hx, hb, hml, hown, hts⟩ hK hP hN hS (c_X7_readOn l D cA ad hI σ16 τ16 hR b N mo _ (nn + 1) nm hc (tkq b N mo q) (by omega) (by omega) (by omega) gCT gWH) (cwV 0 hts gX7_readOne_X7_readOn rfl rfl rfl (by decide +kernel) ⟨by decide, by decide⟩) (rv_SText hK hP (by decide) (by decide)) rfl hl.1 rfl (Nat.le_of_ble_eq_true rfl) dX7_readOne_239 (Nat.zero_le _) (Nat.zero_le _) (fun r53 u53 H53 locs53 hp53 hP hS => ?_)
          obtain ⟨σ53, τ53⟩ := u53
          obtain ⟨hR, f53, fL53, hq53, hp53_0, hp53_1, gnWH⟩ : P_X7_readOn σ16 τ16 b N mo _ (nn + 1) nm hc (tkq b N mo q) r53 σ53 τ53 := hp53
          have o4 := hp53_0
          have hP : va_P D vwCl (gw cA ad σ53 τ53) H53 := hP
          have hFL := hFL.step fL53 (by decide)
          have gWH := gWH.agL (AgrL.fr fL53 (by decide))
          have hF := hF.step f53 (by decide)
          have gWH := gWH.ag (Agr.fr f53 (by decide))
          have t54 : (σ53 24 1).toInt = (σ16 24 1).toInt := congrArg Int32.toInt (f53.at 24 1 (by decide))
          have hr55 := rg_6_2 hR (k := 24) (by decide) (by decide)
          exact r_zret hx hb hr hK hP hS hk (by omega) dX7_readOne_242 (show P_X7_readOne_d6 σ0 τ0 a1 b N mo q nn nm hc r53 σ53 τ53 from ⟨hR, hF, hFL, by omega, by first | exact RO.ofr ((one_l (by omega) (by omega) (by omega) (by omega)).trans (lea_n (by omega) (by omega))) (by omega) ⟨gCT, by omega, by omega⟩ | (exfalso; omega) | exact RO.ofk (one_x (by omega)) (by omega) (by omega) (by omega) | exact RO.ofk (one_4 (by omega) (by omega)) (by omega) (by omega) (by omega) | (obtain ⟨f, e1, x1, x2⟩ := o1.no (by omega); exact RO.ofl ((one_n (by omega) (by omega)).trans e1) (by omega) x1 x2) | exact RO.ofr ((one_n (by omega) (by omega)).trans e1) (by omega) ⟨gCT, by omega, by omega⟩ | (obtain ⟨f, e2, x1, x2⟩ := o2.no (by omega); exact RO.ofl (by rw [one_o (by omega) (by omega), e2, bnd_l]) (by omega) x1 x2) | (obtain ⟨f, e3, x1, x2⟩ := o3.no (by omega); exact RO.ofl (by rw [one_o (by omega) (by omega), e2, bnd_r, e3, bnd_l]) (by omega) x1 x2) | exact RO.ofr (by rw [one_o (by omega) (by omega), e2, bnd_r, e3, bnd_r]) (by omega) ⟨gCT, by omega, by omega⟩ | (rw [one_l (by omega) (by omega) (by omega) (by omega)]; exact o4.map (fun s es h => ⟨h.1, h.2.1, by have h2 := h.2.2; have hl := lea_up es; omega⟩)) | (rw [one_l (by omega) (by omega) (by omega) (by omega)]; exact o5.map (fun s es h => ⟨h.1, h.2.1, by have h2 := h.2.2; have hl := lea_up es; omega⟩)), by omega, gWH⟩)
        by_cases c56 : (σ0 1 9).toInt = 26
        · refine lv_tableIn (off := 177) (tgt := 249) hx hb dX7_readOne_72 (by omega) (by omega) (by rw [c56]; rfl) (by decide) ?_
          refine lv_aload_n hx hb dX7_readOne_249 rfl (lv_at hl 1 rfl) ?_
          refine fg_7_2 (k := 27) hx hb hts in_X7_readOne_7 hown hK hP (by decide) (by decide) (hts _ lk_X7_readOne_19) dX7_readOne_250 ?_
          refine lv_iload_n hx hb dX7_readOne_253 rfl (lv_at hl 0 rfl) ?_
          refine r_bipush hx hb dX7_readOne_254 (by decide) (fun z57 ez57 => ?_)
          refine r_iconst hx hb dX7_readOne_256 (by decide) (fun z58 ez58 => ?_)
          refine r_cVi (k := 24) (As := [.int (σ0 1 9), .int z57, .int z58]) (rest := []) ⟨hx, hb, hml, hown, hts⟩ hK hP hN hS (c_X6_add l D cA ad hI σ16 τ16 hR (σ0 1 9) z57 z58 (by omega)) (cwV 3 hts gX7_readOne_X6_add rfl rfl rfl (by decide +kernel) ⟨by decide, by decide⟩) (rv_Sent hK hP (by decide) (by decide)) rfl hl.1 rfl (Nat.le_of_ble_eq_true rfl) dX7_readOne_257 (Nat.zero_le _) (Nat.zero_le _) (fun r59 u59 H59 locs59 hp59 hP hS => ?_)
          obtain ⟨σ59, τ59⟩ := u59
          obtain ⟨hR, f59, fL59, hq59, hp59_0⟩ : P_X6_add σ16 τ16 (σ0 1 9) z57 z58 r59 σ59 τ59 := hp59
          have hP : va_P D vwCl (gw cA ad σ59 τ59) H59 := hP
          obtain rfl := FrL.nil fL59
          have hF := hF.step f59 (by decide)
          have gCT := gCT.ag (Agr.fr f59 (by decide))
          have gWH := gWH.ag (Agr.fr f59 (by decide))
          have t60 : (σ59 1 13).toInt = (σ16 1 13).toInt := congrArg Int32.toInt (f59.at 1 13 (by decide))
          have t61 : (σ59 24 1).toInt = (σ16 24 1).toInt := congrArg Int32.toInt (f59.at 24 1 (by decide))
          have hr62 := rg_6_2 hR (k := 24) (by decide) (by decide)
          exact r_zret hx hb hr hK hP hS hk (by omega) dX7_readOne_260 (show P_X7_readOne_d6 σ0 τ0 a1 b N mo q nn nm hc r59 σ59 τ16 from ⟨hR, hF, hFL, by omega, by first | exact RO.ofr ((one_l (by omega) (by omega) (by omega) (by omega)).trans (lea_n (by omega) (by omega))) (by omega) ⟨gCT, by omega, by omega⟩ | (exfalso; omega) | exact RO.ofk (one_x (by omega)) (by omega) (by omega) (by omega) | exact RO.ofk (one_4 (by omega) (by omega)) (by omega) (by omega) (by omega) | (obtain ⟨f, e1, x1, x2⟩ := o1.no (by omega); exact RO.ofl ((one_n (by omega) (by omega)).trans e1) (by omega) x1 x2) | exact RO.ofr ((one_n (by omega) (by omega)).trans e1) (by omega) ⟨gCT, by omega, by omega⟩ | (obtain ⟨f, e2, x1, x2⟩ := o2.no (by omega); exact RO.ofl (by rw [one_o (by omega) (by omega), e2, bnd_l]) (by omega) x1 x2) | (obtain ⟨f, e3, x1, x2⟩ := o3.no (by omega); exact RO.ofl (by rw [one_o (by omega) (by omega), e2, bnd_r, e3, bnd_l]) (by omega) x1 x2) | exact RO.ofr (by rw [one_o (by omega) (by omega), e2, bnd_r, e3, bnd_r]) (by omega) ⟨gCT, by omega, by omega⟩ | (rw [one_l (by omega) (by omega) (by omega) (by omega)]; exact o4.map (fun s es h => ⟨h.1, h.2.1, by have h2 := h.2.2; have hl := lea_up es; omega⟩)) | (rw [one_l (by omega) (by omega) (by omega) (by omega)]; exact o5.map (fun s es h => ⟨h.1, h.2.1, by have h2 := h.2.2; have hl := lea_up es; omega⟩)), by omega, gWH⟩)
        by_cases c63 : (σ0 1 9).toInt = 27
        · refine lv_tableIn (off := 171) (tgt := 243) hx hb dX7_readOne_72 (by omega) (by omega) (by rw [c63]; rfl) (by decide) ?_
          refine lv_aload_n hx hb dX7_readOne_243 rfl (lv_at hl 1 rfl) ?_
          refine lv_iload_n hx hb dX7_readOne_244 rfl (lv_at hl 0 rfl) ?_
          refine r_cVi (k := 27) (As := [.int (σ0 1 9)]) (rest := []) ⟨hx, hb, hml, hown, hts⟩ hK hP hN hS (c_X7_readMeasure l D cA ad hI σ16 τ16 hR (σ0 1 9) b N mo _ (nn + 1) nm hc (tkq b N mo q) (by omega) (by omega) (by omega) (by omega) gCT gWH) (cwV 1 hts gX7_readOne_X7_readMeasure rfl rfl rfl (by decide +kernel) ⟨by decide, by decide⟩) (rv_SText hK hP (by decide) (by decide)) rfl hl.1 rfl (Nat.le_of_ble_eq_true rfl) dX7_readOne_245 (Nat.zero_le _) (Nat.zero_le _) (fun r64 u64 H64 locs64 hp64 hP hS => ?_)
          obtain ⟨σ64, τ64⟩ := u64
          obtain ⟨hR, f64, fL64, hq64, hp64_0, hp64_1, gnWH⟩ : P_X7_readMeasure σ16 τ16 (σ0 1 9) b N mo _ (nn + 1) nm hc (tkq b N mo q) r64 σ64 τ64 := hp64
          have o5 := hp64_0
          have hP : va_P D vwCl (gw cA ad σ64 τ64) H64 := hP
          have hFL := hFL.step fL64 (by decide)
          have gWH := gWH.agL (AgrL.fr fL64 (by decide))
          have hF := hF.step f64 (by decide)
          have gWH := gWH.ag (Agr.fr f64 (by decide))
          have t65 : (σ64 24 1).toInt = (σ16 24 1).toInt := congrArg Int32.toInt (f64.at 24 1 (by decide))
          have hr66 := rg_6_2 hR (k := 24) (by decide) (by decide)
          exact r_zret hx hb hr hK hP hS hk (by omega) dX7_readOne_248 (show P_X7_readOne_d6 σ0 τ0 a1 b N mo q nn nm hc r64 σ64 τ64 from ⟨hR, hF, hFL, by omega, by first | exact RO.ofr ((one_l (by omega) (by omega) (by omega) (by omega)).trans (lea_n (by omega) (by omega))) (by omega) ⟨gCT, by omega, by omega⟩ | (exfalso; omega) | exact RO.ofk (one_x (by omega)) (by omega) (by omega) (by omega) | exact RO.ofk (one_4 (by omega) (by omega)) (by omega) (by omega) (by omega) | (obtain ⟨f, e1, x1, x2⟩ := o1.no (by omega); exact RO.ofl ((one_n (by omega) (by omega)).trans e1) (by omega) x1 x2) | exact RO.ofr ((one_n (by omega) (by omega)).trans e1) (by omega) ⟨gCT, by omega, by omega⟩ | (obtain ⟨f, e2, x1, x2⟩ := o2.no (by omega); exact RO.ofl (by rw [one_o (by omega) (by omega), e2, bnd_l]) (by omega) x1 x2) | (obtain ⟨f, e3, x1, x2⟩ := o3.no (by omega); exact RO.ofl (by rw [one_o (by omega) (by omega), e2, bnd_r, e3, bnd_l]) (by omega) x1 x2) | exact RO.ofr (by rw [one_o (by omega) (by omega), e2, bnd_r, e3, bnd_r]) (by omega) ⟨gCT, by omega, by omega⟩ | (rw [one_l (by omega) (by omega) (by omega) (by omega)]; exact o4.map (fun s es h => ⟨h.1, h.2.1, by have h2 := h.2.2; have hl := lea_up es; omega⟩)) | (rw [one_l (by omega) (by omega) (by omega) (by omega)]; exact o5.map (fun s es h => ⟨h.1, h.2.1, by have h2 := h.2.2; have hl := lea_up es; omega⟩)), by omega, gWH⟩)
        by_cases c67 : (σ0 1 9).toInt = 28
        · refine lv_tableIn (off := 171) (tgt := 243) hx hb dX7_readOne_72 (by omega) (by omega) (by rw [c67]; rfl) (by decide) ?_
          refine lv_aload_n hx hb dX7_readOne_243 rfl (lv_at hl 1 rfl) ?_
          refine lv_iload_n hx hb dX7_readOne_244 rfl (lv_at hl 0 rfl) ?_
          refine r_cVi (k := 27) (As := [.int (σ0 1 9)]) (rest := []) ⟨hx, hb, hml, hown, hts⟩ hK hP hN hS (c_X7_readMeasure l D cA ad hI σ16 τ16 hR (σ0 1 9) b N mo _ (nn + 1) nm hc (tkq b N mo q) (by omega) (by omega) (by omega) (by omega) gCT gWH) (cwV 1 hts gX7_readOne_X7_readMeasure rfl rfl rfl (by decide +kernel) ⟨by decide, by decide⟩) (rv_SText hK hP (by decide) (by decide)) rfl hl.1 rfl (Nat.le_of_ble_eq_true rfl) dX7_readOne_245 (Nat.zero_le _) (Nat.zero_le _) (fun r68 u68 H68 locs68 hp68 hP hS => ?_)
          obtain ⟨σ68, τ68⟩ := u68
          obtain ⟨hR, f68, fL68, hq68, hp68_0, hp68_1, gnWH⟩ : P_X7_readMeasure σ16 τ16 (σ0 1 9) b N mo _ (nn + 1) nm hc (tkq b N mo q) r68 σ68 τ68 := hp68
          have o5 := hp68_0
          have hP : va_P D vwCl (gw cA ad σ68 τ68) H68 := hP
          have hFL := hFL.step fL68 (by decide)
          have gWH := gWH.agL (AgrL.fr fL68 (by decide))
          have hF := hF.step f68 (by decide)
          have gWH := gWH.ag (Agr.fr f68 (by decide))
          have t69 : (σ68 24 1).toInt = (σ16 24 1).toInt := congrArg Int32.toInt (f68.at 24 1 (by decide))
          have hr70 := rg_6_2 hR (k := 24) (by decide) (by decide)
          exact r_zret hx hb hr hK hP hS hk (by omega) dX7_readOne_248 (show P_X7_readOne_d6 σ0 τ0 a1 b N mo q nn nm hc r68 σ68 τ68 from ⟨hR, hF, hFL, by omega, by first | exact RO.ofr ((one_l (by omega) (by omega) (by omega) (by omega)).trans (lea_n (by omega) (by omega))) (by omega) ⟨gCT, by omega, by omega⟩ | (exfalso; omega) | exact RO.ofk (one_x (by omega)) (by omega) (by omega) (by omega) | exact RO.ofk (one_4 (by omega) (by omega)) (by omega) (by omega) (by omega) | (obtain ⟨f, e1, x1, x2⟩ := o1.no (by omega); exact RO.ofl ((one_n (by omega) (by omega)).trans e1) (by omega) x1 x2) | exact RO.ofr ((one_n (by omega) (by omega)).trans e1) (by omega) ⟨gCT, by omega, by omega⟩ | (obtain ⟨f, e2, x1, x2⟩ := o2.no (by omega); exact RO.ofl (by rw [one_o (by omega) (by omega), e2, bnd_l]) (by omega) x1 x2) | (obtain ⟨f, e3, x1, x2⟩ := o3.no (by omega); exact RO.ofl (by rw [one_o (by omega) (by omega), e2, bnd_r, e3, bnd_l]) (by omega) x1 x2) | exact RO.ofr (by rw [one_o (by omega) (by omega), e2, bnd_r, e3, bnd_r]) (by omega) ⟨gCT, by omega, by omega⟩ | (rw [one_l (by omega) (by omega) (by omega) (by omega)]; exact o4.map (fun s es h => ⟨h.1, h.2.1, by have h2 := h.2.2; have hl := lea_up es; omega⟩)) | (rw [one_l (by omega) (by omega) (by omega) (by omega)]; exact o5.map (fun s es h => ⟨h.1, h.2.1, by have h2 := h.2.2; have hl := lea_up es; omega⟩)), by omega, gWH⟩)
        by_cases c71 : (σ0 1 9).toInt = 29
        · refine lv_tableIn (off := 171) (tgt := 243) hx hb dX7_readOne_72 (by omega) (by omega) (by rw [c71]; rfl) (by decide) ?_
          refine lv_aload_n hx hb dX7_readOne_243 rfl (lv_at hl 1 rfl) ?_
          refine lv_iload_n hx hb dX7_readOne_244 rfl (lv_at hl 0 rfl) ?_
          refine r_cVi (k := 27) (As := [.int (σ0 1 9)]) (rest := []) ⟨hx, hb, hml, hown, hts⟩ hK hP hN hS (c_X7_readMeasure l D cA ad hI σ16 τ16 hR (σ0 1 9) b N mo _ (nn + 1) nm hc (tkq b N mo q) (by omega) (by omega) (by omega) (by omega) gCT gWH) (cwV 1 hts gX7_readOne_X7_readMeasure rfl rfl rfl (by decide +kernel) ⟨by decide, by decide⟩) (rv_SText hK hP (by decide) (by decide)) rfl hl.1 rfl (Nat.le_of_ble_eq_true rfl) dX7_readOne_245 (Nat.zero_le _) (Nat.zero_le _) (fun r72 u72 H72 locs72 hp72 hP hS => ?_)
          obtain ⟨σ72, τ72⟩ := u72
          obtain ⟨hR, f72, fL72, hq72, hp72_0, hp72_1, gnWH⟩ : P_X7_readMeasure σ16 τ16 (σ0 1 9) b N mo _ (nn + 1) nm hc (tkq b N mo q) r72 σ72 τ72 := hp72
          have o5 := hp72_0
          have hP : va_P D vwCl (gw cA ad σ72 τ72) H72 := hP
          have hFL := hFL.step fL72 (by decide)
          have gWH := gWH.agL (AgrL.fr fL72 (by decide))
          have hF := hF.step f72 (by decide)
          have gWH := gWH.ag (Agr.fr f72 (by decide))
          have t73 : (σ72 24 1).toInt = (σ16 24 1).toInt := congrArg Int32.toInt (f72.at 24 1 (by decide))
          have hr74 := rg_6_2 hR (k := 24) (by decide) (by decide)
          exact r_zret hx hb hr hK hP hS hk (by omega) dX7_readOne_248 (show P_X7_readOne_d6 σ0 τ0 a1 b N mo q nn nm hc r72 σ72 τ72 from ⟨hR, hF, hFL, by omega, by first | exact RO.ofr ((one_l (by omega) (by omega) (by omega) (by omega)).trans (lea_n (by omega) (by omega))) (by omega) ⟨gCT, by omega, by omega⟩ | (exfalso; omega) | exact RO.ofk (one_x (by omega)) (by omega) (by omega) (by omega) | exact RO.ofk (one_4 (by omega) (by omega)) (by omega) (by omega) (by omega) | (obtain ⟨f, e1, x1, x2⟩ := o1.no (by omega); exact RO.ofl ((one_n (by omega) (by omega)).trans e1) (by omega) x1 x2) | exact RO.ofr ((one_n (by omega) (by omega)).trans e1) (by omega) ⟨gCT, by omega, by omega⟩ | (obtain ⟨f, e2, x1, x2⟩ := o2.no (by omega); exact RO.ofl (by rw [one_o (by omega) (by omega), e2, bnd_l]) (by omega) x1 x2) | (obtain ⟨f, e3, x1, x2⟩ := o3.no (by omega); exact RO.ofl (by rw [one_o (by omega) (by omega), e2, bnd_r, e3, bnd_l]) (by omega) x1 x2) | exact RO.ofr (by rw [one_o (by omega) (by omega), e2, bnd_r, e3, bnd_r]) (by omega) ⟨gCT, by omega, by omega⟩ | (rw [one_l (by omega) (by omega) (by omega) (by omega)]; exact o4.map (fun s es h => ⟨h.1, h.2.1, by have h2 := h.2.2; have hl := lea_up es; omega⟩)) | (rw [one_l (by omega) (by omega) (by omega) (by omega)]; exact o5.map (fun s es h => ⟨h.1, h.2.1, by have h2 := h.2.2; have hl := lea_up es; omega⟩)), by omega, gWH⟩)
        by_cases c75 : (σ0 1 9).toInt = 30
        · refine lv_tableIn (off := 171) (tgt := 243) hx hb dX7_readOne_72 (by omega) (by omega) (by rw [c75]; rfl) (by decide) ?_
          refine lv_aload_n hx hb dX7_readOne_243 rfl (lv_at hl 1 rfl) ?_
          refine lv_iload_n hx hb dX7_readOne_244 rfl (lv_at hl 0 rfl) ?_
          refine r_cVi (k := 27) (As := [.int (σ0 1 9)]) (rest := []) ⟨hx, hb, hml, hown, hts⟩ hK hP hN hS (c_X7_readMeasure l D cA ad hI σ16 τ16 hR (σ0 1 9) b N mo _ (nn + 1) nm hc (tkq b N mo q) (by omega) (by omega) (by omega) (by omega) gCT gWH) (cwV 1 hts gX7_readOne_X7_readMeasure rfl rfl rfl (by decide +kernel) ⟨by decide, by decide⟩) (rv_SText hK hP (by decide) (by decide)) rfl hl.1 rfl (Nat.le_of_ble_eq_true rfl) dX7_readOne_245 (Nat.zero_le _) (Nat.zero_le _) (fun r76 u76 H76 locs76 hp76 hP hS => ?_)
          obtain ⟨σ76, τ76⟩ := u76
          obtain ⟨hR, f76, fL76, hq76, hp76_0, hp76_1, gnWH⟩ : P_X7_readMeasure σ16 τ16 (σ0 1 9) b N mo _ (nn + 1) nm hc (tkq b N mo q) r76 σ76 τ76 := hp76
          have o5 := hp76_0
          have hP : va_P D vwCl (gw cA ad σ76 τ76) H76 := hP
          have hFL := hFL.step fL76 (by decide)
          have gWH := gWH.agL (AgrL.fr fL76 (by decide))
          have hF := hF.step f76 (by decide)
          have gWH := gWH.ag (Agr.fr f76 (by decide))
          have t77 : (σ76 24 1).toInt = (σ16 24 1).toInt := congrArg Int32.toInt (f76.at 24 1 (by decide))
          have hr78 := rg_6_2 hR (k := 24) (by decide) (by decide)
          exact r_zret hx hb hr hK hP hS hk (by omega) dX7_readOne_248 (show P_X7_readOne_d6 σ0 τ0 a1 b N mo q nn nm hc r76 σ76 τ76 from ⟨hR, hF, hFL, by omega, by first | exact RO.ofr ((one_l (by omega) (by omega) (by omega) (by omega)).trans (lea_n (by omega) (by omega))) (by omega) ⟨gCT, by omega, by omega⟩ | (exfalso; omega) | exact RO.ofk (one_x (by omega)) (by omega) (by omega) (by omega) | exact RO.ofk (one_4 (by omega) (by omega)) (by omega) (by omega) (by omega) | (obtain ⟨f, e1, x1, x2⟩ := o1.no (by omega); exact RO.ofl ((one_n (by omega) (by omega)).trans e1) (by omega) x1 x2) | exact RO.ofr ((one_n (by omega) (by omega)).trans e1) (by omega) ⟨gCT, by omega, by omega⟩ | (obtain ⟨f, e2, x1, x2⟩ := o2.no (by omega); exact RO.ofl (by rw [one_o (by omega) (by omega), e2, bnd_l]) (by omega) x1 x2) | (obtain ⟨f, e3, x1, x2⟩ := o3.no (by omega); exact RO.ofl (by rw [one_o (by omega) (by omega), e2, bnd_r, e3, bnd_l]) (by omega) x1 x2) | exact RO.ofr (by rw [one_o (by omega) (by omega), e2, bnd_r, e3, bnd_r]) (by omega) ⟨gCT, by omega, by omega⟩ | (rw [one_l (by omega) (by omega) (by omega) (by omega)]; exact o4.map (fun s es h => ⟨h.1, h.2.1, by have h2 := h.2.2; have hl := lea_up es; omega⟩)) | (rw [one_l (by omega) (by omega) (by omega) (by omega)]; exact o5.map (fun s es h => ⟨h.1, h.2.1, by have h2 := h.2.2; have hl := lea_up es; omega⟩)), by omega, gWH⟩)
        by_cases c79 : (σ0 1 9).toInt = 31
        · refine lv_tableIn (off := 177) (tgt := 249) hx hb dX7_readOne_72 (by omega) (by omega) (by rw [c79]; rfl) (by decide) ?_
          refine lv_aload_n hx hb dX7_readOne_249 rfl (lv_at hl 1 rfl) ?_
          refine fg_7_2 (k := 27) hx hb hts in_X7_readOne_7 hown hK hP (by decide) (by decide) (hts _ lk_X7_readOne_19) dX7_readOne_250 ?_
          refine lv_iload_n hx hb dX7_readOne_253 rfl (lv_at hl 0 rfl) ?_
          refine r_bipush hx hb dX7_readOne_254 (by decide) (fun z80 ez80 => ?_)
          refine r_iconst hx hb dX7_readOne_256 (by decide) (fun z81 ez81 => ?_)
          refine r_cVi (k := 24) (As := [.int (σ0 1 9), .int z80, .int z81]) (rest := []) ⟨hx, hb, hml, hown, hts⟩ hK hP hN hS (c_X6_add l D cA ad hI σ16 τ16 hR (σ0 1 9) z80 z81 (by omega)) (cwV 3 hts gX7_readOne_X6_add rfl rfl rfl (by decide +kernel) ⟨by decide, by decide⟩) (rv_Sent hK hP (by decide) (by decide)) rfl hl.1 rfl (Nat.le_of_ble_eq_true rfl) dX7_readOne_257 (Nat.zero_le _) (Nat.zero_le _) (fun r82 u82 H82 locs82 hp82 hP hS => ?_)
          obtain ⟨σ82, τ82⟩ := u82
          obtain ⟨hR, f82, fL82, hq82, hp82_0⟩ : P_X6_add σ16 τ16 (σ0 1 9) z80 z81 r82 σ82 τ82 := hp82
          have hP : va_P D vwCl (gw cA ad σ82 τ82) H82 := hP
          obtain rfl := FrL.nil fL82
          have hF := hF.step f82 (by decide)
          have gCT := gCT.ag (Agr.fr f82 (by decide))
          have gWH := gWH.ag (Agr.fr f82 (by decide))
          have t83 : (σ82 1 13).toInt = (σ16 1 13).toInt := congrArg Int32.toInt (f82.at 1 13 (by decide))
          have t84 : (σ82 24 1).toInt = (σ16 24 1).toInt := congrArg Int32.toInt (f82.at 24 1 (by decide))
          have hr85 := rg_6_2 hR (k := 24) (by decide) (by decide)
          exact r_zret hx hb hr hK hP hS hk (by omega) dX7_readOne_260 (show P_X7_readOne_d6 σ0 τ0 a1 b N mo q nn nm hc r82 σ82 τ16 from ⟨hR, hF, hFL, by omega, by first | exact RO.ofr ((one_l (by omega) (by omega) (by omega) (by omega)).trans (lea_n (by omega) (by omega))) (by omega) ⟨gCT, by omega, by omega⟩ | (exfalso; omega) | exact RO.ofk (one_x (by omega)) (by omega) (by omega) (by omega) | exact RO.ofk (one_4 (by omega) (by omega)) (by omega) (by omega) (by omega) | (obtain ⟨f, e1, x1, x2⟩ := o1.no (by omega); exact RO.ofl ((one_n (by omega) (by omega)).trans e1) (by omega) x1 x2) | exact RO.ofr ((one_n (by omega) (by omega)).trans e1) (by omega) ⟨gCT, by omega, by omega⟩ | (obtain ⟨f, e2, x1, x2⟩ := o2.no (by omega); exact RO.ofl (by rw [one_o (by omega) (by omega), e2, bnd_l]) (by omega) x1 x2) | (obtain ⟨f, e3, x1, x2⟩ := o3.no (by omega); exact RO.ofl (by rw [one_o (by omega) (by omega), e2, bnd_r, e3, bnd_l]) (by omega) x1 x2) | exact RO.ofr (by rw [one_o (by omega) (by omega), e2, bnd_r, e3, bnd_r]) (by omega) ⟨gCT, by omega, by omega⟩ | (rw [one_l (by omega) (by omega) (by omega) (by omega)]; exact o4.map (fun s es h => ⟨h.1, h.2.1, by have h2 := h.2.2; have hl := lea_up es; omega⟩)) | (rw [one_l (by omega) (by omega) (by omega) (by omega)]; exact o5.map (fun s es h => ⟨h.1, h.2.1, by have h2 := h.2.2; have hl := lea_up es; omega⟩)), by omega, gWH⟩)
        by_cases c86 : (σ0 1 9).toInt = 32
        · refine lv_tableIn (off := 177) (tgt := 249) hx hb dX7_readOne_72 (by omega) (by omega) (by rw [c86]; rfl) (by decide) ?_
          refine lv_aload_n hx hb dX7_readOne_249 rfl (lv_at hl 1 rfl) ?_
          refine fg_7_2 (k := 27) hx hb hts in_X7_readOne_7 hown hK hP (by decide) (by decide) (hts _ lk_X7_readOne_19) dX7_readOne_250 ?_
          refine lv_iload_n hx hb dX7_readOne_253 rfl (lv_at hl 0 rfl) ?_
          refine r_bipush hx hb dX7_readOne_254 (by decide) (fun z87 ez87 => ?_)
          refine r_iconst hx hb dX7_readOne_256 (by decide) (fun z88 ez88 => ?_)
          refine r_cVi (k := 24) (As := [.int (σ0 1 9), .int z87, .int z88]) (rest := []) ⟨hx, hb, hml, hown, hts⟩ hK hP hN hS (c_X6_add l D cA ad hI σ16 τ16 hR (σ0 1 9) z87 z88 (by omega)) (cwV 3 hts gX7_readOne_X6_add rfl rfl rfl (by decide +kernel) ⟨by decide, by decide⟩) (rv_Sent hK hP (by decide) (by decide)) rfl hl.1 rfl (Nat.le_of_ble_eq_true rfl) dX7_readOne_257 (Nat.zero_le _) (Nat.zero_le _) (fun r89 u89 H89 locs89 hp89 hP hS => ?_)
          obtain ⟨σ89, τ89⟩ := u89
          obtain ⟨hR, f89, fL89, hq89, hp89_0⟩ : P_X6_add σ16 τ16 (σ0 1 9) z87 z88 r89 σ89 τ89 := hp89
          have hP : va_P D vwCl (gw cA ad σ89 τ89) H89 := hP
          obtain rfl := FrL.nil fL89
          have hF := hF.step f89 (by decide)
          have gCT := gCT.ag (Agr.fr f89 (by decide))
          have gWH := gWH.ag (Agr.fr f89 (by decide))
          have t90 : (σ89 1 13).toInt = (σ16 1 13).toInt := congrArg Int32.toInt (f89.at 1 13 (by decide))
          have t91 : (σ89 24 1).toInt = (σ16 24 1).toInt := congrArg Int32.toInt (f89.at 24 1 (by decide))
          have hr92 := rg_6_2 hR (k := 24) (by decide) (by decide)
          exact r_zret hx hb hr hK hP hS hk (by omega) dX7_readOne_260 (show P_X7_readOne_d6 σ0 τ0 a1 b N mo q nn nm hc r89 σ89 τ16 from ⟨hR, hF, hFL, by omega, by first | exact RO.ofr ((one_l (by omega) (by omega) (by omega) (by omega)).trans (lea_n (by omega) (by omega))) (by omega) ⟨gCT, by omega, by omega⟩ | (exfalso; omega) | exact RO.ofk (one_x (by omega)) (by omega) (by omega) (by omega) | exact RO.ofk (one_4 (by omega) (by omega)) (by omega) (by omega) (by omega) | (obtain ⟨f, e1, x1, x2⟩ := o1.no (by omega); exact RO.ofl ((one_n (by omega) (by omega)).trans e1) (by omega) x1 x2) | exact RO.ofr ((one_n (by omega) (by omega)).trans e1) (by omega) ⟨gCT, by omega, by omega⟩ | (obtain ⟨f, e2, x1, x2⟩ := o2.no (by omega); exact RO.ofl (by rw [one_o (by omega) (by omega), e2, bnd_l]) (by omega) x1 x2) | (obtain ⟨f, e3, x1, x2⟩ := o3.no (by omega); exact RO.ofl (by rw [one_o (by omega) (by omega), e2, bnd_r, e3, bnd_l]) (by omega) x1 x2) | exact RO.ofr (by rw [one_o (by omega) (by omega), e2, bnd_r, e3, bnd_r]) (by omega) ⟨gCT, by omega, by omega⟩ | (rw [one_l (by omega) (by omega) (by omega) (by omega)]; exact o4.map (fun s es h => ⟨h.1, h.2.1, by have h2 := h.2.2; have hl := lea_up es; omega⟩)) | (rw [one_l (by omega) (by omega) (by omega) (by omega)]; exact o5.map (fun s es h => ⟨h.1, h.2.1, by have h2 := h.2.2; have hl := lea_up es; omega⟩)), by omega, gWH⟩)
        by_cases c93 : (σ0 1 9).toInt = 33
        · refine lv_tableIn (off := 177) (tgt := 249) hx hb dX7_readOne_72 (by omega) (by omega) (by rw [c93]; rfl) (by decide) ?_
          refine lv_aload_n hx hb dX7_readOne_249 rfl (lv_at hl 1 rfl) ?_
          refine fg_7_2 (k := 27) hx hb hts in_X7_readOne_7 hown hK hP (by decide) (by decide) (hts _ lk_X7_readOne_19) dX7_readOne_250 ?_
          refine lv_iload_n hx hb dX7_readOne_253 rfl (lv_at hl 0 rfl) ?_
          refine r_bipush hx hb dX7_readOne_254 (by decide) (fun z94 ez94 => ?_)
          refine r_iconst hx hb dX7_readOne_256 (by decide) (fun z95 ez95 => ?_)
          refine r_cVi (k := 24) (As := [.int (σ0 1 9), .int z94, .int z95]) (rest := []) ⟨hx, hb, hml, hown, hts⟩ hK hP hN hS (c_X6_add l D cA ad hI σ16 τ16 hR (σ0 1 9) z94 z95 (by omega)) (cwV 3 hts gX7_readOne_X6_add rfl rfl rfl (by decide +kernel) ⟨by decide, by decide⟩) (rv_Sent hK hP (by decide) (by decide)) rfl hl.1 rfl (Nat.le_of_ble_eq_true rfl) dX7_readOne_257 (Nat.zero_le _) (Nat.zero_le _) (fun r96 u96 H96 locs96 hp96 hP hS => ?_)
          obtain ⟨σ96, τ96⟩ := u96
          obtain ⟨hR, f96, fL96, hq96, hp96_0⟩ : P_X6_add σ16 τ16 (σ0 1 9) z94 z95 r96 σ96 τ96 := hp96
          have hP : va_P D vwCl (gw cA ad σ96 τ96) H96 := hP
          obtain rfl := FrL.nil fL96
          have hF := hF.step f96 (by decide)
          have gCT := gCT.ag (Agr.fr f96 (by decide))
          have gWH := gWH.ag (Agr.fr f96 (by decide))
          have t97 : (σ96 1 13).toInt = (σ16 1 13).toInt := congrArg Int32.toInt (f96.at 1 13 (by decide))
          have t98 : (σ96 24 1).toInt = (σ16 24 1).toInt := congrArg Int32.toInt (f96.at 24 1 (by decide))
          have hr99 := rg_6_2 hR (k := 24) (by decide) (by decide)
          exact r_zret hx hb hr hK hP hS hk (by omega) dX7_readOne_260 (show P_X7_readOne_d6 σ0 τ0 a1 b N mo q nn nm hc r96 σ96 τ16 from ⟨hR, hF, hFL, by omega, by first | exact RO.ofr ((one_l (by omega) (by omega) (by omega) (by omega)).trans (lea_n (by omega) (by omega))) (by omega) ⟨gCT, by omega, by omega⟩ | (exfalso; omega) | exact RO.ofk (one_x (by omega)) (by omega) (by omega) (by omega) | exact RO.ofk (one_4 (by omega) (by omega)) (by omega) (by omega) (by omega) | (obtain ⟨f, e1, x1, x2⟩ := o1.no (by omega); exact RO.ofl ((one_n (by omega) (by omega)).trans e1) (by omega) x1 x2) | exact RO.ofr ((one_n (by omega) (by omega)).trans e1) (by omega) ⟨gCT, by omega, by omega⟩ | (obtain ⟨f, e2, x1, x2⟩ := o2.no (by omega); exact RO.ofl (by rw [one_o (by omega) (by omega), e2, bnd_l]) (by omega) x1 x2) | (obtain ⟨f, e3, x1, x2⟩ := o3.no (by omega); exact RO.ofl (by rw [one_o (by omega) (by omega), e2, bnd_r, e3, bnd_l]) (by omega) x1 x2) | exact RO.ofr (by rw [one_o (by omega) (by omega), e2, bnd_r, e3, bnd_r]) (by omega) ⟨gCT, by omega, by omega⟩ | (rw [one_l (by omega) (by omega) (by omega) (by omega)]; exact o4.map (fun s es h => ⟨h.1, h.2.1, by have h2 := h.2.2; have hl := lea_up es; omega⟩)) | (rw [one_l (by omega) (by omega) (by omega) (by omega)]; exact o5.map (fun s es h => ⟨h.1, h.2.1, by have h2 := h.2.2; have hl := lea_up es; omega⟩)), by omega, gWH⟩)
        by_cases c100 : (σ0 1 9).toInt = 34
        · refine lv_tableIn (off := 177) (tgt := 249) hx hb dX7_readOne_72 (by omega) (by omega) (by rw [c100]; rfl) (by decide) ?_
          refine lv_aload_n hx hb dX7_readOne_249 rfl (lv_at hl 1 rfl) ?_
          refine fg_7_2 (k := 27) hx hb hts in_X7_readOne_7 hown hK hP (by decide) (by decide) (hts _ lk_X7_readOne_19) dX7_readOne_250 ?_
          refine lv_iload_n hx hb dX7_readOne_253 rfl (lv_at hl 0 rfl) ?_
          refine r_bipush hx hb dX7_readOne_254 (by decide) (fun z101 ez101 => ?_)
          refine r_iconst hx hb dX7_readOne_256 (by decide) (fun z102 ez102 => ?_)
          refine r_cVi (k := 24) (As := [.int (σ0 1 9), .int z101, .int z102]) (rest := []) ⟨hx, hb, hml, hown, hts⟩ hK hP hN hS (c_X6_add l D cA ad hI σ16 τ16 hR (σ0 1 9) z101 z102 (by omega)) (cwV 3 hts gX7_readOne_X6_add rfl rfl rfl (by decide +kernel) ⟨by decide, by decide⟩) (rv_Sent hK hP (by decide) (by decide)) rfl hl.1 rfl (Nat.le_of_ble_eq_true rfl) dX7_readOne_257 (Nat.zero_le _) (Nat.zero_le _) (fun r103 u103 H103 locs103 hp103 hP hS => ?_)
          obtain ⟨σ103, τ103⟩ := u103
          obtain ⟨hR, f103, fL103, hq103, hp103_0⟩ : P_X6_add σ16 τ16 (σ0 1 9) z101 z102 r103 σ103 τ103 := hp103
          have hP : va_P D vwCl (gw cA ad σ103 τ103) H103 := hP
          obtain rfl := FrL.nil fL103
          have hF := hF.step f103 (by decide)
          have gCT := gCT.ag (Agr.fr f103 (by decide))
          have gWH := gWH.ag (Agr.fr f103 (by decide))
          have t104 : (σ103 1 13).toInt = (σ16 1 13).toInt := congrArg Int32.toInt (f103.at 1 13 (by decide))
          have t105 : (σ103 24 1).toInt = (σ16 24 1).toInt := congrArg Int32.toInt (f103.at 24 1 (by decide))
          have hr106 := rg_6_2 hR (k := 24) (by decide) (by decide)
          exact r_zret hx hb hr hK hP hS hk (by omega) dX7_readOne_260 (show P_X7_readOne_d6 σ0 τ0 a1 b N mo q nn nm hc r103 σ103 τ16 from ⟨hR, hF, hFL, by omega, by first | exact RO.ofr ((one_l (by omega) (by omega) (by omega) (by omega)).trans (lea_n (by omega) (by omega))) (by omega) ⟨gCT, by omega, by omega⟩ | (exfalso; omega) | exact RO.ofk (one_x (by omega)) (by omega) (by omega) (by omega) | exact RO.ofk (one_4 (by omega) (by omega)) (by omega) (by omega) (by omega) | (obtain ⟨f, e1, x1, x2⟩ := o1.no (by omega); exact RO.ofl ((one_n (by omega) (by omega)).trans e1) (by omega) x1 x2) | exact RO.ofr ((one_n (by omega) (by omega)).trans e1) (by omega) ⟨gCT, by omega, by omega⟩ | (obtain ⟨f, e2, x1, x2⟩ := o2.no (by omega); exact RO.ofl (by rw [one_o (by omega) (by omega), e2, bnd_l]) (by omega) x1 x2) | (obtain ⟨f, e3, x1, x2⟩ := o3.no (by omega); exact RO.ofl (by rw [one_o (by omega) (by omega), e2, bnd_r, e3, bnd_l]) (by omega) x1 x2) | exact RO.ofr (by rw [one_o (by omega) (by omega), e2, bnd_r, e3, bnd_r]) (by omega) ⟨gCT, by omega, by omega⟩ | (rw [one_l (by omega) (by omega) (by omega) (by omega)]; exact o4.map (fun s es h => ⟨h.1, h.2.1, by have h2 := h.2.2; have hl := lea_up es; omega⟩)) | (rw [one_l (by omega) (by omega) (by omega) (by omega)]; exact o5.map (fun s es h => ⟨h.1, h.2.1, by have h2 := h.2.2; have hl := lea_up es; omega⟩)), by omega, gWH⟩)
        by_cases c107 : (σ0 1 9).toInt = 35
        · refine lv_tableIn (off := 177) (tgt := 249) hx hb dX7_readOne_72 (by omega) (by omega) (by rw [c107]; rfl) (by decide) ?_
          refine lv_aload_n hx hb dX7_readOne_249 rfl (lv_at hl 1 rfl) ?_
          refine fg_7_2 (k := 27) hx hb hts in_X7_readOne_7 hown hK hP (by decide) (by decide) (hts _ lk_X7_readOne_19) dX7_readOne_250 ?_
          refine lv_iload_n hx hb dX7_readOne_253 rfl (lv_at hl 0 rfl) ?_
          refine r_bipush hx hb dX7_readOne_254 (by decide) (fun z108 ez108 => ?_)
          refine r_iconst hx hb dX7_readOne_256 (by decide) (fun z109 ez109 => ?_)
          refine r_cVi (k := 24) (As := [.int (σ0 1 9), .int z108, .int z109]) (rest := []) ⟨hx, hb, hml, hown, hts⟩ hK hP hN hS (c_X6_add l D cA ad hI σ16 τ16 hR (σ0 1 9) z108 z109 (by omega)) (cwV 3 hts gX7_readOne_X6_add rfl rfl rfl (by decide +kernel) ⟨by decide, by decide⟩) (rv_Sent hK hP (by decide) (by decide)) rfl hl.1 rfl (Nat.le_of_ble_eq_true rfl) dX7_readOne_257 (Nat.zero_le _) (Nat.zero_le _) (fun r110 u110 H110 locs110 hp110 hP hS => ?_)
          obtain ⟨σ110, τ110⟩ := u110
          obtain ⟨hR, f110, fL110, hq110, hp110_0⟩ : P_X6_add σ16 τ16 (σ0 1 9) z108 z109 r110 σ110 τ110 := hp110
          have hP : va_P D vwCl (gw cA ad σ110 τ110) H110 := hP
          obtain rfl := FrL.nil fL110
          have hF := hF.step f110 (by decide)
          have gCT := gCT.ag (Agr.fr f110 (by decide))
          have gWH := gWH.ag (Agr.fr f110 (by decide))
          have t111 : (σ110 1 13).toInt = (σ16 1 13).toInt := congrArg Int32.toInt (f110.at 1 13 (by decide))
          have t112 : (σ110 24 1).toInt = (σ16 24 1).toInt := congrArg Int32.toInt (f110.at 24 1 (by decide))
          have hr113 := rg_6_2 hR (k := 24) (by decide) (by decide)
          exact r_zret hx hb hr hK hP hS hk (by omega) dX7_readOne_260 (show P_X7_readOne_d6 σ0 τ0 a1 b N mo q nn nm hc r110 σ110 τ16 from ⟨hR, hF, hFL, by omega, by first | exact RO.ofr ((one_l (by omega) (by omega) (by omega) (by omega)).trans (lea_n (by omega) (by omega))) (by omega) ⟨gCT, by omega, by omega⟩ | (exfalso; omega) | exact RO.ofk (one_x (by omega)) (by omega) (by omega) (by omega) | exact RO.ofk (one_4 (by omega) (by omega)) (by omega) (by omega) (by omega) | (obtain ⟨f, e1, x1, x2⟩ := o1.no (by omega); exact RO.ofl ((one_n (by omega) (by omega)).trans e1) (by omega) x1 x2) | exact RO.ofr ((one_n (by omega) (by omega)).trans e1) (by omega) ⟨gCT, by omega, by omega⟩ | (obtain ⟨f, e2, x1, x2⟩ := o2.no (by omega); exact RO.ofl (by rw [one_o (by omega) (by omega), e2, bnd_l]) (by omega) x1 x2) | (obtain ⟨f, e3, x1, x2⟩ := o3.no (by omega); exact RO.ofl (by rw [one_o (by omega) (by omega), e2, bnd_r, e3, bnd_l]) (by omega) x1 x2) | exact RO.ofr (by rw [one_o (by omega) (by omega), e2, bnd_r, e3, bnd_r]) (by omega) ⟨gCT, by omega, by omega⟩ | (rw [one_l (by omega) (by omega) (by omega) (by omega)]; exact o4.map (fun s es h => ⟨h.1, h.2.1, by have h2 := h.2.2; have hl := lea_up es; omega⟩)) | (rw [one_l (by omega) (by omega) (by omega) (by omega)]; exact o5.map (fun s es h => ⟨h.1, h.2.1, by have h2 := h.2.2; have hl := lea_up es; omega⟩)), by omega, gWH⟩)
        by_cases c114 : (σ0 1 9).toInt = 36
        · refine lv_tableIn (off := 177) (tgt := 249) hx hb dX7_readOne_72 (by omega) (by omega) (by rw [c114]; rfl) (by decide) ?_
          refine lv_aload_n hx hb dX7_readOne_249 rfl (lv_at hl 1 rfl) ?_
          refine fg_7_2 (k := 27) hx hb hts in_X7_readOne_7 hown hK hP (by decide) (by decide) (hts _ lk_X7_readOne_19) dX7_readOne_250 ?_
          refine lv_iload_n hx hb dX7_readOne_253 rfl (lv_at hl 0 rfl) ?_
          refine r_bipush hx hb dX7_readOne_254 (by decide) (fun z115 ez115 => ?_)
          refine r_iconst hx hb dX7_readOne_256 (by decide) (fun z116 ez116 => ?_)
          refine r_cVi (k := 24) (As := [.int (σ0 1 9), .int z115, .int z116]) (rest := []) ⟨hx, hb, hml, hown, hts⟩ hK hP hN hS (c_X6_add l D cA ad hI σ16 τ16 hR (σ0 1 9) z115 z116 (by omega)) (cwV 3 hts gX7_readOne_X6_add rfl rfl rfl (by decide +kernel) ⟨by decide, by decide⟩) (rv_Sent hK hP (by decide) (by decide)) rfl hl.1 rfl (Nat.le_of_ble_eq_true rfl) dX7_readOne_257 (Nat.zero_le _) (Nat.zero_le _) (fun r117 u117 H117 locs117 hp117 hP hS => ?_)
          obtain ⟨σ117, τ117⟩ := u117
          obtain ⟨hR, f117, fL117, hq117, hp117_0⟩ : P_X6_add σ16 τ16 (σ0 1 9) z115 z116 r117 σ117 τ117 := hp117
          have hP : va_P D vwCl (gw cA ad σ117 τ117) H117 := hP
          obtain rfl := FrL.nil fL117
          have hF := hF.step f117 (by decide)
          have gCT := gCT.ag (Agr.fr f117 (by decide))
          have gWH := gWH.ag (Agr.fr f117 (by decide))
          have t118 : (σ117 1 13).toInt = (σ16 1 13).toInt := congrArg Int32.toInt (f117.at 1 13 (by decide))
          have t119 : (σ117 24 1).toInt = (σ16 24 1).toInt := congrArg Int32.toInt (f117.at 24 1 (by decide))
          have hr120 := rg_6_2 hR (k := 24) (by decide) (by decide)
          exact r_zret hx hb hr hK hP hS hk (by omega) dX7_readOne_260 (show P_X7_readOne_d6 σ0 τ0 a1 b N mo q nn nm hc r117 σ117 τ16 from ⟨hR, hF, hFL, by omega, by first | exact RO.ofr ((one_l (by omega) (by omega) (by omega) (by omega)).trans (lea_n (by omega) (by omega))) (by omega) ⟨gCT, by omega, by omega⟩ | (exfalso; omega) | exact RO.ofk (one_x (by omega)) (by omega) (by omega) (by omega) | exact RO.ofk (one_4 (by omega) (by omega)) (by omega) (by omega) (by omega) | (obtain ⟨f, e1, x1, x2⟩ := o1.no (by omega); exact RO.ofl ((one_n (by omega) (by omega)).trans e1) (by omega) x1 x2) | exact RO.ofr ((one_n (by omega) (by omega)).trans e1) (by omega) ⟨gCT, by omega, by omega⟩ | (obtain ⟨f, e2, x1, x2⟩ := o2.no (by omega); exact RO.ofl (by rw [one_o (by omega) (by omega), e2, bnd_l]) (by omega) x1 x2) | (obtain ⟨f, e3, x1, x2⟩ := o3.no (by omega); exact RO.ofl (by rw [one_o (by omega) (by omega), e2, bnd_r, e3, bnd_l]) (by omega) x1 x2) | exact RO.ofr (by rw [one_o (by omega) (by omega), e2, bnd_r, e3, bnd_r]) (by omega) ⟨gCT, by omega, by omega⟩ | (rw [one_l (by omega) (by omega) (by omega) (by omega)]; exact o4.map (fun s es h => ⟨h.1, h.2.1, by have h2 := h.2.2; have hl := lea_up es; omega⟩)) | (rw [one_l (by omega) (by omega) (by omega) (by omega)]; exact o5.map (fun s es h => ⟨h.1, h.2.1, by have h2 := h.2.2; have hl := lea_up es; omega⟩)), by omega, gWH⟩)
        by_cases c121 : (σ0 1 9).toInt = 37
        · refine lv_tableIn (off := 177) (tgt := 249) hx hb dX7_readOne_72 (by omega) (by omega) (by rw [c121]; rfl) (by decide) ?_
          refine lv_aload_n hx hb dX7_readOne_249 rfl (lv_at hl 1 rfl) ?_
          refine fg_7_2 (k := 27) hx hb hts in_X7_readOne_7 hown hK hP (by decide) (by decide) (hts _ lk_X7_readOne_19) dX7_readOne_250 ?_
          refine lv_iload_n hx hb dX7_readOne_253 rfl (lv_at hl 0 rfl) ?_
          refine r_bipush hx hb dX7_readOne_254 (by decide) (fun z122 ez122 => ?_)
          refine r_iconst hx hb dX7_readOne_256 (by decide) (fun z123 ez123 => ?_)
          refine r_cVi (k := 24) (As := [.int (σ0 1 9), .int z122, .int z123]) (rest := []) ⟨hx, hb, hml, hown, hts⟩ hK hP hN hS (c_X6_add l D cA ad hI σ16 τ16 hR (σ0 1 9) z122 z123 (by omega)) (cwV 3 hts gX7_readOne_X6_add rfl rfl rfl (by decide +kernel) ⟨by decide, by decide⟩) (rv_Sent hK hP (by decide) (by decide)) rfl hl.1 rfl (Nat.le_of_ble_eq_true rfl) dX7_readOne_257 (Nat.zero_le _) (Nat.zero_le _) (fun r124 u124 H124 locs124 hp124 hP hS => ?_)
          obtain ⟨σ124, τ124⟩ := u124
          obtain ⟨hR, f124, fL124, hq124, hp124_0⟩ : P_X6_add σ16 τ16 (σ0 1 9) z122 z123 r124 σ124 τ124 := hp124
          have hP : va_P D vwCl (gw cA ad σ124 τ124) H124 := hP
          obtain rfl := FrL.nil fL124
          have hF := hF.step f124 (by decide)
          have gCT := gCT.ag (Agr.fr f124 (by decide))
          have gWH := gWH.ag (Agr.fr f124 (by decide))
          have t125 : (σ124 1 13).toInt = (σ16 1 13).toInt := congrArg Int32.toInt (f124.at 1 13 (by decide))
          have t126 : (σ124 24 1).toInt = (σ16 24 1).toInt := congrArg Int32.toInt (f124.at 24 1 (by decide))
          have hr127 := rg_6_2 hR (k := 24) (by decide) (by decide)
          exact r_zret hx hb hr hK hP hS hk (by omega) dX7_readOne_260 (show P_X7_readOne_d6 σ0 τ0 a1 b N mo q nn nm hc r124 σ124 τ16 from ⟨hR, hF, hFL, by omega, by first | exact RO.ofr ((one_l (by omega) (by omega) (by omega) (by omega)).trans (lea_n (by omega) (by omega))) (by omega) ⟨gCT, by omega, by omega⟩ | (exfalso; omega) | exact RO.ofk (one_x (by omega)) (by omega) (by omega) (by omega) | exact RO.ofk (one_4 (by omega) (by omega)) (by omega) (by omega) (by omega) | (obtain ⟨f, e1, x1, x2⟩ := o1.no (by omega); exact RO.ofl ((one_n (by omega) (by omega)).trans e1) (by omega) x1 x2) | exact RO.ofr ((one_n (by omega) (by omega)).trans e1) (by omega) ⟨gCT, by omega, by omega⟩ | (obtain ⟨f, e2, x1, x2⟩ := o2.no (by omega); exact RO.ofl (by rw [one_o (by omega) (by omega), e2, bnd_l]) (by omega) x1 x2) | (obtain ⟨f, e3, x1, x2⟩ := o3.no (by omega); exact RO.ofl (by rw [one_o (by omega) (by omega), e2, bnd_r, e3, bnd_l]) (by omega) x1 x2) | exact RO.ofr (by rw [one_o (by omega) (by omega), e2, bnd_r, e3, bnd_r]) (by omega) ⟨gCT, by omega, by omega⟩ | (rw [one_l (by omega) (by omega) (by omega) (by omega)]; exact o4.map (fun s es h => ⟨h.1, h.2.1, by have h2 := h.2.2; have hl := lea_up es; omega⟩)) | (rw [one_l (by omega) (by omega) (by omega) (by omega)]; exact o5.map (fun s es h => ⟨h.1, h.2.1, by have h2 := h.2.2; have hl := lea_up es; omega⟩)), by omega, gWH⟩)
        by_cases c128 : (σ0 1 9).toInt = 38
        · refine lv_tableIn (off := 177) (tgt := 249) hx hb dX7_readOne_72 (by omega) (by omega) (by rw [c128]; rfl) (by decide) ?_
          refine lv_aload_n hx hb dX7_readOne_249 rfl (lv_at hl 1 rfl) ?_
          refine fg_7_2 (k := 27) hx hb hts in_X7_readOne_7 hown hK hP (by decide) (by decide) (hts _ lk_X7_readOne_19) dX7_readOne_250 ?_
          refine lv_iload_n hx hb dX7_readOne_253 rfl (lv_at hl 0 rfl) ?_
          refine r_bipush hx hb dX7_readOne_254 (by decide) (fun z129 ez129 => ?_)
          refine r_iconst hx hb dX7_readOne_256 (by decide) (fun z130 ez130 => ?_)
          refine r_cVi (k := 24) (As := [.int (σ0 1 9), .int z129, .int z130]) (rest := []) ⟨hx, hb, hml, hown, hts⟩ hK hP hN hS (c_X6_add l D cA ad hI σ16 τ16 hR (σ0 1 9) z129 z130 (by omega)) (cwV 3 hts gX7_readOne_X6_add rfl rfl rfl (by decide +kernel) ⟨by decide, by decide⟩) (rv_Sent hK hP (by decide) (by decide)) rfl hl.1 rfl (Nat.le_of_ble_eq_true rfl) dX7_readOne_257 (Nat.zero_le _) (Nat.zero_le _) (fun r131 u131 H131 locs131 hp131 hP hS => ?_)
          obtain ⟨σ131, τ131⟩ := u131
          obtain ⟨hR, f131, fL131, hq131, hp131_0⟩ : P_X6_add σ16 τ16 (σ0 1 9) z129 z130 r131 σ131 τ131 := hp131
          have hP : va_P D vwCl (gw cA ad σ131 τ131) H131 := hP
          obtain rfl := FrL.nil fL131
          have hF := hF.step f131 (by decide)
          have gCT := gCT.ag (Agr.fr f131 (by decide))
          have gWH := gWH.ag (Agr.fr f131 (by decide))
          have t132 : (σ131 1 13).toInt = (σ16 1 13).toInt := congrArg Int32.toInt (f131.at 1 13 (by decide))
          have t133 : (σ131 24 1).toInt = (σ16 24 1).toInt := congrArg Int32.toInt (f131.at 24 1 (by decide))
          have hr134 := rg_6_2 hR (k := 24) (by decide) (by decide)
          exact r_zret hx hb hr hK hP hS hk (by omega) dX7_readOne_260 (show P_X7_readOne_d6 σ0 τ0 a1 b N mo q nn nm hc r131 σ131 τ16 from ⟨hR, hF, hFL, by omega, by first | exact RO.ofr ((one_l (by omega) (by omega) (by omega) (by omega)).trans (lea_n (by omega) (by omega))) (by omega) ⟨gCT, by omega, by omega⟩ | (exfalso; omega) | exact RO.ofk (one_x (by omega)) (by omega) (by omega) (by omega) | exact RO.ofk (one_4 (by omega) (by omega)) (by omega) (by omega) (by omega) | (obtain ⟨f, e1, x1, x2⟩ := o1.no (by omega); exact RO.ofl ((one_n (by omega) (by omega)).trans e1) (by omega) x1 x2) | exact RO.ofr ((one_n (by omega) (by omega)).trans e1) (by omega) ⟨gCT, by omega, by omega⟩ | (obtain ⟨f, e2, x1, x2⟩ := o2.no (by omega); exact RO.ofl (by rw [one_o (by omega) (by omega), e2, bnd_l]) (by omega) x1 x2) | (obtain ⟨f, e3, x1, x2⟩ := o3.no (by omega); exact RO.ofl (by rw [one_o (by omega) (by omega), e2, bnd_r, e3, bnd_l]) (by omega) x1 x2) | exact RO.ofr (by rw [one_o (by omega) (by omega), e2, bnd_r, e3, bnd_r]) (by omega) ⟨gCT, by omega, by omega⟩ | (rw [one_l (by omega) (by omega) (by omega) (by omega)]; exact o4.map (fun s es h => ⟨h.1, h.2.1, by have h2 := h.2.2; have hl := lea_up es; omega⟩)) | (rw [one_l (by omega) (by omega) (by omega) (by omega)]; exact o5.map (fun s es h => ⟨h.1, h.2.1, by have h2 := h.2.2; have hl := lea_up es; omega⟩)), by omega, gWH⟩)
        by_cases c135 : (σ0 1 9).toInt = 39
        · refine lv_tableIn (off := 177) (tgt := 249) hx hb dX7_readOne_72 (by omega) (by omega) (by rw [c135]; rfl) (by decide) ?_
          refine lv_aload_n hx hb dX7_readOne_249 rfl (lv_at hl 1 rfl) ?_
          refine fg_7_2 (k := 27) hx hb hts in_X7_readOne_7 hown hK hP (by decide) (by decide) (hts _ lk_X7_readOne_19) dX7_readOne_250 ?_
          refine lv_iload_n hx hb dX7_readOne_253 rfl (lv_at hl 0 rfl) ?_
          refine r_bipush hx hb dX7_readOne_254 (by decide) (fun z136 ez136 => ?_)
          refine r_iconst hx hb dX7_readOne_256 (by decide) (fun z137 ez137 => ?_)
          refine r_cVi (k := 24) (As := [.int (σ0 1 9), .int z136, .int z137]) (rest := []) ⟨hx, hb, hml, hown, hts⟩ hK hP hN hS (c_X6_add l D cA ad hI σ16 τ16 hR (σ0 1 9) z136 z137 (by omega)) (cwV 3 hts gX7_readOne_X6_add rfl rfl rfl (by decide +kernel) ⟨by decide, by decide⟩) (rv_Sent hK hP (by decide) (by decide)) rfl hl.1 rfl (Nat.le_of_ble_eq_true rfl) dX7_readOne_257 (Nat.zero_le _) (Nat.zero_le _) (fun r138 u138 H138 locs138 hp138 hP hS => ?_)
          obtain ⟨σ138, τ138⟩ := u138
          obtain ⟨hR, f138, fL138, hq138, hp138_0⟩ : P_X6_add σ16 τ16 (σ0 1 9) z136 z137 r138 σ138 τ138 := hp138
          have hP : va_P D vwCl (gw cA ad σ138 τ138) H138 := hP
          obtain rfl := FrL.nil fL138
          have hF := hF.step f138 (by decide)
          have gCT := gCT.ag (Agr.fr f138 (by decide))
          have gWH := gWH.ag (Agr.fr f138 (by decide))
          have t139 : (σ138 1 13).toInt = (σ16 1 13).toInt := congrArg Int32.toInt (f138.at 1 13 (by decide))
          have t140 : (σ138 24 1).toInt = (σ16 24 1).toInt := congrArg Int32.toInt (f138.at 24 1 (by decide))
          have hr141 := rg_6_2 hR (k := 24) (by decide) (by decide)
          exact r_zret hx hb hr hK hP hS hk (by omega) dX7_readOne_260 (show P_X7_readOne_d6 σ0 τ0 a1 b N mo q nn nm hc r138 σ138 τ16 from ⟨hR, hF, hFL, by omega, by first | exact RO.ofr ((one_l (by omega) (by omega) (by omega) (by omega)).trans (lea_n (by omega) (by omega))) (by omega) ⟨gCT, by omega, by omega⟩ | (exfalso; omega) | exact RO.ofk (one_x (by omega)) (by omega) (by omega) (by omega) | exact RO.ofk (one_4 (by omega) (by omega)) (by omega) (by omega) (by omega) | (obtain ⟨f, e1, x1, x2⟩ := o1.no (by omega); exact RO.ofl ((one_n (by omega) (by omega)).trans e1) (by omega) x1 x2) | exact RO.ofr ((one_n (by omega) (by omega)).trans e1) (by omega) ⟨gCT, by omega, by omega⟩ | (obtain ⟨f, e2, x1, x2⟩ := o2.no (by omega); exact RO.ofl (by rw [one_o (by omega) (by omega), e2, bnd_l]) (by omega) x1 x2) | (obtain ⟨f, e3, x1, x2⟩ := o3.no (by omega); exact RO.ofl (by rw [one_o (by omega) (by omega), e2, bnd_r, e3, bnd_l]) (by omega) x1 x2) | exact RO.ofr (by rw [one_o (by omega) (by omega), e2, bnd_r, e3, bnd_r]) (by omega) ⟨gCT, by omega, by omega⟩ | (rw [one_l (by omega) (by omega) (by omega) (by omega)]; exact o4.map (fun s es h => ⟨h.1, h.2.1, by have h2 := h.2.2; have hl := lea_up es; omega⟩)) | (rw [one_l (by omega) (by omega) (by omega) (by omega)]; exact o5.map (fun s es h => ⟨h.1, h.2.1, by have h2 := h.2.2; have hl := lea_up es; omega⟩)), by omega, gWH⟩)
        by_cases c142 : (σ0 1 9).toInt = 40
        · refine lv_tableIn (off := 177) (tgt := 249) hx hb dX7_readOne_72 (by omega) (by omega) (by rw [c142]; rfl) (by decide) ?_
          refine lv_aload_n hx hb dX7_readOne_249 rfl (lv_at hl 1 rfl) ?_
          refine fg_7_2 (k := 27) hx hb hts in_X7_readOne_7 hown hK hP (by decide) (by decide) (hts _ lk_X7_readOne_19) dX7_readOne_250 ?_
          refine lv_iload_n hx hb dX7_readOne_253 rfl (lv_at hl 0 rfl) ?_
          refine r_bipush hx hb dX7_readOne_254 (by decide) (fun z143 ez143 => ?_)
          refine r_iconst hx hb dX7_readOne_256 (by decide) (fun z144 ez144 => ?_)
          refine r_cVi (k := 24) (As := [.int (σ0 1 9), .int z143, .int z144]) (rest := []) ⟨hx, hb, hml, hown, hts⟩ hK hP hN hS (c_X6_add l D cA ad hI σ16 τ16 hR (σ0 1 9) z143 z144 (by omega)) (cwV 3 hts gX7_readOne_X6_add rfl rfl rfl (by decide +kernel) ⟨by decide, by decide⟩) (rv_Sent hK hP (by decide) (by decide)) rfl hl.1 rfl (Nat.le_of_ble_eq_true rfl) dX7_readOne_257 (Nat.zero_le _) (Nat.zero_le _) (fun r145 u145 H145 locs145 hp145 hP hS => ?_)
          obtain ⟨σ145, τ145⟩ := u145
          obtain ⟨hR, f145, fL145, hq145, hp145_0⟩ : P_X6_add σ16 τ16 (σ0 1 9) z143 z144 r145 σ145 τ145 := hp145
          have hP : va_P D vwCl (gw cA ad σ145 τ145) H145 := hP
          obtain rfl := FrL.nil fL145
          have hF := hF.step f145 (by decide)
          have gCT := gCT.ag (Agr.fr f145 (by decide))
          have gWH := gWH.ag (Agr.fr f145 (by decide))
          have t146 : (σ145 1 13).toInt = (σ16 1 13).toInt := congrArg Int32.toInt (f145.at 1 13 (by decide))
          have t147 : (σ145 24 1).toInt = (σ16 24 1).toInt := congrArg Int32.toInt (f145.at 24 1 (by decide))
          have hr148 := rg_6_2 hR (k := 24) (by decide) (by decide)
          exact r_zret hx hb hr hK hP hS hk (by omega) dX7_readOne_260 (show P_X7_readOne_d6 σ0 τ0 a1 b N mo q nn nm hc r145 σ145 τ16 from ⟨hR, hF, hFL, by omega, by first | exact RO.ofr ((one_l (by omega) (by omega) (by omega) (by omega)).trans (lea_n (by omega) (by omega))) (by omega) ⟨gCT, by omega, by omega⟩ | (exfalso; omega) | exact RO.ofk (one_x (by omega)) (by omega) (by omega) (by omega) | exact RO.ofk (one_4 (by omega) (by omega)) (by omega) (by omega) (by omega) | (obtain ⟨f, e1, x1, x2⟩ := o1.no (by omega); exact RO.ofl ((one_n (by omega) (by omega)).trans e1) (by omega) x1 x2) | exact RO.ofr ((one_n (by omega) (by omega)).trans e1) (by omega) ⟨gCT, by omega, by omega⟩ | (obtain ⟨f, e2, x1, x2⟩ := o2.no (by omega); exact RO.ofl (by rw [one_o (by omega) (by omega), e2, bnd_l]) (by omega) x1 x2) | (obtain ⟨f, e3, x1, x2⟩ := o3.no (by omega); exact RO.ofl (by rw [one_o (by omega) (by omega), e2, bnd_r, e3, bnd_l]) (by omega) x1 x2) | exact RO.ofr (by rw [one_o (by omega) (by omega), e2, bnd_r, e3, bnd_r]) (by omega) ⟨gCT, by omega, by omega⟩ | (rw [one_l (by omega) (by omega) (by omega) (by omega)]; exact o4.map (fun s es h => ⟨h.1, h.2.1, by have h2 := h.2.2; have hl := lea_up es; omega⟩)) | (rw [one_l (by omega) (by omega) (by omega) (by omega)]; exact o5.map (fun s es h => ⟨h.1, h.2.1, by have h2 := h.2.2; have hl := lea_up es; omega⟩)), by omega, gWH⟩)
        by_cases c149 : (σ0 1 9).toInt = 41
        · refine lv_tableIn (off := 177) (tgt := 249) hx hb dX7_readOne_72 (by omega) (by omega) (by rw [c149]; rfl) (by decide) ?_
          refine lv_aload_n hx hb dX7_readOne_249 rfl (lv_at hl 1 rfl) ?_
          refine fg_7_2 (k := 27) hx hb hts in_X7_readOne_7 hown hK hP (by decide) (by decide) (hts _ lk_X7_readOne_19) dX7_readOne_250 ?_
          refine lv_iload_n hx hb dX7_readOne_253 rfl (lv_at hl 0 rfl) ?_
          refine r_bipush hx hb dX7_readOne_254 (by decide) (fun z150 ez150 => ?_)
          refine r_iconst hx hb dX7_readOne_256 (by decide) (fun z151 ez151 => ?_)
          refine r_cVi (k := 24) (As := [.int (σ0 1 9), .int z150, .int z151]) (rest := []) ⟨hx, hb, hml, hown, hts⟩ hK hP hN hS (c_X6_add l D cA ad hI σ16 τ16 hR (σ0 1 9) z150 z151 (by omega)) (cwV 3 hts gX7_readOne_X6_add rfl rfl rfl (by decide +kernel) ⟨by decide, by decide⟩) (rv_Sent hK hP (by decide) (by decide)) rfl hl.1 rfl (Nat.le_of_ble_eq_true rfl) dX7_readOne_257 (Nat.zero_le _) (Nat.zero_le _) (fun r152 u152 H152 locs152 hp152 hP hS => ?_)
          obtain ⟨σ152, τ152⟩ := u152
          obtain ⟨hR, f152, fL152, hq152, hp152_0⟩ : P_X6_add σ16 τ16 (σ0 1 9) z150 z151 r152 σ152 τ152 := hp152
          have hP : va_P D vwCl (gw cA ad σ152 τ152) H152 := hP
          obtain rfl := FrL.nil fL152
          have hF := hF.step f152 (by decide)
          have gCT := gCT.ag (Agr.fr f152 (by decide))
          have gWH := gWH.ag (Agr.fr f152 (by decide))
          have t153 : (σ152 1 13).toInt = (σ16 1 13).toInt := congrArg Int32.toInt (f152.at 1 13 (by decide))
          have t154 : (σ152 24 1).toInt = (σ16 24 1).toInt := congrArg Int32.toInt (f152.at 24 1 (by decide))
          have hr155 := rg_6_2 hR (k := 24) (by decide) (by decide)
          exact r_zret hx hb hr hK hP hS hk (by omega) dX7_readOne_260 (show P_X7_readOne_d6 σ0 τ0 a1 b N mo q nn nm hc r152 σ152 τ16 from ⟨hR, hF, hFL, by omega, by first | exact RO.ofr ((one_l (by omega) (by omega) (by omega) (by omega)).trans (lea_n (by omega) (by omega))) (by omega) ⟨gCT, by omega, by omega⟩ | (exfalso; omega) | exact RO.ofk (one_x (by omega)) (by omega) (by omega) (by omega) | exact RO.ofk (one_4 (by omega) (by omega)) (by omega) (by omega) (by omega) | (obtain ⟨f, e1, x1, x2⟩ := o1.no (by omega); exact RO.ofl ((one_n (by omega) (by omega)).trans e1) (by omega) x1 x2) | exact RO.ofr ((one_n (by omega) (by omega)).trans e1) (by omega) ⟨gCT, by omega, by omega⟩ | (obtain ⟨f, e2, x1, x2⟩ := o2.no (by omega); exact RO.ofl (by rw [one_o (by omega) (by omega), e2, bnd_l]) (by omega) x1 x2) | (obtain ⟨f, e3, x1, x2⟩ := o3.no (by omega); exact RO.ofl (by rw [one_o (by omega) (by omega), e2, bnd_r, e3, bnd_l]) (by omega) x1 x2) | exact RO.ofr (by rw [one_o (by omega) (by omega), e2, bnd_r, e3, bnd_r]) (by omega) ⟨gCT, by omega, by omega⟩ | (rw [one_l (by omega) (by omega) (by omega) (by omega)]; exact o4.map (fun s es h => ⟨h.1, h.2.1, by have h2 := h.2.2; have hl := lea_up es; omega⟩)) | (rw [one_l (by omega) (by omega) (by omega) (by omega)]; exact o5.map (fun s es h => ⟨h.1, h.2.1, by have h2 := h.2.2; have hl := lea_up es; omega⟩)), by omega, gWH⟩)
        by_cases c156 : (σ0 1 9).toInt = 42
        · refine lv_tableIn (off := 177) (tgt := 249) hx hb dX7_readOne_72 (by omega) (by omega) (by rw [c156]; rfl) (by decide) ?_
          refine lv_aload_n hx hb dX7_readOne_249 rfl (lv_at hl 1 rfl) ?_
          refine fg_7_2 (k := 27) hx hb hts in_X7_readOne_7 hown hK hP (by decide) (by decide) (hts _ lk_X7_readOne_19) dX7_readOne_250 ?_
          refine lv_iload_n hx hb dX7_readOne_253 rfl (lv_at hl 0 rfl) ?_
          refine r_bipush hx hb dX7_readOne_254 (by decide) (fun z157 ez157 => ?_)
          refine r_iconst hx hb dX7_readOne_256 (by decide) (fun z158 ez158 => ?_)
          refine r_cVi (k := 24) (As := [.int (σ0 1 9), .int z157, .int z158]) (rest := []) ⟨hx, hb, hml, hown, hts⟩ hK hP hN hS (c_X6_add l D cA ad hI σ16 τ16 hR (σ0 1 9) z157 z158 (by omega)) (cwV 3 hts gX7_readOne_X6_add rfl rfl rfl (by decide +kernel) ⟨by decide, by decide⟩) (rv_Sent hK hP (by decide) (by decide)) rfl hl.1 rfl (Nat.le_of_ble_eq_true rfl) dX7_readOne_257 (Nat.zero_le _) (Nat.zero_le _) (fun r159 u159 H159 locs159 hp159 hP hS => ?_)
          obtain ⟨σ159, τ159⟩ := u159
          obtain ⟨hR, f159, fL159, hq159, hp159_0⟩ : P_X6_add σ16 τ16 (σ0 1 9) z157 z158 r159 σ159 τ159 := hp159
          have hP : va_P D vwCl (gw cA ad σ159 τ159) H159 := hP
          obtain rfl := FrL.nil fL159
          have hF := hF.step f159 (by decide)
          have gCT := gCT.ag (Agr.fr f159 (by decide))
          have gWH := gWH.ag (Agr.fr f159 (by decide))
          have t160 : (σ159 1 13).toInt = (σ16 1 13).toInt := congrArg Int32.toInt (f159.at 1 13 (by decide))
          have t161 : (σ159 24 1).toInt = (σ16 24 1).toInt := congrArg Int32.toInt (f159.at 24 1 (by decide))
          have hr162 := rg_6_2 hR (k := 24) (by decide) (by decide)
          exact r_zret hx hb hr hK hP hS hk (by omega) dX7_readOne_260 (show P_X7_readOne_d6 σ0 τ0 a1 b N mo q nn nm hc r159 σ159 τ16 from ⟨hR, hF, hFL, by omega, by first | exact RO.ofr ((one_l (by omega) (by omega) (by omega) (by omega)).trans (lea_n (by omega) (by omega))) (by omega) ⟨gCT, by omega, by omega⟩ | (exfalso; omega) | exact RO.ofk (one_x (by omega)) (by omega) (by omega) (by omega) | exact RO.ofk (one_4 (by omega) (by omega)) (by omega) (by omega) (by omega) | (obtain ⟨f, e1, x1, x2⟩ := o1.no (by omega); exact RO.ofl ((one_n (by omega) (by omega)).trans e1) (by omega) x1 x2) | exact RO.ofr ((one_n (by omega) (by omega)).trans e1) (by omega) ⟨gCT, by omega, by omega⟩ | (obtain ⟨f, e2, x1, x2⟩ := o2.no (by omega); exact RO.ofl (by rw [one_o (by omega) (by omega), e2, bnd_l]) (by omega) x1 x2) | (obtain ⟨f, e3, x1, x2⟩ := o3.no (by omega); exact RO.ofl (by rw [one_o (by omega) (by omega), e2, bnd_r, e3, bnd_l]) (by omega) x1 x2) | exact RO.ofr (by rw [one_o (by omega) (by omega), e2, bnd_r, e3, bnd_r]) (by omega) ⟨gCT, by omega, by omega⟩ | (rw [one_l (by omega) (by omega) (by omega) (by omega)]; exact o4.map (fun s es h => ⟨h.1, h.2.1, by have h2 := h.2.2; have hl := lea_up es; omega⟩)) | (rw [one_l (by omega) (by omega) (by omega) (by omega)]; exact o5.map (fun s es h => ⟨h.1, h.2.1, by have h2 := h.2.2; have hl := lea_up es; omega⟩)), by omega, gWH⟩)
        by_cases c163 : (σ0 1 9).toInt = 43
        · refine lv_tableIn (off := 177) (tgt := 249) hx hb dX7_readOne_72 (by omega) (by omega) (by rw [c163]; rfl) (by decide) ?_
          refine lv_aload_n hx hb dX7_readOne_249 rfl (lv_at hl 1 rfl) ?_
          refine fg_7_2 (k := 27) hx hb hts in_X7_readOne_7 hown hK hP (by decide) (by decide) (hts _ lk_X7_readOne_19) dX7_readOne_250 ?_
          refine lv_iload_n hx hb dX7_readOne_253 rfl (lv_at hl 0 rfl) ?_
          refine r_bipush hx hb dX7_readOne_254 (by decide) (fun z164 ez164 => ?_)
          refine r_iconst hx hb dX7_readOne_256 (by decide) (fun z165 ez165 => ?_)
          refine r_cVi (k := 24) (As := [.int (σ0 1 9), .int z164, .int z165]) (rest := []) ⟨hx, hb, hml, hown, hts⟩ hK hP hN hS (c_X6_add l D cA ad hI σ16 τ16 hR (σ0 1 9) z164 z165 (by omega)) (cwV 3 hts gX7_readOne_X6_add rfl rfl rfl (by decide +kernel) ⟨by decide, by decide⟩) (rv_Sent hK hP (by decide) (by decide)) rfl hl.1 rfl (Nat.le_of_ble_eq_true rfl) dX7_readOne_257 (Nat.zero_le _) (Nat.zero_le _) (fun r166 u166 H166 locs166 hp166 hP hS => ?_)
          obtain ⟨σ166, τ166⟩ := u166
          obtain ⟨hR, f166, fL166, hq166, hp166_0⟩ : P_X6_add σ16 τ16 (σ0 1 9) z164 z165 r166 σ166 τ166 := hp166
          have hP : va_P D vwCl (gw cA ad σ166 τ166) H166 := hP
          obtain rfl := FrL.nil fL166
          have hF := hF.step f166 (by decide)
          have gCT := gCT.ag (Agr.fr f166 (by decide))
          have gWH := gWH.ag (Agr.fr f166 (by decide))
          have t167 : (σ166 1 13).toInt = (σ16 1 13).toInt := congrArg Int32.toInt (f166.at 1 13 (by decide))
          have t168 : (σ166 24 1).toInt = (σ16 24 1).toInt := congrArg Int32.toInt (f166.at 24 1 (by decide))
          have hr169 := rg_6_2 hR (k := 24) (by decide) (by decide)
          exact r_zret hx hb hr hK hP hS hk (by omega) dX7_readOne_260 (show P_X7_readOne_d6 σ0 τ0 a1 b N mo q nn nm hc r166 σ166 τ16 from ⟨hR, hF, hFL, by omega, by first | exact RO.ofr ((one_l (by omega) (by omega) (by omega) (by omega)).trans (lea_n (by omega) (by omega))) (by omega) ⟨gCT, by omega, by omega⟩ | (exfalso; omega) | exact RO.ofk (one_x (by omega)) (by omega) (by omega) (by omega) | exact RO.ofk (one_4 (by omega) (by omega)) (by omega) (by omega) (by omega) | (obtain ⟨f, e1, x1, x2⟩ := o1.no (by omega); exact RO.ofl ((one_n (by omega) (by omega)).trans e1) (by omega) x1 x2) | exact RO.ofr ((one_n (by omega) (by omega)).trans e1) (by omega) ⟨gCT, by omega, by omega⟩ | (obtain ⟨f, e2, x1, x2⟩ := o2.no (by omega); exact RO.ofl (by rw [one_o (by omega) (by omega), e2, bnd_l]) (by omega) x1 x2) | (obtain ⟨f, e3, x1, x2⟩ := o3.no (by omega); exact RO.ofl (by rw [one_o (by omega) (by omega), e2, bnd_r, e3, bnd_l]) (by omega) x1 x2) | exact RO.ofr (by rw [one_o (by omega) (by omega), e2, bnd_r, e3, bnd_r]) (by omega) ⟨gCT, by omega, by omega⟩ | (rw [one_l (by omega) (by omega) (by omega) (by omega)]; exact o4.map (fun s es h => ⟨h.1, h.2.1, by have h2 := h.2.2; have hl := lea_up es; omega⟩)) | (rw [one_l (by omega) (by omega) (by omega) (by omega)]; exact o5.map (fun s es h => ⟨h.1, h.2.1, by have h2 := h.2.2; have hl := lea_up es; omega⟩)), by omega, gWH⟩)
        by_cases c170 : (σ0 1 9).toInt = 44
        · refine lv_tableIn (off := 138) (tgt := 210) hx hb dX7_readOne_72 (by omega) (by omega) (by rw [c170]; rfl) (by decide) ?_
          refine lv_aload_n hx hb dX7_readOne_210 rfl (lv_at hl 1 rfl) ?_
          refine lv_iload_n hx hb dX7_readOne_211 rfl (lv_at hl 2 rfl) ?_
          refine r_iconst hx hb dX7_readOne_212 (by decide) (fun z171 ez171 => ?_)
          refine r_iadd hx hb dX7_readOne_213 (by omega) (fun z172 ez172 => ?_)
          refine r_cVi (k := 27) (As := [.int z172]) (rest := []) ⟨hx, hb, hml, hown, hts⟩ hK hP hN hS (c_X7_readCond_d7 l D cA ad hI σ16 τ16 hR z172 b N mo _ (nn + 1) nm hc (by omega) (by omega) (by omega) (by omega) gCT gWH) (cwV 1 hts gX7_readOne_X7_readCond rfl rfl rfl (by decide +kernel) ⟨by decide, by decide⟩) (rv_SText hK hP (by decide) (by decide)) rfl hl.1 rfl (Nat.le_of_ble_eq_true rfl) dX7_readOne_214 (Nat.zero_le _) (Nat.zero_le _) (fun r173 u173 H173 locs173 hp173 hP hS => ?_)
          obtain ⟨σ173, τ173⟩ := u173
          obtain ⟨hR, f173, fL173, hq173, hp173_0, hp173_1, gnWH⟩ : P_X7_readCond_d7 σ16 τ16 z172 b N mo _ (nn + 1) nm hc r173 σ173 τ173 := hp173
          have o2 := hp173_0
          have hP : va_P D vwCl (gw cA ad σ173 τ173) H173 := hP
          have hFL := hFL.step fL173 (by decide)
          have gWH := gWH.agL (AgrL.fr fL173 (by decide))
          have hF := hF.step f173 (by decide)
          have gWH := gWH.ag (Agr.fr f173 (by decide))
          have hr174 := rg_6_1 hR (k := 24) (by decide) (by decide)
          have hr175 := rg_6_2 hR (k := 24) (by decide) (by decide)
          refine r_if_eq (tgt := 236) hx hb dX7_readOne_217 (by decide) (fun c176 => ?_) (fun c176 => ?_)
          · clear hp173_1
            refine r_iconst hx hb dX7_readOne_236 (by decide) (fun z177 ez177 => ?_)
            exact r_zret hx hb hr hK hP hS hk (by omega) dX7_readOne_237 (show P_X7_readOne_d6 σ0 τ0 a1 b N mo q nn nm hc z177 σ173 τ173 from ⟨hR, hF, hFL, by omega, by first | exact RO.ofr ((one_l (by omega) (by omega) (by omega) (by omega)).trans (lea_n (by omega) (by omega))) (by omega) ⟨gCT, by omega, by omega⟩ | (exfalso; omega) | exact RO.ofk (one_x (by omega)) (by omega) (by omega) (by omega) | exact RO.ofk (one_4 (by omega) (by omega)) (by omega) (by omega) (by omega) | (obtain ⟨f, e1, x1, x2⟩ := o1.no (by omega); exact RO.ofl ((one_n (by omega) (by omega)).trans e1) (by omega) x1 x2) | exact RO.ofr ((one_n (by omega) (by omega)).trans e1) (by omega) ⟨gCT, by omega, by omega⟩ | (obtain ⟨f, e2, x1, x2⟩ := o2.no (by omega); exact RO.ofl (by rw [one_o (by omega) (by omega), e2, bnd_l]) (by omega) x1 x2) | (obtain ⟨f, e3, x1, x2⟩ := o3.no (by omega); exact RO.ofl (by rw [one_o (by omega) (by omega), e2, bnd_r, e3, bnd_l]) (by omega) x1 x2) | exact RO.ofr (by rw [one_o (by omega) (by omega), e2, bnd_r, e3, bnd_r]) (by omega) ⟨gCT, by omega, by omega⟩ | (rw [one_l (by omega) (by omega) (by omega) (by omega)]; exact o4.map (fun s es h => ⟨h.1, h.2.1, by have h2 := h.2.2; have hl := lea_up es; omega⟩)) | (rw [one_l (by omega) (by omega) (by omega) (by omega)]; exact o5.map (fun s es h => ⟨h.1, h.2.1, by have h2 := h.2.2; have hl := lea_up es; omega⟩)), by omega, gWH⟩)
          · replace hp173_1 := hp173_1.resolve_left (by omega)
            obtain ⟨s2, e2, gCT, hs1, hs2⟩ := o2.ye (by omega)
            have hu2 := con_up (one_up _) _ _ _ e2
            refine lv_aload_n hx hb dX7_readOne_220 rfl (lv_at hl 1 rfl) ?_
            refine fg_7_0 (k := 27) hx hb hts in_X7_readOne_7 hown hK hP (by decide) (by decide) (hts _ lk_X7_readOne_9) dX7_readOne_221 ?_
            refine r_bipush hx hb dX7_readOne_224 (by decide) (fun z178 ez178 => ?_)
            refine r_cVi (k := 1) (As := [.int z178]) (rest := []) ⟨hx, hb, hml, hown, hts⟩ hK hP hN hS (c_X8_take_v l D cA ad hI σ173 τ173 hR z178 b N mo _ 45 (by omega) (by omega) gCT) (cwV 1 hts gX7_readOne_X8_take rfl rfl rfl (by decide +kernel) ⟨by decide, by decide⟩) (rv_Tape hK hP (by decide) (by decide)) rfl hl.1 rfl (Nat.le_of_ble_eq_true rfl) dX7_readOne_226 (Nat.zero_le _) (Nat.zero_le _) (fun r179 u179 H179 locs179 hp179 hP hS => ?_)
            obtain ⟨σ179, τ179⟩ := u179
            obtain ⟨hR, f179, fL179, hq179, hp179_0, hp179_1⟩ : P_X8_take_v σ173 τ173 z178 b N mo _ 45 r179 σ179 τ179 := hp179
            have o3 := hp179_0
            have hP : va_P D vwCl (gw cA ad σ179 τ179) H179 := hP
            have hFL := hFL.step fL179 (by decide)
            have gWH := gWH.agL (AgrL.fr fL179 (by decide))
            have hF := hF.step f179 (by decide)
            have gWH := gWH.ag (Agr.fr f179 (by decide))
            have t180 : (σ179 24 1).toInt = (σ173 24 1).toInt := congrArg Int32.toInt (f179.at 24 1 (by decide))
            have t181 : (σ179 24 2).toInt = (σ173 24 2).toInt := congrArg Int32.toInt (f179.at 24 2 (by decide))
            refine r_if_eq (tgt := 236) hx hb dX7_readOne_229 (by decide) (fun c182 => ?_) (fun c182 => ?_)
            · clear hp179_1
              refine r_iconst hx hb dX7_readOne_236 (by decide) (fun z183 ez183 => ?_)
              exact r_zret hx hb hr hK hP hS hk (by omega) dX7_readOne_237 (show P_X7_readOne_d6 σ0 τ0 a1 b N mo q nn nm hc z183 σ179 τ179 from ⟨hR, hF, hFL, by omega, by first | exact RO.ofr ((one_l (by omega) (by omega) (by omega) (by omega)).trans (lea_n (by omega) (by omega))) (by omega) ⟨gCT, by omega, by omega⟩ | (exfalso; omega) | exact RO.ofk (one_x (by omega)) (by omega) (by omega) (by omega) | exact RO.ofk (one_4 (by omega) (by omega)) (by omega) (by omega) (by omega) | (obtain ⟨f, e1, x1, x2⟩ := o1.no (by omega); exact RO.ofl ((one_n (by omega) (by omega)).trans e1) (by omega) x1 x2) | exact RO.ofr ((one_n (by omega) (by omega)).trans e1) (by omega) ⟨gCT, by omega, by omega⟩ | (obtain ⟨f, e2, x1, x2⟩ := o2.no (by omega); exact RO.ofl (by rw [one_o (by omega) (by omega), e2, bnd_l]) (by omega) x1 x2) | (obtain ⟨f, e3, x1, x2⟩ := o3.no (by omega); exact RO.ofl (by rw [one_o (by omega) (by omega), e2, bnd_r, e3, bnd_l]) (by omega) x1 x2) | exact RO.ofr (by rw [one_o (by omega) (by omega), e2, bnd_r, e3, bnd_r]) (by omega) ⟨gCT, by omega, by omega⟩ | (rw [one_l (by omega) (by omega) (by omega) (by omega)]; exact o4.map (fun s es h => ⟨h.1, h.2.1, by have h2 := h.2.2; have hl := lea_up es; omega⟩)) | (rw [one_l (by omega) (by omega) (by omega) (by omega)]; exact o5.map (fun s es h => ⟨h.1, h.2.1, by have h2 := h.2.2; have hl := lea_up es; omega⟩)), by omega, gWH⟩)
            · replace hp179_1 := hp179_1.resolve_left (by omega)
              obtain ⟨q3, e3, gCT⟩ := o3.ye (by omega)
              refine r_iconst hx hb dX7_readOne_232 (by decide) (fun z184 ez184 => ?_)
              refine lv_goto (tgt := 237) hx hb dX7_readOne_233 (by decide) ?_
              exact r_zret hx hb hr hK hP hS hk (by omega) dX7_readOne_237 (show P_X7_readOne_d6 σ0 τ0 a1 b N mo q nn nm hc z184 σ179 τ179 from ⟨hR, hF, hFL, by omega, by first | exact RO.ofr ((one_l (by omega) (by omega) (by omega) (by omega)).trans (lea_n (by omega) (by omega))) (by omega) ⟨gCT, by omega, by omega⟩ | (exfalso; omega) | exact RO.ofk (one_x (by omega)) (by omega) (by omega) (by omega) | exact RO.ofk (one_4 (by omega) (by omega)) (by omega) (by omega) (by omega) | (obtain ⟨f, e1, x1, x2⟩ := o1.no (by omega); exact RO.ofl ((one_n (by omega) (by omega)).trans e1) (by omega) x1 x2) | exact RO.ofr ((one_n (by omega) (by omega)).trans e1) (by omega) ⟨gCT, by omega, by omega⟩ | (obtain ⟨f, e2, x1, x2⟩ := o2.no (by omega); exact RO.ofl (by rw [one_o (by omega) (by omega), e2, bnd_l]) (by omega) x1 x2) | (obtain ⟨f, e3, x1, x2⟩ := o3.no (by omega); exact RO.ofl (by rw [one_o (by omega) (by omega), e2, bnd_r, e3, bnd_l]) (by omega) x1 x2) | exact RO.ofr (by rw [one_o (by omega) (by omega), e2, bnd_r, e3, bnd_r]) (by omega) ⟨gCT, by omega, by omega⟩ | (rw [one_l (by omega) (by omega) (by omega) (by omega)]; exact o4.map (fun s es h => ⟨h.1, h.2.1, by have h2 := h.2.2; have hl := lea_up es; omega⟩)) | (rw [one_l (by omega) (by omega) (by omega) (by omega)]; exact o5.map (fun s es h => ⟨h.1, h.2.1, by have h2 := h.2.2; have hl := lea_up es; omega⟩)), by omega, gWH⟩)
        refine lv_tableOut (tgt := 249) hx hb dX7_readOne_72 (by omega) (by decide) ?_
        refine lv_aload_n hx hb dX7_readOne_249 rfl (lv_at hl 1 rfl) ?_
        refine fg_7_2 (k := 27) hx hb hts in_X7_readOne_7 hown hK hP (by decide) (by decide) (hts _ lk_X7_readOne_19) dX7_readOne_250 ?_
        refine lv_iload_n hx hb dX7_readOne_253 rfl (lv_at hl 0 rfl) ?_
        refine r_bipush hx hb dX7_readOne_254 (by decide) (fun z185 ez185 => ?_)
        refine r_iconst hx hb dX7_readOne_256 (by decide) (fun z186 ez186 => ?_)
        refine r_cVi (k := 24) (As := [.int (σ0 1 9), .int z185, .int z186]) (rest := []) ⟨hx, hb, hml, hown, hts⟩ hK hP hN hS (c_X6_add l D cA ad hI σ16 τ16 hR (σ0 1 9) z185 z186 (by omega)) (cwV 3 hts gX7_readOne_X6_add rfl rfl rfl (by decide +kernel) ⟨by decide, by decide⟩) (rv_Sent hK hP (by decide) (by decide)) rfl hl.1 rfl (Nat.le_of_ble_eq_true rfl) dX7_readOne_257 (Nat.zero_le _) (Nat.zero_le _) (fun r187 u187 H187 locs187 hp187 hP hS => ?_)
        obtain ⟨σ187, τ187⟩ := u187
        obtain ⟨hR, f187, fL187, hq187, hp187_0⟩ : P_X6_add σ16 τ16 (σ0 1 9) z185 z186 r187 σ187 τ187 := hp187
        have hP : va_P D vwCl (gw cA ad σ187 τ187) H187 := hP
        obtain rfl := FrL.nil fL187
        have hF := hF.step f187 (by decide)
        have gCT := gCT.ag (Agr.fr f187 (by decide))
        have gWH := gWH.ag (Agr.fr f187 (by decide))
        have t188 : (σ187 1 13).toInt = (σ16 1 13).toInt := congrArg Int32.toInt (f187.at 1 13 (by decide))
        have t189 : (σ187 24 1).toInt = (σ16 24 1).toInt := congrArg Int32.toInt (f187.at 24 1 (by decide))
        have hr190 := rg_6_2 hR (k := 24) (by decide) (by decide)
        exact r_zret hx hb hr hK hP hS hk (by omega) dX7_readOne_260 (show P_X7_readOne_d6 σ0 τ0 a1 b N mo q nn nm hc r187 σ187 τ16 from ⟨hR, hF, hFL, by omega, by first | exact RO.ofr ((one_l (by omega) (by omega) (by omega) (by omega)).trans (lea_n (by omega) (by omega))) (by omega) ⟨gCT, by omega, by omega⟩ | (exfalso; omega) | exact RO.ofk (one_x (by omega)) (by omega) (by omega) (by omega) | exact RO.ofk (one_4 (by omega) (by omega)) (by omega) (by omega) (by omega) | (obtain ⟨f, e1, x1, x2⟩ := o1.no (by omega); exact RO.ofl ((one_n (by omega) (by omega)).trans e1) (by omega) x1 x2) | exact RO.ofr ((one_n (by omega) (by omega)).trans e1) (by omega) ⟨gCT, by omega, by omega⟩ | (obtain ⟨f, e2, x1, x2⟩ := o2.no (by omega); exact RO.ofl (by rw [one_o (by omega) (by omega), e2, bnd_l]) (by omega) x1 x2) | (obtain ⟨f, e3, x1, x2⟩ := o3.no (by omega); exact RO.ofl (by rw [one_o (by omega) (by omega), e2, bnd_r, e3, bnd_l]) (by omega) x1 x2) | exact RO.ofr (by rw [one_o (by omega) (by omega), e2, bnd_r, e3, bnd_r]) (by omega) ⟨gCT, by omega, by omega⟩ | (rw [one_l (by omega) (by omega) (by omega) (by omega)]; exact o4.map (fun s es h => ⟨h.1, h.2.1, by have h2 := h.2.2; have hl := lea_up es; omega⟩)) | (rw [one_l (by omega) (by omega) (by omega) (by omega)]; exact o5.map (fun s es h => ⟨h.1, h.2.1, by have h2 := h.2.2; have hl := lea_up es; omega⟩)), by omega, gWH⟩)
      · exfalso; omega
  · refine lv_aload_n hx hb dX7_readOne_15 rfl (lv_at hl 1 rfl) ?_
    refine fg_7_0 (k := 27) hx hb hts in_X7_readOne_7 hown hK hP (by decide) (by decide) (hts _ lk_X7_readOne_9) dX7_readOne_16 ?_
    refine r_iconst hx hb dX7_readOne_19 (by decide) (fun z191 ez191 => ?_)
    refine r_cVi (k := 1) (As := [.int z191]) (rest := []) ⟨hx, hb, hml, hown, hts⟩ hK hP hN hS (c_X8_blame_v l D cA ad hI σ0 τ0 hR z191 _ _ _ _ (by omega) gCT) (cwV 1 hts gX7_readOne_X8_blame rfl rfl rfl (by decide +kernel) ⟨by decide, by decide⟩) (rv_Tape hK hP (by decide) (by decide)) rfl hl.1 rfl (Nat.le_of_ble_eq_true rfl) dX7_readOne_20 (Nat.zero_le _) (Nat.zero_le _) (fun r192 u192 H192 locs192 hp192 hP hS => ?_)
    obtain ⟨σ192, τ192⟩ := u192
    obtain ⟨hR, f192, fL192, hq192, hp192_0, hp192_1, hp192_2, gnCT⟩ : P_X8_blame_v σ0 τ0 z191 _ _ _ _ r192 σ192 τ192 := hp192
    have hP : va_P D vwCl (gw cA ad σ192 τ192) H192 := hP
    obtain rfl := FrL.nil fL192
    have hF := hF.step f192 (by decide)
    have gCT := gCT.ag (Agr.fr f192 (by decide))
    have gWH := gWH.ag (Agr.fr f192 (by decide))
    have t193 : (σ192 24 1).toInt = (σ0 24 1).toInt := congrArg Int32.toInt (f192.at 24 1 (by decide))
    have t194 : (σ192 24 2).toInt = (σ0 24 2).toInt := congrArg Int32.toInt (f192.at 24 2 (by decide))
    exact r_zret hx hb hr hK hP hS hk (by omega) dX7_readOne_23 (show P_X7_readOne_d6 σ0 τ0 a1 b N mo q nn nm hc r192 σ192 τ0 from ⟨hR, hF, hFL, by omega, by first | exact RO.ofr ((one_l (by omega) (by omega) (by omega) (by omega)).trans (lea_n (by omega) (by omega))) (by omega) ⟨gCT, by omega, by omega⟩ | (exfalso; omega) | exact RO.ofk (one_x (by omega)) (by omega) (by omega) (by omega) | exact RO.ofk (one_4 (by omega) (by omega)) (by omega) (by omega) (by omega) | (obtain ⟨f, e1, x1, x2⟩ := o1.no (by omega); exact RO.ofl ((one_n (by omega) (by omega)).trans e1) (by omega) x1 x2) | exact RO.ofr ((one_n (by omega) (by omega)).trans e1) (by omega) ⟨gCT, by omega, by omega⟩ | (obtain ⟨f, e2, x1, x2⟩ := o2.no (by omega); exact RO.ofl (by rw [one_o (by omega) (by omega), e2, bnd_l]) (by omega) x1 x2) | (obtain ⟨f, e3, x1, x2⟩ := o3.no (by omega); exact RO.ofl (by rw [one_o (by omega) (by omega), e2, bnd_r, e3, bnd_l]) (by omega) x1 x2) | exact RO.ofr (by rw [one_o (by omega) (by omega), e2, bnd_r, e3, bnd_r]) (by omega) ⟨gCT, by omega, by omega⟩ | (rw [one_l (by omega) (by omega) (by omega) (by omega)]; exact o4.map (fun s es h => ⟨h.1, h.2.1, by have h2 := h.2.2; have hl := lea_up es; omega⟩)) | (rw [one_l (by omega) (by omega) (by omega) (by omega)]; exact o5.map (fun s es h => ⟨h.1, h.2.1, by have h2 := h.2.2; have hl := lea_up es; omega⟩)), by omega, gWH⟩)
abbrev L_X7_readAll_d6 : List Rc := [(1, 1, 7, 10), (372, 372, 0, 39), (376, 376, 0, 39), (380, 380, 0, 39), (24, 24, 1, 2), (1, 1, 12, 14)]
abbrev LL_X7_readAll_d6 : List Rc := [(1, 1, 11, 11)]
def P_X7_readAll_d6 (σ0 : Nat → Nat → Int32) (τ0 : Nat → Nat → Int64) (a1 : Int32) (b : Nat → Int) (N : Nat) (mo : Nat) (q : Nat) (nn : Nat) (nm : Nat → Int) (hc : Nat) (r : Int32) (σ : Nat → Nat → Int32) (τ : Nat → Nat → Int64) : Prop := Rg σ ∧ Fr L_X7_readAll_d6 σ0 σ ∧ FrL LL_X7_readAll_d6 τ0 τ ∧ (0 ≤ r.toInt ∧ r.toInt ≤ 1) ∧ (RO r σ (allP b N mo (fun q nn => oneP b N mo nm hc 3 q nn) q nn) (fun s => CT σ τ b N mo s.1 ∧ (σ 24 1).toInt = (s.2 : Int) ∧ (σ 24 2).toInt + 2 * (nn : Int) + 1 ≤ (σ0 24 2).toInt + 2 * (s.2 : Int))) ∧ (r.toInt = 0 ∨ (σ 1 13).toInt = (σ0 1 13).toInt) ∧ WH σ τ nm hc
def J_X7_readAll_d6_12 (p : Program) (l : Launch) (e : Env) (s : State) (m : MethodId) (args : Array Value) (below : List Frame) (meth : Method) (c : Code) (D : va_G) (cA : Nat → ClassId) (ad : Nat → Nat) (σ0 : Nat → Nat → Int32) (τ0 : Nat → Nat → Int64) (a1 : Int32) (b : Nat → Int) (N : Nat) (mo : Nat) (q : Nat) (nn : Nat) (nm : Nat → Int) (hc : Nat) (n : Nat) : Prop := ∀ (σ : Nat → Nat → Int32) (τ : Nat → Nat → Int64) (H : Heap) (locs : List Loc) (x2 : Int32) (fu : Nat) (q1 : Nat) (n1 : Nat) (ls : Array Slot), Rg σ → Fr L_X7_readAll_d6 σ0 σ → FrL LL_X7_readAll_d6 τ0 τ → va_P D vwCl (gw cA ad σ τ) H → va_S (AA ad) s.heap H locs → (0 ≤ x2.toInt ∧ x2.toInt ≤ 200) → (0 ≤ (σ 24 1).toInt ∧ (σ 24 1).toInt ≤ 20) → (0 ≤ (σ 24 2).toInt ∧ (σ 24 2).toInt ≤ 40) → (allP b N mo (fun q nn => oneP b N mo nm hc 3 q nn) q nn = lopP b N mo 21 (fun q nn => oneP b N mo nm hc 3 q nn) fu q1 n1) → ((σ 24 1).toInt = (n1 : Int)) → (0 ≤ (σ 24 2).toInt ∧ (σ 24 2).toInt + 2 * (nn : Int) + 1 ≤ (σ0 24 2).toInt + 2 * (n1 : Int)) → ((fu : Int) + x2.toInt = 200) → (n1 ≤ 20) → ((σ 1 13).toInt = (σ0 1 13).toInt) → (CT σ τ b N mo q1) → (WH σ τ nm hc) → (CT σ τ b N mo q1) → lv_has ls 3 [(0, .ref (ad 27)), (1, .int a1), (2, .int x2)] → 2 * (200 - x2.toInt) + 1 < (n : Int) → W p l e ({ frames := 11, cells := 0, slots := 0, locals := 241 } : Room) s m args below meth c H locs 0 0 (MQ below (va_Qi (fun (r : Int32) (u : SS) => P_X7_readAll_d6 σ0 τ0 a1 b N mo q nn nm hc r u.1 u.2) (WB D cA ad) (AA ad)) args s 0 0 (AA ad)) (F0 m 12 ls [])
set_option maxHeartbeats 4000000 in
theorem B_X7_readAll_d6_12 (p : Program) (l : Launch) (e : Env) (s : State) (m : MethodId) (args : Array Value) (below : List Frame) (meth : Method) (c : Code) (D : va_G) (cA : Nat → ClassId) (ad : Nat → Nat) (σ0 : Nat → Nat → Int32) (τ0 : Nat → Nat → Int64) (a1 : Int32) (b : Nat → Int) (N : Nat) (mo : Nat) (q : Nat) (nn : Nat) (nm : Nat → Int) (hc : Nat) (n : Nat) (C : Cy p s m args meth c cX7_readAll 3 wsX7_readAll RX7 D cA ad (some .boolean)) (ha1 : 6 ≤ a1.toInt ∧ a1.toInt ≤ 6) (hpre0 : (σ0 24 1).toInt = (nn : Int)) (hpre1 : 0 ≤ (σ0 24 2).toInt ∧ (σ0 24 2).toInt ≤ 2 * (nn : Int)) (hpre2 : nn ≤ 20) (gCT0 : CT σ0 τ0 b N mo q) (gWH0 : WH σ0 τ0 nm hc) (K12 : J_X7_readAll_d6_12 p l e s m args below meth c D cA ad σ0 τ0 a1 b N mo q nn nm hc n) : J_X7_readAll_d6_12 p l e s m args below meth c D cA ad σ0 τ0 a1 b N mo q nn nm hc (n + 1) := by
  obtain ⟨hx, hb, hml, hown, hts, hK, hk, hr, hI, hN⟩ := C
  intro σ τ H locs x2 fu q1 n1 ls hR hF hFL hP hS hc0 hc1 hc2 iv ib2 ib3 ifu in20 ik13 gCT gWH gCT hl hm
  refine lv_iload_n hx hb dX7_readAll_12 rfl (lv_at hl 2 rfl) ?_
  refine r_sipush hx hb dX7_readAll_13 (by decide) (fun z1 ez1 => ?_)
  refine r_icmp_ge (tgt := 68) hx hb dX7_readAll_16 (by decide) (fun c2 => ?_) (fun c2 => ?_)
  · refine r_iconst hx hb dX7_readAll_68 (by decide) (fun z3 ez3 => ?_)
    exact r_zret hx hb hr hK hP hS hk (by omega) dX7_readAll_69 (show P_X7_readAll_d6 σ0 τ0 a1 b N mo q nn nm hc z3 σ τ from ⟨hR, hF, hFL, by omega, by first | (exfalso; omega) | (obtain ⟨f, e1, x1, x2⟩ := o1.no (by omega); exact RO.ofl (all_f e1) (by omega) x1 x2) | exact RO.ofr (by rw [iv, lop_e (by omega)]) (by omega) ⟨gCT, by omega, by omega⟩ | (obtain ⟨f, e2, x1, x2⟩ := o2.no (by omega); exact RO.ofl (by rw [iv, lop_f (f := (fun q nn => oneP b N mo nm hc 3 q nn)) (by omega) (by omega) e2]) (by omega) x1 x2) | (exfalso; omega), by omega, gWH⟩)
  · have htk := gCT.tk
    refine lv_aload_n hx hb dX7_readAll_19 rfl (lv_at hl 0 rfl) ?_
    refine fg_7_0 (k := 27) hx hb hts in_X7_readAll_7 hown hK hP (by decide) (by decide) (hts _ lk_X7_readAll_9) dX7_readAll_20 ?_
    refine fgN_8_9 (k := 1) hx hb hts in_X7_readAll_8 hown hK hP (by decide) (by decide) (hN.use nw_7_32) dX7_readAll_23 ?_
    refine r_bipush hx hb dX7_readAll_26 (by decide) (fun z4 ez4 => ?_)
    refine r_icmp_ne (tgt := 68) hx hb dX7_readAll_28 (by decide) (fun c5 => ?_) (fun c5 => ?_)
    · refine r_iconst hx hb dX7_readAll_68 (by decide) (fun z6 ez6 => ?_)
      exact r_zret hx hb hr hK hP hS hk (by omega) dX7_readAll_69 (show P_X7_readAll_d6 σ0 τ0 a1 b N mo q nn nm hc z6 σ τ from ⟨hR, hF, hFL, by omega, by first | (exfalso; omega) | (obtain ⟨f, e1, x1, x2⟩ := o1.no (by omega); exact RO.ofl (all_f e1) (by omega) x1 x2) | exact RO.ofr (by rw [iv, lop_e (by omega)]) (by omega) ⟨gCT, by omega, by omega⟩ | (obtain ⟨f, e2, x1, x2⟩ := o2.no (by omega); exact RO.ofl (by rw [iv, lop_f (f := (fun q nn => oneP b N mo nm hc 3 q nn)) (by omega) (by omega) e2]) (by omega) x1 x2) | (exfalso; omega), by omega, gWH⟩)
    · refine lv_aload_n hx hb dX7_readAll_31 rfl (lv_at hl 0 rfl) ?_
      refine fg_7_0 (k := 27) hx hb hts in_X7_readAll_7 hown hK hP (by decide) (by decide) (hts _ lk_X7_readAll_9) dX7_readAll_32 ?_
      refine r_cVv (k := 1) (As := []) (rest := []) ⟨hx, hb, hml, hown, hts⟩ hK hP hN hS (c_X8_next_v l D cA ad hI σ τ hR _ _ _ _ gCT) (cwV 0 hts gX7_readAll_X8_next rfl rfl rfl (by decide +kernel) ⟨by decide, by decide⟩) (rv_Tape hK hP (by decide) (by decide)) rfl hl.1 rfl (Nat.le_of_ble_eq_true rfl) dX7_readAll_35 (Nat.zero_le _) (Nat.zero_le _) (fun u7 H7 locs7 hp7 hP hS => ?_)
      obtain ⟨σ7, τ7⟩ := u7
      obtain ⟨hR, f7, fL7, hp7_0⟩ : P_X8_next_v σ τ _ _ _ _ σ7 τ7 := hp7
      have hP : va_P D vwCl (gw cA ad σ7 τ7) H7 := hP
      have hFL := hFL.step fL7 (by decide)
      have gWH := gWH.agL (AgrL.fr fL7 (by decide))
      have hF := hF.step f7 (by decide)
      have gWH := gWH.ag (Agr.fr f7 (by decide))
      have t8 : (σ7 24 1).toInt = (σ 24 1).toInt := congrArg Int32.toInt (f7.at 24 1 (by decide))
      have t9 : (σ7 24 2).toInt = (σ 24 2).toInt := congrArg Int32.toInt (f7.at 24 2 (by decide))
      have t10 : (σ7 1 13).toInt = (σ 1 13).toInt := congrArg Int32.toInt (f7.at 1 13 (by decide))
      have gCT := hp7_0
      refine lv_aload_n hx hb dX7_readAll_38 rfl (lv_at hl 0 rfl) ?_
      refine lv_iload_n hx hb dX7_readAll_39 rfl (lv_at hl 1 rfl) ?_
      refine r_cVi (k := 27) (As := [.int a1]) (rest := []) ⟨hx, hb, hml, hown, hts⟩ hK hP hN hS (c_X7_readOne_d6 l D cA ad hI σ7 τ7 hR a1 b N mo _ n1 nm hc (by omega) (by omega) (by omega) (by omega) gCT gWH) (cwV 1 hts gX7_readAll_X7_readOne rfl rfl rfl (by decide +kernel) ⟨by decide, by decide⟩) (rv_SText hK hP (by decide) (by decide)) rfl hl.1 rfl (Nat.le_of_ble_eq_true rfl) dX7_readAll_40 (Nat.zero_le _) (Nat.zero_le _) (fun r11 u11 H11 locs11 hp11 hP hS => ?_)
      obtain ⟨σ11, τ11⟩ := u11
      obtain ⟨hR, f11, fL11, hq11, hp11_0, hp11_1, gnWH⟩ : P_X7_readOne_d6 σ7 τ7 a1 b N mo _ n1 nm hc r11 σ11 τ11 := hp11
      have o2 := hp11_0
      have hP : va_P D vwCl (gw cA ad σ11 τ11) H11 := hP
      have hFL := hFL.step fL11 (by decide)
      have gWH := gWH.agL (AgrL.fr fL11 (by decide))
      have hF := hF.step f11 (by decide)
      have gWH := gWH.ag (Agr.fr f11 (by decide))
      have hr12 := rg_6_1 hR (k := 24) (by decide) (by decide)
      have hr13 := rg_6_2 hR (k := 24) (by decide) (by decide)
      refine r_if_eq (tgt := 60) hx hb dX7_readAll_43 (by decide) (fun c14 => ?_) (fun c14 => ?_)
      · clear hp11_1
        refine r_iconst hx hb dX7_readAll_60 (by decide) (fun z15 ez15 => ?_)
        exact r_zret hx hb hr hK hP hS hk (by omega) dX7_readAll_61 (show P_X7_readAll_d6 σ0 τ0 a1 b N mo q nn nm hc z15 σ11 τ11 from ⟨hR, hF, hFL, by omega, by first | (exfalso; omega) | (obtain ⟨f, e1, x1, x2⟩ := o1.no (by omega); exact RO.ofl (all_f e1) (by omega) x1 x2) | exact RO.ofr (by rw [iv, lop_e (by omega)]) (by omega) ⟨gCT, by omega, by omega⟩ | (obtain ⟨f, e2, x1, x2⟩ := o2.no (by omega); exact RO.ofl (by rw [iv, lop_f (f := (fun q nn => oneP b N mo nm hc 3 q nn)) (by omega) (by omega) e2]) (by omega) x1 x2) | (exfalso; omega), by omega, gWH⟩)
      · replace hp11_1 := hp11_1.resolve_left (by omega)
        obtain ⟨s2, e2, gCT, hs3, hs4⟩ := o2.ye (by omega)
        have hu2 := one_up _ _ _ _ e2
        refine lv_aload_n hx hb dX7_readAll_46 rfl (lv_at hl 0 rfl) ?_
        refine fg_7_2 (k := 27) hx hb hts in_X7_readAll_7 hown hK hP (by decide) (by decide) (hts _ lk_X7_readAll_19) dX7_readAll_47 ?_
        refine r_bipush hx hb dX7_readAll_50 (by decide) (fun z16 ez16 => ?_)
        refine r_iconst hx hb dX7_readAll_52 (by decide) (fun z17 ez17 => ?_)
        refine r_iconst hx hb dX7_readAll_53 (by decide) (fun z18 ez18 => ?_)
        refine r_cVi (k := 24) (As := [.int z16, .int z17, .int z18]) (rest := []) ⟨hx, hb, hml, hown, hts⟩ hK hP hN hS (c_X6_add l D cA ad hI σ11 τ11 hR z16 z17 z18 (by omega)) (cwV 3 hts gX7_readAll_X6_add rfl rfl rfl (by decide +kernel) ⟨by decide, by decide⟩) (rv_Sent hK hP (by decide) (by decide)) rfl hl.1 rfl (Nat.le_of_ble_eq_true rfl) dX7_readAll_54 (Nat.zero_le _) (Nat.zero_le _) (fun r19 u19 H19 locs19 hp19 hP hS => ?_)
        obtain ⟨σ19, τ19⟩ := u19
        obtain ⟨hR, f19, fL19, hq19, hp19_0⟩ : P_X6_add σ11 τ11 z16 z17 z18 r19 σ19 τ19 := hp19
        have hP : va_P D vwCl (gw cA ad σ19 τ19) H19 := hP
        obtain rfl := FrL.nil fL19
        have hF := hF.step f19 (by decide)
        have gCT := gCT.ag (Agr.fr f19 (by decide))
        have gWH := gWH.ag (Agr.fr f19 (by decide))
        have t20 : (σ19 24 1).toInt = (σ11 24 1).toInt := congrArg Int32.toInt (f19.at 24 1 (by decide))
        have t21 : (σ19 1 13).toInt = (σ11 1 13).toInt := congrArg Int32.toInt (f19.at 1 13 (by decide))
        have hr22 := rg_6_2 hR (k := 24) (by decide) (by decide)
        refine r_if_ne (tgt := 62) hx hb dX7_readAll_57 (by decide) (fun c23 => ?_) (fun c23 => ?_)
        · refine r_iinc (k := 2) (lv1 := fun z24 => [(2, .int z24), (0, .ref (ad 27)), (1, .int a1)]) hx hb dX7_readAll_62 hl rfl (by decide) (fun _ => rfl) (by decide) (by omega) (fun z24 ls ez24 hl => ?_)
          refine lv_goto (tgt := 12) hx hb dX7_readAll_65 (by decide) ?_
          exact K12 σ19 τ11 H19 locs19 z24 (fu - 1) _ _ ls hR hF hFL hP hS (by omega) (by omega) (by omega) (by first | exact all_s e1 | rw [iv, lop_s (f := (fun q nn => oneP b N mo nm hc 3 q nn)) (by omega) (by omega) e2]) (by omega) (by omega) (by omega) (by omega) (by omega) gCT gWH gCT (lv_sub hl [1, 2, 0] rfl) (by omega)
        · refine r_iconst hx hb dX7_readAll_60 (by decide) (fun z25 ez25 => ?_)
          exact r_zret hx hb hr hK hP hS hk (by omega) dX7_readAll_61 (show P_X7_readAll_d6 σ0 τ0 a1 b N mo q nn nm hc z25 σ19 τ11 from ⟨hR, hF, hFL, by omega, by first | (exfalso; omega) | (obtain ⟨f, e1, x1, x2⟩ := o1.no (by omega); exact RO.ofl (all_f e1) (by omega) x1 x2) | exact RO.ofr (by rw [iv, lop_e (by omega)]) (by omega) ⟨gCT, by omega, by omega⟩ | (obtain ⟨f, e2, x1, x2⟩ := o2.no (by omega); exact RO.ofl (by rw [iv, lop_f (f := (fun q nn => oneP b N mo nm hc 3 q nn)) (by omega) (by omega) e2]) (by omega) x1 x2) | (exfalso; omega), by omega, gWH⟩)
theorem A_X7_readAll_d6 (p : Program) (l : Launch) (e : Env) (s : State) (m : MethodId) (args : Array Value) (below : List Frame) (meth : Method) (c : Code) (D : va_G) (cA : Nat → ClassId) (ad : Nat → Nat) (σ0 : Nat → Nat → Int32) (τ0 : Nat → Nat → Int64) (a1 : Int32) (b : Nat → Int) (N : Nat) (mo : Nat) (q : Nat) (nn : Nat) (nm : Nat → Int) (hc : Nat) (C : Cy p s m args meth c cX7_readAll 3 wsX7_readAll RX7 D cA ad (some .boolean)) (ha1 : 6 ≤ a1.toInt ∧ a1.toInt ≤ 6) (hpre0 : (σ0 24 1).toInt = (nn : Int)) (hpre1 : 0 ≤ (σ0 24 2).toInt ∧ (σ0 24 2).toInt ≤ 2 * (nn : Int)) (hpre2 : nn ≤ 20) (gCT0 : CT σ0 τ0 b N mo q) (gWH0 : WH σ0 τ0 nm hc) : ∀ n : Nat, J_X7_readAll_d6_12 p l e s m args below meth c D cA ad σ0 τ0 a1 b N mo q nn nm hc n := by
  intro n
  induction n with
  | zero =>
    exact (by intro σ τ H locs x2 fu q1 n1 ls hR hF hFL hP hS hc0 hc1 hc2 iv ib2 ib3 ifu in20 ik13 gCT gWH gCT hl hm; exfalso; omega)
  | succ n ih =>
    exact B_X7_readAll_d6_12 p l e s m args below meth c D cA ad σ0 τ0 a1 b N mo q nn nm hc n C ha1 hpre0 hpre1 hpre2 gCT0 gWH0 ih
set_option maxHeartbeats 4000000 in
theorem c_X7_readAll_d6 (l : Launch) (D : va_G) (cA : Nat → ClassId) (ad : Nat → Nat) (hI : Inj ad) (σ0 : Nat → Nat → Int32) (τ0 : Nat → Nat → Int64) (hR : Rg σ0) (a1 : Int32) (b : Nat → Int) (N : Nat) (mo : Nat) (q : Nat) (nn : Nat) (nm : Nat → Int) (hc : Nat) (ha1 : 6 ≤ a1.toInt ∧ a1.toInt ≤ 6) (hpre0 : (σ0 24 1).toInt = (nn : Int)) (hpre1 : 0 ≤ (σ0 24 2).toInt ∧ (σ0 24 2).toInt ≤ 2 * (nn : Int)) (hpre2 : nn ≤ 20) (gCT0 : CT σ0 τ0 b N mo q) (gWH0 : WH σ0 τ0 nm hc) : Met l yX7_readAll wsX7_readAll ({ frames := 11, cells := 0, slots := 0, locals := 241 } : Room) (WQc D cA ad [.ref (ad 27), .int a1] σ0 τ0) (va_Qi (fun (r : Int32) (u : SS) => P_X7_readAll_d6 σ0 τ0 a1 b N mo q nn nm hc r u.1 u.2) (WB D cA ad) (AA ad)) 0 0 (AA ad) := by
  refine Met.ofW (cc := cX7_readAll) (maxL := 3) (ret := (some .boolean)) (by decide) rfl ?_
  intro p e s m args below meth c s₁ B hml hv
  obtain ⟨rfl, hP, hK, hN⟩ := hv
  have C : Cy p s m _ meth c cX7_readAll 3 wsX7_readAll RX7 D cA ad (some .boolean) := ⟨B.exec, B.bytes, hml, findClass_of_methodNamed B.named, atoms_spec (ws := wsX7_readAll) B.pre, hK, B.notSynchronized, B.returns, hI, hN⟩
  have hl := lv_entry ([.ref (ad 27), .int a1]) (n := 3) (Nat.le_of_ble_eq_true rfl)
  rw [lg_entry_eq]
  generalize (lg_sl ([.ref (ad 27), .int a1]) ++ List.replicate (3 - (lg_sl ([.ref (ad 27), .int a1])).length) Slot.unset).toArray = ls at hl ⊢
  have hl : lv_has ls 3 [(0, .ref (ad 27)), (1, .int a1)] := hl
  have hS : va_S (AA ad) s.heap s.heap [] := va_S.rf
  have hF : Fr L_X7_readAll_d6 σ0 σ0 := Fr.rf
  have hFL : FrL LL_X7_readAll_d6 τ0 τ0 := FrL.rf
  have gCT := gCT0
  have gWH := gWH0
  have hA := A_X7_readAll_d6 p l e s m _ below meth c D cA ad σ0 τ0 a1 b N mo q nn nm hc C ha1 hpre0 hpre1 hpre2 gCT0 gWH0 810
  have K12 := hA
  clear hA
  obtain ⟨hx, hb, _, hown, hts, _, hk, hr, _, _⟩ := C
  refine lv_aload_n hx hb dX7_readAll_0 rfl (lv_at hl 0 rfl) ?_
  refine lv_iload_n hx hb dX7_readAll_1 rfl (lv_at hl 1 rfl) ?_
  refine r_cVi (k := 27) (As := [.int a1]) (rest := []) ⟨hx, hb, hml, hown, hts⟩ hK hP hN hS (c_X7_readOne_d6 l D cA ad hI σ0 τ0 hR a1 b N mo q nn nm hc (by omega) (by omega) (by omega) (by omega) gCT gWH) (cwV 1 hts gX7_readAll_X7_readOne rfl rfl rfl (by decide +kernel) ⟨by decide, by decide⟩) (rv_SText hK hP (by decide) (by decide)) rfl hl.1 rfl (Nat.le_of_ble_eq_true rfl) dX7_readAll_2 (Nat.zero_le _) (Nat.zero_le _) (fun r1 u1 H1 locs1 hp1 hP hS => ?_)
  obtain ⟨σ1, τ1⟩ := u1
  obtain ⟨hR, f1, fL1, hq1, hp1_0, hp1_1, gnWH⟩ : P_X7_readOne_d6 σ0 τ0 a1 b N mo q nn nm hc r1 σ1 τ1 := hp1
  have o1 := hp1_0
  have hP : va_P D vwCl (gw cA ad σ1 τ1) H1 := hP
  have hFL := hFL.step fL1 (by decide)
  have gWH := gWH.agL (AgrL.fr fL1 (by decide))
  have hF := hF.step f1 (by decide)
  have gWH := gWH.ag (Agr.fr f1 (by decide))
  have hr2 := rg_6_1 hR (k := 24) (by decide) (by decide)
  have hr3 := rg_6_2 hR (k := 24) (by decide) (by decide)
  refine r_if_ne (tgt := 10) hx hb dX7_readAll_5 (by decide) (fun c4 => ?_) (fun c4 => ?_)
  · replace hp1_1 := hp1_1.resolve_left (by omega)
    obtain ⟨s1, e1, gCT, hs1, hs2⟩ := o1.ye (by omega)
    have hu1 := one_up _ _ _ _ e1
    refine r_iconst hx hb dX7_readAll_10 (by decide) (fun z5 ez5 => ?_)
    refine lv_istore_n (lv' := [(2, .int z5), (0, .ref (ad 27)), (1, .int a1)]) hx hb dX7_readAll_11 rfl hl (by decide) rfl (fun ls hl => ?_)
    exact K12 σ1 τ1 H1 locs1 z5 200 _ _ ls hR hF hFL hP hS (by omega) (by omega) (by omega) (by first | exact all_s e1 | rw [iv, lop_s (f := (fun q nn => oneP b N mo nm hc 3 q nn)) (by omega) (by omega) e2]) (by omega) (by omega) (by omega) (by omega) (by omega) gCT gWH gCT (lv_sub hl [1, 2, 0] rfl) (by omega)
  · clear hp1_1
    refine r_iconst hx hb dX7_readAll_8 (by decide) (fun z6 ez6 => ?_)
    exact r_zret hx hb hr hK hP hS hk (by omega) dX7_readAll_9 (show P_X7_readAll_d6 σ0 τ0 a1 b N mo q nn nm hc z6 σ1 τ1 from ⟨hR, hF, hFL, by omega, by first | (exfalso; omega) | (obtain ⟨f, e1, x1, x2⟩ := o1.no (by omega); exact RO.ofl (all_f e1) (by omega) x1 x2) | exact RO.ofr (by rw [iv, lop_e (by omega)]) (by omega) ⟨gCT, by omega, by omega⟩ | (obtain ⟨f, e2, x1, x2⟩ := o2.no (by omega); exact RO.ofl (by rw [iv, lop_f (f := (fun q nn => oneP b N mo nm hc 3 q nn)) (by omega) (by omega) e2]) (by omega) x1 x2) | (exfalso; omega), by omega, gWH⟩)
abbrev L_X7_readCond_d6 : List Rc := [(1, 1, 7, 10), (372, 372, 0, 39), (376, 376, 0, 39), (380, 380, 0, 39), (24, 24, 1, 2), (1, 1, 12, 14)]
abbrev LL_X7_readCond_d6 : List Rc := [(1, 1, 11, 11)]
def P_X7_readCond_d6 (σ0 : Nat → Nat → Int32) (τ0 : Nat → Nat → Int64) (a1 : Int32) (b : Nat → Int) (N : Nat) (mo : Nat) (q : Nat) (nn : Nat) (nm : Nat → Int) (hc : Nat) (r : Int32) (σ : Nat → Nat → Int32) (τ : Nat → Nat → Int64) : Prop := Rg σ ∧ Fr L_X7_readCond_d6 σ0 σ ∧ FrL LL_X7_readCond_d6 τ0 τ ∧ (0 ≤ r.toInt ∧ r.toInt ≤ 1) ∧ (RO r σ (conP b N mo (fun q nn => oneP b N mo nm hc 3 q nn) q nn) (fun s => CT σ τ b N mo s.1 ∧ (σ 24 1).toInt = (s.2 : Int) ∧ (σ 24 2).toInt + 2 * (nn : Int) + 1 ≤ (σ0 24 2).toInt + 2 * (s.2 : Int))) ∧ (r.toInt = 0 ∨ (σ 1 13).toInt = (σ0 1 13).toInt) ∧ WH σ τ nm hc
def J_X7_readCond_d6_12 (p : Program) (l : Launch) (e : Env) (s : State) (m : MethodId) (args : Array Value) (below : List Frame) (meth : Method) (c : Code) (D : va_G) (cA : Nat → ClassId) (ad : Nat → Nat) (σ0 : Nat → Nat → Int32) (τ0 : Nat → Nat → Int64) (a1 : Int32) (b : Nat → Int) (N : Nat) (mo : Nat) (q : Nat) (nn : Nat) (nm : Nat → Int) (hc : Nat) (n : Nat) : Prop := ∀ (σ : Nat → Nat → Int32) (τ : Nat → Nat → Int64) (H : Heap) (locs : List Loc) (x2 : Int32) (fu : Nat) (q1 : Nat) (n1 : Nat) (ls : Array Slot), Rg σ → Fr L_X7_readCond_d6 σ0 σ → FrL LL_X7_readCond_d6 τ0 τ → va_P D vwCl (gw cA ad σ τ) H → va_S (AA ad) s.heap H locs → (0 ≤ x2.toInt ∧ x2.toInt ≤ 200) → (0 ≤ (σ 24 1).toInt ∧ (σ 24 1).toInt ≤ 20) → (0 ≤ (σ 24 2).toInt ∧ (σ 24 2).toInt ≤ 40) → (conP b N mo (fun q nn => oneP b N mo nm hc 3 q nn) q nn = lopP b N mo 20 (allP b N mo (fun q nn => oneP b N mo nm hc 3 q nn)) fu q1 n1) → ((σ 24 1).toInt = (n1 : Int)) → (0 ≤ (σ 24 2).toInt ∧ (σ 24 2).toInt + 2 * (nn : Int) + 1 ≤ (σ0 24 2).toInt + 2 * (n1 : Int)) → ((fu : Int) + x2.toInt = 200) → (n1 ≤ 20) → ((σ 1 13).toInt = (σ0 1 13).toInt) → (CT σ τ b N mo q1) → (WH σ τ nm hc) → (CT σ τ b N mo q1) → lv_has ls 3 [(0, .ref (ad 27)), (1, .int a1), (2, .int x2)] → 2 * (200 - x2.toInt) + 1 < (n : Int) → W p l e ({ frames := 12, cells := 0, slots := 0, locals := 263 } : Room) s m args below meth c H locs 0 0 (MQ below (va_Qi (fun (r : Int32) (u : SS) => P_X7_readCond_d6 σ0 τ0 a1 b N mo q nn nm hc r u.1 u.2) (WB D cA ad) (AA ad)) args s 0 0 (AA ad)) (F0 m 12 ls [])
set_option maxHeartbeats 4000000 in
theorem B_X7_readCond_d6_12 (p : Program) (l : Launch) (e : Env) (s : State) (m : MethodId) (args : Array Value) (below : List Frame) (meth : Method) (c : Code) (D : va_G) (cA : Nat → ClassId) (ad : Nat → Nat) (σ0 : Nat → Nat → Int32) (τ0 : Nat → Nat → Int64) (a1 : Int32) (b : Nat → Int) (N : Nat) (mo : Nat) (q : Nat) (nn : Nat) (nm : Nat → Int) (hc : Nat) (n : Nat) (C : Cy p s m args meth c cX7_readCond 3 wsX7_readCond RX7 D cA ad (some .boolean)) (ha1 : 6 ≤ a1.toInt ∧ a1.toInt ≤ 6) (hpre0 : (σ0 24 1).toInt = (nn : Int)) (hpre1 : 0 ≤ (σ0 24 2).toInt ∧ (σ0 24 2).toInt ≤ 2 * (nn : Int)) (hpre2 : nn ≤ 20) (gCT0 : CT σ0 τ0 b N mo q) (gWH0 : WH σ0 τ0 nm hc) (K12 : J_X7_readCond_d6_12 p l e s m args below meth c D cA ad σ0 τ0 a1 b N mo q nn nm hc n) : J_X7_readCond_d6_12 p l e s m args below meth c D cA ad σ0 τ0 a1 b N mo q nn nm hc (n + 1) := by
  obtain ⟨hx, hb, hml, hown, hts, hK, hk, hr, hI, hN⟩ := C
  intro σ τ H locs x2 fu q1 n1 ls hR hF hFL hP hS hc0 hc1 hc2 iv ib2 ib3 ifu in20 ik13 gCT gWH gCT hl hm
  refine lv_iload_n hx hb dX7_readCond_12 rfl (lv_at hl 2 rfl) ?_
  refine r_sipush hx hb dX7_readCond_13 (by decide) (fun z1 ez1 => ?_)
  refine r_icmp_ge (tgt := 68) hx hb dX7_readCond_16 (by decide) (fun c2 => ?_) (fun c2 => ?_)
  · refine r_iconst hx hb dX7_readCond_68 (by decide) (fun z3 ez3 => ?_)
    exact r_zret hx hb hr hK hP hS hk (by omega) dX7_readCond_69 (show P_X7_readCond_d6 σ0 τ0 a1 b N mo q nn nm hc z3 σ τ from ⟨hR, hF, hFL, by omega, by first | (exfalso; omega) | (obtain ⟨f, e1, x1, x2⟩ := o1.no (by omega); exact RO.ofl (con_f e1) (by omega) x1 x2) | exact RO.ofr (by rw [iv, lop_e (by omega)]) (by omega) ⟨gCT, by omega, by omega⟩ | (obtain ⟨f, e2, x1, x2⟩ := o2.no (by omega); exact RO.ofl (by rw [iv, lop_f (f := (allP b N mo (fun q nn => oneP b N mo nm hc 3 q nn))) (by omega) (by omega) e2]) (by omega) x1 x2) | (exfalso; omega), by omega, gWH⟩)
  · have htk := gCT.tk
    refine lv_aload_n hx hb dX7_readCond_19 rfl (lv_at hl 0 rfl) ?_
    refine fg_7_0 (k := 27) hx hb hts in_X7_readCond_7 hown hK hP (by decide) (by decide) (hts _ lk_X7_readCond_9) dX7_readCond_20 ?_
    refine fgN_8_9 (k := 1) hx hb hts in_X7_readCond_8 hown hK hP (by decide) (by decide) (hN.use nw_7_32) dX7_readCond_23 ?_
    refine r_bipush hx hb dX7_readCond_26 (by decide) (fun z4 ez4 => ?_)
    refine r_icmp_ne (tgt := 68) hx hb dX7_readCond_28 (by decide) (fun c5 => ?_) (fun c5 => ?_)
    · refine r_iconst hx hb dX7_readCond_68 (by decide) (fun z6 ez6 => ?_)
      exact r_zret hx hb hr hK hP hS hk (by omega) dX7_readCond_69 (show P_X7_readCond_d6 σ0 τ0 a1 b N mo q nn nm hc z6 σ τ from ⟨hR, hF, hFL, by omega, by first | (exfalso; omega) | (obtain ⟨f, e1, x1, x2⟩ := o1.no (by omega); exact RO.ofl (con_f e1) (by omega) x1 x2) | exact RO.ofr (by rw [iv, lop_e (by omega)]) (by omega) ⟨gCT, by omega, by omega⟩ | (obtain ⟨f, e2, x1, x2⟩ := o2.no (by omega); exact RO.ofl (by rw [iv, lop_f (f := (allP b N mo (fun q nn => oneP b N mo nm hc 3 q nn))) (by omega) (by omega) e2]) (by omega) x1 x2) | (exfalso; omega), by omega, gWH⟩)
    · refine lv_aload_n hx hb dX7_readCond_31 rfl (lv_at hl 0 rfl) ?_
      refine fg_7_0 (k := 27) hx hb hts in_X7_readCond_7 hown hK hP (by decide) (by decide) (hts _ lk_X7_readCond_9) dX7_readCond_32 ?_
      refine r_cVv (k := 1) (As := []) (rest := []) ⟨hx, hb, hml, hown, hts⟩ hK hP hN hS (c_X8_next_v l D cA ad hI σ τ hR _ _ _ _ gCT) (cwV 0 hts gX7_readCond_X8_next rfl rfl rfl (by decide +kernel) ⟨by decide, by decide⟩) (rv_Tape hK hP (by decide) (by decide)) rfl hl.1 rfl (Nat.le_of_ble_eq_true rfl) dX7_readCond_35 (Nat.zero_le _) (Nat.zero_le _) (fun u7 H7 locs7 hp7 hP hS => ?_)
      obtain ⟨σ7, τ7⟩ := u7
      obtain ⟨hR, f7, fL7, hp7_0⟩ : P_X8_next_v σ τ _ _ _ _ σ7 τ7 := hp7
      have hP : va_P D vwCl (gw cA ad σ7 τ7) H7 := hP
      have hFL := hFL.step fL7 (by decide)
      have gWH := gWH.agL (AgrL.fr fL7 (by decide))
      have hF := hF.step f7 (by decide)
      have gWH := gWH.ag (Agr.fr f7 (by decide))
      have t8 : (σ7 24 1).toInt = (σ 24 1).toInt := congrArg Int32.toInt (f7.at 24 1 (by decide))
      have t9 : (σ7 24 2).toInt = (σ 24 2).toInt := congrArg Int32.toInt (f7.at 24 2 (by decide))
      have t10 : (σ7 1 13).toInt = (σ 1 13).toInt := congrArg Int32.toInt (f7.at 1 13 (by decide))
      have gCT := hp7_0
      refine lv_aload_n hx hb dX7_readCond_38 rfl (lv_at hl 0 rfl) ?_
      refine lv_iload_n hx hb dX7_readCond_39 rfl (lv_at hl 1 rfl) ?_
      refine r_cVi (k := 27) (As := [.int a1]) (rest := []) ⟨hx, hb, hml, hown, hts⟩ hK hP hN hS (c_X7_readAll_d6 l D cA ad hI σ7 τ7 hR a1 b N mo _ n1 nm hc (by omega) (by omega) (by omega) (by omega) gCT gWH) (cwV 1 hts gX7_readCond_X7_readAll rfl rfl rfl (by decide +kernel) ⟨by decide, by decide⟩) (rv_SText hK hP (by decide) (by decide)) rfl hl.1 rfl (Nat.le_of_ble_eq_true rfl) dX7_readCond_40 (Nat.zero_le _) (Nat.zero_le _) (fun r11 u11 H11 locs11 hp11 hP hS => ?_)
      obtain ⟨σ11, τ11⟩ := u11
      obtain ⟨hR, f11, fL11, hq11, hp11_0, hp11_1, gnWH⟩ : P_X7_readAll_d6 σ7 τ7 a1 b N mo _ n1 nm hc r11 σ11 τ11 := hp11
      have o2 := hp11_0
      have hP : va_P D vwCl (gw cA ad σ11 τ11) H11 := hP
      have hFL := hFL.step fL11 (by decide)
      have gWH := gWH.agL (AgrL.fr fL11 (by decide))
      have hF := hF.step f11 (by decide)
      have gWH := gWH.ag (Agr.fr f11 (by decide))
      have hr12 := rg_6_1 hR (k := 24) (by decide) (by decide)
      have hr13 := rg_6_2 hR (k := 24) (by decide) (by decide)
      refine r_if_eq (tgt := 60) hx hb dX7_readCond_43 (by decide) (fun c14 => ?_) (fun c14 => ?_)
      · clear hp11_1
        refine r_iconst hx hb dX7_readCond_60 (by decide) (fun z15 ez15 => ?_)
        exact r_zret hx hb hr hK hP hS hk (by omega) dX7_readCond_61 (show P_X7_readCond_d6 σ0 τ0 a1 b N mo q nn nm hc z15 σ11 τ11 from ⟨hR, hF, hFL, by omega, by first | (exfalso; omega) | (obtain ⟨f, e1, x1, x2⟩ := o1.no (by omega); exact RO.ofl (con_f e1) (by omega) x1 x2) | exact RO.ofr (by rw [iv, lop_e (by omega)]) (by omega) ⟨gCT, by omega, by omega⟩ | (obtain ⟨f, e2, x1, x2⟩ := o2.no (by omega); exact RO.ofl (by rw [iv, lop_f (f := (allP b N mo (fun q nn => oneP b N mo nm hc 3 q nn))) (by omega) (by omega) e2]) (by omega) x1 x2) | (exfalso; omega), by omega, gWH⟩)
      · replace hp11_1 := hp11_1.resolve_left (by omega)
        obtain ⟨s2, e2, gCT, hs3, hs4⟩ := o2.ye (by omega)
        have hu2 := all_up (one_up _) _ _ _ e2
        refine lv_aload_n hx hb dX7_readCond_46 rfl (lv_at hl 0 rfl) ?_
        refine fg_7_2 (k := 27) hx hb hts in_X7_readCond_7 hown hK hP (by decide) (by decide) (hts _ lk_X7_readCond_19) dX7_readCond_47 ?_
        refine r_bipush hx hb dX7_readCond_50 (by decide) (fun z16 ez16 => ?_)
        refine r_iconst hx hb dX7_readCond_52 (by decide) (fun z17 ez17 => ?_)
        refine r_iconst hx hb dX7_readCond_53 (by decide) (fun z18 ez18 => ?_)
        refine r_cVi (k := 24) (As := [.int z16, .int z17, .int z18]) (rest := []) ⟨hx, hb, hml, hown, hts⟩ hK hP hN hS (c_X6_add l D cA ad hI σ11 τ11 hR z16 z17 z18 (by omega)) (cwV 3 hts gX7_readCond_X6_add rfl rfl rfl (by decide +kernel) ⟨by decide, by decide⟩) (rv_Sent hK hP (by decide) (by decide)) rfl hl.1 rfl (Nat.le_of_ble_eq_true rfl) dX7_readCond_54 (Nat.zero_le _) (Nat.zero_le _) (fun r19 u19 H19 locs19 hp19 hP hS => ?_)
        obtain ⟨σ19, τ19⟩ := u19
        obtain ⟨hR, f19, fL19, hq19, hp19_0⟩ : P_X6_add σ11 τ11 z16 z17 z18 r19 σ19 τ19 := hp19
        have hP : va_P D vwCl (gw cA ad σ19 τ19) H19 := hP
        obtain rfl := FrL.nil fL19
        have hF := hF.step f19 (by decide)
        have gCT := gCT.ag (Agr.fr f19 (by decide))
        have gWH := gWH.ag (Agr.fr f19 (by decide))
        have t20 : (σ19 24 1).toInt = (σ11 24 1).toInt := congrArg Int32.toInt (f19.at 24 1 (by decide))
        have t21 : (σ19 1 13).toInt = (σ11 1 13).toInt := congrArg Int32.toInt (f19.at 1 13 (by decide))
        have hr22 := rg_6_2 hR (k := 24) (by decide) (by decide)
        refine r_if_ne (tgt := 62) hx hb dX7_readCond_57 (by decide) (fun c23 => ?_) (fun c23 => ?_)
        · refine r_iinc (k := 2) (lv1 := fun z24 => [(2, .int z24), (0, .ref (ad 27)), (1, .int a1)]) hx hb dX7_readCond_62 hl rfl (by decide) (fun _ => rfl) (by decide) (by omega) (fun z24 ls ez24 hl => ?_)
          refine lv_goto (tgt := 12) hx hb dX7_readCond_65 (by decide) ?_
          exact K12 σ19 τ11 H19 locs19 z24 (fu - 1) _ _ ls hR hF hFL hP hS (by omega) (by omega) (by omega) (by first | exact con_s e1 | rw [iv, lop_s (f := (allP b N mo (fun q nn => oneP b N mo nm hc 3 q nn))) (by omega) (by omega) e2]) (by omega) (by omega) (by omega) (by omega) (by omega) gCT gWH gCT (lv_sub hl [1, 2, 0] rfl) (by omega)
        · refine r_iconst hx hb dX7_readCond_60 (by decide) (fun z25 ez25 => ?_)
          exact r_zret hx hb hr hK hP hS hk (by omega) dX7_readCond_61 (show P_X7_readCond_d6 σ0 τ0 a1 b N mo q nn nm hc z25 σ19 τ11 from ⟨hR, hF, hFL, by omega, by first | (exfalso; omega) | (obtain ⟨f, e1, x1, x2⟩ := o1.no (by omega); exact RO.ofl (con_f e1) (by omega) x1 x2) | exact RO.ofr (by rw [iv, lop_e (by omega)]) (by omega) ⟨gCT, by omega, by omega⟩ | (obtain ⟨f, e2, x1, x2⟩ := o2.no (by omega); exact RO.ofl (by rw [iv, lop_f (f := (allP b N mo (fun q nn => oneP b N mo nm hc 3 q nn))) (by omega) (by omega) e2]) (by omega) x1 x2) | (exfalso; omega), by omega, gWH⟩)
theorem A_X7_readCond_d6 (p : Program) (l : Launch) (e : Env) (s : State) (m : MethodId) (args : Array Value) (below : List Frame) (meth : Method) (c : Code) (D : va_G) (cA : Nat → ClassId) (ad : Nat → Nat) (σ0 : Nat → Nat → Int32) (τ0 : Nat → Nat → Int64) (a1 : Int32) (b : Nat → Int) (N : Nat) (mo : Nat) (q : Nat) (nn : Nat) (nm : Nat → Int) (hc : Nat) (C : Cy p s m args meth c cX7_readCond 3 wsX7_readCond RX7 D cA ad (some .boolean)) (ha1 : 6 ≤ a1.toInt ∧ a1.toInt ≤ 6) (hpre0 : (σ0 24 1).toInt = (nn : Int)) (hpre1 : 0 ≤ (σ0 24 2).toInt ∧ (σ0 24 2).toInt ≤ 2 * (nn : Int)) (hpre2 : nn ≤ 20) (gCT0 : CT σ0 τ0 b N mo q) (gWH0 : WH σ0 τ0 nm hc) : ∀ n : Nat, J_X7_readCond_d6_12 p l e s m args below meth c D cA ad σ0 τ0 a1 b N mo q nn nm hc n := by
  intro n
  induction n with
  | zero =>
    exact (by intro σ τ H locs x2 fu q1 n1 ls hR hF hFL hP hS hc0 hc1 hc2 iv ib2 ib3 ifu in20 ik13 gCT gWH gCT hl hm; exfalso; omega)
  | succ n ih =>
    exact B_X7_readCond_d6_12 p l e s m args below meth c D cA ad σ0 τ0 a1 b N mo q nn nm hc n C ha1 hpre0 hpre1 hpre2 gCT0 gWH0 ih
set_option maxHeartbeats 4000000 in
theorem c_X7_readCond_d6 (l : Launch) (D : va_G) (cA : Nat → ClassId) (ad : Nat → Nat) (hI : Inj ad) (σ0 : Nat → Nat → Int32) (τ0 : Nat → Nat → Int64) (hR : Rg σ0) (a1 : Int32) (b : Nat → Int) (N : Nat) (mo : Nat) (q : Nat) (nn : Nat) (nm : Nat → Int) (hc : Nat) (ha1 : 6 ≤ a1.toInt ∧ a1.toInt ≤ 6) (hpre0 : (σ0 24 1).toInt = (nn : Int)) (hpre1 : 0 ≤ (σ0 24 2).toInt ∧ (σ0 24 2).toInt ≤ 2 * (nn : Int)) (hpre2 : nn ≤ 20) (gCT0 : CT σ0 τ0 b N mo q) (gWH0 : WH σ0 τ0 nm hc) : Met l yX7_readCond wsX7_readCond ({ frames := 12, cells := 0, slots := 0, locals := 263 } : Room) (WQc D cA ad [.ref (ad 27), .int a1] σ0 τ0) (va_Qi (fun (r : Int32) (u : SS) => P_X7_readCond_d6 σ0 τ0 a1 b N mo q nn nm hc r u.1 u.2) (WB D cA ad) (AA ad)) 0 0 (AA ad) := by
  refine Met.ofW (cc := cX7_readCond) (maxL := 3) (ret := (some .boolean)) (by decide) rfl ?_
  intro p e s m args below meth c s₁ B hml hv
  obtain ⟨rfl, hP, hK, hN⟩ := hv
  have C : Cy p s m _ meth c cX7_readCond 3 wsX7_readCond RX7 D cA ad (some .boolean) := ⟨B.exec, B.bytes, hml, findClass_of_methodNamed B.named, atoms_spec (ws := wsX7_readCond) B.pre, hK, B.notSynchronized, B.returns, hI, hN⟩
  have hl := lv_entry ([.ref (ad 27), .int a1]) (n := 3) (Nat.le_of_ble_eq_true rfl)
  rw [lg_entry_eq]
  generalize (lg_sl ([.ref (ad 27), .int a1]) ++ List.replicate (3 - (lg_sl ([.ref (ad 27), .int a1])).length) Slot.unset).toArray = ls at hl ⊢
  have hl : lv_has ls 3 [(0, .ref (ad 27)), (1, .int a1)] := hl
  have hS : va_S (AA ad) s.heap s.heap [] := va_S.rf
  have hF : Fr L_X7_readCond_d6 σ0 σ0 := Fr.rf
  have hFL : FrL LL_X7_readCond_d6 τ0 τ0 := FrL.rf
  have gCT := gCT0
  have gWH := gWH0
  have hA := A_X7_readCond_d6 p l e s m _ below meth c D cA ad σ0 τ0 a1 b N mo q nn nm hc C ha1 hpre0 hpre1 hpre2 gCT0 gWH0 810
  have K12 := hA
  clear hA
  obtain ⟨hx, hb, _, hown, hts, _, hk, hr, _, _⟩ := C
  refine lv_aload_n hx hb dX7_readCond_0 rfl (lv_at hl 0 rfl) ?_
  refine lv_iload_n hx hb dX7_readCond_1 rfl (lv_at hl 1 rfl) ?_
  refine r_cVi (k := 27) (As := [.int a1]) (rest := []) ⟨hx, hb, hml, hown, hts⟩ hK hP hN hS (c_X7_readAll_d6 l D cA ad hI σ0 τ0 hR a1 b N mo q nn nm hc (by omega) (by omega) (by omega) (by omega) gCT gWH) (cwV 1 hts gX7_readCond_X7_readAll rfl rfl rfl (by decide +kernel) ⟨by decide, by decide⟩) (rv_SText hK hP (by decide) (by decide)) rfl hl.1 rfl (Nat.le_of_ble_eq_true rfl) dX7_readCond_2 (Nat.zero_le _) (Nat.zero_le _) (fun r1 u1 H1 locs1 hp1 hP hS => ?_)
  obtain ⟨σ1, τ1⟩ := u1
  obtain ⟨hR, f1, fL1, hq1, hp1_0, hp1_1, gnWH⟩ : P_X7_readAll_d6 σ0 τ0 a1 b N mo q nn nm hc r1 σ1 τ1 := hp1
  have o1 := hp1_0
  have hP : va_P D vwCl (gw cA ad σ1 τ1) H1 := hP
  have hFL := hFL.step fL1 (by decide)
  have gWH := gWH.agL (AgrL.fr fL1 (by decide))
  have hF := hF.step f1 (by decide)
  have gWH := gWH.ag (Agr.fr f1 (by decide))
  have hr2 := rg_6_1 hR (k := 24) (by decide) (by decide)
  have hr3 := rg_6_2 hR (k := 24) (by decide) (by decide)
  refine r_if_ne (tgt := 10) hx hb dX7_readCond_5 (by decide) (fun c4 => ?_) (fun c4 => ?_)
  · replace hp1_1 := hp1_1.resolve_left (by omega)
    obtain ⟨s1, e1, gCT, hs1, hs2⟩ := o1.ye (by omega)
    have hu1 := all_up (one_up _) _ _ _ e1
    refine r_iconst hx hb dX7_readCond_10 (by decide) (fun z5 ez5 => ?_)
    refine lv_istore_n (lv' := [(2, .int z5), (0, .ref (ad 27)), (1, .int a1)]) hx hb dX7_readCond_11 rfl hl (by decide) rfl (fun ls hl => ?_)
    exact K12 σ1 τ1 H1 locs1 z5 200 _ _ ls hR hF hFL hP hS (by omega) (by omega) (by omega) (by first | exact con_s e1 | rw [iv, lop_s (f := (allP b N mo (fun q nn => oneP b N mo nm hc 3 q nn))) (by omega) (by omega) e2]) (by omega) (by omega) (by omega) (by omega) (by omega) gCT gWH gCT (lv_sub hl [1, 2, 0] rfl) (by omega)
  · clear hp1_1
    refine r_iconst hx hb dX7_readCond_8 (by decide) (fun z6 ez6 => ?_)
    exact r_zret hx hb hr hK hP hS hk (by omega) dX7_readCond_9 (show P_X7_readCond_d6 σ0 τ0 a1 b N mo q nn nm hc z6 σ1 τ1 from ⟨hR, hF, hFL, by omega, by first | (exfalso; omega) | (obtain ⟨f, e1, x1, x2⟩ := o1.no (by omega); exact RO.ofl (con_f e1) (by omega) x1 x2) | exact RO.ofr (by rw [iv, lop_e (by omega)]) (by omega) ⟨gCT, by omega, by omega⟩ | (obtain ⟨f, e2, x1, x2⟩ := o2.no (by omega); exact RO.ofl (by rw [iv, lop_f (f := (allP b N mo (fun q nn => oneP b N mo nm hc 3 q nn))) (by omega) (by omega) e2]) (by omega) x1 x2) | (exfalso; omega), by omega, gWH⟩)
