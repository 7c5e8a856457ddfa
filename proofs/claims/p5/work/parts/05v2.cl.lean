theorem lk_J0_isLatin1_aae02_15 : Cond.fieldLink RJ0 15 "java/lang/String" "coder" "B" ∈ wsJ0_isLatin1_aae02 := by decide +kernel
theorem lk_J0_isLatin1_aae02_38 : Cond.fieldLink RJ0 38 "java/lang/String" "COMPACT_STRINGS" "Z" ∈ wsJ0_isLatin1_aae02 := by decide +kernel
abbrev L_J0_isLatin1_aae02_s0 : List Rc := []
abbrev LL_J0_isLatin1_aae02_s0 : List Rc := []
def P_J0_isLatin1_aae02_s0 (σ0 : Nat → Nat → Int32) (τ0 : Nat → Nat → Int64)  (r : Int32) (σ : Nat → Nat → Int32) (τ : Nat → Nat → Int64) : Prop := Rg σ ∧ Fr L_J0_isLatin1_aae02_s0 σ0 σ ∧ FrL LL_J0_isLatin1_aae02_s0 τ0 τ ∧ (1 ≤ r.toInt ∧ r.toInt ≤ 1)
set_option maxHeartbeats 4000000 in
theorem c_J0_isLatin1_aae02_s0 (l : Launch) (D : va_G) (cA : Nat → ClassId) (ad : Nat → Nat) (hI : Inj ad) (σ0 : Nat → Nat → Int32) (τ0 : Nat → Nat → Int64) (hR : Rg σ0)   : Met l yJ0_isLatin1_aae02 wsJ0_isLatin1_aae02 ({ frames := 0, cells := 0, slots := 0, locals := 0 } : Room) (WQc D cA ad [.ref (ad 407)] σ0 τ0) (va_Qi (fun (r : Int32) (u : SS) => P_J0_isLatin1_aae02_s0 σ0 τ0 r u.1 u.2) (WB D cA ad) (AA ad)) 0 0 (AA ad) := by
  refine Met.ofW (cc := cJ0_isLatin1_aae02) (maxL := 1) (ret := (some .boolean)) (by decide) rfl ?_
  intro p e s m args below meth c s₁ B hml hv
  obtain ⟨rfl, hP, hK, hN⟩ := hv
  have C : Cy p s m _ meth c cJ0_isLatin1_aae02 1 wsJ0_isLatin1_aae02 RJ0 D cA ad (some .boolean) := ⟨B.exec, B.bytes, hml, findClass_of_methodNamed B.named, atoms_spec (ws := wsJ0_isLatin1_aae02) B.pre, hK, B.notSynchronized, B.returns, hI, hN⟩
  have hl := lv_entry ([.ref (ad 407)]) (n := 1) (Nat.le_of_ble_eq_true rfl)
  rw [lg_entry_eq]
  generalize (lg_sl ([.ref (ad 407)]) ++ List.replicate (1 - (lg_sl ([.ref (ad 407)])).length) Slot.unset).toArray = ls at hl ⊢
  have hl : lv_has ls 1 [(0, .ref (ad 407))] := hl
  have hS : va_S (AA ad) s.heap s.heap [] := va_S.rf
  have hF : Fr L_J0_isLatin1_aae02_s0 σ0 σ0 := Fr.rf
  have hFL : FrL LL_J0_isLatin1_aae02_s0 τ0 τ0 := FrL.rf
  obtain ⟨hx, hb, _, hown, hts, _, hk, hr, _, _⟩ := C
  refine sz_cs hx hb hN hS hown (hts _ lk_J0_isLatin1_aae02_38) dJ0_isLatin1_aae02_0 (fun z1 ez1 => ?_)
  refine r_if_eq (tgt := 17) hx hb dJ0_isLatin1_aae02_3 (by decide) (fun c2 => ?_) (fun c2 => ?_)
  · exfalso; omega
  · refine lv_aload_n hx hb dJ0_isLatin1_aae02_6 rfl (lv_at hl 0 rfl) ?_
    refine sc_0 hx hb hN hS hown (hts _ lk_J0_isLatin1_aae02_15) dJ0_isLatin1_aae02_7 (fun z3 ez3 => ?_)
    refine r_if_ne (tgt := 17) hx hb dJ0_isLatin1_aae02_10 (by decide) (fun c4 => ?_) (fun c4 => ?_)
    · exfalso; omega
    · refine r_iconst hx hb dJ0_isLatin1_aae02_13 (by decide) (fun z5 ez5 => ?_)
      refine lv_goto (tgt := 18) hx hb dJ0_isLatin1_aae02_14 (by decide) ?_
      exact r_zret hx hb hr hK hP hS hk (by omega) dJ0_isLatin1_aae02_18 (show P_J0_isLatin1_aae02_s0 σ0 τ0 z5 σ0 τ0 from ⟨hR, hF, hFL, by omega⟩)
abbrev L_J3_checkIndex_8e157_l98_n : List Rc := []
abbrev LL_J3_checkIndex_8e157_l98_n : List Rc := []
def P_J3_checkIndex_8e157_l98_n (σ0 : Nat → Nat → Int32) (τ0 : Nat → Nat → Int64) (a0 : Int32) (a1 : Int32) (r : Int32) (σ : Nat → Nat → Int32) (τ : Nat → Nat → Int64) : Prop := Rg σ ∧ Fr L_J3_checkIndex_8e157_l98_n σ0 σ ∧ FrL LL_J3_checkIndex_8e157_l98_n τ0 τ ∧ (0 ≤ r.toInt ∧ r.toInt ≤ 97)
set_option maxHeartbeats 4000000 in
theorem c_J3_checkIndex_8e157_l98_n (l : Launch) (D : va_G) (cA : Nat → ClassId) (ad : Nat → Nat) (hI : Inj ad) (σ0 : Nat → Nat → Int32) (τ0 : Nat → Nat → Int64) (hR : Rg σ0) (a0 : Int32) (a1 : Int32) (ha0 : 0 ≤ a0.toInt ∧ a0.toInt ≤ 97) (ha1 : 98 ≤ a1.toInt ∧ a1.toInt ≤ 98) : Met l yJ3_checkIndex_8e157 wsJ3_checkIndex_8e157 ({ frames := 0, cells := 0, slots := 0, locals := 0 } : Room) (WQc D cA ad [.int a0, .int a1, .null] σ0 τ0) (va_Qi (fun (r : Int32) (u : SS) => P_J3_checkIndex_8e157_l98_n σ0 τ0 a0 a1 r u.1 u.2) (WB D cA ad) (AA ad)) 0 0 (AA ad) := by
  refine Met.ofW (cc := cJ3_checkIndex_8e157) (maxL := 3) (ret := (some .int)) (by decide) rfl ?_
  intro p e s m args below meth c s₁ B hml hv
  obtain ⟨rfl, hP, hK, hN⟩ := hv
  have C : Cy p s m _ meth c cJ3_checkIndex_8e157 3 wsJ3_checkIndex_8e157 RJ3 D cA ad (some .int) := ⟨B.exec, B.bytes, hml, findClass_of_methodNamed B.named, atoms_spec (ws := wsJ3_checkIndex_8e157) B.pre, hK, B.notSynchronized, B.returns, hI, hN⟩
  have hl := lv_entry ([.int a0, .int a1, .null]) (n := 3) (Nat.le_of_ble_eq_true rfl)
  rw [lg_entry_eq]
  generalize (lg_sl ([.int a0, .int a1, .null]) ++ List.replicate (3 - (lg_sl ([.int a0, .int a1, .null])).length) Slot.unset).toArray = ls at hl ⊢
  have hl : lv_has ls 3 [(0, .int a0), (1, .int a1), (2, .null)] := hl
  have hS : va_S (AA ad) s.heap s.heap [] := va_S.rf
  have hF : Fr L_J3_checkIndex_8e157_l98_n σ0 σ0 := Fr.rf
  have hFL : FrL LL_J3_checkIndex_8e157_l98_n τ0 τ0 := FrL.rf
  obtain ⟨hx, hb, _, hown, hts, _, hk, hr, _, _⟩ := C
  refine lv_iload_n hx hb dJ3_checkIndex_8e157_0 rfl (lv_at hl 0 rfl) ?_
  refine r_if_lt (tgt := 9) hx hb dJ3_checkIndex_8e157_1 (by decide) (fun c1 => ?_) (fun c1 => ?_)
  · exfalso; omega
  · refine lv_iload_n hx hb dJ3_checkIndex_8e157_4 rfl (lv_at hl 0 rfl) ?_
    refine lv_iload_n hx hb dJ3_checkIndex_8e157_5 rfl (lv_at hl 1 rfl) ?_
    refine r_icmp_lt (tgt := 16) hx hb dJ3_checkIndex_8e157_6 (by decide) (fun c2 => ?_) (fun c2 => ?_)
    · refine lv_iload_n hx hb dJ3_checkIndex_8e157_16 rfl (lv_at hl 0 rfl) ?_
      exact r_iret hx hb hr hK hP hS hk dJ3_checkIndex_8e157_17 (show P_J3_checkIndex_8e157_l98_n σ0 τ0 a0 a1 a0 σ0 τ0 from ⟨hR, hF, hFL, by omega⟩)
    · exfalso; omega
abbrev L_J3_checkIndex_8e157_l98_t : List Rc := []
abbrev LL_J3_checkIndex_8e157_l98_t : List Rc := []
def P_J3_checkIndex_8e157_l98_t (σ0 : Nat → Nat → Int32) (τ0 : Nat → Nat → Int64) (a0 : Int32) (a1 : Int32) (a2 : Nat) (r : Int32) (σ : Nat → Nat → Int32) (τ : Nat → Nat → Int64) : Prop := Rg σ ∧ Fr L_J3_checkIndex_8e157_l98_t σ0 σ ∧ FrL LL_J3_checkIndex_8e157_l98_t τ0 τ ∧ (0 ≤ r.toInt ∧ r.toInt ≤ 97)
set_option maxHeartbeats 4000000 in
theorem c_J3_checkIndex_8e157_l98_t (l : Launch) (D : va_G) (cA : Nat → ClassId) (ad : Nat → Nat) (hI : Inj ad) (σ0 : Nat → Nat → Int32) (τ0 : Nat → Nat → Int64) (hR : Rg σ0) (a0 : Int32) (a1 : Int32) (a2 : Nat) (ha0 : 0 ≤ a0.toInt ∧ a0.toInt ≤ 97) (ha1 : 98 ≤ a1.toInt ∧ a1.toInt ≤ 98) : Met l yJ3_checkIndex_8e157 wsJ3_checkIndex_8e157 ({ frames := 0, cells := 0, slots := 0, locals := 0 } : Room) (WQc D cA ad [.int a0, .int a1, .ref a2] σ0 τ0) (va_Qi (fun (r : Int32) (u : SS) => P_J3_checkIndex_8e157_l98_t σ0 τ0 a0 a1 a2 r u.1 u.2) (WB D cA ad) (AA ad)) 0 0 (AA ad) := by
  refine Met.ofW (cc := cJ3_checkIndex_8e157) (maxL := 3) (ret := (some .int)) (by decide) rfl ?_
  intro p e s m args below meth c s₁ B hml hv
  obtain ⟨rfl, hP, hK, hN⟩ := hv
  have C : Cy p s m _ meth c cJ3_checkIndex_8e157 3 wsJ3_checkIndex_8e157 RJ3 D cA ad (some .int) := ⟨B.exec, B.bytes, hml, findClass_of_methodNamed B.named, atoms_spec (ws := wsJ3_checkIndex_8e157) B.pre, hK, B.notSynchronized, B.returns, hI, hN⟩
  have hl := lv_entry ([.int a0, .int a1, .ref a2]) (n := 3) (Nat.le_of_ble_eq_true rfl)
  rw [lg_entry_eq]
  generalize (lg_sl ([.int a0, .int a1, .ref a2]) ++ List.replicate (3 - (lg_sl ([.int a0, .int a1, .ref a2])).length) Slot.unset).toArray = ls at hl ⊢
  have hl : lv_has ls 3 [(0, .int a0), (1, .int a1), (2, .ref a2)] := hl
  have hS : va_S (AA ad) s.heap s.heap [] := va_S.rf
  have hF : Fr L_J3_checkIndex_8e157_l98_t σ0 σ0 := Fr.rf
  have hFL : FrL LL_J3_checkIndex_8e157_l98_t τ0 τ0 := FrL.rf
  obtain ⟨hx, hb, _, hown, hts, _, hk, hr, _, _⟩ := C
  refine lv_iload_n hx hb dJ3_checkIndex_8e157_0 rfl (lv_at hl 0 rfl) ?_
  refine r_if_lt (tgt := 9) hx hb dJ3_checkIndex_8e157_1 (by decide) (fun c1 => ?_) (fun c1 => ?_)
  · exfalso; omega
  · refine lv_iload_n hx hb dJ3_checkIndex_8e157_4 rfl (lv_at hl 0 rfl) ?_
    refine lv_iload_n hx hb dJ3_checkIndex_8e157_5 rfl (lv_at hl 1 rfl) ?_
    refine r_icmp_lt (tgt := 16) hx hb dJ3_checkIndex_8e157_6 (by decide) (fun c2 => ?_) (fun c2 => ?_)
    · refine lv_iload_n hx hb dJ3_checkIndex_8e157_16 rfl (lv_at hl 0 rfl) ?_
      exact r_iret hx hb hr hK hP hS hk dJ3_checkIndex_8e157_17 (show P_J3_checkIndex_8e157_l98_t σ0 τ0 a0 a1 a2 a0 σ0 τ0 from ⟨hR, hF, hFL, by omega⟩)
    · exfalso; omega
theorem lk_J0_checkIndex_df160_1053 : Cond.fieldLink RJ0 1053 "jdk/internal/util/Preconditions" "SIOOBE_FORMATTER" "Ljava/util/function/BiFunction;" ∈ wsJ0_checkIndex_df160 := by decide +kernel
abbrev L_J0_checkIndex_df160_l98 : List Rc := []
abbrev LL_J0_checkIndex_df160_l98 : List Rc := []
def P_J0_checkIndex_df160_l98 (σ0 : Nat → Nat → Int32) (τ0 : Nat → Nat → Int64) (a0 : Int32) (a1 : Int32) (σ : Nat → Nat → Int32) (τ : Nat → Nat → Int64) : Prop := Rg σ ∧ Fr L_J0_checkIndex_df160_l98 σ0 σ ∧ FrL LL_J0_checkIndex_df160_l98 τ0 τ
set_option maxHeartbeats 4000000 in
theorem c_J0_checkIndex_df160_l98 (l : Launch) (D : va_G) (cA : Nat → ClassId) (ad : Nat → Nat) (hI : Inj ad) (σ0 : Nat → Nat → Int32) (τ0 : Nat → Nat → Int64) (hR : Rg σ0) (a0 : Int32) (a1 : Int32) (ha0 : 0 ≤ a0.toInt ∧ a0.toInt ≤ 97) (ha1 : 98 ≤ a1.toInt ∧ a1.toInt ≤ 98) : Met l yJ0_checkIndex_df160 wsJ0_checkIndex_df160 ({ frames := 1, cells := 0, slots := 0, locals := 22 } : Room) (WQc D cA ad [.int a0, .int a1] σ0 τ0) (va_Qv (fun u : SS => P_J0_checkIndex_df160_l98 σ0 τ0 a0 a1 u.1 u.2) (WB D cA ad) (AA ad)) 0 0 (AA ad) := by
  refine Met.ofW (cc := cJ0_checkIndex_df160) (maxL := 2) (ret := none) (by decide) rfl ?_
  intro p e s m args below meth c s₁ B hml hv
  obtain ⟨rfl, hP, hK, hN⟩ := hv
  have C : Cy p s m _ meth c cJ0_checkIndex_df160 2 wsJ0_checkIndex_df160 RJ0 D cA ad none := ⟨B.exec, B.bytes, hml, findClass_of_methodNamed B.named, atoms_spec (ws := wsJ0_checkIndex_df160) B.pre, hK, B.notSynchronized, B.returns, hI, hN⟩
  have hl := lv_entry ([.int a0, .int a1]) (n := 2) (Nat.le_of_ble_eq_true rfl)
  rw [lg_entry_eq]
  generalize (lg_sl ([.int a0, .int a1]) ++ List.replicate (2 - (lg_sl ([.int a0, .int a1])).length) Slot.unset).toArray = ls at hl ⊢
  have hl : lv_has ls 2 [(0, .int a0), (1, .int a1)] := hl
  have hS : va_S (AA ad) s.heap s.heap [] := va_S.rf
  have hF : Fr L_J0_checkIndex_df160_l98 σ0 σ0 := Fr.rf
  have hFL : FrL LL_J0_checkIndex_df160_l98 τ0 τ0 := FrL.rf
  obtain ⟨hx, hb, _, hown, hts, _, hk, hr, _, _⟩ := C
  refine lv_iload_n hx hb dJ0_checkIndex_df160_0 rfl (lv_at hl 0 rfl) ?_
  refine lv_iload_n hx hb dJ0_checkIndex_df160_1 rfl (lv_at hl 1 rfl) ?_
  refine sz_fm hx hb hN hS hown (hts _ lk_J0_checkIndex_df160_1053) dJ0_checkIndex_df160_2 ?_ (fun t1 => ?_)
  · refine r_cSi (As := [.int a0, .int a1, .null]) (rest := []) ⟨hx, hb, hml, hown, hts⟩ hK hP hN hS (c_J3_checkIndex_8e157_l98_n l D cA ad hI σ0 τ0 hR a0 a1 (by omega) (by omega)) (va_cwS 3 hts gJ0_checkIndex_df160_J3_checkIndex_8e157 rfl rfl rfl (by decide +kernel) ⟨by decide, by decide⟩) rfl hl.1 rfl (Nat.le_of_ble_eq_true rfl) dJ0_checkIndex_df160_5 (Nat.zero_le _) (Nat.zero_le _) (fun r2 u2 H2 locs2 hp2 hP hS => ?_)
    obtain ⟨σ2, τ2⟩ := u2
    obtain ⟨hR, f2, fL2, hq2⟩ : P_J3_checkIndex_8e157_l98_n σ0 τ0 a0 a1 r2 σ2 τ2 := hp2
    have hP : va_P D vwCl (gw cA ad σ2 τ2) H2 := hP
    obtain rfl := FrL.nil fL2
    obtain rfl := Fr.nil f2
    refine lv_pop hx hb dJ0_checkIndex_df160_8 rfl ?_
    exact r_vret hx hb hr hK hP hS hk dJ0_checkIndex_df160_9 (show P_J0_checkIndex_df160_l98 σ0 τ0 a0 a1 σ0 τ0 from ⟨hR, hF, hFL⟩)
  · refine r_cSi (As := [.int a0, .int a1, .ref t1]) (rest := []) ⟨hx, hb, hml, hown, hts⟩ hK hP hN hS (c_J3_checkIndex_8e157_l98_t l D cA ad hI σ0 τ0 hR a0 a1 t1 (by omega) (by omega)) (va_cwS 3 hts gJ0_checkIndex_df160_J3_checkIndex_8e157 rfl rfl rfl (by decide +kernel) ⟨by decide, by decide⟩) rfl hl.1 rfl (Nat.le_of_ble_eq_true rfl) dJ0_checkIndex_df160_5 (Nat.zero_le _) (Nat.zero_le _) (fun r3 u3 H3 locs3 hp3 hP hS => ?_)
    obtain ⟨σ3, τ3⟩ := u3
    obtain ⟨hR, f3, fL3, hq3⟩ : P_J3_checkIndex_8e157_l98_t σ0 τ0 a0 a1 t1 r3 σ3 τ3 := hp3
    have hP : va_P D vwCl (gw cA ad σ3 τ3) H3 := hP
    obtain rfl := FrL.nil fL3
    obtain rfl := Fr.nil f3
    refine lv_pop hx hb dJ0_checkIndex_df160_8 rfl ?_
    exact r_vret hx hb hr hK hP hS hk dJ0_checkIndex_df160_9 (show P_J0_checkIndex_df160_l98 σ0 τ0 a0 a1 σ0 τ0 from ⟨hR, hF, hFL⟩)
abbrev L_J1_charAt_3b067_s0 : List Rc := []
abbrev LL_J1_charAt_3b067_s0 : List Rc := []
def P_J1_charAt_3b067_s0 (σ0 : Nat → Nat → Int32) (τ0 : Nat → Nat → Int64) (a1 : Int32) (r : Int32) (σ : Nat → Nat → Int32) (τ : Nat → Nat → Int64) : Prop := Rg σ ∧ Fr L_J1_charAt_3b067_s0 σ0 σ ∧ FrL LL_J1_charAt_3b067_s0 τ0 τ ∧ (0 ≤ r.toInt ∧ r.toInt ≤ 255) ∧ (r.toInt = rowc (0 + a1.toInt.toNat))
set_option maxHeartbeats 4000000 in
theorem c_J1_charAt_3b067_s0 (l : Launch) (D : va_G) (cA : Nat → ClassId) (ad : Nat → Nat) (hI : Inj ad) (σ0 : Nat → Nat → Int32) (τ0 : Nat → Nat → Int64) (hR : Rg σ0) (a1 : Int32) (ha1 : 0 ≤ a1.toInt ∧ a1.toInt ≤ 97) : Met l yJ1_charAt_3b067 wsJ1_charAt_3b067 ({ frames := 2, cells := 0, slots := 0, locals := 43 } : Room) (WQc D cA ad [.ref (ad 414), .int a1] σ0 τ0) (va_Qi (fun (r : Int32) (u : SS) => P_J1_charAt_3b067_s0 σ0 τ0 a1 r u.1 u.2) (WB D cA ad) (AA ad)) 0 0 (AA ad) := by
  refine Met.ofW (cc := cJ1_charAt_3b067) (maxL := 2) (ret := (some .char)) (by decide) rfl ?_
  intro p e s m args below meth c s₁ B hml hv
  obtain ⟨rfl, hP, hK, hN⟩ := hv
  have C : Cy p s m _ meth c cJ1_charAt_3b067 2 wsJ1_charAt_3b067 RJ1 D cA ad (some .char) := ⟨B.exec, B.bytes, hml, findClass_of_methodNamed B.named, atoms_spec (ws := wsJ1_charAt_3b067) B.pre, hK, B.notSynchronized, B.returns, hI, hN⟩
  have hl := lv_entry ([.ref (ad 414), .int a1]) (n := 2) (Nat.le_of_ble_eq_true rfl)
  rw [lg_entry_eq]
  generalize (lg_sl ([.ref (ad 414), .int a1]) ++ List.replicate (2 - (lg_sl ([.ref (ad 414), .int a1])).length) Slot.unset).toArray = ls at hl ⊢
  have hl : lv_has ls 2 [(0, .ref (ad 414)), (1, .int a1)] := hl
  have hS : va_S (AA ad) s.heap s.heap [] := va_S.rf
  have hF : Fr L_J1_charAt_3b067_s0 σ0 σ0 := Fr.rf
  have hFL : FrL LL_J1_charAt_3b067_s0 τ0 τ0 := FrL.rf
  obtain ⟨hx, hb, _, hown, hts, _, hk, hr, _, _⟩ := C
  refine lv_iload_n hx hb dJ1_charAt_3b067_0 rfl (lv_at hl 1 rfl) ?_
  refine lv_aload_n hx hb dJ1_charAt_3b067_1 rfl (lv_at hl 0 rfl) ?_
  refine sl_0 hx hb hN hS dJ1_charAt_3b067_2 (fun z1 ez1 => ?_)
  refine r_cSv (As := [.int a1, .int z1]) (rest := []) ⟨hx, hb, hml, hown, hts⟩ hK hP hN hS (c_J0_checkIndex_df160_l98 l D cA ad hI σ0 τ0 hR a1 z1 (by omega) (by omega)) (va_cwS 2 hts gJ1_charAt_3b067_J0_checkIndex_df160 rfl rfl rfl (by decide +kernel) ⟨by decide, by decide⟩) rfl hl.1 rfl (Nat.le_of_ble_eq_true rfl) dJ1_charAt_3b067_3 (Nat.zero_le _) (Nat.zero_le _) (fun u2 H2 locs2 hp2 hP hS => ?_)
  obtain ⟨σ2, τ2⟩ := u2
  obtain ⟨hR, f2, fL2⟩ : P_J0_checkIndex_df160_l98 σ0 τ0 a1 z1 σ2 τ2 := hp2
  have hP : va_P D vwCl (gw cA ad σ2 τ2) H2 := hP
  obtain rfl := FrL.nil fL2
  obtain rfl := Fr.nil f2
  refine lv_aload_n hx hb dJ1_charAt_3b067_6 rfl (lv_at hl 0 rfl) ?_
  refine lv_iload_n hx hb dJ1_charAt_3b067_7 rfl (lv_at hl 1 rfl) ?_
  obtain ⟨j3, ej3⟩ : ∃ j : Nat, a1.toInt = (j : Int) := ⟨_, ti_nat (by omega)⟩
  refine sbE_0 (j := j3) hx hb hN hS ej3 (by omega) dJ1_charAt_3b067_8 (fun z4 ez4 => ?_)
  refine lv_sipush (v := 255) hx hb dJ1_charAt_3b067_9 (by decide) ?_
  have kcz5 : (255 : Int32).toInt = 255 := rfl
  have hzs := row_rg (0 + j3) (by omega)
  refine lv_iand hx hb dJ1_charAt_3b067_12 ?_
  have hza := ti_a255 (z := z4) (by omega)
  refine r_i2c hx hb dJ1_charAt_3b067_13 (by omega) (fun z6 ez6 => ?_)
  exact r_cret hx hb hr hK hP hS hk (by omega) dJ1_charAt_3b067_14 (show P_J1_charAt_3b067_s0 σ0 τ0 a1 z6 σ0 τ0 from ⟨hR, hF, hFL, by omega, by rw [show a1.toInt.toNat = j3 by omega]; omega⟩)
theorem lk_J0_charAt_5068e_9 : Cond.fieldLink RJ0 9 "java/lang/String" "value" "[B" ∈ wsJ0_charAt_5068e := by decide +kernel
abbrev L_J0_charAt_5068e_s0 : List Rc := []
abbrev LL_J0_charAt_5068e_s0 : List Rc := []
def P_J0_charAt_5068e_s0 (σ0 : Nat → Nat → Int32) (τ0 : Nat → Nat → Int64) (a1 : Int32) (r : Int32) (σ : Nat → Nat → Int32) (τ : Nat → Nat → Int64) : Prop := Rg σ ∧ Fr L_J0_charAt_5068e_s0 σ0 σ ∧ FrL LL_J0_charAt_5068e_s0 τ0 τ ∧ (0 ≤ r.toInt ∧ r.toInt ≤ 255) ∧ (r.toInt = rowc (0 + a1.toInt.toNat))
set_option maxHeartbeats 4000000 in
theorem c_J0_charAt_5068e_s0 (l : Launch) (D : va_G) (cA : Nat → ClassId) (ad : Nat → Nat) (hI : Inj ad) (σ0 : Nat → Nat → Int32) (τ0 : Nat → Nat → Int64) (hR : Rg σ0) (a1 : Int32) (ha1 : 0 ≤ a1.toInt ∧ a1.toInt ≤ 97) : Met l yJ0_charAt_5068e wsJ0_charAt_5068e ({ frames := 3, cells := 0, slots := 0, locals := 64 } : Room) (WQc D cA ad [.ref (ad 407), .int a1] σ0 τ0) (va_Qi (fun (r : Int32) (u : SS) => P_J0_charAt_5068e_s0 σ0 τ0 a1 r u.1 u.2) (WB D cA ad) (AA ad)) 0 0 (AA ad) := by
  refine Met.ofW (cc := cJ0_charAt_5068e) (maxL := 2) (ret := (some .char)) (by decide) rfl ?_
  intro p e s m args below meth c s₁ B hml hv
  obtain ⟨rfl, hP, hK, hN⟩ := hv
  have C : Cy p s m _ meth c cJ0_charAt_5068e 2 wsJ0_charAt_5068e RJ0 D cA ad (some .char) := ⟨B.exec, B.bytes, hml, findClass_of_methodNamed B.named, atoms_spec (ws := wsJ0_charAt_5068e) B.pre, hK, B.notSynchronized, B.returns, hI, hN⟩
  have hl := lv_entry ([.ref (ad 407), .int a1]) (n := 2) (Nat.le_of_ble_eq_true rfl)
  rw [lg_entry_eq]
  generalize (lg_sl ([.ref (ad 407), .int a1]) ++ List.replicate (2 - (lg_sl ([.ref (ad 407), .int a1])).length) Slot.unset).toArray = ls at hl ⊢
  have hl : lv_has ls 2 [(0, .ref (ad 407)), (1, .int a1)] := hl
  have hS : va_S (AA ad) s.heap s.heap [] := va_S.rf
  have hF : Fr L_J0_charAt_5068e_s0 σ0 σ0 := Fr.rf
  have hFL : FrL LL_J0_charAt_5068e_s0 τ0 τ0 := FrL.rf
  obtain ⟨hx, hb, _, hown, hts, _, hk, hr, _, _⟩ := C
  refine lv_aload_n hx hb dJ0_charAt_5068e_0 rfl (lv_at hl 0 rfl) ?_
  refine r_cVi (k := 407) (As := []) (rest := []) ⟨hx, hb, hml, hown, hts⟩ hK hP hN hS (c_J0_isLatin1_aae02_s0 l D cA ad hI σ0 τ0 hR) (cwV 0 hts gJ0_charAt_5068e_J0_isLatin1_aae02 rfl rfl rfl (by decide +kernel) ⟨by decide, by decide⟩) (so_0 hN hS) rfl hl.1 rfl (Nat.le_of_ble_eq_true rfl) dJ0_charAt_5068e_1 (Nat.zero_le _) (Nat.zero_le _) (fun r1 u1 H1 locs1 hp1 hP hS => ?_)
  obtain ⟨σ1, τ1⟩ := u1
  obtain ⟨hR, f1, fL1, hq1⟩ : P_J0_isLatin1_aae02_s0 σ0 τ0 r1 σ1 τ1 := hp1
  have hP : va_P D vwCl (gw cA ad σ1 τ1) H1 := hP
  obtain rfl := FrL.nil fL1
  obtain rfl := Fr.nil f1
  refine r_if_eq (tgt := 16) hx hb dJ0_charAt_5068e_4 (by decide) (fun c2 => ?_) (fun c2 => ?_)
  · exfalso; omega
  · refine lv_aload_n hx hb dJ0_charAt_5068e_7 rfl (lv_at hl 0 rfl) ?_
    refine sv_0 hx hb hN hS hown (hts _ lk_J0_charAt_5068e_9) dJ0_charAt_5068e_8 ?_
    refine lv_iload_n hx hb dJ0_charAt_5068e_11 rfl (lv_at hl 1 rfl) ?_
    refine r_cSi (As := [.ref (ad 414), .int a1]) (rest := []) ⟨hx, hb, hml, hown, hts⟩ hK hP hN hS (c_J1_charAt_3b067_s0 l D cA ad hI σ0 τ0 hR a1 (by omega)) (va_cwS 2 hts gJ0_charAt_5068e_J1_charAt_3b067 rfl rfl rfl (by decide +kernel) ⟨by decide, by decide⟩) rfl hl.1 rfl (Nat.le_of_ble_eq_true rfl) dJ0_charAt_5068e_12 (Nat.zero_le _) (Nat.zero_le _) (fun r3 u3 H3 locs3 hp3 hP hS => ?_)
    obtain ⟨σ3, τ3⟩ := u3
    obtain ⟨hR, f3, fL3, hq3, hp3_0⟩ : P_J1_charAt_3b067_s0 σ0 τ0 a1 r3 σ3 τ3 := hp3
    have hP : va_P D vwCl (gw cA ad σ3 τ3) H3 := hP
    obtain rfl := FrL.nil fL3
    obtain rfl := Fr.nil f3
    exact r_cret hx hb hr hK hP hS hk (by omega) dJ0_charAt_5068e_15 (show P_J0_charAt_5068e_s0 σ0 τ0 a1 r3 σ0 τ0 from ⟨hR, hF, hFL, by omega, by omega⟩)
abbrev L_X8_isWord_s0_v : List Rc := []
abbrev LL_X8_isWord_s0_v : List Rc := []
def P_X8_isWord_s0_v (σ0 : Nat → Nat → Int32) (τ0 : Nat → Nat → Int64) (a2 : Int32) (a3 : Int32) (a4 : Int32) (b : Nat → Int) (N : Nat) (q : Nat) (ln : Nat) (r : Int32) (σ : Nat → Nat → Int32) (τ : Nat → Nat → Int64) : Prop := Rg σ ∧ Fr L_X8_isWord_s0_v σ0 σ ∧ FrL LL_X8_isWord_s0_v τ0 τ ∧ (0 ≤ r.toInt ∧ r.toInt ≤ 1) ∧ ((r.toInt = 1 ∧ fd 256 0 b q ln = RWl.getD (0 + a2.toInt.toNat) 0) ∨ (r.toInt = 0 ∧ fd 256 0 b q ln ≠ RWl.getD (0 + a2.toInt.toNat) 0)) ∧ BY σ b N
def J_X8_isWord_s0_v_3 (p : Program) (l : Launch) (e : Env) (s : State) (m : MethodId) (args : Array Value) (below : List Frame) (meth : Method) (c : Code) (D : va_G) (cA : Nat → ClassId) (ad : Nat → Nat) (σ0 : Nat → Nat → Int32) (τ0 : Nat → Nat → Int64) (a2 : Int32) (a3 : Int32) (a4 : Int32) (b : Nat → Int) (N : Nat) (q : Nat) (ln : Nat) (n : Nat) : Prop := ∀ (σ : Nat → Nat → Int32) (τ : Nat → Nat → Int64) (H : Heap) (locs : List Loc) (x5 : Int32) (ls : Array Slot), Rg σ → Fr L_X8_isWord_s0_v σ0 σ → FrL LL_X8_isWord_s0_v τ0 τ → va_P D vwCl (gw cA ad σ τ) H → va_S (AA ad) s.heap H locs → (0 ≤ x5.toInt ∧ x5.toInt ≤ 7) → (∀ i : Nat, (i : Int) < x5.toInt → chq b q ln i = rowc (7 * (0 + a2.toInt.toNat) + i)) → (BY σ b N) → lv_has ls 7 [(0, .ref (ad 1)), (1, .ref (ad 407)), (2, .int a2), (3, .int a3), (4, .int a4), (5, .int x5)] → 3 * (7 - x5.toInt) + 2 < (n : Int) → W p l e ({ frames := 4, cells := 0, slots := 0, locals := 85 } : Room) s m args below meth c H locs 0 0 (MQ below (va_Qi (fun (r : Int32) (u : SS) => P_X8_isWord_s0_v σ0 τ0 a2 a3 a4 b N q ln r u.1 u.2) (WB D cA ad) (AA ad)) args s 0 0 (AA ad)) (F0 m 3 ls [])
def J_X8_isWord_s0_v_32 (p : Program) (l : Launch) (e : Env) (s : State) (m : MethodId) (args : Array Value) (below : List Frame) (meth : Method) (c : Code) (D : va_G) (cA : Nat → ClassId) (ad : Nat → Nat) (σ0 : Nat → Nat → Int32) (τ0 : Nat → Nat → Int64) (a2 : Int32) (a3 : Int32) (a4 : Int32) (b : Nat → Int) (N : Nat) (q : Nat) (ln : Nat) (n : Nat) : Prop := ∀ (σ : Nat → Nat → Int32) (τ : Nat → Nat → Int64) (H : Heap) (locs : List Loc) (x5 : Int32) (w0 : Int32) (ls : Array Slot), Rg σ → Fr L_X8_isWord_s0_v σ0 σ → FrL LL_X8_isWord_s0_v τ0 τ → va_P D vwCl (gw cA ad σ τ) H → va_S (AA ad) s.heap H locs → (0 ≤ x5.toInt ∧ x5.toInt ≤ 6) → (0 ≤ w0.toInt ∧ w0.toInt ≤ 255) → (∀ i : Nat, (i : Int) < x5.toInt → chq b q ln i = rowc (7 * (0 + a2.toInt.toNat) + i)) → (w0.toInt = chq b q ln x5.toInt.toNat) → (BY σ b N) → lv_has ls 7 [(0, .ref (ad 1)), (1, .ref (ad 407)), (2, .int a2), (3, .int a3), (4, .int a4), (5, .int x5)] → 3 * (7 - x5.toInt) + 1 < (n : Int) → W p l e ({ frames := 4, cells := 0, slots := 0, locals := 85 } : Room) s m args below meth c H locs 0 0 (MQ below (va_Qi (fun (r : Int32) (u : SS) => P_X8_isWord_s0_v σ0 τ0 a2 a3 a4 b N q ln r u.1 u.2) (WB D cA ad) (AA ad)) args s 0 0 (AA ad)) (F0 m 32 ls [.int w0])
set_option maxHeartbeats 4000000 in
theorem B_X8_isWord_s0_v_3 (p : Program) (l : Launch) (e : Env) (s : State) (m : MethodId) (args : Array Value) (below : List Frame) (meth : Method) (c : Code) (D : va_G) (cA : Nat → ClassId) (ad : Nat → Nat) (σ0 : Nat → Nat → Int32) (τ0 : Nat → Nat → Int64) (a2 : Int32) (a3 : Int32) (a4 : Int32) (b : Nat → Int) (N : Nat) (q : Nat) (ln : Nat) (n : Nat) (C : Cy p s m args meth c cX8_isWord 7 wsX8_isWord RX8 D cA ad (some .boolean)) (ha2 : 0 ≤ a2.toInt ∧ a2.toInt ≤ 13) (ha3 : 0 ≤ a3.toInt ∧ a3.toInt ≤ 899) (ha4 : 0 ≤ a4.toInt ∧ a4.toInt ≤ 940) (hpre0 : a3.toInt = (q : Int)) (hpre1 : a4.toInt = (q : Int) + ln) (hpre2 : q + ln ≤ N) (hpre3 : ln ≤ 7) (hpre4 : ∀ i : Nat, i < ln → isLt (b (q + i))) (gBY0 : BY σ0 b N) (K3 : J_X8_isWord_s0_v_3 p l e s m args below meth c D cA ad σ0 τ0 a2 a3 a4 b N q ln n) (K32 : J_X8_isWord_s0_v_32 p l e s m args below meth c D cA ad σ0 τ0 a2 a3 a4 b N q ln n) : J_X8_isWord_s0_v_3 p l e s m args below meth c D cA ad σ0 τ0 a2 a3 a4 b N q ln (n + 1) := by
  obtain ⟨hx, hb, hml, hown, hts, hK, hk, hr, hI, hN⟩ := C
  intro σ τ H locs x5 ls hR hF hFL hP hS hc0 hi0 gBY hl hm
  obtain rfl := Fr.nil hF
  obtain rfl := FrL.nil hFL
  refine lv_iload hx hb dX8_isWord_3 (lv_at hl 5 rfl) ?_
  refine r_bipush hx hb dX8_isWord_5 (by decide) (fun z1 ez1 => ?_)
  refine r_icmp_ge (tgt := 58) hx hb dX8_isWord_7 (by decide) (fun c2 => ?_) (fun c2 => ?_)
  · refine r_iconst hx hb dX8_isWord_58 (by decide) (fun z3 ez3 => ?_)
    exact r_zret hx hb hr hK hP hS hk (by omega) dX8_isWord_59 (show P_X8_isWord_s0_v σ0 τ0 a2 a3 a4 b N q ln z3 σ0 τ0 from ⟨hR, hF, hFL, by omega, by first | exact Or.inl ⟨by omega, (WM_iff hpre4 hpre3 (by omega)).mp (fun i hi => hi0 i (by omega))⟩ | exact Or.inr ⟨by omega, fun h => absurd ((WM_iff hpre4 hpre3 (by omega)).mpr h x5.toInt.toNat (by omega)) (by omega)⟩, gBY⟩)
  · refine lv_iload_n hx hb dX8_isWord_10 rfl (lv_at hl 3 rfl) ?_
    refine lv_iload hx hb dX8_isWord_11 (lv_at hl 5 rfl) ?_
    refine r_iadd hx hb dX8_isWord_13 (by omega) (fun z4 ez4 => ?_)
    refine lv_iload hx hb dX8_isWord_14 (lv_at hl 4 rfl) ?_
    refine r_icmp_ge (tgt := 30) hx hb dX8_isWord_16 (by decide) (fun c5 => ?_) (fun c5 => ?_)
    · refine r_bipush hx hb dX8_isWord_30 (by decide) (fun z6 ez6 => ?_)
      exact K32 σ0 τ0 H locs x5 z6 ls hR hF hFL hP hS (by omega) (by omega) (by exact hi0) (by unfold chq; first | rw [if_neg (by omega)]; omega | rw [if_pos (by omega)]; exact hb24) gBY (lv_sub hl [0, 1, 2, 3, 4, 5] rfl) (by omega)
    · refine lv_aload_n hx hb dX8_isWord_19 rfl (lv_at hl 0 rfl) ?_
      refine lv_iload_n hx hb dX8_isWord_20 rfl (lv_at hl 3 rfl) ?_
      refine lv_iload hx hb dX8_isWord_21 (lv_at hl 5 rfl) ?_
      refine r_iadd hx hb dX8_isWord_23 (by omega) (fun z7 ez7 => ?_)
      refine r_cVi (k := 1) (As := [.int z7]) (rest := []) ⟨hx, hb, hml, hown, hts⟩ hK hP hN hS (c_X8_byteAt l D cA ad hI σ0 τ0 hR z7 (by omega)) (cwV 1 hts gX8_isWord_X8_byteAt rfl rfl rfl (by decide +kernel) ⟨by decide, by decide⟩) (rv_Tape hK hP (by decide) (by decide)) rfl hl.1 rfl (Nat.le_of_ble_eq_true rfl) dX8_isWord_24 (Nat.zero_le _) (Nat.zero_le _) (fun r8 u8 H8 locs8 hp8 hP hS => ?_)
      obtain ⟨σ8, τ8⟩ := u8
      obtain ⟨hR, f8, fL8, hq8, hp8_0⟩ : P_X8_byteAt σ0 τ0 z7 r8 σ8 τ8 := hp8
      have hP : va_P D vwCl (gw cA ad σ8 τ8) H8 := hP
      obtain rfl := FrL.nil fL8
      obtain rfl := Fr.nil f8
      have hb24 := BY.rd gBY (j := q + x5.toInt.toNat) hp8_0 (by omega) (by omega)
      refine lv_goto (tgt := 32) hx hb dX8_isWord_27 (by decide) ?_
      exact K32 σ0 τ0 H8 locs8 x5 r8 ls hR hF hFL hP hS (by omega) (by omega) (by exact hi0) (by unfold chq; first | rw [if_neg (by omega)]; omega | rw [if_pos (by omega)]; exact hb24) gBY (lv_sub hl [0, 1, 2, 3, 4, 5] rfl) (by omega)
set_option maxHeartbeats 4000000 in
theorem B_X8_isWord_s0_v_32 (p : Program) (l : Launch) (e : Env) (s : State) (m : MethodId) (args : Array Value) (below : List Frame) (meth : Method) (c : Code) (D : va_G) (cA : Nat → ClassId) (ad : Nat → Nat) (σ0 : Nat → Nat → Int32) (τ0 : Nat → Nat → Int64) (a2 : Int32) (a3 : Int32) (a4 : Int32) (b : Nat → Int) (N : Nat) (q : Nat) (ln : Nat) (n : Nat) (C : Cy p s m args meth c cX8_isWord 7 wsX8_isWord RX8 D cA ad (some .boolean)) (ha2 : 0 ≤ a2.toInt ∧ a2.toInt ≤ 13) (ha3 : 0 ≤ a3.toInt ∧ a3.toInt ≤ 899) (ha4 : 0 ≤ a4.toInt ∧ a4.toInt ≤ 940) (hpre0 : a3.toInt = (q : Int)) (hpre1 : a4.toInt = (q : Int) + ln) (hpre2 : q + ln ≤ N) (hpre3 : ln ≤ 7) (hpre4 : ∀ i : Nat, i < ln → isLt (b (q + i))) (gBY0 : BY σ0 b N) (K3 : J_X8_isWord_s0_v_3 p l e s m args below meth c D cA ad σ0 τ0 a2 a3 a4 b N q ln n) (K32 : J_X8_isWord_s0_v_32 p l e s m args below meth c D cA ad σ0 τ0 a2 a3 a4 b N q ln n) : J_X8_isWord_s0_v_32 p l e s m args below meth c D cA ad σ0 τ0 a2 a3 a4 b N q ln (n + 1) := by
  obtain ⟨hx, hb, hml, hown, hts, hK, hk, hr, hI, hN⟩ := C
  intro σ τ H locs x5 w0 ls hR hF hFL hP hS hc0 hc1 hi0 hi1 gBY hl hm
  obtain rfl := Fr.nil hF
  obtain rfl := FrL.nil hFL
  refine lv_istore (lv' := [(6, .int w0), (0, .ref (ad 1)), (1, .ref (ad 407)), (2, .int a2), (3, .int a3), (4, .int a4), (5, .int x5)]) hx hb dX8_isWord_32 hl (by decide) rfl (fun ls hl => ?_)
  refine lv_aload_n hx hb dX8_isWord_34 rfl (lv_at hl 2 rfl) ?_
  refine lv_iload_n hx hb dX8_isWord_35 rfl (lv_at hl 3 rfl) ?_
  refine r_bipush hx hb dX8_isWord_36 (by decide) (fun z1 ez1 => ?_)
  refine r_imulR (n := 7) hx hb dX8_isWord_38 (by omega) (by omega) (fun z2 ez2 => ?_)
  refine lv_iload hx hb dX8_isWord_39 (lv_at hl 6 rfl) ?_
  refine r_iadd hx hb dX8_isWord_41 (by omega) (fun z3 ez3 => ?_)
  refine r_cVi (k := 407) (As := [.int z3]) (rest := []) ⟨hx, hb, hml, hown, hts⟩ hK hP hN hS (c_J0_charAt_5068e_s0 l D cA ad hI σ0 τ0 hR z3 (by omega)) (cwV 1 hts gX8_isWord_J0_charAt_5068e rfl rfl rfl (by decide +kernel) ⟨by decide, by decide⟩) (so_0 hN hS) rfl hl.1 rfl (Nat.le_of_ble_eq_true rfl) dX8_isWord_42 (Nat.zero_le _) (Nat.zero_le _) (fun r4 u4 H4 locs4 hp4 hP hS => ?_)
  obtain ⟨σ4, τ4⟩ := u4
  obtain ⟨hR, f4, fL4, hq4, hp4_0⟩ : P_J0_charAt_5068e_s0 σ0 τ0 z3 r4 σ4 τ4 := hp4
  have hP : va_P D vwCl (gw cA ad σ4 τ4) H4 := hP
  obtain rfl := FrL.nil fL4
  obtain rfl := Fr.nil f4
  have hc42 := hp4_0.trans (congrArg rowc (show 0 + z3.toInt.toNat = 7 * (0 + a2.toInt.toNat) + x5.toInt.toNat by omega))
  refine lv_iload hx hb dX8_isWord_45 (lv_at hl 0 rfl) ?_
  refine r_icmp_eq (tgt := 52) hx hb dX8_isWord_47 (by decide) (fun c5 => ?_) (fun c5 => ?_)
  · refine r_iinc (k := 6) (lv1 := fun z6 => [(5, .int z6), (6, .int w0), (0, .ref (ad 1)), (1, .ref (ad 407)), (2, .int a2), (3, .int a3), (4, .int a4)]) hx hb dX8_isWord_52 hl rfl (by decide) (fun _ => rfl) (by decide) (by omega) (fun z6 ls ez6 hl => ?_)
    refine lv_goto (tgt := 3) hx hb dX8_isWord_55 (by decide) ?_
    exact K3 σ0 τ0 H4 locs4 z6 ls hR hF hFL hP hS (by omega) (by first | exact (fun i hi => absurd hi (by omega)) | exact allS hi0 (by omega) (by omega) (by omega)) gBY (lv_sub hl [2, 3, 4, 5, 6, 0] rfl) (by omega)
  · refine r_iconst hx hb dX8_isWord_50 (by decide) (fun z7 ez7 => ?_)
    exact r_zret hx hb hr hK hP hS hk (by omega) dX8_isWord_51 (show P_X8_isWord_s0_v σ0 τ0 a2 a3 a4 b N q ln z7 σ0 τ0 from ⟨hR, hF, hFL, by omega, by first | exact Or.inl ⟨by omega, (WM_iff hpre4 hpre3 (by omega)).mp (fun i hi => hi0 i (by omega))⟩ | exact Or.inr ⟨by omega, fun h => absurd ((WM_iff hpre4 hpre3 (by omega)).mpr h x5.toInt.toNat (by omega)) (by omega)⟩, gBY⟩)
theorem A_X8_isWord_s0_v (p : Program) (l : Launch) (e : Env) (s : State) (m : MethodId) (args : Array Value) (below : List Frame) (meth : Method) (c : Code) (D : va_G) (cA : Nat → ClassId) (ad : Nat → Nat) (σ0 : Nat → Nat → Int32) (τ0 : Nat → Nat → Int64) (a2 : Int32) (a3 : Int32) (a4 : Int32) (b : Nat → Int) (N : Nat) (q : Nat) (ln : Nat) (C : Cy p s m args meth c cX8_isWord 7 wsX8_isWord RX8 D cA ad (some .boolean)) (ha2 : 0 ≤ a2.toInt ∧ a2.toInt ≤ 13) (ha3 : 0 ≤ a3.toInt ∧ a3.toInt ≤ 899) (ha4 : 0 ≤ a4.toInt ∧ a4.toInt ≤ 940) (hpre0 : a3.toInt = (q : Int)) (hpre1 : a4.toInt = (q : Int) + ln) (hpre2 : q + ln ≤ N) (hpre3 : ln ≤ 7) (hpre4 : ∀ i : Nat, i < ln → isLt (b (q + i))) (gBY0 : BY σ0 b N) : ∀ n : Nat, J_X8_isWord_s0_v_3 p l e s m args below meth c D cA ad σ0 τ0 a2 a3 a4 b N q ln n ∧ J_X8_isWord_s0_v_32 p l e s m args below meth c D cA ad σ0 τ0 a2 a3 a4 b N q ln n := by
  intro n
  induction n with
  | zero =>
    exact ⟨(by intro σ τ H locs x5 ls hR hF hFL hP hS hc0 hi0 gBY hl hm; exfalso; omega), (by intro σ τ H locs x5 w0 ls hR hF hFL hP hS hc0 hc1 hi0 hi1 gBY hl hm; exfalso; omega)⟩
  | succ n ih =>
    exact ⟨B_X8_isWord_s0_v_3 p l e s m args below meth c D cA ad σ0 τ0 a2 a3 a4 b N q ln n C ha2 ha3 ha4 hpre0 hpre1 hpre2 hpre3 hpre4 gBY0 ih.1 ih.2, B_X8_isWord_s0_v_32 p l e s m args below meth c D cA ad σ0 τ0 a2 a3 a4 b N q ln n C ha2 ha3 ha4 hpre0 hpre1 hpre2 hpre3 hpre4 gBY0 ih.1 ih.2⟩
set_option maxHeartbeats 4000000 in
theorem c_X8_isWord_s0_v (l : Launch) (D : va_G) (cA : Nat → ClassId) (ad : Nat → Nat) (hI : Inj ad) (σ0 : Nat → Nat → Int32) (τ0 : Nat → Nat → Int64) (hR : Rg σ0) (a2 : Int32) (a3 : Int32) (a4 : Int32) (b : Nat → Int) (N : Nat) (q : Nat) (ln : Nat) (ha2 : 0 ≤ a2.toInt ∧ a2.toInt ≤ 13) (ha3 : 0 ≤ a3.toInt ∧ a3.toInt ≤ 899) (ha4 : 0 ≤ a4.toInt ∧ a4.toInt ≤ 940) (hpre0 : a3.toInt = (q : Int)) (hpre1 : a4.toInt = (q : Int) + ln) (hpre2 : q + ln ≤ N) (hpre3 : ln ≤ 7) (hpre4 : ∀ i : Nat, i < ln → isLt (b (q + i))) (gBY0 : BY σ0 b N) : Met l yX8_isWord wsX8_isWord ({ frames := 4, cells := 0, slots := 0, locals := 85 } : Room) (WQc D cA ad [.ref (ad 1), .ref (ad 407), .int a2, .int a3, .int a4] σ0 τ0) (va_Qi (fun (r : Int32) (u : SS) => P_X8_isWord_s0_v σ0 τ0 a2 a3 a4 b N q ln r u.1 u.2) (WB D cA ad) (AA ad)) 0 0 (AA ad) := by
  refine Met.ofW (cc := cX8_isWord) (maxL := 7) (ret := (some .boolean)) (by decide) rfl ?_
  intro p e s m args below meth c s₁ B hml hv
  obtain ⟨rfl, hP, hK, hN⟩ := hv
  have C : Cy p s m _ meth c cX8_isWord 7 wsX8_isWord RX8 D cA ad (some .boolean) := ⟨B.exec, B.bytes, hml, findClass_of_methodNamed B.named, atoms_spec (ws := wsX8_isWord) B.pre, hK, B.notSynchronized, B.returns, hI, hN⟩
  have hl := lv_entry ([.ref (ad 1), .ref (ad 407), .int a2, .int a3, .int a4]) (n := 7) (Nat.le_of_ble_eq_true rfl)
  rw [lg_entry_eq]
  generalize (lg_sl ([.ref (ad 1), .ref (ad 407), .int a2, .int a3, .int a4]) ++ List.replicate (7 - (lg_sl ([.ref (ad 1), .ref (ad 407), .int a2, .int a3, .int a4])).length) Slot.unset).toArray = ls at hl ⊢
  have hl : lv_has ls 7 [(0, .ref (ad 1)), (1, .ref (ad 407)), (2, .int a2), (3, .int a3), (4, .int a4)] := hl
  have hS : va_S (AA ad) s.heap s.heap [] := va_S.rf
  have hF : Fr L_X8_isWord_s0_v σ0 σ0 := Fr.rf
  have hFL : FrL LL_X8_isWord_s0_v τ0 τ0 := FrL.rf
  have gBY := gBY0
  have hA := A_X8_isWord_s0_v p l e s m _ below meth c D cA ad σ0 τ0 a2 a3 a4 b N q ln C ha2 ha3 ha4 hpre0 hpre1 hpre2 hpre3 hpre4 gBY0 55
  have K3 := hA.1
  have K32 := hA.2
  clear hA
  obtain ⟨hx, hb, _, hown, hts, _, hk, hr, _, _⟩ := C
  refine r_iconst hx hb dX8_isWord_0 (by decide) (fun z1 ez1 => ?_)
  refine lv_istore (lv' := [(5, .int z1), (0, .ref (ad 1)), (1, .ref (ad 407)), (2, .int a2), (3, .int a3), (4, .int a4)]) hx hb dX8_isWord_1 hl (by decide) rfl (fun ls hl => ?_)
  exact K3 σ0 τ0 s.heap [] z1 ls hR hF hFL hP hS (by omega) (by first | exact (fun i hi => absurd hi (by omega)) | exact allS hi0 (by omega) (by omega) (by omega)) gBY (lv_sub hl [1, 2, 3, 4, 5, 0] rfl) (by omega)
abbrev L_X8_wordIn_s0_v : List Rc := []
abbrev LL_X8_wordIn_s0_v : List Rc := []
def P_X8_wordIn_s0_v (σ0 : Nat → Nat → Int32) (τ0 : Nat → Nat → Int64) (a2 : Int32) (a3 : Int32) (b : Nat → Int) (N : Nat) (q : Nat) (ln : Nat) (r : Int32) (σ : Nat → Nat → Int32) (τ : Nat → Nat → Int64) : Prop := Rg σ ∧ Fr L_X8_wordIn_s0_v σ0 σ ∧ FrL LL_X8_wordIn_s0_v τ0 τ ∧ (-1 ≤ r.toInt ∧ r.toInt ≤ 13) ∧ ((r.toInt = -1 ∧ ∀ w : Nat, w < 14 → fd 256 0 b q ln ≠ RWl.getD (0 + w) 0) ∨ (0 ≤ r.toInt ∧ r.toInt < 14 ∧ fd 256 0 b q ln = RWl.getD (0 + r.toInt.toNat) 0)) ∧ BY σ b N
def J_X8_wordIn_s0_v_3 (p : Program) (l : Launch) (e : Env) (s : State) (m : MethodId) (args : Array Value) (below : List Frame) (meth : Method) (c : Code) (D : va_G) (cA : Nat → ClassId) (ad : Nat → Nat) (σ0 : Nat → Nat → Int32) (τ0 : Nat → Nat → Int64) (a2 : Int32) (a3 : Int32) (b : Nat → Int) (N : Nat) (q : Nat) (ln : Nat) (n : Nat) : Prop := ∀ (σ : Nat → Nat → Int32) (τ : Nat → Nat → Int64) (H : Heap) (locs : List Loc) (x4 : Int32) (ls : Array Slot), Rg σ → Fr L_X8_wordIn_s0_v σ0 σ → FrL LL_X8_wordIn_s0_v τ0 τ → va_P D vwCl (gw cA ad σ τ) H → va_S (AA ad) s.heap H locs → (0 ≤ x4.toInt ∧ x4.toInt ≤ 19) → (∀ w : Nat, (w : Int) < x4.toInt → fd 256 0 b q ln ≠ RWl.getD (0 + w) 0) → (BY σ b N) → lv_has ls 5 [(0, .ref (ad 1)), (1, .ref (ad 407)), (2, .int a2), (3, .int a3), (4, .int x4)] → 2 * (19 - x4.toInt) + 1 < (n : Int) → W p l e ({ frames := 5, cells := 0, slots := 0, locals := 111 } : Room) s m args below meth c H locs 0 0 (MQ below (va_Qi (fun (r : Int32) (u : SS) => P_X8_wordIn_s0_v σ0 τ0 a2 a3 b N q ln r u.1 u.2) (WB D cA ad) (AA ad)) args s 0 0 (AA ad)) (F0 m 3 ls [])
set_option maxHeartbeats 4000000 in
theorem B_X8_wordIn_s0_v_3 (p : Program) (l : Launch) (e : Env) (s : State) (m : MethodId) (args : Array Value) (below : List Frame) (meth : Method) (c : Code) (D : va_G) (cA : Nat → ClassId) (ad : Nat → Nat) (σ0 : Nat → Nat → Int32) (τ0 : Nat → Nat → Int64) (a2 : Int32) (a3 : Int32) (b : Nat → Int) (N : Nat) (q : Nat) (ln : Nat) (n : Nat) (C : Cy p s m args meth c cX8_wordIn 5 wsX8_wordIn RX8 D cA ad (some .int)) (ha2 : 0 ≤ a2.toInt ∧ a2.toInt ≤ 899) (ha3 : 0 ≤ a3.toInt ∧ a3.toInt ≤ 940) (hpre0 : a2.toInt = (q : Int)) (hpre1 : a3.toInt = (q : Int) + ln) (hpre2 : q + ln ≤ N) (hpre3 : ln ≤ 7) (hpre4 : ∀ i : Nat, i < ln → isLt (b (q + i))) (gBY0 : BY σ0 b N) (K3 : J_X8_wordIn_s0_v_3 p l e s m args below meth c D cA ad σ0 τ0 a2 a3 b N q ln n) : J_X8_wordIn_s0_v_3 p l e s m args below meth c D cA ad σ0 τ0 a2 a3 b N q ln (n + 1) := by
  obtain ⟨hx, hb, hml, hown, hts, hK, hk, hr, hI, hN⟩ := C
  intro σ τ H locs x4 ls hR hF hFL hP hS hc0 hi0 gBY hl hm
  obtain rfl := Fr.nil hF
  obtain rfl := FrL.nil hFL
  refine lv_iload hx hb dX8_wordIn_3 (lv_at hl 4 rfl) ?_
  refine r_iconst hx hb dX8_wordIn_5 (by decide) (fun z1 ez1 => ?_)
  refine r_iadd hx hb dX8_wordIn_6 (by omega) (fun z2 ez2 => ?_)
  refine r_bipush hx hb dX8_wordIn_7 (by decide) (fun z3 ez3 => ?_)
  refine r_imulR (n := 7) hx hb dX8_wordIn_9 (by omega) (by omega) (fun z4 ez4 => ?_)
  refine lv_aload_n hx hb dX8_wordIn_10 rfl (lv_at hl 1 rfl) ?_
  refine r_cVi (k := 407) (As := []) (rest := [.int z4]) ⟨hx, hb, hml, hown, hts⟩ hK hP hN hS (c_J0_length_8abf5_s0 l D cA ad hI σ0 τ0 hR) (cwV 0 hts gX8_wordIn_J0_length_8abf5 rfl rfl rfl (by decide +kernel) ⟨by decide, by decide⟩) (so_0 hN hS) rfl hl.1 rfl (Nat.le_of_ble_eq_true rfl) dX8_wordIn_11 (Nat.zero_le _) (Nat.zero_le _) (fun r5 u5 H5 locs5 hp5 hP hS => ?_)
  obtain ⟨σ5, τ5⟩ := u5
  obtain ⟨hR, f5, fL5, hq5⟩ : P_J0_length_8abf5_s0 σ0 τ0 r5 σ5 τ5 := hp5
  have hP : va_P D vwCl (gw cA ad σ5 τ5) H5 := hP
  obtain rfl := FrL.nil fL5
  obtain rfl := Fr.nil f5
  refine r_icmp_gt (tgt := 38) hx hb dX8_wordIn_14 (by decide) (fun c6 => ?_) (fun c6 => ?_)
  · refine r_iconst hx hb dX8_wordIn_38 (by decide) (fun z7 ez7 => ?_)
    exact r_iret hx hb hr hK hP hS hk dX8_wordIn_39 (show P_X8_wordIn_s0_v σ0 τ0 a2 a3 b N q ln z7 σ0 τ0 from ⟨hR, hF, hFL, by omega, by first | exact Or.inl ⟨by omega, fun w hw => hi0 w (by omega)⟩ | exact Or.inr ⟨by omega, by omega, (hw.resolve_right (fun c => by omega)).2⟩, gBY⟩)
  · refine lv_aload_n hx hb dX8_wordIn_17 rfl (lv_at hl 0 rfl) ?_
    refine lv_aload_n hx hb dX8_wordIn_18 rfl (lv_at hl 1 rfl) ?_
    refine lv_iload hx hb dX8_wordIn_19 (lv_at hl 4 rfl) ?_
    refine lv_iload_n hx hb dX8_wordIn_21 rfl (lv_at hl 2 rfl) ?_
    refine lv_iload_n hx hb dX8_wordIn_22 rfl (lv_at hl 3 rfl) ?_
    refine r_cVi (k := 1) (As := [.ref (ad 407), .int x4, .int a2, .int a3]) (rest := []) ⟨hx, hb, hml, hown, hts⟩ hK hP hN hS (c_X8_isWord_s0_v l D cA ad hI σ0 τ0 hR x4 a2 a3 b N q ln (by omega) (by omega) (by omega) (by omega) (by omega) (by omega) (by omega) hpre4 gBY) (cwV 4 hts gX8_wordIn_X8_isWord rfl rfl rfl (by decide +kernel) ⟨by decide, by decide⟩) (rv_Tape hK hP (by decide) (by decide)) rfl hl.1 rfl (Nat.le_of_ble_eq_true rfl) dX8_wordIn_23 (Nat.zero_le _) (Nat.zero_le _) (fun r8 u8 H8 locs8 hp8 hP hS => ?_)
    obtain ⟨σ8, τ8⟩ := u8
    obtain ⟨hR, f8, fL8, hq8, hp8_0, gnBY⟩ : P_X8_isWord_s0_v σ0 τ0 x4 a2 a3 b N q ln r8 σ8 τ8 := hp8
    have hw := hp8_0
    have hP : va_P D vwCl (gw cA ad σ8 τ8) H8 := hP
    obtain rfl := FrL.nil fL8
    obtain rfl := Fr.nil f8
    refine r_if_eq (tgt := 32) hx hb dX8_wordIn_26 (by decide) (fun c9 => ?_) (fun c9 => ?_)
    · refine r_iinc (k := 4) (lv1 := fun z10 => [(4, .int z10), (0, .ref (ad 1)), (1, .ref (ad 407)), (2, .int a2), (3, .int a3)]) hx hb dX8_wordIn_32 hl rfl (by decide) (fun _ => rfl) (by decide) (by omega) (fun z10 ls ez10 hl => ?_)
      refine lv_goto (tgt := 3) hx hb dX8_wordIn_35 (by decide) ?_
      exact K3 σ0 τ0 H8 locs8 z10 ls hR hF hFL hP hS (by omega) (by first | exact (fun w hw => absurd hw (by omega)) | exact allS hi0 (hw.resolve_left (fun c => by omega)).2 (by omega) (by omega)) gBY (lv_sub hl [1, 2, 3, 4, 0] rfl) (by omega)
    · refine lv_iload hx hb dX8_wordIn_29 (lv_at hl 4 rfl) ?_
      exact r_iret hx hb hr hK hP hS hk dX8_wordIn_31 (show P_X8_wordIn_s0_v σ0 τ0 a2 a3 b N q ln x4 σ0 τ0 from ⟨hR, hF, hFL, by omega, by first | exact Or.inl ⟨by omega, fun w hw => hi0 w (by omega)⟩ | exact Or.inr ⟨by omega, by omega, (hw.resolve_right (fun c => by omega)).2⟩, gBY⟩)
theorem A_X8_wordIn_s0_v (p : Program) (l : Launch) (e : Env) (s : State) (m : MethodId) (args : Array Value) (below : List Frame) (meth : Method) (c : Code) (D : va_G) (cA : Nat → ClassId) (ad : Nat → Nat) (σ0 : Nat → Nat → Int32) (τ0 : Nat → Nat → Int64) (a2 : Int32) (a3 : Int32) (b : Nat → Int) (N : Nat) (q : Nat) (ln : Nat) (C : Cy p s m args meth c cX8_wordIn 5 wsX8_wordIn RX8 D cA ad (some .int)) (ha2 : 0 ≤ a2.toInt ∧ a2.toInt ≤ 899) (ha3 : 0 ≤ a3.toInt ∧ a3.toInt ≤ 940) (hpre0 : a2.toInt = (q : Int)) (hpre1 : a3.toInt = (q : Int) + ln) (hpre2 : q + ln ≤ N) (hpre3 : ln ≤ 7) (hpre4 : ∀ i : Nat, i < ln → isLt (b (q + i))) (gBY0 : BY σ0 b N) : ∀ n : Nat, J_X8_wordIn_s0_v_3 p l e s m args below meth c D cA ad σ0 τ0 a2 a3 b N q ln n := by
  intro n
  induction n with
  | zero =>
    exact (by intro σ τ H locs x4 ls hR hF hFL hP hS hc0 hi0 gBY hl hm; exfalso; omega)
  | succ n ih =>
    exact B_X8_wordIn_s0_v_3 p l e s m args below meth c D cA ad σ0 τ0 a2 a3 b N q ln n C ha2 ha3 hpre0 hpre1 hpre2 hpre3 hpre4 gBY0 ih
set_option maxHeartbeats 4000000 in
theorem c_X8_wordIn_s0_v (l : Launch) (D : va_G) (cA : Nat → ClassId) (ad : Nat → Nat) (hI : Inj ad) (σ0 : Nat → Nat → Int32) (τ0 : Nat → Nat → Int64) (hR : Rg σ0) (a2 : Int32) (a3 : Int32) (b : Nat → Int) (N : Nat) (q : Nat) (ln : Nat) (ha2 : 0 ≤ a2.toInt ∧ a2.toInt ≤ 899) (ha3 : 0 ≤ a3.toInt ∧ a3.toInt ≤ 940) (hpre0 : a2.toInt = (q : Int)) (hpre1 : a3.toInt = (q : Int) + ln) (hpre2 : q + ln ≤ N) (hpre3 : ln ≤ 7) (hpre4 : ∀ i : Nat, i < ln → isLt (b (q + i))) (gBY0 : BY σ0 b N) : Met l yX8_wordIn wsX8_wordIn ({ frames := 5, cells := 0, slots := 0, locals := 111 } : Room) (WQc D cA ad [.ref (ad 1), .ref (ad 407), .int a2, .int a3] σ0 τ0) (va_Qi (fun (r : Int32) (u : SS) => P_X8_wordIn_s0_v σ0 τ0 a2 a3 b N q ln r u.1 u.2) (WB D cA ad) (AA ad)) 0 0 (AA ad) := by
  refine Met.ofW (cc := cX8_wordIn) (maxL := 5) (ret := (some .int)) (by decide) rfl ?_
  intro p e s m args below meth c s₁ B hml hv
  obtain ⟨rfl, hP, hK, hN⟩ := hv
  have C : Cy p s m _ meth c cX8_wordIn 5 wsX8_wordIn RX8 D cA ad (some .int) := ⟨B.exec, B.bytes, hml, findClass_of_methodNamed B.named, atoms_spec (ws := wsX8_wordIn) B.pre, hK, B.notSynchronized, B.returns, hI, hN⟩
  have hl := lv_entry ([.ref (ad 1), .ref (ad 407), .int a2, .int a3]) (n := 5) (Nat.le_of_ble_eq_true rfl)
  rw [lg_entry_eq]
  generalize (lg_sl ([.ref (ad 1), .ref (ad 407), .int a2, .int a3]) ++ List.replicate (5 - (lg_sl ([.ref (ad 1), .ref (ad 407), .int a2, .int a3])).length) Slot.unset).toArray = ls at hl ⊢
  have hl : lv_has ls 5 [(0, .ref (ad 1)), (1, .ref (ad 407)), (2, .int a2), (3, .int a3)] := hl
  have hS : va_S (AA ad) s.heap s.heap [] := va_S.rf
  have hF : Fr L_X8_wordIn_s0_v σ0 σ0 := Fr.rf
  have hFL : FrL LL_X8_wordIn_s0_v τ0 τ0 := FrL.rf
  have gBY := gBY0
  have hA := A_X8_wordIn_s0_v p l e s m _ below meth c D cA ad σ0 τ0 a2 a3 b N q ln C ha2 ha3 hpre0 hpre1 hpre2 hpre3 hpre4 gBY0 86
  have K3 := hA
  clear hA
  obtain ⟨hx, hb, _, hown, hts, _, hk, hr, _, _⟩ := C
  refine r_iconst hx hb dX8_wordIn_0 (by decide) (fun z1 ez1 => ?_)
  refine lv_istore (lv' := [(4, .int z1), (0, .ref (ad 1)), (1, .ref (ad 407)), (2, .int a2), (3, .int a3)]) hx hb dX8_wordIn_1 hl (by decide) rfl (fun ls hl => ?_)
  exact K3 σ0 τ0 s.heap [] z1 ls hR hF hFL hP hS (by omega) (by first | exact (fun w hw => absurd hw (by omega)) | exact allS hi0 (hw.resolve_left (fun c => by omega)).2 (by omega) (by omega)) gBY (lv_sub hl [1, 2, 3, 4, 0] rfl) (by omega)
abbrev L_J0_coder_7d493_s1 : List Rc := []
abbrev LL_J0_coder_7d493_s1 : List Rc := []
def P_J0_coder_7d493_s1 (σ0 : Nat → Nat → Int32) (τ0 : Nat → Nat → Int64)  (r : Int32) (σ : Nat → Nat → Int32) (τ : Nat → Nat → Int64) : Prop := Rg σ ∧ Fr L_J0_coder_7d493_s1 σ0 σ ∧ FrL LL_J0_coder_7d493_s1 τ0 τ ∧ (0 ≤ r.toInt ∧ r.toInt ≤ 0)
set_option maxHeartbeats 4000000 in
theorem c_J0_coder_7d493_s1 (l : Launch) (D : va_G) (cA : Nat → ClassId) (ad : Nat → Nat) (hI : Inj ad) (σ0 : Nat → Nat → Int32) (τ0 : Nat → Nat → Int64) (hR : Rg σ0)   : Met l yJ0_coder_7d493 wsJ0_coder_7d493 ({ frames := 0, cells := 0, slots := 0, locals := 0 } : Room) (WQc D cA ad [.ref (ad 408)] σ0 τ0) (va_Qi (fun (r : Int32) (u : SS) => P_J0_coder_7d493_s1 σ0 τ0 r u.1 u.2) (WB D cA ad) (AA ad)) 0 0 (AA ad) := by
  refine Met.ofW (cc := cJ0_coder_7d493) (maxL := 1) (ret := (some .byte)) (by decide) rfl ?_
  intro p e s m args below meth c s₁ B hml hv
  obtain ⟨rfl, hP, hK, hN⟩ := hv
  have C : Cy p s m _ meth c cJ0_coder_7d493 1 wsJ0_coder_7d493 RJ0 D cA ad (some .byte) := ⟨B.exec, B.bytes, hml, findClass_of_methodNamed B.named, atoms_spec (ws := wsJ0_coder_7d493) B.pre, hK, B.notSynchronized, B.returns, hI, hN⟩
  have hl := lv_entry ([.ref (ad 408)]) (n := 1) (Nat.le_of_ble_eq_true rfl)
  rw [lg_entry_eq]
  generalize (lg_sl ([.ref (ad 408)]) ++ List.replicate (1 - (lg_sl ([.ref (ad 408)])).length) Slot.unset).toArray = ls at hl ⊢
  have hl : lv_has ls 1 [(0, .ref (ad 408))] := hl
  have hS : va_S (AA ad) s.heap s.heap [] := va_S.rf
  have hF : Fr L_J0_coder_7d493_s1 σ0 σ0 := Fr.rf
  have hFL : FrL LL_J0_coder_7d493_s1 τ0 τ0 := FrL.rf
  obtain ⟨hx, hb, _, hown, hts, _, hk, hr, _, _⟩ := C
  refine sz_cs hx hb hN hS hown (hts _ lk_J0_coder_7d493_38) dJ0_coder_7d493_0 (fun z1 ez1 => ?_)
  refine r_if_eq (tgt := 13) hx hb dJ0_coder_7d493_3 (by decide) (fun c2 => ?_) (fun c2 => ?_)
  · exfalso; omega
  · refine lv_aload_n hx hb dJ0_coder_7d493_6 rfl (lv_at hl 0 rfl) ?_
    refine sc_1 hx hb hN hS hown (hts _ lk_J0_coder_7d493_15) dJ0_coder_7d493_7 (fun z3 ez3 => ?_)
    refine lv_goto (tgt := 14) hx hb dJ0_coder_7d493_10 (by decide) ?_
    exact r_bret hx hb hr hK hP hS hk (by omega) dJ0_coder_7d493_14 (show P_J0_coder_7d493_s1 σ0 τ0 z3 σ0 τ0 from ⟨hR, hF, hFL, by omega⟩)
abbrev L_J0_length_8abf5_s1 : List Rc := []
abbrev LL_J0_length_8abf5_s1 : List Rc := []
def P_J0_length_8abf5_s1 (σ0 : Nat → Nat → Int32) (τ0 : Nat → Nat → Int64)  (r : Int32) (σ : Nat → Nat → Int32) (τ : Nat → Nat → Int64) : Prop := Rg σ ∧ Fr L_J0_length_8abf5_s1 σ0 σ ∧ FrL LL_J0_length_8abf5_s1 τ0 τ ∧ (42 ≤ r.toInt ∧ r.toInt ≤ 42)
set_option maxHeartbeats 4000000 in
theorem c_J0_length_8abf5_s1 (l : Launch) (D : va_G) (cA : Nat → ClassId) (ad : Nat → Nat) (hI : Inj ad) (σ0 : Nat → Nat → Int32) (τ0 : Nat → Nat → Int64) (hR : Rg σ0)   : Met l yJ0_length_8abf5 wsJ0_length_8abf5 ({ frames := 1, cells := 0, slots := 0, locals := 20 } : Room) (WQc D cA ad [.ref (ad 408)] σ0 τ0) (va_Qi (fun (r : Int32) (u : SS) => P_J0_length_8abf5_s1 σ0 τ0 r u.1 u.2) (WB D cA ad) (AA ad)) 0 0 (AA ad) := by
  refine Met.ofW (cc := cJ0_length_8abf5) (maxL := 1) (ret := (some .int)) (by decide) rfl ?_
  intro p e s m args below meth c s₁ B hml hv
  obtain ⟨rfl, hP, hK, hN⟩ := hv
  have C : Cy p s m _ meth c cJ0_length_8abf5 1 wsJ0_length_8abf5 RJ0 D cA ad (some .int) := ⟨B.exec, B.bytes, hml, findClass_of_methodNamed B.named, atoms_spec (ws := wsJ0_length_8abf5) B.pre, hK, B.notSynchronized, B.returns, hI, hN⟩
  have hl := lv_entry ([.ref (ad 408)]) (n := 1) (Nat.le_of_ble_eq_true rfl)
  rw [lg_entry_eq]
  generalize (lg_sl ([.ref (ad 408)]) ++ List.replicate (1 - (lg_sl ([.ref (ad 408)])).length) Slot.unset).toArray = ls at hl ⊢
  have hl : lv_has ls 1 [(0, .ref (ad 408))] := hl
  have hS : va_S (AA ad) s.heap s.heap [] := va_S.rf
  have hF : Fr L_J0_length_8abf5_s1 σ0 σ0 := Fr.rf
  have hFL : FrL LL_J0_length_8abf5_s1 τ0 τ0 := FrL.rf
  obtain ⟨hx, hb, _, hown, hts, _, hk, hr, _, _⟩ := C
  refine lv_aload_n hx hb dJ0_length_8abf5_0 rfl (lv_at hl 0 rfl) ?_
  refine sv_1 hx hb hN hS hown (hts _ lk_J0_length_8abf5_9) dJ0_length_8abf5_1 ?_
  refine sl_1 hx hb hN hS dJ0_length_8abf5_4 (fun z1 ez1 => ?_)
  refine lv_aload_n hx hb dJ0_length_8abf5_5 rfl (lv_at hl 0 rfl) ?_
  refine r_cVi (k := 408) (As := []) (rest := [.int z1]) ⟨hx, hb, hml, hown, hts⟩ hK hP hN hS (c_J0_coder_7d493_s1 l D cA ad hI σ0 τ0 hR) (cwV 0 hts gJ0_length_8abf5_J0_coder_7d493 rfl rfl rfl (by decide +kernel) ⟨by decide, by decide⟩) (so_1 hN hS) rfl hl.1 rfl (Nat.le_of_ble_eq_true rfl) dJ0_length_8abf5_6 (Nat.zero_le _) (Nat.zero_le _) (fun r2 u2 H2 locs2 hp2 hP hS => ?_)
  obtain ⟨σ2, τ2⟩ := u2
  obtain ⟨hR, f2, fL2, hq2⟩ : P_J0_coder_7d493_s1 σ0 τ0 r2 σ2 τ2 := hp2
  have hP : va_P D vwCl (gw cA ad σ2 τ2) H2 := hP
  obtain rfl := FrL.nil fL2
  obtain rfl := Fr.nil f2
  refine r_ishr0 hx hb dJ0_length_8abf5_9 (by omega) (fun z3 ez3 => ?_)
  exact r_iret hx hb hr hK hP hS hk dJ0_length_8abf5_10 (show P_J0_length_8abf5_s1 σ0 τ0 z3 σ0 τ0 from ⟨hR, hF, hFL, by omega⟩)
abbrev L_J0_isLatin1_aae02_s1 : List Rc := []
abbrev LL_J0_isLatin1_aae02_s1 : List Rc := []
def P_J0_isLatin1_aae02_s1 (σ0 : Nat → Nat → Int32) (τ0 : Nat → Nat → Int64)  (r : Int32) (σ : Nat → Nat → Int32) (τ : Nat → Nat → Int64) : Prop := Rg σ ∧ Fr L_J0_isLatin1_aae02_s1 σ0 σ ∧ FrL LL_J0_isLatin1_aae02_s1 τ0 τ ∧ (1 ≤ r.toInt ∧ r.toInt ≤ 1)
set_option maxHeartbeats 4000000 in
theorem c_J0_isLatin1_aae02_s1 (l : Launch) (D : va_G) (cA : Nat → ClassId) (ad : Nat → Nat) (hI : Inj ad) (σ0 : Nat → Nat → Int32) (τ0 : Nat → Nat → Int64) (hR : Rg σ0)   : Met l yJ0_isLatin1_aae02 wsJ0_isLatin1_aae02 ({ frames := 0, cells := 0, slots := 0, locals := 0 } : Room) (WQc D cA ad [.ref (ad 408)] σ0 τ0) (va_Qi (fun (r : Int32) (u : SS) => P_J0_isLatin1_aae02_s1 σ0 τ0 r u.1 u.2) (WB D cA ad) (AA ad)) 0 0 (AA ad) := by
  refine Met.ofW (cc := cJ0_isLatin1_aae02) (maxL := 1) (ret := (some .boolean)) (by decide) rfl ?_
  intro p e s m args below meth c s₁ B hml hv
  obtain ⟨rfl, hP, hK, hN⟩ := hv
  have C : Cy p s m _ meth c cJ0_isLatin1_aae02 1 wsJ0_isLatin1_aae02 RJ0 D cA ad (some .boolean) := ⟨B.exec, B.bytes, hml, findClass_of_methodNamed B.named, atoms_spec (ws := wsJ0_isLatin1_aae02) B.pre, hK, B.notSynchronized, B.returns, hI, hN⟩
  have hl := lv_entry ([.ref (ad 408)]) (n := 1) (Nat.le_of_ble_eq_true rfl)
  rw [lg_entry_eq]
  generalize (lg_sl ([.ref (ad 408)]) ++ List.replicate (1 - (lg_sl ([.ref (ad 408)])).length) Slot.unset).toArray = ls at hl ⊢
  have hl : lv_has ls 1 [(0, .ref (ad 408))] := hl
  have hS : va_S (AA ad) s.heap s.heap [] := va_S.rf
  have hF : Fr L_J0_isLatin1_aae02_s1 σ0 σ0 := Fr.rf
  have hFL : FrL LL_J0_isLatin1_aae02_s1 τ0 τ0 := FrL.rf
  obtain ⟨hx, hb, _, hown, hts, _, hk, hr, _, _⟩ := C
  refine sz_cs hx hb hN hS hown (hts _ lk_J0_isLatin1_aae02_38) dJ0_isLatin1_aae02_0 (fun z1 ez1 => ?_)
  refine r_if_eq (tgt := 17) hx hb dJ0_isLatin1_aae02_3 (by decide) (fun c2 => ?_) (fun c2 => ?_)
  · exfalso; omega
  · refine lv_aload_n hx hb dJ0_isLatin1_aae02_6 rfl (lv_at hl 0 rfl) ?_
    refine sc_1 hx hb hN hS hown (hts _ lk_J0_isLatin1_aae02_15) dJ0_isLatin1_aae02_7 (fun z3 ez3 => ?_)
    refine r_if_ne (tgt := 17) hx hb dJ0_isLatin1_aae02_10 (by decide) (fun c4 => ?_) (fun c4 => ?_)
    · exfalso; omega
    · refine r_iconst hx hb dJ0_isLatin1_aae02_13 (by decide) (fun z5 ez5 => ?_)
      refine lv_goto (tgt := 18) hx hb dJ0_isLatin1_aae02_14 (by decide) ?_
      exact r_zret hx hb hr hK hP hS hk (by omega) dJ0_isLatin1_aae02_18 (show P_J0_isLatin1_aae02_s1 σ0 τ0 z5 σ0 τ0 from ⟨hR, hF, hFL, by omega⟩)
abbrev L_J3_checkIndex_8e157_l42_n : List Rc := []
abbrev LL_J3_checkIndex_8e157_l42_n : List Rc := []
def P_J3_checkIndex_8e157_l42_n (σ0 : Nat → Nat → Int32) (τ0 : Nat → Nat → Int64) (a0 : Int32) (a1 : Int32) (r : Int32) (σ : Nat → Nat → Int32) (τ : Nat → Nat → Int64) : Prop := Rg σ ∧ Fr L_J3_checkIndex_8e157_l42_n σ0 σ ∧ FrL LL_J3_checkIndex_8e157_l42_n τ0 τ ∧ (0 ≤ r.toInt ∧ r.toInt ≤ 41)
set_option maxHeartbeats 4000000 in
theorem c_J3_checkIndex_8e157_l42_n (l : Launch) (D : va_G) (cA : Nat → ClassId) (ad : Nat → Nat) (hI : Inj ad) (σ0 : Nat → Nat → Int32) (τ0 : Nat → Nat → Int64) (hR : Rg σ0) (a0 : Int32) (a1 : Int32) (ha0 : 0 ≤ a0.toInt ∧ a0.toInt ≤ 41) (ha1 : 42 ≤ a1.toInt ∧ a1.toInt ≤ 42) : Met l yJ3_checkIndex_8e157 wsJ3_checkIndex_8e157 ({ frames := 0, cells := 0, slots := 0, locals := 0 } : Room) (WQc D cA ad [.int a0, .int a1, .null] σ0 τ0) (va_Qi (fun (r : Int32) (u : SS) => P_J3_checkIndex_8e157_l42_n σ0 τ0 a0 a1 r u.1 u.2) (WB D cA ad) (AA ad)) 0 0 (AA ad) := by
  refine Met.ofW (cc := cJ3_checkIndex_8e157) (maxL := 3) (ret := (some .int)) (by decide) rfl ?_
  intro p e s m args below meth c s₁ B hml hv
  obtain ⟨rfl, hP, hK, hN⟩ := hv
  have C : Cy p s m _ meth c cJ3_checkIndex_8e157 3 wsJ3_checkIndex_8e157 RJ3 D cA ad (some .int) := ⟨B.exec, B.bytes, hml, findClass_of_methodNamed B.named, atoms_spec (ws := wsJ3_checkIndex_8e157) B.pre, hK, B.notSynchronized, B.returns, hI, hN⟩
  have hl := lv_entry ([.int a0, .int a1, .null]) (n := 3) (Nat.le_of_ble_eq_true rfl)
  rw [lg_entry_eq]
  generalize (lg_sl ([.int a0, .int a1, .null]) ++ List.replicate (3 - (lg_sl ([.int a0, .int a1, .null])).length) Slot.unset).toArray = ls at hl ⊢
  have hl : lv_has ls 3 [(0, .int a0), (1, .int a1), (2, .null)] := hl
  have hS : va_S (AA ad) s.heap s.heap [] := va_S.rf
  have hF : Fr L_J3_checkIndex_8e157_l42_n σ0 σ0 := Fr.rf
  have hFL : FrL LL_J3_checkIndex_8e157_l42_n τ0 τ0 := FrL.rf
  obtain ⟨hx, hb, _, hown, hts, _, hk, hr, _, _⟩ := C
  refine lv_iload_n hx hb dJ3_checkIndex_8e157_0 rfl (lv_at hl 0 rfl) ?_
  refine r_if_lt (tgt := 9) hx hb dJ3_checkIndex_8e157_1 (by decide) (fun c1 => ?_) (fun c1 => ?_)
  · exfalso; omega
  · refine lv_iload_n hx hb dJ3_checkIndex_8e157_4 rfl (lv_at hl 0 rfl) ?_
    refine lv_iload_n hx hb dJ3_checkIndex_8e157_5 rfl (lv_at hl 1 rfl) ?_
    refine r_icmp_lt (tgt := 16) hx hb dJ3_checkIndex_8e157_6 (by decide) (fun c2 => ?_) (fun c2 => ?_)
    · refine lv_iload_n hx hb dJ3_checkIndex_8e157_16 rfl (lv_at hl 0 rfl) ?_
      exact r_iret hx hb hr hK hP hS hk dJ3_checkIndex_8e157_17 (show P_J3_checkIndex_8e157_l42_n σ0 τ0 a0 a1 a0 σ0 τ0 from ⟨hR, hF, hFL, by omega⟩)
    · exfalso; omega
abbrev L_J3_checkIndex_8e157_l42_t : List Rc := []
abbrev LL_J3_checkIndex_8e157_l42_t : List Rc := []
def P_J3_checkIndex_8e157_l42_t (σ0 : Nat → Nat → Int32) (τ0 : Nat → Nat → Int64) (a0 : Int32) (a1 : Int32) (a2 : Nat) (r : Int32) (σ : Nat → Nat → Int32) (τ : Nat → Nat → Int64) : Prop := Rg σ ∧ Fr L_J3_checkIndex_8e157_l42_t σ0 σ ∧ FrL LL_J3_checkIndex_8e157_l42_t τ0 τ ∧ (0 ≤ r.toInt ∧ r.toInt ≤ 41)
set_option maxHeartbeats 4000000 in
theorem c_J3_checkIndex_8e157_l42_t (l : Launch) (D : va_G) (cA : Nat → ClassId) (ad : Nat → Nat) (hI : Inj ad) (σ0 : Nat → Nat → Int32) (τ0 : Nat → Nat → Int64) (hR : Rg σ0) (a0 : Int32) (a1 : Int32) (a2 : Nat) (ha0 : 0 ≤ a0.toInt ∧ a0.toInt ≤ 41) (ha1 : 42 ≤ a1.toInt ∧ a1.toInt ≤ 42) : Met l yJ3_checkIndex_8e157 wsJ3_checkIndex_8e157 ({ frames := 0, cells := 0, slots := 0, locals := 0 } : Room) (WQc D cA ad [.int a0, .int a1, .ref a2] σ0 τ0) (va_Qi (fun (r : Int32) (u : SS) => P_J3_checkIndex_8e157_l42_t σ0 τ0 a0 a1 a2 r u.1 u.2) (WB D cA ad) (AA ad)) 0 0 (AA ad) := by
  refine Met.ofW (cc := cJ3_checkIndex_8e157) (maxL := 3) (ret := (some .int)) (by decide) rfl ?_
  intro p e s m args below meth c s₁ B hml hv
  obtain ⟨rfl, hP, hK, hN⟩ := hv
  have C : Cy p s m _ meth c cJ3_checkIndex_8e157 3 wsJ3_checkIndex_8e157 RJ3 D cA ad (some .int) := ⟨B.exec, B.bytes, hml, findClass_of_methodNamed B.named, atoms_spec (ws := wsJ3_checkIndex_8e157) B.pre, hK, B.notSynchronized, B.returns, hI, hN⟩
  have hl := lv_entry ([.int a0, .int a1, .ref a2]) (n := 3) (Nat.le_of_ble_eq_true rfl)
  rw [lg_entry_eq]
  generalize (lg_sl ([.int a0, .int a1, .ref a2]) ++ List.replicate (3 - (lg_sl ([.int a0, .int a1, .ref a2])).length) Slot.unset).toArray = ls at hl ⊢
  have hl : lv_has ls 3 [(0, .int a0), (1, .int a1), (2, .ref a2)] := hl
  have hS : va_S (AA ad) s.heap s.heap [] := va_S.rf
  have hF : Fr L_J3_checkIndex_8e157_l42_t σ0 σ0 := Fr.rf
  have hFL : FrL LL_J3_checkIndex_8e157_l42_t τ0 τ0 := FrL.rf
  obtain ⟨hx, hb, _, hown, hts, _, hk, hr, _, _⟩ := C
  refine lv_iload_n hx hb dJ3_checkIndex_8e157_0 rfl (lv_at hl 0 rfl) ?_
  refine r_if_lt (tgt := 9) hx hb dJ3_checkIndex_8e157_1 (by decide) (fun c1 => ?_) (fun c1 => ?_)
  · exfalso; omega
  · refine lv_iload_n hx hb dJ3_checkIndex_8e157_4 rfl (lv_at hl 0 rfl) ?_
    refine lv_iload_n hx hb dJ3_checkIndex_8e157_5 rfl (lv_at hl 1 rfl) ?_
    refine r_icmp_lt (tgt := 16) hx hb dJ3_checkIndex_8e157_6 (by decide) (fun c2 => ?_) (fun c2 => ?_)
    · refine lv_iload_n hx hb dJ3_checkIndex_8e157_16 rfl (lv_at hl 0 rfl) ?_
      exact r_iret hx hb hr hK hP hS hk dJ3_checkIndex_8e157_17 (show P_J3_checkIndex_8e157_l42_t σ0 τ0 a0 a1 a2 a0 σ0 τ0 from ⟨hR, hF, hFL, by omega⟩)
    · exfalso; omega
abbrev L_J0_checkIndex_df160_l42 : List Rc := []
abbrev LL_J0_checkIndex_df160_l42 : List Rc := []
def P_J0_checkIndex_df160_l42 (σ0 : Nat → Nat → Int32) (τ0 : Nat → Nat → Int64) (a0 : Int32) (a1 : Int32) (σ : Nat → Nat → Int32) (τ : Nat → Nat → Int64) : Prop := Rg σ ∧ Fr L_J0_checkIndex_df160_l42 σ0 σ ∧ FrL LL_J0_checkIndex_df160_l42 τ0 τ
set_option maxHeartbeats 4000000 in
theorem c_J0_checkIndex_df160_l42 (l : Launch) (D : va_G) (cA : Nat → ClassId) (ad : Nat → Nat) (hI : Inj ad) (σ0 : Nat → Nat → Int32) (τ0 : Nat → Nat → Int64) (hR : Rg σ0) (a0 : Int32) (a1 : Int32) (ha0 : 0 ≤ a0.toInt ∧ a0.toInt ≤ 41) (ha1 : 42 ≤ a1.toInt ∧ a1.toInt ≤ 42) : Met l yJ0_checkIndex_df160 wsJ0_checkIndex_df160 ({ frames := 1, cells := 0, slots := 0, locals := 22 } : Room) (WQc D cA ad [.int a0, .int a1] σ0 τ0) (va_Qv (fun u : SS => P_J0_checkIndex_df160_l42 σ0 τ0 a0 a1 u.1 u.2) (WB D cA ad) (AA ad)) 0 0 (AA ad) := by
  refine Met.ofW (cc := cJ0_checkIndex_df160) (maxL := 2) (ret := none) (by decide) rfl ?_
  intro p e s m args below meth c s₁ B hml hv
  obtain ⟨rfl, hP, hK, hN⟩ := hv
  have C : Cy p s m _ meth c cJ0_checkIndex_df160 2 wsJ0_checkIndex_df160 RJ0 D cA ad none := ⟨B.exec, B.bytes, hml, findClass_of_methodNamed B.named, atoms_spec (ws := wsJ0_checkIndex_df160) B.pre, hK, B.notSynchronized, B.returns, hI, hN⟩
  have hl := lv_entry ([.int a0, .int a1]) (n := 2) (Nat.le_of_ble_eq_true rfl)
  rw [lg_entry_eq]
  generalize (lg_sl ([.int a0, .int a1]) ++ List.replicate (2 - (lg_sl ([.int a0, .int a1])).length) Slot.unset).toArray = ls at hl ⊢
  have hl : lv_has ls 2 [(0, .int a0), (1, .int a1)] := hl
  have hS : va_S (AA ad) s.heap s.heap [] := va_S.rf
  have hF : Fr L_J0_checkIndex_df160_l42 σ0 σ0 := Fr.rf
  have hFL : FrL LL_J0_checkIndex_df160_l42 τ0 τ0 := FrL.rf
  obtain ⟨hx, hb, _, hown, hts, _, hk, hr, _, _⟩ := C
  refine lv_iload_n hx hb dJ0_checkIndex_df160_0 rfl (lv_at hl 0 rfl) ?_
  refine lv_iload_n hx hb dJ0_checkIndex_df160_1 rfl (lv_at hl 1 rfl) ?_
  refine sz_fm hx hb hN hS hown (hts _ lk_J0_checkIndex_df160_1053) dJ0_checkIndex_df160_2 ?_ (fun t1 => ?_)
  · refine r_cSi (As := [.int a0, .int a1, .null]) (rest := []) ⟨hx, hb, hml, hown, hts⟩ hK hP hN hS (c_J3_checkIndex_8e157_l42_n l D cA ad hI σ0 τ0 hR a0 a1 (by omega) (by omega)) (va_cwS 3 hts gJ0_checkIndex_df160_J3_checkIndex_8e157 rfl rfl rfl (by decide +kernel) ⟨by decide, by decide⟩) rfl hl.1 rfl (Nat.le_of_ble_eq_true rfl) dJ0_checkIndex_df160_5 (Nat.zero_le _) (Nat.zero_le _) (fun r2 u2 H2 locs2 hp2 hP hS => ?_)
    obtain ⟨σ2, τ2⟩ := u2
    obtain ⟨hR, f2, fL2, hq2⟩ : P_J3_checkIndex_8e157_l42_n σ0 τ0 a0 a1 r2 σ2 τ2 := hp2
    have hP : va_P D vwCl (gw cA ad σ2 τ2) H2 := hP
    obtain rfl := FrL.nil fL2
    obtain rfl := Fr.nil f2
    refine lv_pop hx hb dJ0_checkIndex_df160_8 rfl ?_
    exact r_vret hx hb hr hK hP hS hk dJ0_checkIndex_df160_9 (show P_J0_checkIndex_df160_l42 σ0 τ0 a0 a1 σ0 τ0 from ⟨hR, hF, hFL⟩)
  · refine r_cSi (As := [.int a0, .int a1, .ref t1]) (rest := []) ⟨hx, hb, hml, hown, hts⟩ hK hP hN hS (c_J3_checkIndex_8e157_l42_t l D cA ad hI σ0 τ0 hR a0 a1 t1 (by omega) (by omega)) (va_cwS 3 hts gJ0_checkIndex_df160_J3_checkIndex_8e157 rfl rfl rfl (by decide +kernel) ⟨by decide, by decide⟩) rfl hl.1 rfl (Nat.le_of_ble_eq_true rfl) dJ0_checkIndex_df160_5 (Nat.zero_le _) (Nat.zero_le _) (fun r3 u3 H3 locs3 hp3 hP hS => ?_)
    obtain ⟨σ3, τ3⟩ := u3
    obtain ⟨hR, f3, fL3, hq3⟩ : P_J3_checkIndex_8e157_l42_t σ0 τ0 a0 a1 t1 r3 σ3 τ3 := hp3
    have hP : va_P D vwCl (gw cA ad σ3 τ3) H3 := hP
    obtain rfl := FrL.nil fL3
    obtain rfl := Fr.nil f3
    refine lv_pop hx hb dJ0_checkIndex_df160_8 rfl ?_
    exact r_vret hx hb hr hK hP hS hk dJ0_checkIndex_df160_9 (show P_J0_checkIndex_df160_l42 σ0 τ0 a0 a1 σ0 τ0 from ⟨hR, hF, hFL⟩)
abbrev L_J1_charAt_3b067_s1 : List Rc := []
abbrev LL_J1_charAt_3b067_s1 : List Rc := []
def P_J1_charAt_3b067_s1 (σ0 : Nat → Nat → Int32) (τ0 : Nat → Nat → Int64) (a1 : Int32) (r : Int32) (σ : Nat → Nat → Int32) (τ : Nat → Nat → Int64) : Prop := Rg σ ∧ Fr L_J1_charAt_3b067_s1 σ0 σ ∧ FrL LL_J1_charAt_3b067_s1 τ0 τ ∧ (0 ≤ r.toInt ∧ r.toInt ≤ 255) ∧ (r.toInt = rowc (98 + a1.toInt.toNat))
set_option maxHeartbeats 4000000 in
theorem c_J1_charAt_3b067_s1 (l : Launch) (D : va_G) (cA : Nat → ClassId) (ad : Nat → Nat) (hI : Inj ad) (σ0 : Nat → Nat → Int32) (τ0 : Nat → Nat → Int64) (hR : Rg σ0) (a1 : Int32) (ha1 : 0 ≤ a1.toInt ∧ a1.toInt ≤ 41) : Met l yJ1_charAt_3b067 wsJ1_charAt_3b067 ({ frames := 2, cells := 0, slots := 0, locals := 43 } : Room) (WQc D cA ad [.ref (ad 415), .int a1] σ0 τ0) (va_Qi (fun (r : Int32) (u : SS) => P_J1_charAt_3b067_s1 σ0 τ0 a1 r u.1 u.2) (WB D cA ad) (AA ad)) 0 0 (AA ad) := by
  refine Met.ofW (cc := cJ1_charAt_3b067) (maxL := 2) (ret := (some .char)) (by decide) rfl ?_
  intro p e s m args below meth c s₁ B hml hv
  obtain ⟨rfl, hP, hK, hN⟩ := hv
  have C : Cy p s m _ meth c cJ1_charAt_3b067 2 wsJ1_charAt_3b067 RJ1 D cA ad (some .char) := ⟨B.exec, B.bytes, hml, findClass_of_methodNamed B.named, atoms_spec (ws := wsJ1_charAt_3b067) B.pre, hK, B.notSynchronized, B.returns, hI, hN⟩
  have hl := lv_entry ([.ref (ad 415), .int a1]) (n := 2) (Nat.le_of_ble_eq_true rfl)
  rw [lg_entry_eq]
  generalize (lg_sl ([.ref (ad 415), .int a1]) ++ List.replicate (2 - (lg_sl ([.ref (ad 415), .int a1])).length) Slot.unset).toArray = ls at hl ⊢
  have hl : lv_has ls 2 [(0, .ref (ad 415)), (1, .int a1)] := hl
  have hS : va_S (AA ad) s.heap s.heap [] := va_S.rf
  have hF : Fr L_J1_charAt_3b067_s1 σ0 σ0 := Fr.rf
  have hFL : FrL LL_J1_charAt_3b067_s1 τ0 τ0 := FrL.rf
  obtain ⟨hx, hb, _, hown, hts, _, hk, hr, _, _⟩ := C
  refine lv_iload_n hx hb dJ1_charAt_3b067_0 rfl (lv_at hl 1 rfl) ?_
  refine lv_aload_n hx hb dJ1_charAt_3b067_1 rfl (lv_at hl 0 rfl) ?_
  refine sl_1 hx hb hN hS dJ1_charAt_3b067_2 (fun z1 ez1 => ?_)
  refine r_cSv (As := [.int a1, .int z1]) (rest := []) ⟨hx, hb, hml, hown, hts⟩ hK hP hN hS (c_J0_checkIndex_df160_l42 l D cA ad hI σ0 τ0 hR a1 z1 (by omega) (by omega)) (va_cwS 2 hts gJ1_charAt_3b067_J0_checkIndex_df160 rfl rfl rfl (by decide +kernel) ⟨by decide, by decide⟩) rfl hl.1 rfl (Nat.le_of_ble_eq_true rfl) dJ1_charAt_3b067_3 (Nat.zero_le _) (Nat.zero_le _) (fun u2 H2 locs2 hp2 hP hS => ?_)
  obtain ⟨σ2, τ2⟩ := u2
  obtain ⟨hR, f2, fL2⟩ : P_J0_checkIndex_df160_l42 σ0 τ0 a1 z1 σ2 τ2 := hp2
  have hP : va_P D vwCl (gw cA ad σ2 τ2) H2 := hP
  obtain rfl := FrL.nil fL2
  obtain rfl := Fr.nil f2
  refine lv_aload_n hx hb dJ1_charAt_3b067_6 rfl (lv_at hl 0 rfl) ?_
  refine lv_iload_n hx hb dJ1_charAt_3b067_7 rfl (lv_at hl 1 rfl) ?_
  obtain ⟨j3, ej3⟩ : ∃ j : Nat, a1.toInt = (j : Int) := ⟨_, ti_nat (by omega)⟩
  refine sbE_1 (j := j3) hx hb hN hS ej3 (by omega) dJ1_charAt_3b067_8 (fun z4 ez4 => ?_)
  refine lv_sipush (v := 255) hx hb dJ1_charAt_3b067_9 (by decide) ?_
  have kcz5 : (255 : Int32).toInt = 255 := rfl
  have hzs := row_rg (98 + j3) (by omega)
  refine lv_iand hx hb dJ1_charAt_3b067_12 ?_
  have hza := ti_a255 (z := z4) (by omega)
  refine r_i2c hx hb dJ1_charAt_3b067_13 (by omega) (fun z6 ez6 => ?_)
  exact r_cret hx hb hr hK hP hS hk (by omega) dJ1_charAt_3b067_14 (show P_J1_charAt_3b067_s1 σ0 τ0 a1 z6 σ0 τ0 from ⟨hR, hF, hFL, by omega, by rw [show a1.toInt.toNat = j3 by omega]; omega⟩)
abbrev L_J0_charAt_5068e_s1 : List Rc := []
abbrev LL_J0_charAt_5068e_s1 : List Rc := []
def P_J0_charAt_5068e_s1 (σ0 : Nat → Nat → Int32) (τ0 : Nat → Nat → Int64) (a1 : Int32) (r : Int32) (σ : Nat → Nat → Int32) (τ : Nat → Nat → Int64) : Prop := Rg σ ∧ Fr L_J0_charAt_5068e_s1 σ0 σ ∧ FrL LL_J0_charAt_5068e_s1 τ0 τ ∧ (0 ≤ r.toInt ∧ r.toInt ≤ 255) ∧ (r.toInt = rowc (98 + a1.toInt.toNat))
set_option maxHeartbeats 4000000 in
theorem c_J0_charAt_5068e_s1 (l : Launch) (D : va_G) (cA : Nat → ClassId) (ad : Nat → Nat) (hI : Inj ad) (σ0 : Nat → Nat → Int32) (τ0 : Nat → Nat → Int64) (hR : Rg σ0) (a1 : Int32) (ha1 : 0 ≤ a1.toInt ∧ a1.toInt ≤ 41) : Met l yJ0_charAt_5068e wsJ0_charAt_5068e ({ frames := 3, cells := 0, slots := 0, locals := 64 } : Room) (WQc D cA ad [.ref (ad 408), .int a1] σ0 τ0) (va_Qi (fun (r : Int32) (u : SS) => P_J0_charAt_5068e_s1 σ0 τ0 a1 r u.1 u.2) (WB D cA ad) (AA ad)) 0 0 (AA ad) := by
  refine Met.ofW (cc := cJ0_charAt_5068e) (maxL := 2) (ret := (some .char)) (by decide) rfl ?_
  intro p e s m args below meth c s₁ B hml hv
  obtain ⟨rfl, hP, hK, hN⟩ := hv
  have C : Cy p s m _ meth c cJ0_charAt_5068e 2 wsJ0_charAt_5068e RJ0 D cA ad (some .char) := ⟨B.exec, B.bytes, hml, findClass_of_methodNamed B.named, atoms_spec (ws := wsJ0_charAt_5068e) B.pre, hK, B.notSynchronized, B.returns, hI, hN⟩
  have hl := lv_entry ([.ref (ad 408), .int a1]) (n := 2) (Nat.le_of_ble_eq_true rfl)
  rw [lg_entry_eq]
  generalize (lg_sl ([.ref (ad 408), .int a1]) ++ List.replicate (2 - (lg_sl ([.ref (ad 408), .int a1])).length) Slot.unset).toArray = ls at hl ⊢
  have hl : lv_has ls 2 [(0, .ref (ad 408)), (1, .int a1)] := hl
  have hS : va_S (AA ad) s.heap s.heap [] := va_S.rf
  have hF : Fr L_J0_charAt_5068e_s1 σ0 σ0 := Fr.rf
  have hFL : FrL LL_J0_charAt_5068e_s1 τ0 τ0 := FrL.rf
  obtain ⟨hx, hb, _, hown, hts, _, hk, hr, _, _⟩ := C
  refine lv_aload_n hx hb dJ0_charAt_5068e_0 rfl (lv_at hl 0 rfl) ?_
  refine r_cVi (k := 408) (As := []) (rest := []) ⟨hx, hb, hml, hown, hts⟩ hK hP hN hS (c_J0_isLatin1_aae02_s1 l D cA ad hI σ0 τ0 hR) (cwV 0 hts gJ0_charAt_5068e_J0_isLatin1_aae02 rfl rfl rfl (by decide +kernel) ⟨by decide, by decide⟩) (so_1 hN hS) rfl hl.1 rfl (Nat.le_of_ble_eq_true rfl) dJ0_charAt_5068e_1 (Nat.zero_le _) (Nat.zero_le _) (fun r1 u1 H1 locs1 hp1 hP hS => ?_)
  obtain ⟨σ1, τ1⟩ := u1
  obtain ⟨hR, f1, fL1, hq1⟩ : P_J0_isLatin1_aae02_s1 σ0 τ0 r1 σ1 τ1 := hp1
  have hP : va_P D vwCl (gw cA ad σ1 τ1) H1 := hP
  obtain rfl := FrL.nil fL1
  obtain rfl := Fr.nil f1
  refine r_if_eq (tgt := 16) hx hb dJ0_charAt_5068e_4 (by decide) (fun c2 => ?_) (fun c2 => ?_)
  · exfalso; omega
  · refine lv_aload_n hx hb dJ0_charAt_5068e_7 rfl (lv_at hl 0 rfl) ?_
    refine sv_1 hx hb hN hS hown (hts _ lk_J0_charAt_5068e_9) dJ0_charAt_5068e_8 ?_
    refine lv_iload_n hx hb dJ0_charAt_5068e_11 rfl (lv_at hl 1 rfl) ?_
    refine r_cSi (As := [.ref (ad 415), .int a1]) (rest := []) ⟨hx, hb, hml, hown, hts⟩ hK hP hN hS (c_J1_charAt_3b067_s1 l D cA ad hI σ0 τ0 hR a1 (by omega)) (va_cwS 2 hts gJ0_charAt_5068e_J1_charAt_3b067 rfl rfl rfl (by decide +kernel) ⟨by decide, by decide⟩) rfl hl.1 rfl (Nat.le_of_ble_eq_true rfl) dJ0_charAt_5068e_12 (Nat.zero_le _) (Nat.zero_le _) (fun r3 u3 H3 locs3 hp3 hP hS => ?_)
    obtain ⟨σ3, τ3⟩ := u3
    obtain ⟨hR, f3, fL3, hq3, hp3_0⟩ : P_J1_charAt_3b067_s1 σ0 τ0 a1 r3 σ3 τ3 := hp3
    have hP : va_P D vwCl (gw cA ad σ3 τ3) H3 := hP
    obtain rfl := FrL.nil fL3
    obtain rfl := Fr.nil f3
    exact r_cret hx hb hr hK hP hS hk (by omega) dJ0_charAt_5068e_15 (show P_J0_charAt_5068e_s1 σ0 τ0 a1 r3 σ0 τ0 from ⟨hR, hF, hFL, by omega, by omega⟩)
abbrev L_X8_isWord_s1_v : List Rc := []
abbrev LL_X8_isWord_s1_v : List Rc := []
def P_X8_isWord_s1_v (σ0 : Nat → Nat → Int32) (τ0 : Nat → Nat → Int64) (a2 : Int32) (a3 : Int32) (a4 : Int32) (b : Nat → Int) (N : Nat) (q : Nat) (ln : Nat) (r : Int32) (σ : Nat → Nat → Int32) (τ : Nat → Nat → Int64) : Prop := Rg σ ∧ Fr L_X8_isWord_s1_v σ0 σ ∧ FrL LL_X8_isWord_s1_v τ0 τ ∧ (0 ≤ r.toInt ∧ r.toInt ≤ 1) ∧ ((r.toInt = 1 ∧ fd 256 0 b q ln = RWl.getD (14 + a2.toInt.toNat) 0) ∨ (r.toInt = 0 ∧ fd 256 0 b q ln ≠ RWl.getD (14 + a2.toInt.toNat) 0)) ∧ BY σ b N
def J_X8_isWord_s1_v_3 (p : Program) (l : Launch) (e : Env) (s : State) (m : MethodId) (args : Array Value) (below : List Frame) (meth : Method) (c : Code) (D : va_G) (cA : Nat → ClassId) (ad : Nat → Nat) (σ0 : Nat → Nat → Int32) (τ0 : Nat → Nat → Int64) (a2 : Int32) (a3 : Int32) (a4 : Int32) (b : Nat → Int) (N : Nat) (q : Nat) (ln : Nat) (n : Nat) : Prop := ∀ (σ : Nat → Nat → Int32) (τ : Nat → Nat → Int64) (H : Heap) (locs : List Loc) (x5 : Int32) (ls : Array Slot), Rg σ → Fr L_X8_isWord_s1_v σ0 σ → FrL LL_X8_isWord_s1_v τ0 τ → va_P D vwCl (gw cA ad σ τ) H → va_S (AA ad) s.heap H locs → (0 ≤ x5.toInt ∧ x5.toInt ≤ 7) → (∀ i : Nat, (i : Int) < x5.toInt → chq b q ln i = rowc (7 * (14 + a2.toInt.toNat) + i)) → (BY σ b N) → lv_has ls 7 [(0, .ref (ad 1)), (1, .ref (ad 408)), (2, .int a2), (3, .int a3), (4, .int a4), (5, .int x5)] → 3 * (7 - x5.toInt) + 2 < (n : Int) → W p l e ({ frames := 4, cells := 0, slots := 0, locals := 85 } : Room) s m args below meth c H locs 0 0 (MQ below (va_Qi (fun (r : Int32) (u : SS) => P_X8_isWord_s1_v σ0 τ0 a2 a3 a4 b N q ln r u.1 u.2) (WB D cA ad) (AA ad)) args s 0 0 (AA ad)) (F0 m 3 ls [])
def J_X8_isWord_s1_v_32 (p : Program) (l : Launch) (e : Env) (s : State) (m : MethodId) (args : Array Value) (below : List Frame) (meth : Method) (c : Code) (D : va_G) (cA : Nat → ClassId) (ad : Nat → Nat) (σ0 : Nat → Nat → Int32) (τ0 : Nat → Nat → Int64) (a2 : Int32) (a3 : Int32) (a4 : Int32) (b : Nat → Int) (N : Nat) (q : Nat) (ln : Nat) (n : Nat) : Prop := ∀ (σ : Nat → Nat → Int32) (τ : Nat → Nat → Int64) (H : Heap) (locs : List Loc) (x5 : Int32) (w0 : Int32) (ls : Array Slot), Rg σ → Fr L_X8_isWord_s1_v σ0 σ → FrL LL_X8_isWord_s1_v τ0 τ → va_P D vwCl (gw cA ad σ τ) H → va_S (AA ad) s.heap H locs → (0 ≤ x5.toInt ∧ x5.toInt ≤ 6) → (0 ≤ w0.toInt ∧ w0.toInt ≤ 255) → (∀ i : Nat, (i : Int) < x5.toInt → chq b q ln i = rowc (7 * (14 + a2.toInt.toNat) + i)) → (w0.toInt = chq b q ln x5.toInt.toNat) → (BY σ b N) → lv_has ls 7 [(0, .ref (ad 1)), (1, .ref (ad 408)), (2, .int a2), (3, .int a3), (4, .int a4), (5, .int x5)] → 3 * (7 - x5.toInt) + 1 < (n : Int) → W p l e ({ frames := 4, cells := 0, slots := 0, locals := 85 } : Room) s m args below meth c H locs 0 0 (MQ below (va_Qi (fun (r : Int32) (u : SS) => P_X8_isWord_s1_v σ0 τ0 a2 a3 a4 b N q ln r u.1 u.2) (WB D cA ad) (AA ad)) args s 0 0 (AA ad)) (F0 m 32 ls [.int w0])
set_option maxHeartbeats 4000000 in
theorem B_X8_isWord_s1_v_3 (p : Program) (l : Launch) (e : Env) (s : State) (m : MethodId) (args : Array Value) (below : List Frame) (meth : Method) (c : Code) (D : va_G) (cA : Nat → ClassId) (ad : Nat → Nat) (σ0 : Nat → Nat → Int32) (τ0 : Nat → Nat → Int64) (a2 : Int32) (a3 : Int32) (a4 : Int32) (b : Nat → Int) (N : Nat) (q : Nat) (ln : Nat) (n : Nat) (C : Cy p s m args meth c cX8_isWord 7 wsX8_isWord RX8 D cA ad (some .boolean)) (ha2 : 0 ≤ a2.toInt ∧ a2.toInt ≤ 5) (ha3 : 0 ≤ a3.toInt ∧ a3.toInt ≤ 899) (ha4 : 0 ≤ a4.toInt ∧ a4.toInt ≤ 940) (hpre0 : a3.toInt = (q : Int)) (hpre1 : a4.toInt = (q : Int) + ln) (hpre2 : q + ln ≤ N) (hpre3 : ln ≤ 7) (hpre4 : ∀ i : Nat, i < ln → isLt (b (q + i))) (gBY0 : BY σ0 b N) (K3 : J_X8_isWord_s1_v_3 p l e s m args below meth c D cA ad σ0 τ0 a2 a3 a4 b N q ln n) (K32 : J_X8_isWord_s1_v_32 p l e s m args below meth c D cA ad σ0 τ0 a2 a3 a4 b N q ln n) : J_X8_isWord_s1_v_3 p l e s m args below meth c D cA ad σ0 τ0 a2 a3 a4 b N q ln (n + 1) := by
  obtain ⟨hx, hb, hml, hown, hts, hK, hk, hr, hI, hN⟩ := C
  intro σ τ H locs x5 ls hR hF hFL hP hS hc0 hi0 gBY hl hm
  obtain rfl := Fr.nil hF
  obtain rfl := FrL.nil hFL
  refine lv_iload hx hb dX8_isWord_3 (lv_at hl 5 rfl) ?_
  refine r_bipush hx hb dX8_isWord_5 (by decide) (fun z1 ez1 => ?_)
  refine r_icmp_ge (tgt := 58) hx hb dX8_isWord_7 (by decide) (fun c2 => ?_) (fun c2 => ?_)
  · refine r_iconst hx hb dX8_isWord_58 (by decide) (fun z3 ez3 => ?_)
    exact r_zret hx hb hr hK hP hS hk (by omega) dX8_isWord_59 (show P_X8_isWord_s1_v σ0 τ0 a2 a3 a4 b N q ln z3 σ0 τ0 from ⟨hR, hF, hFL, by omega, by first | exact Or.inl ⟨by omega, (WM_iff hpre4 hpre3 (by omega)).mp (fun i hi => hi0 i (by omega))⟩ | exact Or.inr ⟨by omega, fun h => absurd ((WM_iff hpre4 hpre3 (by omega)).mpr h x5.toInt.toNat (by omega)) (by omega)⟩, gBY⟩)
  · refine lv_iload_n hx hb dX8_isWord_10 rfl (lv_at hl 3 rfl) ?_
    refine lv_iload hx hb dX8_isWord_11 (lv_at hl 5 rfl) ?_
    refine r_iadd hx hb dX8_isWord_13 (by omega) (fun z4 ez4 => ?_)
    refine lv_iload hx hb dX8_isWord_14 (lv_at hl 4 rfl) ?_
    refine r_icmp_ge (tgt := 30) hx hb dX8_isWord_16 (by decide) (fun c5 => ?_) (fun c5 => ?_)
    · refine r_bipush hx hb dX8_isWord_30 (by decide) (fun z6 ez6 => ?_)
      exact K32 σ0 τ0 H locs x5 z6 ls hR hF hFL hP hS (by omega) (by omega) (by exact hi0) (by unfold chq; first | rw [if_neg (by omega)]; omega | rw [if_pos (by omega)]; exact hb24) gBY (lv_sub hl [0, 1, 2, 3, 4, 5] rfl) (by omega)
    · refine lv_aload_n hx hb dX8_isWord_19 rfl (lv_at hl 0 rfl) ?_
      refine lv_iload_n hx hb dX8_isWord_20 rfl (lv_at hl 3 rfl) ?_
      refine lv_iload hx hb dX8_isWord_21 (lv_at hl 5 rfl) ?_
      refine r_iadd hx hb dX8_isWord_23 (by omega) (fun z7 ez7 => ?_)
      refine r_cVi (k := 1) (As := [.int z7]) (rest := []) ⟨hx, hb, hml, hown, hts⟩ hK hP hN hS (c_X8_byteAt l D cA ad hI σ0 τ0 hR z7 (by omega)) (cwV 1 hts gX8_isWord_X8_byteAt rfl rfl rfl (by decide +kernel) ⟨by decide, by decide⟩) (rv_Tape hK hP (by decide) (by decide)) rfl hl.1 rfl (Nat.le_of_ble_eq_true rfl) dX8_isWord_24 (Nat.zero_le _) (Nat.zero_le _) (fun r8 u8 H8 locs8 hp8 hP hS => ?_)
      obtain ⟨σ8, τ8⟩ := u8
      obtain ⟨hR, f8, fL8, hq8, hp8_0⟩ : P_X8_byteAt σ0 τ0 z7 r8 σ8 τ8 := hp8
      have hP : va_P D vwCl (gw cA ad σ8 τ8) H8 := hP
      obtain rfl := FrL.nil fL8
      obtain rfl := Fr.nil f8
      have hb24 := BY.rd gBY (j := q + x5.toInt.toNat) hp8_0 (by omega) (by omega)
      refine lv_goto (tgt := 32) hx hb dX8_isWord_27 (by decide) ?_
      exact K32 σ0 τ0 H8 locs8 x5 r8 ls hR hF hFL hP hS (by omega) (by omega) (by exact hi0) (by unfold chq; first | rw [if_neg (by omega)]; omega | rw [if_pos (by omega)]; exact hb24) gBY (lv_sub hl [0, 1, 2, 3, 4, 5] rfl) (by omega)
set_option maxHeartbeats 4000000 in
theorem B_X8_isWord_s1_v_32 (p : Program) (l : Launch) (e : Env) (s : State) (m : MethodId) (args : Array Value) (below : List Frame) (meth : Method) (c : Code) (D : va_G) (cA : Nat → ClassId) (ad : Nat → Nat) (σ0 : Nat → Nat → Int32) (τ0 : Nat → Nat → Int64) (a2 : Int32) (a3 : Int32) (a4 : Int32) (b : Nat → Int) (N : Nat) (q : Nat) (ln : Nat) (n : Nat) (C : Cy p s m args meth c cX8_isWord 7 wsX8_isWord RX8 D cA ad (some .boolean)) (ha2 : 0 ≤ a2.toInt ∧ a2.toInt ≤ 5) (ha3 : 0 ≤ a3.toInt ∧ a3.toInt ≤ 899) (ha4 : 0 ≤ a4.toInt ∧ a4.toInt ≤ 940) (hpre0 : a3.toInt = (q : Int)) (hpre1 : a4.toInt = (q : Int) + ln) (hpre2 : q + ln ≤ N) (hpre3 : ln ≤ 7) (hpre4 : ∀ i : Nat, i < ln → isLt (b (q + i))) (gBY0 : BY σ0 b N) (K3 : J_X8_isWord_s1_v_3 p l e s m args below meth c D cA ad σ0 τ0 a2 a3 a4 b N q ln n) (K32 : J_X8_isWord_s1_v_32 p l e s m args below meth c D cA ad σ0 τ0 a2 a3 a4 b N q ln n) : J_X8_isWord_s1_v_32 p l e s m args below meth c D cA ad σ0 τ0 a2 a3 a4 b N q ln (n + 1) := by
  obtain ⟨hx, hb, hml, hown, hts, hK, hk, hr, hI, hN⟩ := C
  intro σ τ H locs x5 w0 ls hR hF hFL hP hS hc0 hc1 hi0 hi1 gBY hl hm
  obtain rfl := Fr.nil hF
  obtain rfl := FrL.nil hFL
  refine lv_istore (lv' := [(6, .int w0), (0, .ref (ad 1)), (1, .ref (ad 408)), (2, .int a2), (3, .int a3), (4, .int a4), (5, .int x5)]) hx hb dX8_isWord_32 hl (by decide) rfl (fun ls hl => ?_)
  refine lv_aload_n hx hb dX8_isWord_34 rfl (lv_at hl 2 rfl) ?_
  refine lv_iload_n hx hb dX8_isWord_35 rfl (lv_at hl 3 rfl) ?_
  refine r_bipush hx hb dX8_isWord_36 (by decide) (fun z1 ez1 => ?_)
  refine r_imulR (n := 7) hx hb dX8_isWord_38 (by omega) (by omega) (fun z2 ez2 => ?_)
  refine lv_iload hx hb dX8_isWord_39 (lv_at hl 6 rfl) ?_
  refine r_iadd hx hb dX8_isWord_41 (by omega) (fun z3 ez3 => ?_)
  refine r_cVi (k := 408) (As := [.int z3]) (rest := []) ⟨hx, hb, hml, hown, hts⟩ hK hP hN hS (c_J0_charAt_5068e_s1 l D cA ad hI σ0 τ0 hR z3 (by omega)) (cwV 1 hts gX8_isWord_J0_charAt_5068e rfl rfl rfl (by decide +kernel) ⟨by decide, by decide⟩) (so_1 hN hS) rfl hl.1 rfl (Nat.le_of_ble_eq_true rfl) dX8_isWord_42 (Nat.zero_le _) (Nat.zero_le _) (fun r4 u4 H4 locs4 hp4 hP hS => ?_)
  obtain ⟨σ4, τ4⟩ := u4
  obtain ⟨hR, f4, fL4, hq4, hp4_0⟩ : P_J0_charAt_5068e_s1 σ0 τ0 z3 r4 σ4 τ4 := hp4
  have hP : va_P D vwCl (gw cA ad σ4 τ4) H4 := hP
  obtain rfl := FrL.nil fL4
  obtain rfl := Fr.nil f4
  have hc42 := hp4_0.trans (congrArg rowc (show 98 + z3.toInt.toNat = 7 * (14 + a2.toInt.toNat) + x5.toInt.toNat by omega))
  refine lv_iload hx hb dX8_isWord_45 (lv_at hl 0 rfl) ?_
  refine r_icmp_eq (tgt := 52) hx hb dX8_isWord_47 (by decide) (fun c5 => ?_) (fun c5 => ?_)
  · refine r_iinc (k := 6) (lv1 := fun z6 => [(5, .int z6), (6, .int w0), (0, .ref (ad 1)), (1, .ref (ad 408)), (2, .int a2), (3, .int a3), (4, .int a4)]) hx hb dX8_isWord_52 hl rfl (by decide) (fun _ => rfl) (by decide) (by omega) (fun z6 ls ez6 hl => ?_)
    refine lv_goto (tgt := 3) hx hb dX8_isWord_55 (by decide) ?_
    exact K3 σ0 τ0 H4 locs4 z6 ls hR hF hFL hP hS (by omega) (by first | exact (fun i hi => absurd hi (by omega)) | exact allS hi0 (by omega) (by omega) (by omega)) gBY (lv_sub hl [2, 3, 4, 5, 6, 0] rfl) (by omega)
  · refine r_iconst hx hb dX8_isWord_50 (by decide) (fun z7 ez7 => ?_)
    exact r_zret hx hb hr hK hP hS hk (by omega) dX8_isWord_51 (show P_X8_isWord_s1_v σ0 τ0 a2 a3 a4 b N q ln z7 σ0 τ0 from ⟨hR, hF, hFL, by omega, by first | exact Or.inl ⟨by omega, (WM_iff hpre4 hpre3 (by omega)).mp (fun i hi => hi0 i (by omega))⟩ | exact Or.inr ⟨by omega, fun h => absurd ((WM_iff hpre4 hpre3 (by omega)).mpr h x5.toInt.toNat (by omega)) (by omega)⟩, gBY⟩)
theorem A_X8_isWord_s1_v (p : Program) (l : Launch) (e : Env) (s : State) (m : MethodId) (args : Array Value) (below : List Frame) (meth : Method) (c : Code) (D : va_G) (cA : Nat → ClassId) (ad : Nat → Nat) (σ0 : Nat → Nat → Int32) (τ0 : Nat → Nat → Int64) (a2 : Int32) (a3 : Int32) (a4 : Int32) (b : Nat → Int) (N : Nat) (q : Nat) (ln : Nat) (C : Cy p s m args meth c cX8_isWord 7 wsX8_isWord RX8 D cA ad (some .boolean)) (ha2 : 0 ≤ a2.toInt ∧ a2.toInt ≤ 5) (ha3 : 0 ≤ a3.toInt ∧ a3.toInt ≤ 899) (ha4 : 0 ≤ a4.toInt ∧ a4.toInt ≤ 940) (hpre0 : a3.toInt = (q : Int)) (hpre1 : a4.toInt = (q : Int) + ln) (hpre2 : q + ln ≤ N) (hpre3 : ln ≤ 7) (hpre4 : ∀ i : Nat, i < ln → isLt (b (q + i))) (gBY0 : BY σ0 b N) : ∀ n : Nat, J_X8_isWord_s1_v_3 p l e s m args below meth c D cA ad σ0 τ0 a2 a3 a4 b N q ln n ∧ J_X8_isWord_s1_v_32 p l e s m args below meth c D cA ad σ0 τ0 a2 a3 a4 b N q ln n := by
  intro n
  induction n with
  | zero =>
    exact ⟨(by intro σ τ H locs x5 ls hR hF hFL hP hS hc0 hi0 gBY hl hm; exfalso; omega), (by intro σ τ H locs x5 w0 ls hR hF hFL hP hS hc0 hc1 hi0 hi1 gBY hl hm; exfalso; omega)⟩
  | succ n ih =>
    exact ⟨B_X8_isWord_s1_v_3 p l e s m args below meth c D cA ad σ0 τ0 a2 a3 a4 b N q ln n C ha2 ha3 ha4 hpre0 hpre1 hpre2 hpre3 hpre4 gBY0 ih.1 ih.2, B_X8_isWord_s1_v_32 p l e s m args below meth c D cA ad σ0 τ0 a2 a3 a4 b N q ln n C ha2 ha3 ha4 hpre0 hpre1 hpre2 hpre3 hpre4 gBY0 ih.1 ih.2⟩
set_option maxHeartbeats 4000000 in
theorem c_X8_isWord_s1_v (l : Launch) (D : va_G) (cA : Nat → ClassId) (ad : Nat → Nat) (hI : Inj ad) (σ0 : Nat → Nat → Int32) (τ0 : Nat → Nat → Int64) (hR : Rg σ0) (a2 : Int32) (a3 : Int32) (a4 : Int32) (b : Nat → Int) (N : Nat) (q : Nat) (ln : Nat) (ha2 : 0 ≤ a2.toInt ∧ a2.toInt ≤ 5) (ha3 : 0 ≤ a3.toInt ∧ a3.toInt ≤ 899) (ha4 : 0 ≤ a4.toInt ∧ a4.toInt ≤ 940) (hpre0 : a3.toInt = (q : Int)) (hpre1 : a4.toInt = (q : Int) + ln) (hpre2 : q + ln ≤ N) (hpre3 : ln ≤ 7) (hpre4 : ∀ i : Nat, i < ln → isLt (b (q + i))) (gBY0 : BY σ0 b N) : Met l yX8_isWord wsX8_isWord ({ frames := 4, cells := 0, slots := 0, locals := 85 } : Room) (WQc D cA ad [.ref (ad 1), .ref (ad 408), .int a2, .int a3, .int a4] σ0 τ0) (va_Qi (fun (r : Int32) (u : SS) => P_X8_isWord_s1_v σ0 τ0 a2 a3 a4 b N q ln r u.1 u.2) (WB D cA ad) (AA ad)) 0 0 (AA ad) := by
  refine Met.ofW (cc := cX8_isWord) (maxL := 7) (ret := (some .boolean)) (by decide) rfl ?_
  intro p e s m args below meth c s₁ B hml hv
  obtain ⟨rfl, hP, hK, hN⟩ := hv
  have C : Cy p s m _ meth c cX8_isWord 7 wsX8_isWord RX8 D cA ad (some .boolean) := ⟨B.exec, B.bytes, hml, findClass_of_methodNamed B.named, atoms_spec (ws := wsX8_isWord) B.pre, hK, B.notSynchronized, B.returns, hI, hN⟩
  have hl := lv_entry ([.ref (ad 1), .ref (ad 408), .int a2, .int a3, .int a4]) (n := 7) (Nat.le_of_ble_eq_true rfl)
  rw [lg_entry_eq]
  generalize (lg_sl ([.ref (ad 1), .ref (ad 408), .int a2, .int a3, .int a4]) ++ List.replicate (7 - (lg_sl ([.ref (ad 1), .ref (ad 408), .int a2, .int a3, .int a4])).length) Slot.unset).toArray = ls at hl ⊢
  have hl : lv_has ls 7 [(0, .ref (ad 1)), (1, .ref (ad 408)), (2, .int a2), (3, .int a3), (4, .int a4)] := hl
  have hS : va_S (AA ad) s.heap s.heap [] := va_S.rf
  have hF : Fr L_X8_isWord_s1_v σ0 σ0 := Fr.rf
  have hFL : FrL LL_X8_isWord_s1_v τ0 τ0 := FrL.rf
  have gBY := gBY0
  have hA := A_X8_isWord_s1_v p l e s m _ below meth c D cA ad σ0 τ0 a2 a3 a4 b N q ln C ha2 ha3 ha4 hpre0 hpre1 hpre2 hpre3 hpre4 gBY0 55
  have K3 := hA.1
  have K32 := hA.2
  clear hA
  obtain ⟨hx, hb, _, hown, hts, _, hk, hr, _, _⟩ := C
  refine r_iconst hx hb dX8_isWord_0 (by decide) (fun z1 ez1 => ?_)
  refine lv_istore (lv' := [(5, .int z1), (0, .ref (ad 1)), (1, .ref (ad 408)), (2, .int a2), (3, .int a3), (4, .int a4)]) hx hb dX8_isWord_1 hl (by decide) rfl (fun ls hl => ?_)
  exact K3 σ0 τ0 s.heap [] z1 ls hR hF hFL hP hS (by omega) (by first | exact (fun i hi => absurd hi (by omega)) | exact allS hi0 (by omega) (by omega) (by omega)) gBY (lv_sub hl [1, 2, 3, 4, 5, 0] rfl) (by omega)
abbrev L_X8_wordIn_s1_v : List Rc := []
abbrev LL_X8_wordIn_s1_v : List Rc := []
def P_X8_wordIn_s1_v (σ0 : Nat → Nat → Int32) (τ0 : Nat → Nat → Int64) (a2 : Int32) (a3 : Int32) (b : Nat → Int) (N : Nat) (q : Nat) (ln : Nat) (r : Int32) (σ : Nat → Nat → Int32) (τ : Nat → Nat → Int64) : Prop := Rg σ ∧ Fr L_X8_wordIn_s1_v σ0 σ ∧ FrL LL_X8_wordIn_s1_v τ0 τ ∧ (-1 ≤ r.toInt ∧ r.toInt ≤ 5) ∧ ((r.toInt = -1 ∧ ∀ w : Nat, w < 6 → fd 256 0 b q ln ≠ RWl.getD (14 + w) 0) ∨ (0 ≤ r.toInt ∧ r.toInt < 6 ∧ fd 256 0 b q ln = RWl.getD (14 + r.toInt.toNat) 0)) ∧ BY σ b N
def J_X8_wordIn_s1_v_3 (p : Program) (l : Launch) (e : Env) (s : State) (m : MethodId) (args : Array Value) (below : List Frame) (meth : Method) (c : Code) (D : va_G) (cA : Nat → ClassId) (ad : Nat → Nat) (σ0 : Nat → Nat → Int32) (τ0 : Nat → Nat → Int64) (a2 : Int32) (a3 : Int32) (b : Nat → Int) (N : Nat) (q : Nat) (ln : Nat) (n : Nat) : Prop := ∀ (σ : Nat → Nat → Int32) (τ : Nat → Nat → Int64) (H : Heap) (locs : List Loc) (x4 : Int32) (ls : Array Slot), Rg σ → Fr L_X8_wordIn_s1_v σ0 σ → FrL LL_X8_wordIn_s1_v τ0 τ → va_P D vwCl (gw cA ad σ τ) H → va_S (AA ad) s.heap H locs → (0 ≤ x4.toInt ∧ x4.toInt ≤ 6) → (∀ w : Nat, (w : Int) < x4.toInt → fd 256 0 b q ln ≠ RWl.getD (14 + w) 0) → (BY σ b N) → lv_has ls 5 [(0, .ref (ad 1)), (1, .ref (ad 408)), (2, .int a2), (3, .int a3), (4, .int x4)] → 2 * (6 - x4.toInt) + 1 < (n : Int) → W p l e ({ frames := 5, cells := 0, slots := 0, locals := 111 } : Room) s m args below meth c H locs 0 0 (MQ below (va_Qi (fun (r : Int32) (u : SS) => P_X8_wordIn_s1_v σ0 τ0 a2 a3 b N q ln r u.1 u.2) (WB D cA ad) (AA ad)) args s 0 0 (AA ad)) (F0 m 3 ls [])
set_option maxHeartbeats 4000000 in
theorem B_X8_wordIn_s1_v_3 (p : Program) (l : Launch) (e : Env) (s : State) (m : MethodId) (args : Array Value) (below : List Frame) (meth : Method) (c : Code) (D : va_G) (cA : Nat → ClassId) (ad : Nat → Nat) (σ0 : Nat → Nat → Int32) (τ0 : Nat → Nat → Int64) (a2 : Int32) (a3 : Int32) (b : Nat → Int) (N : Nat) (q : Nat) (ln : Nat) (n : Nat) (C : Cy p s m args meth c cX8_wordIn 5 wsX8_wordIn RX8 D cA ad (some .int)) (ha2 : 0 ≤ a2.toInt ∧ a2.toInt ≤ 899) (ha3 : 0 ≤ a3.toInt ∧ a3.toInt ≤ 940) (hpre0 : a2.toInt = (q : Int)) (hpre1 : a3.toInt = (q : Int) + ln) (hpre2 : q + ln ≤ N) (hpre3 : ln ≤ 7) (hpre4 : ∀ i : Nat, i < ln → isLt (b (q + i))) (gBY0 : BY σ0 b N) (K3 : J_X8_wordIn_s1_v_3 p l e s m args below meth c D cA ad σ0 τ0 a2 a3 b N q ln n) : J_X8_wordIn_s1_v_3 p l e s m args below meth c D cA ad σ0 τ0 a2 a3 b N q ln (n + 1) := by
  obtain ⟨hx, hb, hml, hown, hts, hK, hk, hr, hI, hN⟩ := C
  intro σ τ H locs x4 ls hR hF hFL hP hS hc0 hi0 gBY hl hm
  obtain rfl := Fr.nil hF
  obtain rfl := FrL.nil hFL
  refine lv_iload hx hb dX8_wordIn_3 (lv_at hl 4 rfl) ?_
  refine r_iconst hx hb dX8_wordIn_5 (by decide) (fun z1 ez1 => ?_)
  refine r_iadd hx hb dX8_wordIn_6 (by omega) (fun z2 ez2 => ?_)
  refine r_bipush hx hb dX8_wordIn_7 (by decide) (fun z3 ez3 => ?_)
  refine r_imulR (n := 7) hx hb dX8_wordIn_9 (by omega) (by omega) (fun z4 ez4 => ?_)
  refine lv_aload_n hx hb dX8_wordIn_10 rfl (lv_at hl 1 rfl) ?_
  refine r_cVi (k := 408) (As := []) (rest := [.int z4]) ⟨hx, hb, hml, hown, hts⟩ hK hP hN hS (c_J0_length_8abf5_s1 l D cA ad hI σ0 τ0 hR) (cwV 0 hts gX8_wordIn_J0_length_8abf5 rfl rfl rfl (by decide +kernel) ⟨by decide, by decide⟩) (so_1 hN hS) rfl hl.1 rfl (Nat.le_of_ble_eq_true rfl) dX8_wordIn_11 (Nat.zero_le _) (Nat.zero_le _) (fun r5 u5 H5 locs5 hp5 hP hS => ?_)
  obtain ⟨σ5, τ5⟩ := u5
  obtain ⟨hR, f5, fL5, hq5⟩ : P_J0_length_8abf5_s1 σ0 τ0 r5 σ5 τ5 := hp5
  have hP : va_P D vwCl (gw cA ad σ5 τ5) H5 := hP
  obtain rfl := FrL.nil fL5
  obtain rfl := Fr.nil f5
  refine r_icmp_gt (tgt := 38) hx hb dX8_wordIn_14 (by decide) (fun c6 => ?_) (fun c6 => ?_)
  · refine r_iconst hx hb dX8_wordIn_38 (by decide) (fun z7 ez7 => ?_)
    exact r_iret hx hb hr hK hP hS hk dX8_wordIn_39 (show P_X8_wordIn_s1_v σ0 τ0 a2 a3 b N q ln z7 σ0 τ0 from ⟨hR, hF, hFL, by omega, by first | exact Or.inl ⟨by omega, fun w hw => hi0 w (by omega)⟩ | exact Or.inr ⟨by omega, by omega, (hw.resolve_right (fun c => by omega)).2⟩, gBY⟩)
  · refine lv_aload_n hx hb dX8_wordIn_17 rfl (lv_at hl 0 rfl) ?_
    refine lv_aload_n hx hb dX8_wordIn_18 rfl (lv_at hl 1 rfl) ?_
    refine lv_iload hx hb dX8_wordIn_19 (lv_at hl 4 rfl) ?_
    refine lv_iload_n hx hb dX8_wordIn_21 rfl (lv_at hl 2 rfl) ?_
    refine lv_iload_n hx hb dX8_wordIn_22 rfl (lv_at hl 3 rfl) ?_
    refine r_cVi (k := 1) (As := [.ref (ad 408), .int x4, .int a2, .int a3]) (rest := []) ⟨hx, hb, hml, hown, hts⟩ hK hP hN hS (c_X8_isWord_s1_v l D cA ad hI σ0 τ0 hR x4 a2 a3 b N q ln (by omega) (by omega) (by omega) (by omega) (by omega) (by omega) (by omega) hpre4 gBY) (cwV 4 hts gX8_wordIn_X8_isWord rfl rfl rfl (by decide +kernel) ⟨by decide, by decide⟩) (rv_Tape hK hP (by decide) (by decide)) rfl hl.1 rfl (Nat.le_of_ble_eq_true rfl) dX8_wordIn_23 (Nat.zero_le _) (Nat.zero_le _) (fun r8 u8 H8 locs8 hp8 hP hS => ?_)
    obtain ⟨σ8, τ8⟩ := u8
    obtain ⟨hR, f8, fL8, hq8, hp8_0, gnBY⟩ : P_X8_isWord_s1_v σ0 τ0 x4 a2 a3 b N q ln r8 σ8 τ8 := hp8
    have hw := hp8_0
    have hP : va_P D vwCl (gw cA ad σ8 τ8) H8 := hP
    obtain rfl := FrL.nil fL8
    obtain rfl := Fr.nil f8
    refine r_if_eq (tgt := 32) hx hb dX8_wordIn_26 (by decide) (fun c9 => ?_) (fun c9 => ?_)
    · refine r_iinc (k := 4) (lv1 := fun z10 => [(4, .int z10), (0, .ref (ad 1)), (1, .ref (ad 408)), (2, .int a2), (3, .int a3)]) hx hb dX8_wordIn_32 hl rfl (by decide) (fun _ => rfl) (by decide) (by omega) (fun z10 ls ez10 hl => ?_)
      refine lv_goto (tgt := 3) hx hb dX8_wordIn_35 (by decide) ?_
      exact K3 σ0 τ0 H8 locs8 z10 ls hR hF hFL hP hS (by omega) (by first | exact (fun w hw => absurd hw (by omega)) | exact allS hi0 (hw.resolve_left (fun c => by omega)).2 (by omega) (by omega)) gBY (lv_sub hl [1, 2, 3, 4, 0] rfl) (by omega)
    · refine lv_iload hx hb dX8_wordIn_29 (lv_at hl 4 rfl) ?_
      exact r_iret hx hb hr hK hP hS hk dX8_wordIn_31 (show P_X8_wordIn_s1_v σ0 τ0 a2 a3 b N q ln x4 σ0 τ0 from ⟨hR, hF, hFL, by omega, by first | exact Or.inl ⟨by omega, fun w hw => hi0 w (by omega)⟩ | exact Or.inr ⟨by omega, by omega, (hw.resolve_right (fun c => by omega)).2⟩, gBY⟩)
theorem A_X8_wordIn_s1_v (p : Program) (l : Launch) (e : Env) (s : State) (m : MethodId) (args : Array Value) (below : List Frame) (meth : Method) (c : Code) (D : va_G) (cA : Nat → ClassId) (ad : Nat → Nat) (σ0 : Nat → Nat → Int32) (τ0 : Nat → Nat → Int64) (a2 : Int32) (a3 : Int32) (b : Nat → Int) (N : Nat) (q : Nat) (ln : Nat) (C : Cy p s m args meth c cX8_wordIn 5 wsX8_wordIn RX8 D cA ad (some .int)) (ha2 : 0 ≤ a2.toInt ∧ a2.toInt ≤ 899) (ha3 : 0 ≤ a3.toInt ∧ a3.toInt ≤ 940) (hpre0 : a2.toInt = (q : Int)) (hpre1 : a3.toInt = (q : Int) + ln) (hpre2 : q + ln ≤ N) (hpre3 : ln ≤ 7) (hpre4 : ∀ i : Nat, i < ln → isLt (b (q + i))) (gBY0 : BY σ0 b N) : ∀ n : Nat, J_X8_wordIn_s1_v_3 p l e s m args below meth c D cA ad σ0 τ0 a2 a3 b N q ln n := by
  intro n
  induction n with
  | zero =>
    exact (by intro σ τ H locs x4 ls hR hF hFL hP hS hc0 hi0 gBY hl hm; exfalso; omega)
  | succ n ih =>
    exact B_X8_wordIn_s1_v_3 p l e s m args below meth c D cA ad σ0 τ0 a2 a3 b N q ln n C ha2 ha3 hpre0 hpre1 hpre2 hpre3 hpre4 gBY0 ih
set_option maxHeartbeats 4000000 in
theorem c_X8_wordIn_s1_v (l : Launch) (D : va_G) (cA : Nat → ClassId) (ad : Nat → Nat) (hI : Inj ad) (σ0 : Nat → Nat → Int32) (τ0 : Nat → Nat → Int64) (hR : Rg σ0) (a2 : Int32) (a3 : Int32) (b : Nat → Int) (N : Nat) (q : Nat) (ln : Nat) (ha2 : 0 ≤ a2.toInt ∧ a2.toInt ≤ 899) (ha3 : 0 ≤ a3.toInt ∧ a3.toInt ≤ 940) (hpre0 : a2.toInt = (q : Int)) (hpre1 : a3.toInt = (q : Int) + ln) (hpre2 : q + ln ≤ N) (hpre3 : ln ≤ 7) (hpre4 : ∀ i : Nat, i < ln → isLt (b (q + i))) (gBY0 : BY σ0 b N) : Met l yX8_wordIn wsX8_wordIn ({ frames := 5, cells := 0, slots := 0, locals := 111 } : Room) (WQc D cA ad [.ref (ad 1), .ref (ad 408), .int a2, .int a3] σ0 τ0) (va_Qi (fun (r : Int32) (u : SS) => P_X8_wordIn_s1_v σ0 τ0 a2 a3 b N q ln r u.1 u.2) (WB D cA ad) (AA ad)) 0 0 (AA ad) := by
  refine Met.ofW (cc := cX8_wordIn) (maxL := 5) (ret := (some .int)) (by decide) rfl ?_
  intro p e s m args below meth c s₁ B hml hv
  obtain ⟨rfl, hP, hK, hN⟩ := hv
  have C : Cy p s m _ meth c cX8_wordIn 5 wsX8_wordIn RX8 D cA ad (some .int) := ⟨B.exec, B.bytes, hml, findClass_of_methodNamed B.named, atoms_spec (ws := wsX8_wordIn) B.pre, hK, B.notSynchronized, B.returns, hI, hN⟩
  have hl := lv_entry ([.ref (ad 1), .ref (ad 408), .int a2, .int a3]) (n := 5) (Nat.le_of_ble_eq_true rfl)
  rw [lg_entry_eq]
  generalize (lg_sl ([.ref (ad 1), .ref (ad 408), .int a2, .int a3]) ++ List.replicate (5 - (lg_sl ([.ref (ad 1), .ref (ad 408), .int a2, .int a3])).length) Slot.unset).toArray = ls at hl ⊢
  have hl : lv_has ls 5 [(0, .ref (ad 1)), (1, .ref (ad 408)), (2, .int a2), (3, .int a3)] := hl
  have hS : va_S (AA ad) s.heap s.heap [] := va_S.rf
  have hF : Fr L_X8_wordIn_s1_v σ0 σ0 := Fr.rf
  have hFL : FrL LL_X8_wordIn_s1_v τ0 τ0 := FrL.rf
  have gBY := gBY0
  have hA := A_X8_wordIn_s1_v p l e s m _ below meth c D cA ad σ0 τ0 a2 a3 b N q ln C ha2 ha3 hpre0 hpre1 hpre2 hpre3 hpre4 gBY0 34
  have K3 := hA
  clear hA
  obtain ⟨hx, hb, _, hown, hts, _, hk, hr, _, _⟩ := C
  refine r_iconst hx hb dX8_wordIn_0 (by decide) (fun z1 ez1 => ?_)
  refine lv_istore (lv' := [(4, .int z1), (0, .ref (ad 1)), (1, .ref (ad 408)), (2, .int a2), (3, .int a3)]) hx hb dX8_wordIn_1 hl (by decide) rfl (fun ls hl => ?_)
  exact K3 σ0 τ0 s.heap [] z1 ls hR hF hFL hP hS (by omega) (by first | exact (fun w hw => absurd hw (by omega)) | exact allS hi0 (hw.resolve_left (fun c => by omega)).2 (by omega) (by omega)) gBY (lv_sub hl [1, 2, 3, 4, 0] rfl) (by omega)
abbrev L_J0_coder_7d493_s2 : List Rc := []
abbrev LL_J0_coder_7d493_s2 : List Rc := []
def P_J0_coder_7d493_s2 (σ0 : Nat → Nat → Int32) (τ0 : Nat → Nat → Int64)  (r : Int32) (σ : Nat → Nat → Int32) (τ : Nat → Nat → Int64) : Prop := Rg σ ∧ Fr L_J0_coder_7d493_s2 σ0 σ ∧ FrL LL_J0_coder_7d493_s2 τ0 τ ∧ (0 ≤ r.toInt ∧ r.toInt ≤ 0)
set_option maxHeartbeats 4000000 in
theorem c_J0_coder_7d493_s2 (l : Launch) (D : va_G) (cA : Nat → ClassId) (ad : Nat → Nat) (hI : Inj ad) (σ0 : Nat → Nat → Int32) (τ0 : Nat → Nat → Int64) (hR : Rg σ0)   : Met l yJ0_coder_7d493 wsJ0_coder_7d493 ({ frames := 0, cells := 0, slots := 0, locals := 0 } : Room) (WQc D cA ad [.ref (ad 409)] σ0 τ0) (va_Qi (fun (r : Int32) (u : SS) => P_J0_coder_7d493_s2 σ0 τ0 r u.1 u.2) (WB D cA ad) (AA ad)) 0 0 (AA ad) := by
  refine Met.ofW (cc := cJ0_coder_7d493) (maxL := 1) (ret := (some .byte)) (by decide) rfl ?_
  intro p e s m args below meth c s₁ B hml hv
  obtain ⟨rfl, hP, hK, hN⟩ := hv
  have C : Cy p s m _ meth c cJ0_coder_7d493 1 wsJ0_coder_7d493 RJ0 D cA ad (some .byte) := ⟨B.exec, B.bytes, hml, findClass_of_methodNamed B.named, atoms_spec (ws := wsJ0_coder_7d493) B.pre, hK, B.notSynchronized, B.returns, hI, hN⟩
  have hl := lv_entry ([.ref (ad 409)]) (n := 1) (Nat.le_of_ble_eq_true rfl)
  rw [lg_entry_eq]
  generalize (lg_sl ([.ref (ad 409)]) ++ List.replicate (1 - (lg_sl ([.ref (ad 409)])).length) Slot.unset).toArray = ls at hl ⊢
  have hl : lv_has ls 1 [(0, .ref (ad 409))] := hl
  have hS : va_S (AA ad) s.heap s.heap [] := va_S.rf
  have hF : Fr L_J0_coder_7d493_s2 σ0 σ0 := Fr.rf
  have hFL : FrL LL_J0_coder_7d493_s2 τ0 τ0 := FrL.rf
  obtain ⟨hx, hb, _, hown, hts, _, hk, hr, _, _⟩ := C
  refine sz_cs hx hb hN hS hown (hts _ lk_J0_coder_7d493_38) dJ0_coder_7d493_0 (fun z1 ez1 => ?_)
  refine r_if_eq (tgt := 13) hx hb dJ0_coder_7d493_3 (by decide) (fun c2 => ?_) (fun c2 => ?_)
  · exfalso; omega
  · refine lv_aload_n hx hb dJ0_coder_7d493_6 rfl (lv_at hl 0 rfl) ?_
    refine sc_2 hx hb hN hS hown (hts _ lk_J0_coder_7d493_15) dJ0_coder_7d493_7 (fun z3 ez3 => ?_)
    refine lv_goto (tgt := 14) hx hb dJ0_coder_7d493_10 (by decide) ?_
    exact r_bret hx hb hr hK hP hS hk (by omega) dJ0_coder_7d493_14 (show P_J0_coder_7d493_s2 σ0 τ0 z3 σ0 τ0 from ⟨hR, hF, hFL, by omega⟩)
abbrev L_J0_length_8abf5_s2 : List Rc := []
abbrev LL_J0_length_8abf5_s2 : List Rc := []
def P_J0_length_8abf5_s2 (σ0 : Nat → Nat → Int32) (τ0 : Nat → Nat → Int64)  (r : Int32) (σ : Nat → Nat → Int32) (τ : Nat → Nat → Int64) : Prop := Rg σ ∧ Fr L_J0_length_8abf5_s2 σ0 σ ∧ FrL LL_J0_length_8abf5_s2 τ0 τ ∧ (77 ≤ r.toInt ∧ r.toInt ≤ 77)
set_option maxHeartbeats 4000000 in
theorem c_J0_length_8abf5_s2 (l : Launch) (D : va_G) (cA : Nat → ClassId) (ad : Nat → Nat) (hI : Inj ad) (σ0 : Nat → Nat → Int32) (τ0 : Nat → Nat → Int64) (hR : Rg σ0)   : Met l yJ0_length_8abf5 wsJ0_length_8abf5 ({ frames := 1, cells := 0, slots := 0, locals := 20 } : Room) (WQc D cA ad [.ref (ad 409)] σ0 τ0) (va_Qi (fun (r : Int32) (u : SS) => P_J0_length_8abf5_s2 σ0 τ0 r u.1 u.2) (WB D cA ad) (AA ad)) 0 0 (AA ad) := by
  refine Met.ofW (cc := cJ0_length_8abf5) (maxL := 1) (ret := (some .int)) (by decide) rfl ?_
  intro p e s m args below meth c s₁ B hml hv
  obtain ⟨rfl, hP, hK, hN⟩ := hv
  have C : Cy p s m _ meth c cJ0_length_8abf5 1 wsJ0_length_8abf5 RJ0 D cA ad (some .int) := ⟨B.exec, B.bytes, hml, findClass_of_methodNamed B.named, atoms_spec (ws := wsJ0_length_8abf5) B.pre, hK, B.notSynchronized, B.returns, hI, hN⟩
  have hl := lv_entry ([.ref (ad 409)]) (n := 1) (Nat.le_of_ble_eq_true rfl)
  rw [lg_entry_eq]
  generalize (lg_sl ([.ref (ad 409)]) ++ List.replicate (1 - (lg_sl ([.ref (ad 409)])).length) Slot.unset).toArray = ls at hl ⊢
  have hl : lv_has ls 1 [(0, .ref (ad 409))] := hl
  have hS : va_S (AA ad) s.heap s.heap [] := va_S.rf
  have hF : Fr L_J0_length_8abf5_s2 σ0 σ0 := Fr.rf
  have hFL : FrL LL_J0_length_8abf5_s2 τ0 τ0 := FrL.rf
  obtain ⟨hx, hb, _, hown, hts, _, hk, hr, _, _⟩ := C
  refine lv_aload_n hx hb dJ0_length_8abf5_0 rfl (lv_at hl 0 rfl) ?_
  refine sv_2 hx hb hN hS hown (hts _ lk_J0_length_8abf5_9) dJ0_length_8abf5_1 ?_
  refine sl_2 hx hb hN hS dJ0_length_8abf5_4 (fun z1 ez1 => ?_)
  refine lv_aload_n hx hb dJ0_length_8abf5_5 rfl (lv_at hl 0 rfl) ?_
  refine r_cVi (k := 409) (As := []) (rest := [.int z1]) ⟨hx, hb, hml, hown, hts⟩ hK hP hN hS (c_J0_coder_7d493_s2 l D cA ad hI σ0 τ0 hR) (cwV 0 hts gJ0_length_8abf5_J0_coder_7d493 rfl rfl rfl (by decide +kernel) ⟨by decide, by decide⟩) (so_2 hN hS) rfl hl.1 rfl (Nat.le_of_ble_eq_true rfl) dJ0_length_8abf5_6 (Nat.zero_le _) (Nat.zero_le _) (fun r2 u2 H2 locs2 hp2 hP hS => ?_)
  obtain ⟨σ2, τ2⟩ := u2
  obtain ⟨hR, f2, fL2, hq2⟩ : P_J0_coder_7d493_s2 σ0 τ0 r2 σ2 τ2 := hp2
  have hP : va_P D vwCl (gw cA ad σ2 τ2) H2 := hP
  obtain rfl := FrL.nil fL2
  obtain rfl := Fr.nil f2
  refine r_ishr0 hx hb dJ0_length_8abf5_9 (by omega) (fun z3 ez3 => ?_)
  exact r_iret hx hb hr hK hP hS hk dJ0_length_8abf5_10 (show P_J0_length_8abf5_s2 σ0 τ0 z3 σ0 τ0 from ⟨hR, hF, hFL, by omega⟩)
abbrev L_J0_isLatin1_aae02_s2 : List Rc := []
abbrev LL_J0_isLatin1_aae02_s2 : List Rc := []
def P_J0_isLatin1_aae02_s2 (σ0 : Nat → Nat → Int32) (τ0 : Nat → Nat → Int64)  (r : Int32) (σ : Nat → Nat → Int32) (τ : Nat → Nat → Int64) : Prop := Rg σ ∧ Fr L_J0_isLatin1_aae02_s2 σ0 σ ∧ FrL LL_J0_isLatin1_aae02_s2 τ0 τ ∧ (1 ≤ r.toInt ∧ r.toInt ≤ 1)
set_option maxHeartbeats 4000000 in
theorem c_J0_isLatin1_aae02_s2 (l : Launch) (D : va_G) (cA : Nat → ClassId) (ad : Nat → Nat) (hI : Inj ad) (σ0 : Nat → Nat → Int32) (τ0 : Nat → Nat → Int64) (hR : Rg σ0)   : Met l yJ0_isLatin1_aae02 wsJ0_isLatin1_aae02 ({ frames := 0, cells := 0, slots := 0, locals := 0 } : Room) (WQc D cA ad [.ref (ad 409)] σ0 τ0) (va_Qi (fun (r : Int32) (u : SS) => P_J0_isLatin1_aae02_s2 σ0 τ0 r u.1 u.2) (WB D cA ad) (AA ad)) 0 0 (AA ad) := by
  refine Met.ofW (cc := cJ0_isLatin1_aae02) (maxL := 1) (ret := (some .boolean)) (by decide) rfl ?_
  intro p e s m args below meth c s₁ B hml hv
  obtain ⟨rfl, hP, hK, hN⟩ := hv
  have C : Cy p s m _ meth c cJ0_isLatin1_aae02 1 wsJ0_isLatin1_aae02 RJ0 D cA ad (some .boolean) := ⟨B.exec, B.bytes, hml, findClass_of_methodNamed B.named, atoms_spec (ws := wsJ0_isLatin1_aae02) B.pre, hK, B.notSynchronized, B.returns, hI, hN⟩
  have hl := lv_entry ([.ref (ad 409)]) (n := 1) (Nat.le_of_ble_eq_true rfl)
  rw [lg_entry_eq]
  generalize (lg_sl ([.ref (ad 409)]) ++ List.replicate (1 - (lg_sl ([.ref (ad 409)])).length) Slot.unset).toArray = ls at hl ⊢
  have hl : lv_has ls 1 [(0, .ref (ad 409))] := hl
  have hS : va_S (AA ad) s.heap s.heap [] := va_S.rf
  have hF : Fr L_J0_isLatin1_aae02_s2 σ0 σ0 := Fr.rf
  have hFL : FrL LL_J0_isLatin1_aae02_s2 τ0 τ0 := FrL.rf
  obtain ⟨hx, hb, _, hown, hts, _, hk, hr, _, _⟩ := C
  refine sz_cs hx hb hN hS hown (hts _ lk_J0_isLatin1_aae02_38) dJ0_isLatin1_aae02_0 (fun z1 ez1 => ?_)
  refine r_if_eq (tgt := 17) hx hb dJ0_isLatin1_aae02_3 (by decide) (fun c2 => ?_) (fun c2 => ?_)
  · exfalso; omega
  · refine lv_aload_n hx hb dJ0_isLatin1_aae02_6 rfl (lv_at hl 0 rfl) ?_
    refine sc_2 hx hb hN hS hown (hts _ lk_J0_isLatin1_aae02_15) dJ0_isLatin1_aae02_7 (fun z3 ez3 => ?_)
    refine r_if_ne (tgt := 17) hx hb dJ0_isLatin1_aae02_10 (by decide) (fun c4 => ?_) (fun c4 => ?_)
    · exfalso; omega
    · refine r_iconst hx hb dJ0_isLatin1_aae02_13 (by decide) (fun z5 ez5 => ?_)
      refine lv_goto (tgt := 18) hx hb dJ0_isLatin1_aae02_14 (by decide) ?_
      exact r_zret hx hb hr hK hP hS hk (by omega) dJ0_isLatin1_aae02_18 (show P_J0_isLatin1_aae02_s2 σ0 τ0 z5 σ0 τ0 from ⟨hR, hF, hFL, by omega⟩)
abbrev L_J3_checkIndex_8e157_l77_n : List Rc := []
abbrev LL_J3_checkIndex_8e157_l77_n : List Rc := []
def P_J3_checkIndex_8e157_l77_n (σ0 : Nat → Nat → Int32) (τ0 : Nat → Nat → Int64) (a0 : Int32) (a1 : Int32) (r : Int32) (σ : Nat → Nat → Int32) (τ : Nat → Nat → Int64) : Prop := Rg σ ∧ Fr L_J3_checkIndex_8e157_l77_n σ0 σ ∧ FrL LL_J3_checkIndex_8e157_l77_n τ0 τ ∧ (0 ≤ r.toInt ∧ r.toInt ≤ 76)
set_option maxHeartbeats 4000000 in
theorem c_J3_checkIndex_8e157_l77_n (l : Launch) (D : va_G) (cA : Nat → ClassId) (ad : Nat → Nat) (hI : Inj ad) (σ0 : Nat → Nat → Int32) (τ0 : Nat → Nat → Int64) (hR : Rg σ0) (a0 : Int32) (a1 : Int32) (ha0 : 0 ≤ a0.toInt ∧ a0.toInt ≤ 76) (ha1 : 77 ≤ a1.toInt ∧ a1.toInt ≤ 77) : Met l yJ3_checkIndex_8e157 wsJ3_checkIndex_8e157 ({ frames := 0, cells := 0, slots := 0, locals := 0 } : Room) (WQc D cA ad [.int a0, .int a1, .null] σ0 τ0) (va_Qi (fun (r : Int32) (u : SS) => P_J3_checkIndex_8e157_l77_n σ0 τ0 a0 a1 r u.1 u.2) (WB D cA ad) (AA ad)) 0 0 (AA ad) := by
  refine Met.ofW (cc := cJ3_checkIndex_8e157) (maxL := 3) (ret := (some .int)) (by decide) rfl ?_
  intro p e s m args below meth c s₁ B hml hv
  obtain ⟨rfl, hP, hK, hN⟩ := hv
  have C : Cy p s m _ meth c cJ3_checkIndex_8e157 3 wsJ3_checkIndex_8e157 RJ3 D cA ad (some .int) := ⟨B.exec, B.bytes, hml, findClass_of_methodNamed B.named, atoms_spec (ws := wsJ3_checkIndex_8e157) B.pre, hK, B.notSynchronized, B.returns, hI, hN⟩
  have hl := lv_entry ([.int a0, .int a1, .null]) (n := 3) (Nat.le_of_ble_eq_true rfl)
  rw [lg_entry_eq]
  generalize (lg_sl ([.int a0, .int a1, .null]) ++ List.replicate (3 - (lg_sl ([.int a0, .int a1, .null])).length) Slot.unset).toArray = ls at hl ⊢
  have hl : lv_has ls 3 [(0, .int a0), (1, .int a1), (2, .null)] := hl
  have hS : va_S (AA ad) s.heap s.heap [] := va_S.rf
  have hF : Fr L_J3_checkIndex_8e157_l77_n σ0 σ0 := Fr.rf
  have hFL : FrL LL_J3_checkIndex_8e157_l77_n τ0 τ0 := FrL.rf
  obtain ⟨hx, hb, _, hown, hts, _, hk, hr, _, _⟩ := C
  refine lv_iload_n hx hb dJ3_checkIndex_8e157_0 rfl (lv_at hl 0 rfl) ?_
  refine r_if_lt (tgt := 9) hx hb dJ3_checkIndex_8e157_1 (by decide) (fun c1 => ?_) (fun c1 => ?_)
  · exfalso; omega
  · refine lv_iload_n hx hb dJ3_checkIndex_8e157_4 rfl (lv_at hl 0 rfl) ?_
    refine lv_iload_n hx hb dJ3_checkIndex_8e157_5 rfl (lv_at hl 1 rfl) ?_
    refine r_icmp_lt (tgt := 16) hx hb dJ3_checkIndex_8e157_6 (by decide) (fun c2 => ?_) (fun c2 => ?_)
    · refine lv_iload_n hx hb dJ3_checkIndex_8e157_16 rfl (lv_at hl 0 rfl) ?_
      exact r_iret hx hb hr hK hP hS hk dJ3_checkIndex_8e157_17 (show P_J3_checkIndex_8e157_l77_n σ0 τ0 a0 a1 a0 σ0 τ0 from ⟨hR, hF, hFL, by omega⟩)
    · exfalso; omega
abbrev L_J3_checkIndex_8e157_l77_t : List Rc := []
abbrev LL_J3_checkIndex_8e157_l77_t : List Rc := []
def P_J3_checkIndex_8e157_l77_t (σ0 : Nat → Nat → Int32) (τ0 : Nat → Nat → Int64) (a0 : Int32) (a1 : Int32) (a2 : Nat) (r : Int32) (σ : Nat → Nat → Int32) (τ : Nat → Nat → Int64) : Prop := Rg σ ∧ Fr L_J3_checkIndex_8e157_l77_t σ0 σ ∧ FrL LL_J3_checkIndex_8e157_l77_t τ0 τ ∧ (0 ≤ r.toInt ∧ r.toInt ≤ 76)
set_option maxHeartbeats 4000000 in
theorem c_J3_checkIndex_8e157_l77_t (l : Launch) (D : va_G) (cA : Nat → ClassId) (ad : Nat → Nat) (hI : Inj ad) (σ0 : Nat → Nat → Int32) (τ0 : Nat → Nat → Int64) (hR : Rg σ0) (a0 : Int32) (a1 : Int32) (a2 : Nat) (ha0 : 0 ≤ a0.toInt ∧ a0.toInt ≤ 76) (ha1 : 77 ≤ a1.toInt ∧ a1.toInt ≤ 77) : Met l yJ3_checkIndex_8e157 wsJ3_checkIndex_8e157 ({ frames := 0, cells := 0, slots := 0, locals := 0 } : Room) (WQc D cA ad [.int a0, .int a1, .ref a2] σ0 τ0) (va_Qi (fun (r : Int32) (u : SS) => P_J3_checkIndex_8e157_l77_t σ0 τ0 a0 a1 a2 r u.1 u.2) (WB D cA ad) (AA ad)) 0 0 (AA ad) := by
  refine Met.ofW (cc := cJ3_checkIndex_8e157) (maxL := 3) (ret := (some .int)) (by decide) rfl ?_
  intro p e s m args below meth c s₁ B hml hv
  obtain ⟨rfl, hP, hK, hN⟩ := hv
  have C : Cy p s m _ meth c cJ3_checkIndex_8e157 3 wsJ3_checkIndex_8e157 RJ3 D cA ad (some .int) := ⟨B.exec, B.bytes, hml, findClass_of_methodNamed B.named, atoms_spec (ws := wsJ3_checkIndex_8e157) B.pre, hK, B.notSynchronized, B.returns, hI, hN⟩
  have hl := lv_entry ([.int a0, .int a1, .ref a2]) (n := 3) (Nat.le_of_ble_eq_true rfl)
  rw [lg_entry_eq]
  generalize (lg_sl ([.int a0, .int a1, .ref a2]) ++ List.replicate (3 - (lg_sl ([.int a0, .int a1, .ref a2])).length) Slot.unset).toArray = ls at hl ⊢
  have hl : lv_has ls 3 [(0, .int a0), (1, .int a1), (2, .ref a2)] := hl
  have hS : va_S (AA ad) s.heap s.heap [] := va_S.rf
  have hF : Fr L_J3_checkIndex_8e157_l77_t σ0 σ0 := Fr.rf
  have hFL : FrL LL_J3_checkIndex_8e157_l77_t τ0 τ0 := FrL.rf
  obtain ⟨hx, hb, _, hown, hts, _, hk, hr, _, _⟩ := C
  refine lv_iload_n hx hb dJ3_checkIndex_8e157_0 rfl (lv_at hl 0 rfl) ?_
  refine r_if_lt (tgt := 9) hx hb dJ3_checkIndex_8e157_1 (by decide) (fun c1 => ?_) (fun c1 => ?_)
  · exfalso; omega
  · refine lv_iload_n hx hb dJ3_checkIndex_8e157_4 rfl (lv_at hl 0 rfl) ?_
    refine lv_iload_n hx hb dJ3_checkIndex_8e157_5 rfl (lv_at hl 1 rfl) ?_
    refine r_icmp_lt (tgt := 16) hx hb dJ3_checkIndex_8e157_6 (by decide) (fun c2 => ?_) (fun c2 => ?_)
    · refine lv_iload_n hx hb dJ3_checkIndex_8e157_16 rfl (lv_at hl 0 rfl) ?_
      exact r_iret hx hb hr hK hP hS hk dJ3_checkIndex_8e157_17 (show P_J3_checkIndex_8e157_l77_t σ0 τ0 a0 a1 a2 a0 σ0 τ0 from ⟨hR, hF, hFL, by omega⟩)
    · exfalso; omega
abbrev L_J0_checkIndex_df160_l77 : List Rc := []
abbrev LL_J0_checkIndex_df160_l77 : List Rc := []
def P_J0_checkIndex_df160_l77 (σ0 : Nat → Nat → Int32) (τ0 : Nat → Nat → Int64) (a0 : Int32) (a1 : Int32) (σ : Nat → Nat → Int32) (τ : Nat → Nat → Int64) : Prop := Rg σ ∧ Fr L_J0_checkIndex_df160_l77 σ0 σ ∧ FrL LL_J0_checkIndex_df160_l77 τ0 τ
set_option maxHeartbeats 4000000 in
theorem c_J0_checkIndex_df160_l77 (l : Launch) (D : va_G) (cA : Nat → ClassId) (ad : Nat → Nat) (hI : Inj ad) (σ0 : Nat → Nat → Int32) (τ0 : Nat → Nat → Int64) (hR : Rg σ0) (a0 : Int32) (a1 : Int32) (ha0 : 0 ≤ a0.toInt ∧ a0.toInt ≤ 76) (ha1 : 77 ≤ a1.toInt ∧ a1.toInt ≤ 77) : Met l yJ0_checkIndex_df160 wsJ0_checkIndex_df160 ({ frames := 1, cells := 0, slots := 0, locals := 22 } : Room) (WQc D cA ad [.int a0, .int a1] σ0 τ0) (va_Qv (fun u : SS => P_J0_checkIndex_df160_l77 σ0 τ0 a0 a1 u.1 u.2) (WB D cA ad) (AA ad)) 0 0 (AA ad) := by
  refine Met.ofW (cc := cJ0_checkIndex_df160) (maxL := 2) (ret := none) (by decide) rfl ?_
  intro p e s m args below meth c s₁ B hml hv
  obtain ⟨rfl, hP, hK, hN⟩ := hv
  have C : Cy p s m _ meth c cJ0_checkIndex_df160 2 wsJ0_checkIndex_df160 RJ0 D cA ad none := ⟨B.exec, B.bytes, hml, findClass_of_methodNamed B.named, atoms_spec (ws := wsJ0_checkIndex_df160) B.pre, hK, B.notSynchronized, B.returns, hI, hN⟩
  have hl := lv_entry ([.int a0, .int a1]) (n := 2) (Nat.le_of_ble_eq_true rfl)
  rw [lg_entry_eq]
  generalize (lg_sl ([.int a0, .int a1]) ++ List.replicate (2 - (lg_sl ([.int a0, .int a1])).length) Slot.unset).toArray = ls at hl ⊢
  have hl : lv_has ls 2 [(0, .int a0), (1, .int a1)] := hl
  have hS : va_S (AA ad) s.heap s.heap [] := va_S.rf
  have hF : Fr L_J0_checkIndex_df160_l77 σ0 σ0 := Fr.rf
  have hFL : FrL LL_J0_checkIndex_df160_l77 τ0 τ0 := FrL.rf
  obtain ⟨hx, hb, _, hown, hts, _, hk, hr, _, _⟩ := C
  refine lv_iload_n hx hb dJ0_checkIndex_df160_0 rfl (lv_at hl 0 rfl) ?_
  refine lv_iload_n hx hb dJ0_checkIndex_df160_1 rfl (lv_at hl 1 rfl) ?_
  refine sz_fm hx hb hN hS hown (hts _ lk_J0_checkIndex_df160_1053) dJ0_checkIndex_df160_2 ?_ (fun t1 => ?_)
  · refine r_cSi (As := [.int a0, .int a1, .null]) (rest := []) ⟨hx, hb, hml, hown, hts⟩ hK hP hN hS (c_J3_checkIndex_8e157_l77_n l D cA ad hI σ0 τ0 hR a0 a1 (by omega) (by omega)) (va_cwS 3 hts gJ0_checkIndex_df160_J3_checkIndex_8e157 rfl rfl rfl (by decide +kernel) ⟨by decide, by decide⟩) rfl hl.1 rfl (Nat.le_of_ble_eq_true rfl) dJ0_checkIndex_df160_5 (Nat.zero_le _) (Nat.zero_le _) (fun r2 u2 H2 locs2 hp2 hP hS => ?_)
    obtain ⟨σ2, τ2⟩ := u2
    obtain ⟨hR, f2, fL2, hq2⟩ : P_J3_checkIndex_8e157_l77_n σ0 τ0 a0 a1 r2 σ2 τ2 := hp2
    have hP : va_P D vwCl (gw cA ad σ2 τ2) H2 := hP
    obtain rfl := FrL.nil fL2
    obtain rfl := Fr.nil f2
    refine lv_pop hx hb dJ0_checkIndex_df160_8 rfl ?_
    exact r_vret hx hb hr hK hP hS hk dJ0_checkIndex_df160_9 (show P_J0_checkIndex_df160_l77 σ0 τ0 a0 a1 σ0 τ0 from ⟨hR, hF, hFL⟩)
  · refine r_cSi (As := [.int a0, .int a1, .ref t1]) (rest := []) ⟨hx, hb, hml, hown, hts⟩ hK hP hN hS (c_J3_checkIndex_8e157_l77_t l D cA ad hI σ0 τ0 hR a0 a1 t1 (by omega) (by omega)) (va_cwS 3 hts gJ0_checkIndex_df160_J3_checkIndex_8e157 rfl rfl rfl (by decide +kernel) ⟨by decide, by decide⟩) rfl hl.1 rfl (Nat.le_of_ble_eq_true rfl) dJ0_checkIndex_df160_5 (Nat.zero_le _) (Nat.zero_le _) (fun r3 u3 H3 locs3 hp3 hP hS => ?_)
    obtain ⟨σ3, τ3⟩ := u3
    obtain ⟨hR, f3, fL3, hq3⟩ : P_J3_checkIndex_8e157_l77_t σ0 τ0 a0 a1 t1 r3 σ3 τ3 := hp3
    have hP : va_P D vwCl (gw cA ad σ3 τ3) H3 := hP
    obtain rfl := FrL.nil fL3
    obtain rfl := Fr.nil f3
    refine lv_pop hx hb dJ0_checkIndex_df160_8 rfl ?_
    exact r_vret hx hb hr hK hP hS hk dJ0_checkIndex_df160_9 (show P_J0_checkIndex_df160_l77 σ0 τ0 a0 a1 σ0 τ0 from ⟨hR, hF, hFL⟩)
abbrev L_J1_charAt_3b067_s2 : List Rc := []
abbrev LL_J1_charAt_3b067_s2 : List Rc := []
def P_J1_charAt_3b067_s2 (σ0 : Nat → Nat → Int32) (τ0 : Nat → Nat → Int64) (a1 : Int32) (r : Int32) (σ : Nat → Nat → Int32) (τ : Nat → Nat → Int64) : Prop := Rg σ ∧ Fr L_J1_charAt_3b067_s2 σ0 σ ∧ FrL LL_J1_charAt_3b067_s2 τ0 τ ∧ (0 ≤ r.toInt ∧ r.toInt ≤ 255) ∧ (r.toInt = rowc (140 + a1.toInt.toNat))
set_option maxHeartbeats 4000000 in
theorem c_J1_charAt_3b067_s2 (l : Launch) (D : va_G) (cA : Nat → ClassId) (ad : Nat → Nat) (hI : Inj ad) (σ0 : Nat → Nat → Int32) (τ0 : Nat → Nat → Int64) (hR : Rg σ0) (a1 : Int32) (ha1 : 0 ≤ a1.toInt ∧ a1.toInt ≤ 76) : Met l yJ1_charAt_3b067 wsJ1_charAt_3b067 ({ frames := 2, cells := 0, slots := 0, locals := 43 } : Room) (WQc D cA ad [.ref (ad 416), .int a1] σ0 τ0) (va_Qi (fun (r : Int32) (u : SS) => P_J1_charAt_3b067_s2 σ0 τ0 a1 r u.1 u.2) (WB D cA ad) (AA ad)) 0 0 (AA ad) := by
  refine Met.ofW (cc := cJ1_charAt_3b067) (maxL := 2) (ret := (some .char)) (by decide) rfl ?_
  intro p e s m args below meth c s₁ B hml hv
  obtain ⟨rfl, hP, hK, hN⟩ := hv
  have C : Cy p s m _ meth c cJ1_charAt_3b067 2 wsJ1_charAt_3b067 RJ1 D cA ad (some .char) := ⟨B.exec, B.bytes, hml, findClass_of_methodNamed B.named, atoms_spec (ws := wsJ1_charAt_3b067) B.pre, hK, B.notSynchronized, B.returns, hI, hN⟩
  have hl := lv_entry ([.ref (ad 416), .int a1]) (n := 2) (Nat.le_of_ble_eq_true rfl)
  rw [lg_entry_eq]
  generalize (lg_sl ([.ref (ad 416), .int a1]) ++ List.replicate (2 - (lg_sl ([.ref (ad 416), .int a1])).length) Slot.unset).toArray = ls at hl ⊢
  have hl : lv_has ls 2 [(0, .ref (ad 416)), (1, .int a1)] := hl
  have hS : va_S (AA ad) s.heap s.heap [] := va_S.rf
  have hF : Fr L_J1_charAt_3b067_s2 σ0 σ0 := Fr.rf
  have hFL : FrL LL_J1_charAt_3b067_s2 τ0 τ0 := FrL.rf
  obtain ⟨hx, hb, _, hown, hts, _, hk, hr, _, _⟩ := C
  refine lv_iload_n hx hb dJ1_charAt_3b067_0 rfl (lv_at hl 1 rfl) ?_
  refine lv_aload_n hx hb dJ1_charAt_3b067_1 rfl (lv_at hl 0 rfl) ?_
  refine sl_2 hx hb hN hS dJ1_charAt_3b067_2 (fun z1 ez1 => ?_)
  refine r_cSv (As := [.int a1, .int z1]) (rest := []) ⟨hx, hb, hml, hown, hts⟩ hK hP hN hS (c_J0_checkIndex_df160_l77 l D cA ad hI σ0 τ0 hR a1 z1 (by omega) (by omega)) (va_cwS 2 hts gJ1_charAt_3b067_J0_checkIndex_df160 rfl rfl rfl (by decide +kernel) ⟨by decide, by decide⟩) rfl hl.1 rfl (Nat.le_of_ble_eq_true rfl) dJ1_charAt_3b067_3 (Nat.zero_le _) (Nat.zero_le _) (fun u2 H2 locs2 hp2 hP hS => ?_)
  obtain ⟨σ2, τ2⟩ := u2
  obtain ⟨hR, f2, fL2⟩ : P_J0_checkIndex_df160_l77 σ0 τ0 a1 z1 σ2 τ2 := hp2
  have hP : va_P D vwCl (gw cA ad σ2 τ2) H2 := hP
  obtain rfl := FrL.nil fL2
  obtain rfl := Fr.nil f2
  refine lv_aload_n hx hb dJ1_charAt_3b067_6 rfl (lv_at hl 0 rfl) ?_
  refine lv_iload_n hx hb dJ1_charAt_3b067_7 rfl (lv_at hl 1 rfl) ?_
  obtain ⟨j3, ej3⟩ : ∃ j : Nat, a1.toInt = (j : Int) := ⟨_, ti_nat (by omega)⟩
  refine sbE_2 (j := j3) hx hb hN hS ej3 (by omega) dJ1_charAt_3b067_8 (fun z4 ez4 => ?_)
  refine lv_sipush (v := 255) hx hb dJ1_charAt_3b067_9 (by decide) ?_
  have kcz5 : (255 : Int32).toInt = 255 := rfl
  have hzs := row_rg (140 + j3) (by omega)
  refine lv_iand hx hb dJ1_charAt_3b067_12 ?_
  have hza := ti_a255 (z := z4) (by omega)
  refine r_i2c hx hb dJ1_charAt_3b067_13 (by omega) (fun z6 ez6 => ?_)
  exact r_cret hx hb hr hK hP hS hk (by omega) dJ1_charAt_3b067_14 (show P_J1_charAt_3b067_s2 σ0 τ0 a1 z6 σ0 τ0 from ⟨hR, hF, hFL, by omega, by rw [show a1.toInt.toNat = j3 by omega]; omega⟩)
abbrev L_J0_charAt_5068e_s2 : List Rc := []
abbrev LL_J0_charAt_5068e_s2 : List Rc := []
def P_J0_charAt_5068e_s2 (σ0 : Nat → Nat → Int32) (τ0 : Nat → Nat → Int64) (a1 : Int32) (r : Int32) (σ : Nat → Nat → Int32) (τ : Nat → Nat → Int64) : Prop := Rg σ ∧ Fr L_J0_charAt_5068e_s2 σ0 σ ∧ FrL LL_J0_charAt_5068e_s2 τ0 τ ∧ (0 ≤ r.toInt ∧ r.toInt ≤ 255) ∧ (r.toInt = rowc (140 + a1.toInt.toNat))
set_option maxHeartbeats 4000000 in
theorem c_J0_charAt_5068e_s2 (l : Launch) (D : va_G) (cA : Nat → ClassId) (ad : Nat → Nat) (hI : Inj ad) (σ0 : Nat → Nat → Int32) (τ0 : Nat → Nat → Int64) (hR : Rg σ0) (a1 : Int32) (ha1 : 0 ≤ a1.toInt ∧ a1.toInt ≤ 76) : Met l yJ0_charAt_5068e wsJ0_charAt_5068e ({ frames := 3, cells := 0, slots := 0, locals := 64 } : Room) (WQc D cA ad [.ref (ad 409), .int a1] σ0 τ0) (va_Qi (fun (r : Int32) (u : SS) => P_J0_charAt_5068e_s2 σ0 τ0 a1 r u.1 u.2) (WB D cA ad) (AA ad)) 0 0 (AA ad) := by
  refine Met.ofW (cc := cJ0_charAt_5068e) (maxL := 2) (ret := (some .char)) (by decide) rfl ?_
  intro p e s m args below meth c s₁ B hml hv
  obtain ⟨rfl, hP, hK, hN⟩ := hv
  have C : Cy p s m _ meth c cJ0_charAt_5068e 2 wsJ0_charAt_5068e RJ0 D cA ad (some .char) := ⟨B.exec, B.bytes, hml, findClass_of_methodNamed B.named, atoms_spec (ws := wsJ0_charAt_5068e) B.pre, hK, B.notSynchronized, B.returns, hI, hN⟩
  have hl := lv_entry ([.ref (ad 409), .int a1]) (n := 2) (Nat.le_of_ble_eq_true rfl)
  rw [lg_entry_eq]
  generalize (lg_sl ([.ref (ad 409), .int a1]) ++ List.replicate (2 - (lg_sl ([.ref (ad 409), .int a1])).length) Slot.unset).toArray = ls at hl ⊢
  have hl : lv_has ls 2 [(0, .ref (ad 409)), (1, .int a1)] := hl
  have hS : va_S (AA ad) s.heap s.heap [] := va_S.rf
  have hF : Fr L_J0_charAt_5068e_s2 σ0 σ0 := Fr.rf
  have hFL : FrL LL_J0_charAt_5068e_s2 τ0 τ0 := FrL.rf
  obtain ⟨hx, hb, _, hown, hts, _, hk, hr, _, _⟩ := C
  refine lv_aload_n hx hb dJ0_charAt_5068e_0 rfl (lv_at hl 0 rfl) ?_
  refine r_cVi (k := 409) (As := []) (rest := []) ⟨hx, hb, hml, hown, hts⟩ hK hP hN hS (c_J0_isLatin1_aae02_s2 l D cA ad hI σ0 τ0 hR) (cwV 0 hts gJ0_charAt_5068e_J0_isLatin1_aae02 rfl rfl rfl (by decide +kernel) ⟨by decide, by decide⟩) (so_2 hN hS) rfl hl.1 rfl (Nat.le_of_ble_eq_true rfl) dJ0_charAt_5068e_1 (Nat.zero_le _) (Nat.zero_le _) (fun r1 u1 H1 locs1 hp1 hP hS => ?_)
  obtain ⟨σ1, τ1⟩ := u1
  obtain ⟨hR, f1, fL1, hq1⟩ : P_J0_isLatin1_aae02_s2 σ0 τ0 r1 σ1 τ1 := hp1
  have hP : va_P D vwCl (gw cA ad σ1 τ1) H1 := hP
  obtain rfl := FrL.nil fL1
  obtain rfl := Fr.nil f1
  refine r_if_eq (tgt := 16) hx hb dJ0_charAt_5068e_4 (by decide) (fun c2 => ?_) (fun c2 => ?_)
  · exfalso; omega
  · refine lv_aload_n hx hb dJ0_charAt_5068e_7 rfl (lv_at hl 0 rfl) ?_
    refine sv_2 hx hb hN hS hown (hts _ lk_J0_charAt_5068e_9) dJ0_charAt_5068e_8 ?_
    refine lv_iload_n hx hb dJ0_charAt_5068e_11 rfl (lv_at hl 1 rfl) ?_
    refine r_cSi (As := [.ref (ad 416), .int a1]) (rest := []) ⟨hx, hb, hml, hown, hts⟩ hK hP hN hS (c_J1_charAt_3b067_s2 l D cA ad hI σ0 τ0 hR a1 (by omega)) (va_cwS 2 hts gJ0_charAt_5068e_J1_charAt_3b067 rfl rfl rfl (by decide +kernel) ⟨by decide, by decide⟩) rfl hl.1 rfl (Nat.le_of_ble_eq_true rfl) dJ0_charAt_5068e_12 (Nat.zero_le _) (Nat.zero_le _) (fun r3 u3 H3 locs3 hp3 hP hS => ?_)
    obtain ⟨σ3, τ3⟩ := u3
    obtain ⟨hR, f3, fL3, hq3, hp3_0⟩ : P_J1_charAt_3b067_s2 σ0 τ0 a1 r3 σ3 τ3 := hp3
    have hP : va_P D vwCl (gw cA ad σ3 τ3) H3 := hP
    obtain rfl := FrL.nil fL3
    obtain rfl := Fr.nil f3
    exact r_cret hx hb hr hK hP hS hk (by omega) dJ0_charAt_5068e_15 (show P_J0_charAt_5068e_s2 σ0 τ0 a1 r3 σ0 τ0 from ⟨hR, hF, hFL, by omega, by omega⟩)
abbrev L_X8_isWord_s2_v : List Rc := []
abbrev LL_X8_isWord_s2_v : List Rc := []
def P_X8_isWord_s2_v (σ0 : Nat → Nat → Int32) (τ0 : Nat → Nat → Int64) (a2 : Int32) (a3 : Int32) (a4 : Int32) (b : Nat → Int) (N : Nat) (q : Nat) (ln : Nat) (r : Int32) (σ : Nat → Nat → Int32) (τ : Nat → Nat → Int64) : Prop := Rg σ ∧ Fr L_X8_isWord_s2_v σ0 σ ∧ FrL LL_X8_isWord_s2_v τ0 τ ∧ (0 ≤ r.toInt ∧ r.toInt ≤ 1) ∧ ((r.toInt = 1 ∧ fd 256 0 b q ln = RWl.getD (20 + a2.toInt.toNat) 0) ∨ (r.toInt = 0 ∧ fd 256 0 b q ln ≠ RWl.getD (20 + a2.toInt.toNat) 0)) ∧ BY σ b N
def J_X8_isWord_s2_v_3 (p : Program) (l : Launch) (e : Env) (s : State) (m : MethodId) (args : Array Value) (below : List Frame) (meth : Method) (c : Code) (D : va_G) (cA : Nat → ClassId) (ad : Nat → Nat) (σ0 : Nat → Nat → Int32) (τ0 : Nat → Nat → Int64) (a2 : Int32) (a3 : Int32) (a4 : Int32) (b : Nat → Int) (N : Nat) (q : Nat) (ln : Nat) (n : Nat) : Prop := ∀ (σ : Nat → Nat → Int32) (τ : Nat → Nat → Int64) (H : Heap) (locs : List Loc) (x5 : Int32) (ls : Array Slot), Rg σ → Fr L_X8_isWord_s2_v σ0 σ → FrL LL_X8_isWord_s2_v τ0 τ → va_P D vwCl (gw cA ad σ τ) H → va_S (AA ad) s.heap H locs → (0 ≤ x5.toInt ∧ x5.toInt ≤ 7) → (∀ i : Nat, (i : Int) < x5.toInt → chq b q ln i = rowc (7 * (20 + a2.toInt.toNat) + i)) → (BY σ b N) → lv_has ls 7 [(0, .ref (ad 1)), (1, .ref (ad 409)), (2, .int a2), (3, .int a3), (4, .int a4), (5, .int x5)] → 3 * (7 - x5.toInt) + 2 < (n : Int) → W p l e ({ frames := 4, cells := 0, slots := 0, locals := 85 } : Room) s m args below meth c H locs 0 0 (MQ below (va_Qi (fun (r : Int32) (u : SS) => P_X8_isWord_s2_v σ0 τ0 a2 a3 a4 b N q ln r u.1 u.2) (WB D cA ad) (AA ad)) args s 0 0 (AA ad)) (F0 m 3 ls [])
def J_X8_isWord_s2_v_32 (p : Program) (l : Launch) (e : Env) (s : State) (m : MethodId) (args : Array Value) (below : List Frame) (meth : Method) (c : Code) (D : va_G) (cA : Nat → ClassId) (ad : Nat → Nat) (σ0 : Nat → Nat → Int32) (τ0 : Nat → Nat → Int64) (a2 : Int32) (a3 : Int32) (a4 : Int32) (b : Nat → Int) (N : Nat) (q : Nat) (ln : Nat) (n : Nat) : Prop := ∀ (σ : Nat → Nat → Int32) (τ : Nat → Nat → Int64) (H : Heap) (locs : List Loc) (x5 : Int32) (w0 : Int32) (ls : Array Slot), Rg σ → Fr L_X8_isWord_s2_v σ0 σ → FrL LL_X8_isWord_s2_v τ0 τ → va_P D vwCl (gw cA ad σ τ) H → va_S (AA ad) s.heap H locs → (0 ≤ x5.toInt ∧ x5.toInt ≤ 6) → (0 ≤ w0.toInt ∧ w0.toInt ≤ 255) → (∀ i : Nat, (i : Int) < x5.toInt → chq b q ln i = rowc (7 * (20 + a2.toInt.toNat) + i)) → (w0.toInt = chq b q ln x5.toInt.toNat) → (BY σ b N) → lv_has ls 7 [(0, .ref (ad 1)), (1, .ref (ad 409)), (2, .int a2), (3, .int a3), (4, .int a4), (5, .int x5)] → 3 * (7 - x5.toInt) + 1 < (n : Int) → W p l e ({ frames := 4, cells := 0, slots := 0, locals := 85 } : Room) s m args below meth c H locs 0 0 (MQ below (va_Qi (fun (r : Int32) (u : SS) => P_X8_isWord_s2_v σ0 τ0 a2 a3 a4 b N q ln r u.1 u.2) (WB D cA ad) (AA ad)) args s 0 0 (AA ad)) (F0 m 32 ls [.int w0])
set_option maxHeartbeats 4000000 in
theorem B_X8_isWord_s2_v_3 (p : Program) (l : Launch) (e : Env) (s : State) (m : MethodId) (args : Array Value) (below : List Frame) (meth : Method) (c : Code) (D : va_G) (cA : Nat → ClassId) (ad : Nat → Nat) (σ0 : Nat → Nat → Int32) (τ0 : Nat → Nat → Int64) (a2 : Int32) (a3 : Int32) (a4 : Int32) (b : Nat → Int) (N : Nat) (q : Nat) (ln : Nat) (n : Nat) (C : Cy p s m args meth c cX8_isWord 7 wsX8_isWord RX8 D cA ad (some .boolean)) (ha2 : 0 ≤ a2.toInt ∧ a2.toInt ≤ 10) (ha3 : 0 ≤ a3.toInt ∧ a3.toInt ≤ 899) (ha4 : 0 ≤ a4.toInt ∧ a4.toInt ≤ 940) (hpre0 : a3.toInt = (q : Int)) (hpre1 : a4.toInt = (q : Int) + ln) (hpre2 : q + ln ≤ N) (hpre3 : ln ≤ 7) (hpre4 : ∀ i : Nat, i < ln → isLt (b (q + i))) (gBY0 : BY σ0 b N) (K3 : J_X8_isWord_s2_v_3 p l e s m args below meth c D cA ad σ0 τ0 a2 a3 a4 b N q ln n) (K32 : J_X8_isWord_s2_v_32 p l e s m args below meth c D cA ad σ0 τ0 a2 a3 a4 b N q ln n) : J_X8_isWord_s2_v_3 p l e s m args below meth c D cA ad σ0 τ0 a2 a3 a4 b N q ln (n + 1) := by
  obtain ⟨hx, hb, hml, hown, hts, hK, hk, hr, hI, hN⟩ := C
  intro σ τ H locs x5 ls hR hF hFL hP hS hc0 hi0 gBY hl hm
  obtain rfl := Fr.nil hF
  obtain rfl := FrL.nil hFL
  refine lv_iload hx hb dX8_isWord_3 (lv_at hl 5 rfl) ?_
  refine r_bipush hx hb dX8_isWord_5 (by decide) (fun z1 ez1 => ?_)
  refine r_icmp_ge (tgt := 58) hx hb dX8_isWord_7 (by decide) (fun c2 => ?_) (fun c2 => ?_)
  · refine r_iconst hx hb dX8_isWord_58 (by decide) (fun z3 ez3 => ?_)
    exact r_zret hx hb hr hK hP hS hk (by omega) dX8_isWord_59 (show P_X8_isWord_s2_v σ0 τ0 a2 a3 a4 b N q ln z3 σ0 τ0 from ⟨hR, hF, hFL, by omega, by first | exact Or.inl ⟨by omega, (WM_iff hpre4 hpre3 (by omega)).mp (fun i hi => hi0 i (by omega))⟩ | exact Or.inr ⟨by omega, fun h => absurd ((WM_iff hpre4 hpre3 (by omega)).mpr h x5.toInt.toNat (by omega)) (by omega)⟩, gBY⟩)
  · refine lv_iload_n hx hb dX8_isWord_10 rfl (lv_at hl 3 rfl) ?_
    refine lv_iload hx hb dX8_isWord_11 (lv_at hl 5 rfl) ?_
    refine r_iadd hx hb dX8_isWord_13 (by omega) (fun z4 ez4 => ?_)
    refine lv_iload hx hb dX8_isWord_14 (lv_at hl 4 rfl) ?_
    refine r_icmp_ge (tgt := 30) hx hb dX8_isWord_16 (by decide) (fun c5 => ?_) (fun c5 => ?_)
    · refine r_bipush hx hb dX8_isWord_30 (by decide) (fun z6 ez6 => ?_)
      exact K32 σ0 τ0 H locs x5 z6 ls hR hF hFL hP hS (by omega) (by omega) (by exact hi0) (by unfold chq; first | rw [if_neg (by omega)]; omega | rw [if_pos (by omega)]; exact hb24) gBY (lv_sub hl [0, 1, 2, 3, 4, 5] rfl) (by omega)
    · refine lv_aload_n hx hb dX8_isWord_19 rfl (lv_at hl 0 rfl) ?_
      refine lv_iload_n hx hb dX8_isWord_20 rfl (lv_at hl 3 rfl) ?_
      refine lv_iload hx hb dX8_isWord_21 (lv_at hl 5 rfl) ?_
      refine r_iadd hx hb dX8_isWord_23 (by omega) (fun z7 ez7 => ?_)
      refine r_cVi (k := 1) (As := [.int z7]) (rest := []) ⟨hx, hb, hml, hown, hts⟩ hK hP hN hS (c_X8_byteAt l D cA ad hI σ0 τ0 hR z7 (by omega)) (cwV 1 hts gX8_isWord_X8_byteAt rfl rfl rfl (by decide +kernel) ⟨by decide, by decide⟩) (rv_Tape hK hP (by decide) (by decide)) rfl hl.1 rfl (Nat.le_of_ble_eq_true rfl) dX8_isWord_24 (Nat.zero_le _) (Nat.zero_le _) (fun r8 u8 H8 locs8 hp8 hP hS => ?_)
      obtain ⟨σ8, τ8⟩ := u8
      obtain ⟨hR, f8, fL8, hq8, hp8_0⟩ : P_X8_byteAt σ0 τ0 z7 r8 σ8 τ8 := hp8
      have hP : va_P D vwCl (gw cA ad σ8 τ8) H8 := hP
      obtain rfl := FrL.nil fL8
      obtain rfl := Fr.nil f8
      have hb24 := BY.rd gBY (j := q + x5.toInt.toNat) hp8_0 (by omega) (by omega)
      refine lv_goto (tgt := 32) hx hb dX8_isWord_27 (by decide) ?_
      exact K32 σ0 τ0 H8 locs8 x5 r8 ls hR hF hFL hP hS (by omega) (by omega) (by exact hi0) (by unfold chq; first | rw [if_neg (by omega)]; omega | rw [if_pos (by omega)]; exact hb24) gBY (lv_sub hl [0, 1, 2, 3, 4, 5] rfl) (by omega)
set_option maxHeartbeats 4000000 in
theorem B_X8_isWord_s2_v_32 (p : Program) (l : Launch) (e : Env) (s : State) (m : MethodId) (args : Array Value) (below : List Frame) (meth : Method) (c : Code) (D : va_G) (cA : Nat → ClassId) (ad : Nat → Nat) (σ0 : Nat → Nat → Int32) (τ0 : Nat → Nat → Int64) (a2 : Int32) (a3 : Int32) (a4 : Int32) (b : Nat → Int) (N : Nat) (q : Nat) (ln : Nat) (n : Nat) (C : Cy p s m args meth c cX8_isWord 7 wsX8_isWord RX8 D cA ad (some .boolean)) (ha2 : 0 ≤ a2.toInt ∧ a2.toInt ≤ 10) (ha3 : 0 ≤ a3.toInt ∧ a3.toInt ≤ 899) (ha4 : 0 ≤ a4.toInt ∧ a4.toInt ≤ 940) (hpre0 : a3.toInt = (q : Int)) (hpre1 : a4.toInt = (q : Int) + ln) (hpre2 : q + ln ≤ N) (hpre3 : ln ≤ 7) (hpre4 : ∀ i : Nat, i < ln → isLt (b (q + i))) (gBY0 : BY σ0 b N) (K3 : J_X8_isWord_s2_v_3 p l e s m args below meth c D cA ad σ0 τ0 a2 a3 a4 b N q ln n) (K32 : J_X8_isWord_s2_v_32 p l e s m args below meth c D cA ad σ0 τ0 a2 a3 a4 b N q ln n) : J_X8_isWord_s2_v_32 p l e s m args below meth c D cA ad σ0 τ0 a2 a3 a4 b N q ln (n + 1) := by
  obtain ⟨hx, hb, hml, hown, hts, hK, hk, hr, hI, hN⟩ := C
  intro σ τ H locs x5 w0 ls hR hF hFL hP hS hc0 hc1 hi0 hi1 gBY hl hm
  obtain rfl := Fr.nil hF
  obtain rfl := FrL.nil hFL
  refine lv_istore (lv' := [(6, .int w0), (0, .ref (ad 1)), (1, .ref (ad 409)), (2, .int a2), (3, .int a3), (4, .int a4), (5, .int x5)]) hx hb dX8_isWord_32 hl (by decide) rfl (fun ls hl => ?_)
  refine lv_aload_n hx hb dX8_isWord_34 rfl (lv_at hl 2 rfl) ?_
  refine lv_iload_n hx hb dX8_isWord_35 rfl (lv_at hl 3 rfl) ?_
  refine r_bipush hx hb dX8_isWord_36 (by decide) (fun z1 ez1 => ?_)
  refine r_imulR (n := 7) hx hb dX8_isWord_38 (by omega) (by omega) (fun z2 ez2 => ?_)
  refine lv_iload hx hb dX8_isWord_39 (lv_at hl 6 rfl) ?_
  refine r_iadd hx hb dX8_isWord_41 (by omega) (fun z3 ez3 => ?_)
  refine r_cVi (k := 409) (As := [.int z3]) (rest := []) ⟨hx, hb, hml, hown, hts⟩ hK hP hN hS (c_J0_charAt_5068e_s2 l D cA ad hI σ0 τ0 hR z3 (by omega)) (cwV 1 hts gX8_isWord_J0_charAt_5068e rfl rfl rfl (by decide +kernel) ⟨by decide, by decide⟩) (so_2 hN hS) rfl hl.1 rfl (Nat.le_of_ble_eq_true rfl) dX8_isWord_42 (Nat.zero_le _) (Nat.zero_le _) (fun r4 u4 H4 locs4 hp4 hP hS => ?_)
  obtain ⟨σ4, τ4⟩ := u4
  obtain ⟨hR, f4, fL4, hq4, hp4_0⟩ : P_J0_charAt_5068e_s2 σ0 τ0 z3 r4 σ4 τ4 := hp4
  have hP : va_P D vwCl (gw cA ad σ4 τ4) H4 := hP
  obtain rfl := FrL.nil fL4
  obtain rfl := Fr.nil f4
  have hc42 := hp4_0.trans (congrArg rowc (show 140 + z3.toInt.toNat = 7 * (20 + a2.toInt.toNat) + x5.toInt.toNat by omega))
  refine lv_iload hx hb dX8_isWord_45 (lv_at hl 0 rfl) ?_
  refine r_icmp_eq (tgt := 52) hx hb dX8_isWord_47 (by decide) (fun c5 => ?_) (fun c5 => ?_)
  · refine r_iinc (k := 6) (lv1 := fun z6 => [(5, .int z6), (6, .int w0), (0, .ref (ad 1)), (1, .ref (ad 409)), (2, .int a2), (3, .int a3), (4, .int a4)]) hx hb dX8_isWord_52 hl rfl (by decide) (fun _ => rfl) (by decide) (by omega) (fun z6 ls ez6 hl => ?_)
    refine lv_goto (tgt := 3) hx hb dX8_isWord_55 (by decide) ?_
    exact K3 σ0 τ0 H4 locs4 z6 ls hR hF hFL hP hS (by omega) (by first | exact (fun i hi => absurd hi (by omega)) | exact allS hi0 (by omega) (by omega) (by omega)) gBY (lv_sub hl [2, 3, 4, 5, 6, 0] rfl) (by omega)
  · refine r_iconst hx hb dX8_isWord_50 (by decide) (fun z7 ez7 => ?_)
    exact r_zret hx hb hr hK hP hS hk (by omega) dX8_isWord_51 (show P_X8_isWord_s2_v σ0 τ0 a2 a3 a4 b N q ln z7 σ0 τ0 from ⟨hR, hF, hFL, by omega, by first | exact Or.inl ⟨by omega, (WM_iff hpre4 hpre3 (by omega)).mp (fun i hi => hi0 i (by omega))⟩ | exact Or.inr ⟨by omega, fun h => absurd ((WM_iff hpre4 hpre3 (by omega)).mpr h x5.toInt.toNat (by omega)) (by omega)⟩, gBY⟩)
theorem A_X8_isWord_s2_v (p : Program) (l : Launch) (e : Env) (s : State) (m : MethodId) (args : Array Value) (below : List Frame) (meth : Method) (c : Code) (D : va_G) (cA : Nat → ClassId) (ad : Nat → Nat) (σ0 : Nat → Nat → Int32) (τ0 : Nat → Nat → Int64) (a2 : Int32) (a3 : Int32) (a4 : Int32) (b : Nat → Int) (N : Nat) (q : Nat) (ln : Nat) (C : Cy p s m args meth c cX8_isWord 7 wsX8_isWord RX8 D cA ad (some .boolean)) (ha2 : 0 ≤ a2.toInt ∧ a2.toInt ≤ 10) (ha3 : 0 ≤ a3.toInt ∧ a3.toInt ≤ 899) (ha4 : 0 ≤ a4.toInt ∧ a4.toInt ≤ 940) (hpre0 : a3.toInt = (q : Int)) (hpre1 : a4.toInt = (q : Int) + ln) (hpre2 : q + ln ≤ N) (hpre3 : ln ≤ 7) (hpre4 : ∀ i : Nat, i < ln → isLt (b (q + i))) (gBY0 : BY σ0 b N) : ∀ n : Nat, J_X8_isWord_s2_v_3 p l e s m args below meth c D cA ad σ0 τ0 a2 a3 a4 b N q ln n ∧ J_X8_isWord_s2_v_32 p l e s m args below meth c D cA ad σ0 τ0 a2 a3 a4 b N q ln n := by
  intro n
  induction n with
  | zero =>
    exact ⟨(by intro σ τ H locs x5 ls hR hF hFL hP hS hc0 hi0 gBY hl hm; exfalso; omega), (by intro σ τ H locs x5 w0 ls hR hF hFL hP hS hc0 hc1 hi0 hi1 gBY hl hm; exfalso; omega)⟩
  | succ n ih =>
    exact ⟨B_X8_isWord_s2_v_3 p l e s m args below meth c D cA ad σ0 τ0 a2 a3 a4 b N q ln n C ha2 ha3 ha4 hpre0 hpre1 hpre2 hpre3 hpre4 gBY0 ih.1 ih.2, B_X8_isWord_s2_v_32 p l e s m args below meth c D cA ad σ0 τ0 a2 a3 a4 b N q ln n C ha2 ha3 ha4 hpre0 hpre1 hpre2 hpre3 hpre4 gBY0 ih.1 ih.2⟩
set_option maxHeartbeats 4000000 in
theorem c_X8_isWord_s2_v (l : Launch) (D : va_G) (cA : Nat → ClassId) (ad : Nat → Nat) (hI : Inj ad) (σ0 : Nat → Nat → Int32) (τ0 : Nat → Nat → Int64) (hR : Rg σ0) (a2 : Int32) (a3 : Int32) (a4 : Int32) (b : Nat → Int) (N : Nat) (q : Nat) (ln : Nat) (ha2 : 0 ≤ a2.toInt ∧ a2.toInt ≤ 10) (ha3 : 0 ≤ a3.toInt ∧ a3.toInt ≤ 899) (ha4 : 0 ≤ a4.toInt ∧ a4.toInt ≤ 940) (hpre0 : a3.toInt = (q : Int)) (hpre1 : a4.toInt = (q : Int) + ln) (hpre2 : q + ln ≤ N) (hpre3 : ln ≤ 7) (hpre4 : ∀ i : Nat, i < ln → isLt (b (q + i))) (gBY0 : BY σ0 b N) : Met l yX8_isWord wsX8_isWord ({ frames := 4, cells := 0, slots := 0, locals := 85 } : Room) (WQc D cA ad [.ref (ad 1), .ref (ad 409), .int a2, .int a3, .int a4] σ0 τ0) (va_Qi (fun (r : Int32) (u : SS) => P_X8_isWord_s2_v σ0 τ0 a2 a3 a4 b N q ln r u.1 u.2) (WB D cA ad) (AA ad)) 0 0 (AA ad) := by
  refine Met.ofW (cc := cX8_isWord) (maxL := 7) (ret := (some .boolean)) (by decide) rfl ?_
  intro p e s m args below meth c s₁ B hml hv
  obtain ⟨rfl, hP, hK, hN⟩ := hv
  have C : Cy p s m _ meth c cX8_isWord 7 wsX8_isWord RX8 D cA ad (some .boolean) := ⟨B.exec, B.bytes, hml, findClass_of_methodNamed B.named, atoms_spec (ws := wsX8_isWord) B.pre, hK, B.notSynchronized, B.returns, hI, hN⟩
  have hl := lv_entry ([.ref (ad 1), .ref (ad 409), .int a2, .int a3, .int a4]) (n := 7) (Nat.le_of_ble_eq_true rfl)
  rw [lg_entry_eq]
  generalize (lg_sl ([.ref (ad 1), .ref (ad 409), .int a2, .int a3, .int a4]) ++ List.replicate (7 - (lg_sl ([.ref (ad 1), .ref (ad 409), .int a2, .int a3, .int a4])).length) Slot.unset).toArray = ls at hl ⊢
  have hl : lv_has ls 7 [(0, .ref (ad 1)), (1, .ref (ad 409)), (2, .int a2), (3, .int a3), (4, .int a4)] := hl
  have hS : va_S (AA ad) s.heap s.heap [] := va_S.rf
  have hF : Fr L_X8_isWord_s2_v σ0 σ0 := Fr.rf
  have hFL : FrL LL_X8_isWord_s2_v τ0 τ0 := FrL.rf
  have gBY := gBY0
  have hA := A_X8_isWord_s2_v p l e s m _ below meth c D cA ad σ0 τ0 a2 a3 a4 b N q ln C ha2 ha3 ha4 hpre0 hpre1 hpre2 hpre3 hpre4 gBY0 55
  have K3 := hA.1
  have K32 := hA.2
  clear hA
  obtain ⟨hx, hb, _, hown, hts, _, hk, hr, _, _⟩ := C
  refine r_iconst hx hb dX8_isWord_0 (by decide) (fun z1 ez1 => ?_)
  refine lv_istore (lv' := [(5, .int z1), (0, .ref (ad 1)), (1, .ref (ad 409)), (2, .int a2), (3, .int a3), (4, .int a4)]) hx hb dX8_isWord_1 hl (by decide) rfl (fun ls hl => ?_)
  exact K3 σ0 τ0 s.heap [] z1 ls hR hF hFL hP hS (by omega) (by first | exact (fun i hi => absurd hi (by omega)) | exact allS hi0 (by omega) (by omega) (by omega)) gBY (lv_sub hl [1, 2, 3, 4, 5, 0] rfl) (by omega)
abbrev L_X8_wordIn_s2_v : List Rc := []
abbrev LL_X8_wordIn_s2_v : List Rc := []
def P_X8_wordIn_s2_v (σ0 : Nat → Nat → Int32) (τ0 : Nat → Nat → Int64) (a2 : Int32) (a3 : Int32) (b : Nat → Int) (N : Nat) (q : Nat) (ln : Nat) (r : Int32) (σ : Nat → Nat → Int32) (τ : Nat → Nat → Int64) : Prop := Rg σ ∧ Fr L_X8_wordIn_s2_v σ0 σ ∧ FrL LL_X8_wordIn_s2_v τ0 τ ∧ (-1 ≤ r.toInt ∧ r.toInt ≤ 10) ∧ ((r.toInt = -1 ∧ ∀ w : Nat, w < 11 → fd 256 0 b q ln ≠ RWl.getD (20 + w) 0) ∨ (0 ≤ r.toInt ∧ r.toInt < 11 ∧ fd 256 0 b q ln = RWl.getD (20 + r.toInt.toNat) 0)) ∧ BY σ b N
def J_X8_wordIn_s2_v_3 (p : Program) (l : Launch) (e : Env) (s : State) (m : MethodId) (args : Array Value) (below : List Frame) (meth : Method) (c : Code) (D : va_G) (cA : Nat → ClassId) (ad : Nat → Nat) (σ0 : Nat → Nat → Int32) (τ0 : Nat → Nat → Int64) (a2 : Int32) (a3 : Int32) (b : Nat → Int) (N : Nat) (q : Nat) (ln : Nat) (n : Nat) : Prop := ∀ (σ : Nat → Nat → Int32) (τ : Nat → Nat → Int64) (H : Heap) (locs : List Loc) (x4 : Int32) (ls : Array Slot), Rg σ → Fr L_X8_wordIn_s2_v σ0 σ → FrL LL_X8_wordIn_s2_v τ0 τ → va_P D vwCl (gw cA ad σ τ) H → va_S (AA ad) s.heap H locs → (0 ≤ x4.toInt ∧ x4.toInt ≤ 11) → (∀ w : Nat, (w : Int) < x4.toInt → fd 256 0 b q ln ≠ RWl.getD (20 + w) 0) → (BY σ b N) → lv_has ls 5 [(0, .ref (ad 1)), (1, .ref (ad 409)), (2, .int a2), (3, .int a3), (4, .int x4)] → 2 * (11 - x4.toInt) + 1 < (n : Int) → W p l e ({ frames := 5, cells := 0, slots := 0, locals := 111 } : Room) s m args below meth c H locs 0 0 (MQ below (va_Qi (fun (r : Int32) (u : SS) => P_X8_wordIn_s2_v σ0 τ0 a2 a3 b N q ln r u.1 u.2) (WB D cA ad) (AA ad)) args s 0 0 (AA ad)) (F0 m 3 ls [])
set_option maxHeartbeats 4000000 in
theorem B_X8_wordIn_s2_v_3 (p : Program) (l : Launch) (e : Env) (s : State) (m : MethodId) (args : Array Value) (below : List Frame) (meth : Method) (c : Code) (D : va_G) (cA : Nat → ClassId) (ad : Nat → Nat) (σ0 : Nat → Nat → Int32) (τ0 : Nat → Nat → Int64) (a2 : Int32) (a3 : Int32) (b : Nat → Int) (N : Nat) (q : Nat) (ln : Nat) (n : Nat) (C : Cy p s m args meth c cX8_wordIn 5 wsX8_wordIn RX8 D cA ad (some .int)) (ha2 : 0 ≤ a2.toInt ∧ a2.toInt ≤ 899) (ha3 : 0 ≤ a3.toInt ∧ a3.toInt ≤ 940) (hpre0 : a2.toInt = (q : Int)) (hpre1 : a3.toInt = (q : Int) + ln) (hpre2 : q + ln ≤ N) (hpre3 : ln ≤ 7) (hpre4 : ∀ i : Nat, i < ln → isLt (b (q + i))) (gBY0 : BY σ0 b N) (K3 : J_X8_wordIn_s2_v_3 p l e s m args below meth c D cA ad σ0 τ0 a2 a3 b N q ln n) : J_X8_wordIn_s2_v_3 p l e s m args below meth c D cA ad σ0 τ0 a2 a3 b N q ln (n + 1) := by
  obtain ⟨hx, hb, hml, hown, hts, hK, hk, hr, hI, hN⟩ := C
  intro σ τ H locs x4 ls hR hF hFL hP hS hc0 hi0 gBY hl hm
  obtain rfl := Fr.nil hF
  obtain rfl := FrL.nil hFL
  refine lv_iload hx hb dX8_wordIn_3 (lv_at hl 4 rfl) ?_
  refine r_iconst hx hb dX8_wordIn_5 (by decide) (fun z1 ez1 => ?_)
  refine r_iadd hx hb dX8_wordIn_6 (by omega) (fun z2 ez2 => ?_)
  refine r_bipush hx hb dX8_wordIn_7 (by decide) (fun z3 ez3 => ?_)
  refine r_imulR (n := 7) hx hb dX8_wordIn_9 (by omega) (by omega) (fun z4 ez4 => ?_)
  refine lv_aload_n hx hb dX8_wordIn_10 rfl (lv_at hl 1 rfl) ?_
  refine r_cVi (k := 409) (As := []) (rest := [.int z4]) ⟨hx, hb, hml, hown, hts⟩ hK hP hN hS (c_J0_length_8abf5_s2 l D cA ad hI σ0 τ0 hR) (cwV 0 hts gX8_wordIn_J0_length_8abf5 rfl rfl rfl (by decide +kernel) ⟨by decide, by decide⟩) (so_2 hN hS) rfl hl.1 rfl (Nat.le_of_ble_eq_true rfl) dX8_wordIn_11 (Nat.zero_le _) (Nat.zero_le _) (fun r5 u5 H5 locs5 hp5 hP hS => ?_)
  obtain ⟨σ5, τ5⟩ := u5
  obtain ⟨hR, f5, fL5, hq5⟩ : P_J0_length_8abf5_s2 σ0 τ0 r5 σ5 τ5 := hp5
  have hP : va_P D vwCl (gw cA ad σ5 τ5) H5 := hP
  obtain rfl := FrL.nil fL5
  obtain rfl := Fr.nil f5
  refine r_icmp_gt (tgt := 38) hx hb dX8_wordIn_14 (by decide) (fun c6 => ?_) (fun c6 => ?_)
  · refine r_iconst hx hb dX8_wordIn_38 (by decide) (fun z7 ez7 => ?_)
    exact r_iret hx hb hr hK hP hS hk dX8_wordIn_39 (show P_X8_wordIn_s2_v σ0 τ0 a2 a3 b N q ln z7 σ0 τ0 from ⟨hR, hF, hFL, by omega, by first | exact Or.inl ⟨by omega, fun w hw => hi0 w (by omega)⟩ | exact Or.inr ⟨by omega, by omega, (hw.resolve_right (fun c => by omega)).2⟩, gBY⟩)
  · refine lv_aload_n hx hb dX8_wordIn_17 rfl (lv_at hl 0 rfl) ?_
    refine lv_aload_n hx hb dX8_wordIn_18 rfl (lv_at hl 1 rfl) ?_
    refine lv_iload hx hb dX8_wordIn_19 (lv_at hl 4 rfl) ?_
    refine lv_iload_n hx hb dX8_wordIn_21 rfl (lv_at hl 2 rfl) ?_
    refine lv_iload_n hx hb dX8_wordIn_22 rfl (lv_at hl 3 rfl) ?_
    refine r_cVi (k := 1) (As := [.ref (ad 409), .int x4, .int a2, .int a3]) (rest := []) ⟨hx, hb, hml, hown, hts⟩ hK hP hN hS (c_X8_isWord_s2_v l D cA ad hI σ0 τ0 hR x4 a2 a3 b N q ln (by omega) (by omega) (by omega) (by omega) (by omega) (by omega) (by omega) hpre4 gBY) (cwV 4 hts gX8_wordIn_X8_isWord rfl rfl rfl (by decide +kernel) ⟨by decide, by decide⟩) (rv_Tape hK hP (by decide) (by decide)) rfl hl.1 rfl (Nat.le_of_ble_eq_true rfl) dX8_wordIn_23 (Nat.zero_le _) (Nat.zero_le _) (fun r8 u8 H8 locs8 hp8 hP hS => ?_)
    obtain ⟨σ8, τ8⟩ := u8
    obtain ⟨hR, f8, fL8, hq8, hp8_0, gnBY⟩ : P_X8_isWord_s2_v σ0 τ0 x4 a2 a3 b N q ln r8 σ8 τ8 := hp8
    have hw := hp8_0
    have hP : va_P D vwCl (gw cA ad σ8 τ8) H8 := hP
    obtain rfl := FrL.nil fL8
    obtain rfl := Fr.nil f8
    refine r_if_eq (tgt := 32) hx hb dX8_wordIn_26 (by decide) (fun c9 => ?_) (fun c9 => ?_)
    · refine r_iinc (k := 4) (lv1 := fun z10 => [(4, .int z10), (0, .ref (ad 1)), (1, .ref (ad 409)), (2, .int a2), (3, .int a3)]) hx hb dX8_wordIn_32 hl rfl (by decide) (fun _ => rfl) (by decide) (by omega) (fun z10 ls ez10 hl => ?_)
      refine lv_goto (tgt := 3) hx hb dX8_wordIn_35 (by decide) ?_
      exact K3 σ0 τ0 H8 locs8 z10 ls hR hF hFL hP hS (by omega) (by first | exact (fun w hw => absurd hw (by omega)) | exact allS hi0 (hw.resolve_left (fun c => by omega)).2 (by omega) (by omega)) gBY (lv_sub hl [1, 2, 3, 4, 0] rfl) (by omega)
    · refine lv_iload hx hb dX8_wordIn_29 (lv_at hl 4 rfl) ?_
      exact r_iret hx hb hr hK hP hS hk dX8_wordIn_31 (show P_X8_wordIn_s2_v σ0 τ0 a2 a3 b N q ln x4 σ0 τ0 from ⟨hR, hF, hFL, by omega, by first | exact Or.inl ⟨by omega, fun w hw => hi0 w (by omega)⟩ | exact Or.inr ⟨by omega, by omega, (hw.resolve_right (fun c => by omega)).2⟩, gBY⟩)
theorem A_X8_wordIn_s2_v (p : Program) (l : Launch) (e : Env) (s : State) (m : MethodId) (args : Array Value) (below : List Frame) (meth : Method) (c : Code) (D : va_G) (cA : Nat → ClassId) (ad : Nat → Nat) (σ0 : Nat → Nat → Int32) (τ0 : Nat → Nat → Int64) (a2 : Int32) (a3 : Int32) (b : Nat → Int) (N : Nat) (q : Nat) (ln : Nat) (C : Cy p s m args meth c cX8_wordIn 5 wsX8_wordIn RX8 D cA ad (some .int)) (ha2 : 0 ≤ a2.toInt ∧ a2.toInt ≤ 899) (ha3 : 0 ≤ a3.toInt ∧ a3.toInt ≤ 940) (hpre0 : a2.toInt = (q : Int)) (hpre1 : a3.toInt = (q : Int) + ln) (hpre2 : q + ln ≤ N) (hpre3 : ln ≤ 7) (hpre4 : ∀ i : Nat, i < ln → isLt (b (q + i))) (gBY0 : BY σ0 b N) : ∀ n : Nat, J_X8_wordIn_s2_v_3 p l e s m args below meth c D cA ad σ0 τ0 a2 a3 b N q ln n := by
  intro n
  induction n with
  | zero =>
    exact (by intro σ τ H locs x4 ls hR hF hFL hP hS hc0 hi0 gBY hl hm; exfalso; omega)
  | succ n ih =>
    exact B_X8_wordIn_s2_v_3 p l e s m args below meth c D cA ad σ0 τ0 a2 a3 b N q ln n C ha2 ha3 hpre0 hpre1 hpre2 hpre3 hpre4 gBY0 ih
set_option maxHeartbeats 4000000 in
theorem c_X8_wordIn_s2_v (l : Launch) (D : va_G) (cA : Nat → ClassId) (ad : Nat → Nat) (hI : Inj ad) (σ0 : Nat → Nat → Int32) (τ0 : Nat → Nat → Int64) (hR : Rg σ0) (a2 : Int32) (a3 : Int32) (b : Nat → Int) (N : Nat) (q : Nat) (ln : Nat) (ha2 : 0 ≤ a2.toInt ∧ a2.toInt ≤ 899) (ha3 : 0 ≤ a3.toInt ∧ a3.toInt ≤ 940) (hpre0 : a2.toInt = (q : Int)) (hpre1 : a3.toInt = (q : Int) + ln) (hpre2 : q + ln ≤ N) (hpre3 : ln ≤ 7) (hpre4 : ∀ i : Nat, i < ln → isLt (b (q + i))) (gBY0 : BY σ0 b N) : Met l yX8_wordIn wsX8_wordIn ({ frames := 5, cells := 0, slots := 0, locals := 111 } : Room) (WQc D cA ad [.ref (ad 1), .ref (ad 409), .int a2, .int a3] σ0 τ0) (va_Qi (fun (r : Int32) (u : SS) => P_X8_wordIn_s2_v σ0 τ0 a2 a3 b N q ln r u.1 u.2) (WB D cA ad) (AA ad)) 0 0 (AA ad) := by
  refine Met.ofW (cc := cX8_wordIn) (maxL := 5) (ret := (some .int)) (by decide) rfl ?_
  intro p e s m args below meth c s₁ B hml hv
  obtain ⟨rfl, hP, hK, hN⟩ := hv
  have C : Cy p s m _ meth c cX8_wordIn 5 wsX8_wordIn RX8 D cA ad (some .int) := ⟨B.exec, B.bytes, hml, findClass_of_methodNamed B.named, atoms_spec (ws := wsX8_wordIn) B.pre, hK, B.notSynchronized, B.returns, hI, hN⟩
  have hl := lv_entry ([.ref (ad 1), .ref (ad 409), .int a2, .int a3]) (n := 5) (Nat.le_of_ble_eq_true rfl)
  rw [lg_entry_eq]
  generalize (lg_sl ([.ref (ad 1), .ref (ad 409), .int a2, .int a3]) ++ List.replicate (5 - (lg_sl ([.ref (ad 1), .ref (ad 409), .int a2, .int a3])).length) Slot.unset).toArray = ls at hl ⊢
  have hl : lv_has ls 5 [(0, .ref (ad 1)), (1, .ref (ad 409)), (2, .int a2), (3, .int a3)] := hl
  have hS : va_S (AA ad) s.heap s.heap [] := va_S.rf
  have hF : Fr L_X8_wordIn_s2_v σ0 σ0 := Fr.rf
  have hFL : FrL LL_X8_wordIn_s2_v τ0 τ0 := FrL.rf
  have gBY := gBY0
  have hA := A_X8_wordIn_s2_v p l e s m _ below meth c D cA ad σ0 τ0 a2 a3 b N q ln C ha2 ha3 hpre0 hpre1 hpre2 hpre3 hpre4 gBY0 54
  have K3 := hA
  clear hA
  obtain ⟨hx, hb, _, hown, hts, _, hk, hr, _, _⟩ := C
  refine r_iconst hx hb dX8_wordIn_0 (by decide) (fun z1 ez1 => ?_)
  refine lv_istore (lv' := [(4, .int z1), (0, .ref (ad 1)), (1, .ref (ad 409)), (2, .int a2), (3, .int a3)]) hx hb dX8_wordIn_1 hl (by decide) rfl (fun ls hl => ?_)
  exact K3 σ0 τ0 s.heap [] z1 ls hR hF hFL hP hS (by omega) (by first | exact (fun w hw => absurd hw (by omega)) | exact allS hi0 (hw.resolve_left (fun c => by omega)).2 (by omega) (by omega)) gBY (lv_sub hl [1, 2, 3, 4, 0] rfl) (by omega)
abbrev L_X8_wordToken_v : List Rc := []
abbrev LL_X8_wordToken_v : List Rc := []
def P_X8_wordToken_v (σ0 : Nat → Nat → Int32) (τ0 : Nat → Nat → Int64) (a1 : Int32) (a2 : Int32) (b : Nat → Int) (N : Nat) (q : Nat) (ln : Nat) (r : Int32) (σ : Nat → Nat → Int32) (τ : Nat → Nat → Int64) : Prop := Rg σ ∧ Fr L_X8_wordToken_v σ0 σ ∧ FrL LL_X8_wordToken_v τ0 τ ∧ (0 ≤ r.toInt ∧ r.toInt ≤ 47) ∧ (r.toInt = wdK (fd 256 0 b q ln)) ∧ BY σ b N
set_option maxHeartbeats 4000000 in
theorem c_X8_wordToken_v (l : Launch) (D : va_G) (cA : Nat → ClassId) (ad : Nat → Nat) (hI : Inj ad) (σ0 : Nat → Nat → Int32) (τ0 : Nat → Nat → Int64) (hR : Rg σ0) (a1 : Int32) (a2 : Int32) (b : Nat → Int) (N : Nat) (q : Nat) (ln : Nat) (ha1 : 0 ≤ a1.toInt ∧ a1.toInt ≤ 899) (ha2 : 0 ≤ a2.toInt ∧ a2.toInt ≤ 940) (hpre0 : a1.toInt = (q : Int)) (hpre1 : a2.toInt = (q : Int) + ln) (hpre2 : q + ln ≤ N) (hpre3 : ln ≤ 7) (hpre4 : ∀ i : Nat, i < ln → isLt (b (q + i))) (gBY0 : BY σ0 b N) : Met l yX8_wordToken wsX8_wordToken ({ frames := 6, cells := 0, slots := 0, locals := 135 } : Room) (WQc D cA ad [.ref (ad 1), .int a1, .int a2] σ0 τ0) (va_Qi (fun (r : Int32) (u : SS) => P_X8_wordToken_v σ0 τ0 a1 a2 b N q ln r u.1 u.2) (WB D cA ad) (AA ad)) 0 0 (AA ad) := by
  refine Met.ofW (cc := cX8_wordToken) (maxL := 4) (ret := (some .int)) (by decide) rfl ?_
  intro p e s m args below meth c s₁ B hml hv
  obtain ⟨rfl, hP, hK, hN⟩ := hv
  have C : Cy p s m _ meth c cX8_wordToken 4 wsX8_wordToken RX8 D cA ad (some .int) := ⟨B.exec, B.bytes, hml, findClass_of_methodNamed B.named, atoms_spec (ws := wsX8_wordToken) B.pre, hK, B.notSynchronized, B.returns, hI, hN⟩
  have hl := lv_entry ([.ref (ad 1), .int a1, .int a2]) (n := 4) (Nat.le_of_ble_eq_true rfl)
  rw [lg_entry_eq]
  generalize (lg_sl ([.ref (ad 1), .int a1, .int a2]) ++ List.replicate (4 - (lg_sl ([.ref (ad 1), .int a1, .int a2])).length) Slot.unset).toArray = ls at hl ⊢
  have hl : lv_has ls 4 [(0, .ref (ad 1)), (1, .int a1), (2, .int a2)] := hl
  have hS : va_S (AA ad) s.heap s.heap [] := va_S.rf
  have hF : Fr L_X8_wordToken_v σ0 σ0 := Fr.rf
  have hFL : FrL LL_X8_wordToken_v τ0 τ0 := FrL.rf
  have gBY := gBY0
  obtain ⟨hx, hb, _, hown, hts, _, hk, hr, _, _⟩ := C
  refine lv_aload_n hx hb dX8_wordToken_0 rfl (lv_at hl 0 rfl) ?_
  refine va_ldcS hx hb hown hN.2.2.1 dX8_wordToken_1 ?_
  refine lv_iload_n hx hb dX8_wordToken_3 rfl (lv_at hl 1 rfl) ?_
  refine lv_iload_n hx hb dX8_wordToken_4 rfl (lv_at hl 2 rfl) ?_
  refine r_cVi (k := 1) (As := [.ref (ad 407), .int a1, .int a2]) (rest := []) ⟨hx, hb, hml, hown, hts⟩ hK hP hN hS (c_X8_wordIn_s0_v l D cA ad hI σ0 τ0 hR a1 a2 b N q ln (by omega) (by omega) (by omega) (by omega) (by omega) (by omega) hpre4 gBY) (cwV 3 hts gX8_wordToken_X8_wordIn rfl rfl rfl (by decide +kernel) ⟨by decide, by decide⟩) (rv_Tape hK hP (by decide) (by decide)) rfl hl.1 rfl (Nat.le_of_ble_eq_true rfl) dX8_wordToken_5 (Nat.zero_le _) (Nat.zero_le _) (fun r1 u1 H1 locs1 hp1 hP hS => ?_)
  obtain ⟨σ1, τ1⟩ := u1
  obtain ⟨hR, f1, fL1, hq1, hp1_0, gnBY⟩ : P_X8_wordIn_s0_v σ0 τ0 a1 a2 b N q ln r1 σ1 τ1 := hp1
  have w0 := hp1_0
  have hP : va_P D vwCl (gw cA ad σ1 τ1) H1 := hP
  obtain rfl := FrL.nil fL1
  obtain rfl := Fr.nil f1
  refine lv_istore_n (lv' := [(3, .int r1), (0, .ref (ad 1)), (1, .int a1), (2, .int a2)]) hx hb dX8_wordToken_8 rfl hl (by decide) rfl (fun ls hl => ?_)
  refine lv_iload_n hx hb dX8_wordToken_9 rfl (lv_at hl 0 rfl) ?_
  refine r_iconst hx hb dX8_wordToken_10 (by decide) (fun z2 ez2 => ?_)
  refine r_icmp_eq (tgt := 16) hx hb dX8_wordToken_11 (by decide) (fun c3 => ?_) (fun c3 => ?_)
  · refine lv_aload_n hx hb dX8_wordToken_16 rfl (lv_at hl 1 rfl) ?_
    refine va_ldcS hx hb hown hN.2.2.2.1 dX8_wordToken_17 ?_
    refine lv_iload_n hx hb dX8_wordToken_19 rfl (lv_at hl 2 rfl) ?_
    refine lv_iload_n hx hb dX8_wordToken_20 rfl (lv_at hl 3 rfl) ?_
    refine r_cVi (k := 1) (As := [.ref (ad 408), .int a1, .int a2]) (rest := []) ⟨hx, hb, hml, hown, hts⟩ hK hP hN hS (c_X8_wordIn_s1_v l D cA ad hI σ0 τ0 hR a1 a2 b N q ln (by omega) (by omega) (by omega) (by omega) (by omega) (by omega) hpre4 gBY) (cwV 3 hts gX8_wordToken_X8_wordIn rfl rfl rfl (by decide +kernel) ⟨by decide, by decide⟩) (rv_Tape hK hP (by decide) (by decide)) rfl hl.1 rfl (Nat.le_of_ble_eq_true rfl) dX8_wordToken_21 (Nat.zero_le _) (Nat.zero_le _) (fun r4 u4 H4 locs4 hp4 hP hS => ?_)
    obtain ⟨σ4, τ4⟩ := u4
    obtain ⟨hR, f4, fL4, hq4, hp4_0, gnBY⟩ : P_X8_wordIn_s1_v σ0 τ0 a1 a2 b N q ln r4 σ4 τ4 := hp4
    have w1 := hp4_0
    have hP : va_P D vwCl (gw cA ad σ4 τ4) H4 := hP
    obtain rfl := FrL.nil fL4
    obtain rfl := Fr.nil f4
    refine lv_istore_n (lv' := [(3, .int r4), (0, .ref (ad 1)), (1, .int a1), (2, .int a2)]) hx hb dX8_wordToken_24 rfl hl (by decide) rfl (fun ls hl => ?_)
    refine lv_iload_n hx hb dX8_wordToken_25 rfl (lv_at hl 0 rfl) ?_
    refine r_iconst hx hb dX8_wordToken_26 (by decide) (fun z5 ez5 => ?_)
    refine r_icmp_eq (tgt := 35) hx hb dX8_wordToken_27 (by decide) (fun c6 => ?_) (fun c6 => ?_)
    · refine lv_aload_n hx hb dX8_wordToken_35 rfl (lv_at hl 1 rfl) ?_
      refine va_ldcS hx hb hown hN.2.2.2.2.1 dX8_wordToken_36 ?_
      refine lv_iload_n hx hb dX8_wordToken_38 rfl (lv_at hl 2 rfl) ?_
      refine lv_iload_n hx hb dX8_wordToken_39 rfl (lv_at hl 3 rfl) ?_
      refine r_cVi (k := 1) (As := [.ref (ad 409), .int a1, .int a2]) (rest := []) ⟨hx, hb, hml, hown, hts⟩ hK hP hN hS (c_X8_wordIn_s2_v l D cA ad hI σ0 τ0 hR a1 a2 b N q ln (by omega) (by omega) (by omega) (by omega) (by omega) (by omega) hpre4 gBY) (cwV 3 hts gX8_wordToken_X8_wordIn rfl rfl rfl (by decide +kernel) ⟨by decide, by decide⟩) (rv_Tape hK hP (by decide) (by decide)) rfl hl.1 rfl (Nat.le_of_ble_eq_true rfl) dX8_wordToken_40 (Nat.zero_le _) (Nat.zero_le _) (fun r7 u7 H7 locs7 hp7 hP hS => ?_)
      obtain ⟨σ7, τ7⟩ := u7
      obtain ⟨hR, f7, fL7, hq7, hp7_0, gnBY⟩ : P_X8_wordIn_s2_v σ0 τ0 a1 a2 b N q ln r7 σ7 τ7 := hp7
      have w2 := hp7_0
      have hP : va_P D vwCl (gw cA ad σ7 τ7) H7 := hP
      obtain rfl := FrL.nil fL7
      obtain rfl := Fr.nil f7
      refine lv_istore_n (lv' := [(3, .int r7), (0, .ref (ad 1)), (1, .int a1), (2, .int a2)]) hx hb dX8_wordToken_43 rfl hl (by decide) rfl (fun ls hl => ?_)
      refine lv_iload_n hx hb dX8_wordToken_44 rfl (lv_at hl 0 rfl) ?_
      refine r_iconst hx hb dX8_wordToken_45 (by decide) (fun z8 ez8 => ?_)
      refine r_icmp_ne (tgt := 54) hx hb dX8_wordToken_46 (by decide) (fun c9 => ?_) (fun c9 => ?_)
      · refine r_bipush hx hb dX8_wordToken_54 (by decide) (fun z10 ez10 => ?_)
        refine lv_iload_n hx hb dX8_wordToken_56 rfl (lv_at hl 0 rfl) ?_
        refine r_iadd hx hb dX8_wordToken_57 (by omega) (fun z11 ez11 => ?_)
        exact r_iret hx hb hr hK hP hS hk dX8_wordToken_58 (show P_X8_wordToken_v σ0 τ0 a1 a2 b N q ln z11 σ0 τ0 from ⟨hR, hF, hFL, by omega, by first | exact wt_a (o := 0) (w0.resolve_left (fun c => by omega)).2.2 (by omega) (by omega) | exact wt_a (o := 14) (w1.resolve_left (fun c => by omega)).2.2 (by omega) (by omega) | exact wt_a (o := 20) (w2.resolve_left (fun c => by omega)).2.2 (by omega) (by omega) | (rw [wt_n (w0.resolve_right (fun c => by omega)).2 (w1.resolve_right (fun c => by omega)).2 (w2.resolve_right (fun c => by omega)).2]; omega), gBY⟩)
      · refine r_bipush hx hb dX8_wordToken_49 (by decide) (fun z12 ez12 => ?_)
        refine lv_goto (tgt := 58) hx hb dX8_wordToken_51 (by decide) ?_
        exact r_iret hx hb hr hK hP hS hk dX8_wordToken_58 (show P_X8_wordToken_v σ0 τ0 a1 a2 b N q ln z12 σ0 τ0 from ⟨hR, hF, hFL, by omega, by first | exact wt_a (o := 0) (w0.resolve_left (fun c => by omega)).2.2 (by omega) (by omega) | exact wt_a (o := 14) (w1.resolve_left (fun c => by omega)).2.2 (by omega) (by omega) | exact wt_a (o := 20) (w2.resolve_left (fun c => by omega)).2.2 (by omega) (by omega) | (rw [wt_n (w0.resolve_right (fun c => by omega)).2 (w1.resolve_right (fun c => by omega)).2 (w2.resolve_right (fun c => by omega)).2]; omega), gBY⟩)
    · refine r_bipush hx hb dX8_wordToken_30 (by decide) (fun z13 ez13 => ?_)
      refine lv_iload_n hx hb dX8_wordToken_32 rfl (lv_at hl 0 rfl) ?_
      refine r_iadd hx hb dX8_wordToken_33 (by omega) (fun z14 ez14 => ?_)
      exact r_iret hx hb hr hK hP hS hk dX8_wordToken_34 (show P_X8_wordToken_v σ0 τ0 a1 a2 b N q ln z14 σ0 τ0 from ⟨hR, hF, hFL, by omega, by first | exact wt_a (o := 0) (w0.resolve_left (fun c => by omega)).2.2 (by omega) (by omega) | exact wt_a (o := 14) (w1.resolve_left (fun c => by omega)).2.2 (by omega) (by omega) | exact wt_a (o := 20) (w2.resolve_left (fun c => by omega)).2.2 (by omega) (by omega) | (rw [wt_n (w0.resolve_right (fun c => by omega)).2 (w1.resolve_right (fun c => by omega)).2 (w2.resolve_right (fun c => by omega)).2]; omega), gBY⟩)
  · refine lv_iload_n hx hb dX8_wordToken_14 rfl (lv_at hl 0 rfl) ?_
    exact r_iret hx hb hr hK hP hS hk dX8_wordToken_15 (show P_X8_wordToken_v σ0 τ0 a1 a2 b N q ln r1 σ0 τ0 from ⟨hR, hF, hFL, by omega, by first | exact wt_a (o := 0) (w0.resolve_left (fun c => by omega)).2.2 (by omega) (by omega) | exact wt_a (o := 14) (w1.resolve_left (fun c => by omega)).2.2 (by omega) (by omega) | exact wt_a (o := 20) (w2.resolve_left (fun c => by omega)).2.2 (by omega) (by omega) | (rw [wt_n (w0.resolve_right (fun c => by omega)).2 (w1.resolve_right (fun c => by omega)).2 (w2.resolve_right (fun c => by omega)).2]; omega), gBY⟩)
theorem in_X8_scanRun_8 : ∀ w ∈ u_ws RX8 TX8 15, w ∈ wsX8_scanRun := by decide +kernel
theorem lk_X8_scanRun_29 : Cond.fieldLink RX8 29 "CuckooShares$Tape" "size" "I" ∈ wsX8_scanRun := by decide +kernel
theorem lk_X8_scanRun_78 : Cond.constantLong RX8 78 (27) ∈ wsX8_scanRun := by decide +kernel
theorem lk_X8_scanRun_80 : Cond.constantLong RX8 80 (97) ∈ wsX8_scanRun := by decide +kernel
abbrev L_X8_scanRun_v : List Rc := [(36, 36, 0, 940), (37, 37, 0, 940), (38, 38, 0, 940), (1, 1, 6, 6)]
abbrev LL_X8_scanRun_v : List Rc := [(39, 39, 0, 940)]
def P_X8_scanRun_v (σ0 : Nat → Nat → Int32) (τ0 : Nat → Nat → Int64) (a1 : Int32) (b : Nat → Int) (N : Nat) (mo : Nat) (q : Nat) (r : Int32) (σ : Nat → Nat → Int32) (τ : Nat → Nat → Int64) : Prop := Rg σ ∧ Fr L_X8_scanRun_v σ0 σ ∧ FrL LL_X8_scanRun_v τ0 τ ∧ (0 ≤ r.toInt ∧ r.toInt ≤ 940) ∧ (r.toInt = (runE b N q : Int)) ∧ ((σ 1 6).toInt = (σ0 1 6).toInt + 1) ∧ BY σ b N ∧ TL σ τ b N mo
def J_X8_scanRun_v_13 (p : Program) (l : Launch) (e : Env) (s : State) (m : MethodId) (args : Array Value) (below : List Frame) (meth : Method) (c : Code) (D : va_G) (cA : Nat → ClassId) (ad : Nat → Nat) (σ0 : Nat → Nat → Int32) (τ0 : Nat → Nat → Int64) (a1 : Int32) (b : Nat → Int) (N : Nat) (mo : Nat) (q : Nat) (n : Nat) : Prop := ∀ (σ : Nat → Nat → Int32) (τ : Nat → Nat → Int64) (H : Heap) (locs : List Loc) (x2 : Int32) (x3 : Int32) (x4 : Int32) (y5 : Int64) (x7 : Int32) (ln : Nat) (ls : Array Slot), Rg σ → Fr L_X8_scanRun_v σ0 σ → FrL LL_X8_scanRun_v τ0 τ → va_P D vwCl (gw cA ad σ τ) H → va_S (AA ad) s.heap H locs → (0 ≤ x2.toInt ∧ x2.toInt ≤ 941) → (0 ≤ x3.toInt ∧ x3.toInt ≤ 941) → (0 ≤ x7.toInt ∧ x7.toInt ≤ 940) → (x7.toInt = (q : Int) + ln) → (q + ln ≤ N) → (∀ i : Nat, i < ln → isRn (b (q + i))) → (x3.toInt = (dgc b q ln : Int)) → (x2.toInt = (ln : Int) - dgc b q ln) → (dgc b q ln ≠ ln ∨ 3 < ln ∨ x4.toInt = fd 10 48 b q ln) → (dgc b q ln ≠ 0 ∨ 7 < ln ∨ y5.toInt = fd 27 96 b q ln) → ((σ 1 6).toInt = (σ0 1 6).toInt) → (BY σ b N) → (TL σ τ b N mo) → lv_has ls 9 [(0, .ref (ad 1)), (1, .int a1), (2, .int x2), (3, .int x3), (4, .int x4), (5, .long y5), (7, .int x7)] → 2 * (940 - x7.toInt) + 1 < (n : Int) → W p l e ({ frames := 7, cells := 0, slots := 0, locals := 158 } : Room) s m args below meth c H locs 0 0 (MQ below (va_Qi (fun (r : Int32) (u : SS) => P_X8_scanRun_v σ0 τ0 a1 b N mo q r u.1 u.2) (WB D cA ad) (AA ad)) args s 0 0 (AA ad)) (F0 m 13 ls [])
set_option maxHeartbeats 4000000 in
theorem B_X8_scanRun_v_13 (p : Program) (l : Launch) (e : Env) (s : State) (m : MethodId) (args : Array Value) (below : List Frame) (meth : Method) (c : Code) (D : va_G) (cA : Nat → ClassId) (ad : Nat → Nat) (σ0 : Nat → Nat → Int32) (τ0 : Nat → Nat → Int64) (a1 : Int32) (b : Nat → Int) (N : Nat) (mo : Nat) (q : Nat) (n : Nat) (C : Cy p s m args meth c cX8_scanRun 9 wsX8_scanRun RX8 D cA ad (some .int)) (ha1 : 0 ≤ a1.toInt ∧ a1.toInt ≤ 899) (hpre0 : a1.toInt = (q : Int)) (hpre1 : q < N) (hpre2 : q < mo) (hpre3 : isRn (b q)) (hpre4 : posq b N mo (σ0 1 6).toInt.toNat = q) (hpre5 : 0 ≤ (σ0 1 6).toInt ∧ (σ0 1 6).toInt ≤ 940) (gBY0 : BY σ0 b N) (gTL0 : TL σ0 τ0 b N mo) (K13 : J_X8_scanRun_v_13 p l e s m args below meth c D cA ad σ0 τ0 a1 b N mo q n) : J_X8_scanRun_v_13 p l e s m args below meth c D cA ad σ0 τ0 a1 b N mo q (n + 1) := by
  obtain ⟨hx, hb, hml, hown, hts, hK, hk, hr, hI, hN⟩ := C
  intro σ τ H locs x2 x3 x4 y5 x7 ln ls hR hF hFL hP hS hc0 hc1 hc2 hi0 hi1 hi2 hi3 hi4 hi5 hi6 hi7 gBY gTL hl hm
  have hbs := gBY.1
  have hbl := gBY.2.1
  have hdl := dgc_le b q ln
  refine lv_iload hx hb dX8_scanRun_13 (lv_at hl 6 rfl) ?_
  refine lv_aload_n hx hb dX8_scanRun_15 rfl (lv_at hl 0 rfl) ?_
  refine fg_8_5 (k := 1) hx hb hts in_X8_scanRun_8 hown hK hP (by decide) (by decide) (hts _ lk_X8_scanRun_29) dX8_scanRun_16 ?_
  have hr1 := rg_8_5 hR (k := 1) (by decide) (by decide)
  refine r_icmp_ge (tgt := 96) hx hb dX8_scanRun_19 (by decide) (fun c2 => ?_) (fun c2 => ?_)
  · have en := run_at hi2 hi1 (by omega)
    refine r_bipush hx hb dX8_scanRun_96 (by decide) (fun z3 ez3 => ?_)
    refine lv_istore (lv' := [(8, .int z3), (0, .ref (ad 1)), (1, .int a1), (2, .int x2), (3, .int x3), (4, .int x4), (5, .long y5), (7, .int x7)]) hx hb dX8_scanRun_98 hl (by decide) rfl (fun ls hl => ?_)
    refine lv_iload_n hx hb dX8_scanRun_100 rfl (lv_at hl 3 rfl) ?_
    refine r_if_ne (tgt := 116) hx hb dX8_scanRun_101 (by decide) (fun c4 => ?_) (fun c4 => ?_)
    · refine lv_iload_n hx hb dX8_scanRun_116 rfl (lv_at hl 4 rfl) ?_
      refine r_if_ne (tgt := 135) hx hb dX8_scanRun_117 (by decide) (fun c5 => ?_) (fun c5 => ?_)
      · refine lv_aload_n hx hb dX8_scanRun_135 rfl (lv_at hl 1 rfl) ?_
        refine lv_iload hx hb dX8_scanRun_136 (lv_at hl 0 rfl) ?_
        refine lv_iload_n hx hb dX8_scanRun_138 rfl (lv_at hl 2 rfl) ?_
        refine lv_iload hx hb dX8_scanRun_139 (lv_at hl 5 rfl) ?_
        refine lv_lload hx hb dX8_scanRun_141 (lv_at hl 6 rfl) ?_
        refine r_cVv (k := 1) (As := [.int z3, .int a1, .int x4, .long y5]) (rest := []) ⟨hx, hb, hml, hown, hts⟩ hK hP hN hS (c_X8_note_v l D cA ad hI σ τ hR z3 a1 x4 y5 b N mo (by omega) (by omega) (by omega) (tv_rn (by rw [show (σ 1 6).toInt.toNat = (σ0 1 6).toInt.toNat by omega]; exact hpre4) hpre1 hpre2 hpre3 hi2 en (by omega) (by omega) hi5 hi6) gTL) (cwV 4 hts gX8_scanRun_X8_note rfl rfl rfl (by decide +kernel) ⟨by decide, by decide⟩) (rv_Tape hK hP (by decide) (by decide)) rfl hl.1 rfl (Nat.le_of_ble_eq_true rfl) dX8_scanRun_143 (Nat.zero_le _) (Nat.zero_le _) (fun u6 H6 locs6 hp6 hP hS => ?_)
        obtain ⟨σ6, τ6⟩ := u6
        obtain ⟨hR, f6, fL6, hp6_0, gnTL⟩ : P_X8_note_v σ τ z3 a1 x4 y5 b N mo σ6 τ6 := hp6
        have hP : va_P D vwCl (gw cA ad σ6 τ6) H6 := hP
        have hFL := hFL.step fL6 (by decide)
        have hF := hF.step f6 (by decide)
        have gBY := gBY.ag (Agr.fr f6 (by decide))
        have gTL := gnTL
        refine lv_iload hx hb dX8_scanRun_146 (lv_at hl 7 rfl) ?_
        exact r_iret hx hb hr hK hP hS hk dX8_scanRun_148 (show P_X8_scanRun_v σ0 τ0 a1 b N mo q x7 σ6 τ6 from ⟨hR, hF, hFL, by omega, by omega, by omega, gBY, gTL⟩)
      · refine lv_iload_n hx hb dX8_scanRun_120 rfl (lv_at hl 3 rfl) ?_
        refine r_bipush hx hb dX8_scanRun_121 (by decide) (fun z7 ez7 => ?_)
        refine r_icmp_gt (tgt := 135) hx hb dX8_scanRun_123 (by decide) (fun c8 => ?_) (fun c8 => ?_)
        · refine lv_aload_n hx hb dX8_scanRun_135 rfl (lv_at hl 1 rfl) ?_
          refine lv_iload hx hb dX8_scanRun_136 (lv_at hl 0 rfl) ?_
          refine lv_iload_n hx hb dX8_scanRun_138 rfl (lv_at hl 2 rfl) ?_
          refine lv_iload hx hb dX8_scanRun_139 (lv_at hl 5 rfl) ?_
          refine lv_lload hx hb dX8_scanRun_141 (lv_at hl 6 rfl) ?_
          refine r_cVv (k := 1) (As := [.int z3, .int a1, .int x4, .long y5]) (rest := []) ⟨hx, hb, hml, hown, hts⟩ hK hP hN hS (c_X8_note_v l D cA ad hI σ τ hR z3 a1 x4 y5 b N mo (by omega) (by omega) (by omega) (tv_rn (by rw [show (σ 1 6).toInt.toNat = (σ0 1 6).toInt.toNat by omega]; exact hpre4) hpre1 hpre2 hpre3 hi2 en (by omega) (by omega) hi5 hi6) gTL) (cwV 4 hts gX8_scanRun_X8_note rfl rfl rfl (by decide +kernel) ⟨by decide, by decide⟩) (rv_Tape hK hP (by decide) (by decide)) rfl hl.1 rfl (Nat.le_of_ble_eq_true rfl) dX8_scanRun_143 (Nat.zero_le _) (Nat.zero_le _) (fun u9 H9 locs9 hp9 hP hS => ?_)
          obtain ⟨σ9, τ9⟩ := u9
          obtain ⟨hR, f9, fL9, hp9_0, gnTL⟩ : P_X8_note_v σ τ z3 a1 x4 y5 b N mo σ9 τ9 := hp9
          have hP : va_P D vwCl (gw cA ad σ9 τ9) H9 := hP
          have hFL := hFL.step fL9 (by decide)
          have hF := hF.step f9 (by decide)
          have gBY := gBY.ag (Agr.fr f9 (by decide))
          have gTL := gnTL
          refine lv_iload hx hb dX8_scanRun_146 (lv_at hl 7 rfl) ?_
          exact r_iret hx hb hr hK hP hS hk dX8_scanRun_148 (show P_X8_scanRun_v σ0 τ0 a1 b N mo q x7 σ9 τ9 from ⟨hR, hF, hFL, by omega, by omega, by omega, gBY, gTL⟩)
        · refine lv_aload_n hx hb dX8_scanRun_126 rfl (lv_at hl 1 rfl) ?_
          refine lv_iload_n hx hb dX8_scanRun_127 rfl (lv_at hl 2 rfl) ?_
          refine lv_iload hx hb dX8_scanRun_128 (lv_at hl 7 rfl) ?_
          refine r_cVi (k := 1) (As := [.int a1, .int x7]) (rest := []) ⟨hx, hb, hml, hown, hts⟩ hK hP hN hS (c_X8_wordToken_v l D cA ad hI σ τ hR a1 x7 b N q ln (by omega) (by omega) (by omega) (by omega) (by omega) (by omega) (lt_of hi2 (by omega)) gBY) (cwV 2 hts gX8_scanRun_X8_wordToken rfl rfl rfl (by decide +kernel) ⟨by decide, by decide⟩) (rv_Tape hK hP (by decide) (by decide)) rfl hl.1 rfl (Nat.le_of_ble_eq_true rfl) dX8_scanRun_130 (Nat.zero_le _) (Nat.zero_le _) (fun r10 u10 H10 locs10 hp10 hP hS => ?_)
          obtain ⟨σ10, τ10⟩ := u10
          obtain ⟨hR, f10, fL10, hq10, hp10_0, gnBY⟩ : P_X8_wordToken_v σ τ a1 x7 b N q ln r10 σ10 τ10 := hp10
          have hP : va_P D vwCl (gw cA ad σ10 τ10) H10 := hP
          obtain rfl := FrL.nil fL10
          obtain rfl := Fr.nil f10
          refine lv_istore (lv' := [(8, .int r10), (0, .ref (ad 1)), (1, .int a1), (2, .int x2), (3, .int x3), (4, .int x4), (5, .long y5), (7, .int x7)]) hx hb dX8_scanRun_133 hl (by decide) rfl (fun ls hl => ?_)
          refine lv_aload_n hx hb dX8_scanRun_135 rfl (lv_at hl 1 rfl) ?_
          refine lv_iload hx hb dX8_scanRun_136 (lv_at hl 0 rfl) ?_
          refine lv_iload_n hx hb dX8_scanRun_138 rfl (lv_at hl 2 rfl) ?_
          refine lv_iload hx hb dX8_scanRun_139 (lv_at hl 5 rfl) ?_
          refine lv_lload hx hb dX8_scanRun_141 (lv_at hl 6 rfl) ?_
          refine r_cVv (k := 1) (As := [.int r10, .int a1, .int x4, .long y5]) (rest := []) ⟨hx, hb, hml, hown, hts⟩ hK hP hN hS (c_X8_note_v l D cA ad hI σ τ hR r10 a1 x4 y5 b N mo (by omega) (by omega) (by omega) (tv_rn (by rw [show (σ 1 6).toInt.toNat = (σ0 1 6).toInt.toNat by omega]; exact hpre4) hpre1 hpre2 hpre3 hi2 en (by omega) (by omega) hi5 hi6) gTL) (cwV 4 hts gX8_scanRun_X8_note rfl rfl rfl (by decide +kernel) ⟨by decide, by decide⟩) (rv_Tape hK hP (by decide) (by decide)) rfl hl.1 rfl (Nat.le_of_ble_eq_true rfl) dX8_scanRun_143 (Nat.zero_le _) (Nat.zero_le _) (fun u11 H11 locs11 hp11 hP hS => ?_)
          obtain ⟨σ11, τ11⟩ := u11
          obtain ⟨hR, f11, fL11, hp11_0, gnTL⟩ : P_X8_note_v σ τ r10 a1 x4 y5 b N mo σ11 τ11 := hp11
          have hP : va_P D vwCl (gw cA ad σ11 τ11) H11 := hP
          have hFL := hFL.step fL11 (by decide)
          have hF := hF.step f11 (by decide)
          have gBY := gBY.ag (Agr.fr f11 (by decide))
          have gTL := gnTL
          refine lv_iload hx hb dX8_scanRun_146 (lv_at hl 7 rfl) ?_
          exact r_iret hx hb hr hK hP hS hk dX8_scanRun_148 (show P_X8_scanRun_v σ0 τ0 a1 b N mo q x7 σ11 τ11 from ⟨hR, hF, hFL, by omega, by omega, by omega, gBY, gTL⟩)
    · refine lv_iload_n hx hb dX8_scanRun_104 rfl (lv_at hl 4 rfl) ?_
      refine r_iconst hx hb dX8_scanRun_105 (by decide) (fun z12 ez12 => ?_)
      refine r_icmp_gt (tgt := 116) hx hb dX8_scanRun_106 (by decide) (fun c13 => ?_) (fun c13 => ?_)
      · refine lv_iload_n hx hb dX8_scanRun_116 rfl (lv_at hl 4 rfl) ?_
        refine r_if_ne (tgt := 135) hx hb dX8_scanRun_117 (by decide) (fun c14 => ?_) (fun c14 => ?_)
        · refine lv_aload_n hx hb dX8_scanRun_135 rfl (lv_at hl 1 rfl) ?_
          refine lv_iload hx hb dX8_scanRun_136 (lv_at hl 0 rfl) ?_
          refine lv_iload_n hx hb dX8_scanRun_138 rfl (lv_at hl 2 rfl) ?_
          refine lv_iload hx hb dX8_scanRun_139 (lv_at hl 5 rfl) ?_
          refine lv_lload hx hb dX8_scanRun_141 (lv_at hl 6 rfl) ?_
          refine r_cVv (k := 1) (As := [.int z3, .int a1, .int x4, .long y5]) (rest := []) ⟨hx, hb, hml, hown, hts⟩ hK hP hN hS (c_X8_note_v l D cA ad hI σ τ hR z3 a1 x4 y5 b N mo (by omega) (by omega) (by omega) (tv_rn (by rw [show (σ 1 6).toInt.toNat = (σ0 1 6).toInt.toNat by omega]; exact hpre4) hpre1 hpre2 hpre3 hi2 en (by omega) (by omega) hi5 hi6) gTL) (cwV 4 hts gX8_scanRun_X8_note rfl rfl rfl (by decide +kernel) ⟨by decide, by decide⟩) (rv_Tape hK hP (by decide) (by decide)) rfl hl.1 rfl (Nat.le_of_ble_eq_true rfl) dX8_scanRun_143 (Nat.zero_le _) (Nat.zero_le _) (fun u15 H15 locs15 hp15 hP hS => ?_)
          obtain ⟨σ15, τ15⟩ := u15
          obtain ⟨hR, f15, fL15, hp15_0, gnTL⟩ : P_X8_note_v σ τ z3 a1 x4 y5 b N mo σ15 τ15 := hp15
          have hP : va_P D vwCl (gw cA ad σ15 τ15) H15 := hP
          have hFL := hFL.step fL15 (by decide)
          have hF := hF.step f15 (by decide)
          have gBY := gBY.ag (Agr.fr f15 (by decide))
          have gTL := gnTL
          refine lv_iload hx hb dX8_scanRun_146 (lv_at hl 7 rfl) ?_
          exact r_iret hx hb hr hK hP hS hk dX8_scanRun_148 (show P_X8_scanRun_v σ0 τ0 a1 b N mo q x7 σ15 τ15 from ⟨hR, hF, hFL, by omega, by omega, by omega, gBY, gTL⟩)
        · exfalso; omega
      · refine r_bipush hx hb dX8_scanRun_109 (by decide) (fun z16 ez16 => ?_)
        refine lv_istore (lv' := [(8, .int z16), (0, .ref (ad 1)), (1, .int a1), (2, .int x2), (3, .int x3), (4, .int x4), (5, .long y5), (7, .int x7)]) hx hb dX8_scanRun_111 hl (by decide) rfl (fun ls hl => ?_)
        refine lv_goto (tgt := 135) hx hb dX8_scanRun_113 (by decide) ?_
        refine lv_aload_n hx hb dX8_scanRun_135 rfl (lv_at hl 1 rfl) ?_
        refine lv_iload hx hb dX8_scanRun_136 (lv_at hl 0 rfl) ?_
        refine lv_iload_n hx hb dX8_scanRun_138 rfl (lv_at hl 2 rfl) ?_
        refine lv_iload hx hb dX8_scanRun_139 (lv_at hl 5 rfl) ?_
        refine lv_lload hx hb dX8_scanRun_141 (lv_at hl 6 rfl) ?_
        refine r_cVv (k := 1) (As := [.int z16, .int a1, .int x4, .long y5]) (rest := []) ⟨hx, hb, hml, hown, hts⟩ hK hP hN hS (c_X8_note_v l D cA ad hI σ τ hR z16 a1 x4 y5 b N mo (by omega) (by omega) (by omega) (tv_rn (by rw [show (σ 1 6).toInt.toNat = (σ0 1 6).toInt.toNat by omega]; exact hpre4) hpre1 hpre2 hpre3 hi2 en (by omega) (by omega) hi5 hi6) gTL) (cwV 4 hts gX8_scanRun_X8_note rfl rfl rfl (by decide +kernel) ⟨by decide, by decide⟩) (rv_Tape hK hP (by decide) (by decide)) rfl hl.1 rfl (Nat.le_of_ble_eq_true rfl) dX8_scanRun_143 (Nat.zero_le _) (Nat.zero_le _) (fun u17 H17 locs17 hp17 hP hS => ?_)
        obtain ⟨σ17, τ17⟩ := u17
        obtain ⟨hR, f17, fL17, hp17_0, gnTL⟩ : P_X8_note_v σ τ z16 a1 x4 y5 b N mo σ17 τ17 := hp17
        have hP : va_P D vwCl (gw cA ad σ17 τ17) H17 := hP
        have hFL := hFL.step fL17 (by decide)
        have hF := hF.step f17 (by decide)
        have gBY := gBY.ag (Agr.fr f17 (by decide))
        have gTL := gnTL
        refine lv_iload hx hb dX8_scanRun_146 (lv_at hl 7 rfl) ?_
        exact r_iret hx hb hr hK hP hS hk dX8_scanRun_148 (show P_X8_scanRun_v σ0 τ0 a1 b N mo q x7 σ17 τ17 from ⟨hR, hF, hFL, by omega, by omega, by omega, gBY, gTL⟩)
  · refine lv_aload_n hx hb dX8_scanRun_22 rfl (lv_at hl 0 rfl) ?_
    refine lv_iload hx hb dX8_scanRun_23 (lv_at hl 6 rfl) ?_
    refine r_cVi (k := 1) (As := [.int x7]) (rest := []) ⟨hx, hb, hml, hown, hts⟩ hK hP hN hS (c_X8_byteAt l D cA ad hI σ τ hR x7 (by omega)) (cwV 1 hts gX8_scanRun_X8_byteAt rfl rfl rfl (by decide +kernel) ⟨by decide, by decide⟩) (rv_Tape hK hP (by decide) (by decide)) rfl hl.1 rfl (Nat.le_of_ble_eq_true rfl) dX8_scanRun_25 (Nat.zero_le _) (Nat.zero_le _) (fun r18 u18 H18 locs18 hp18 hP hS => ?_)
    obtain ⟨σ18, τ18⟩ := u18
    obtain ⟨hR, f18, fL18, hq18, hp18_0⟩ : P_X8_byteAt σ τ x7 r18 σ18 τ18 := hp18
    have hP : va_P D vwCl (gw cA ad σ18 τ18) H18 := hP
    obtain rfl := FrL.nil fL18
    obtain rfl := Fr.nil f18
    have hb25 := BY.rd gBY (j := q + ln) hp18_0 (by omega) (by omega)
    refine r_cSi (As := [.int r18]) (rest := []) ⟨hx, hb, hml, hown, hts⟩ hK hP hN hS (c_X8_isInRun l D cA ad hI σ τ hR r18 (by omega)) (va_cwS 1 hts gX8_scanRun_X8_isInRun rfl rfl rfl (by decide +kernel) ⟨by decide, by decide⟩) rfl hl.1 rfl (Nat.le_of_ble_eq_true rfl) dX8_scanRun_28 (Nat.zero_le _) (Nat.zero_le _) (fun r19 u19 H19 locs19 hp19 hP hS => ?_)
    obtain ⟨σ19, τ19⟩ := u19
    obtain ⟨hR, f19, fL19, hq19, hp19_0⟩ : P_X8_isInRun σ τ r18 r19 σ19 τ19 := hp19
    have hP : va_P D vwCl (gw cA ad σ19 τ19) H19 := hP
    obtain rfl := FrL.nil fL19
    obtain rfl := Fr.nil f19
    refine r_if_eq (tgt := 96) hx hb dX8_scanRun_31 (by decide) (fun c20 => ?_) (fun c20 => ?_)
    · have en := run_at hi2 hi1 (by omega)
      refine r_bipush hx hb dX8_scanRun_96 (by decide) (fun z21 ez21 => ?_)
      refine lv_istore (lv' := [(8, .int z21), (0, .ref (ad 1)), (1, .int a1), (2, .int x2), (3, .int x3), (4, .int x4), (5, .long y5), (7, .int x7)]) hx hb dX8_scanRun_98 hl (by decide) rfl (fun ls hl => ?_)
      refine lv_iload_n hx hb dX8_scanRun_100 rfl (lv_at hl 3 rfl) ?_
      refine r_if_ne (tgt := 116) hx hb dX8_scanRun_101 (by decide) (fun c22 => ?_) (fun c22 => ?_)
      · refine lv_iload_n hx hb dX8_scanRun_116 rfl (lv_at hl 4 rfl) ?_
        refine r_if_ne (tgt := 135) hx hb dX8_scanRun_117 (by decide) (fun c23 => ?_) (fun c23 => ?_)
        · refine lv_aload_n hx hb dX8_scanRun_135 rfl (lv_at hl 1 rfl) ?_
          refine lv_iload hx hb dX8_scanRun_136 (lv_at hl 0 rfl) ?_
          refine lv_iload_n hx hb dX8_scanRun_138 rfl (lv_at hl 2 rfl) ?_
          refine lv_iload hx hb dX8_scanRun_139 (lv_at hl 5 rfl) ?_
          refine lv_lload hx hb dX8_scanRun_141 (lv_at hl 6 rfl) ?_
          refine r_cVv (k := 1) (As := [.int z21, .int a1, .int x4, .long y5]) (rest := []) ⟨hx, hb, hml, hown, hts⟩ hK hP hN hS (c_X8_note_v l D cA ad hI σ τ hR z21 a1 x4 y5 b N mo (by omega) (by omega) (by omega) (tv_rn (by rw [show (σ 1 6).toInt.toNat = (σ0 1 6).toInt.toNat by omega]; exact hpre4) hpre1 hpre2 hpre3 hi2 en (by omega) (by omega) hi5 hi6) gTL) (cwV 4 hts gX8_scanRun_X8_note rfl rfl rfl (by decide +kernel) ⟨by decide, by decide⟩) (rv_Tape hK hP (by decide) (by decide)) rfl hl.1 rfl (Nat.le_of_ble_eq_true rfl) dX8_scanRun_143 (Nat.zero_le _) (Nat.zero_le _) (fun u24 H24 locs24 hp24 hP hS => ?_)
          obtain ⟨σ24, τ24⟩ := u24
          obtain ⟨hR, f24, fL24, hp24_0, gnTL⟩ : P_X8_note_v σ τ z21 a1 x4 y5 b N mo σ24 τ24 := hp24
          have hP : va_P D vwCl (gw cA ad σ24 τ24) H24 := hP
          have hFL := hFL.step fL24 (by decide)
          have hF := hF.step f24 (by decide)
          have gBY := gBY.ag (Agr.fr f24 (by decide))
          have gTL := gnTL
          refine lv_iload hx hb dX8_scanRun_146 (lv_at hl 7 rfl) ?_
          exact r_iret hx hb hr hK hP hS hk dX8_scanRun_148 (show P_X8_scanRun_v σ0 τ0 a1 b N mo q x7 σ24 τ24 from ⟨hR, hF, hFL, by omega, by omega, by omega, gBY, gTL⟩)
        · refine lv_iload_n hx hb dX8_scanRun_120 rfl (lv_at hl 3 rfl) ?_
          refine r_bipush hx hb dX8_scanRun_121 (by decide) (fun z25 ez25 => ?_)
          refine r_icmp_gt (tgt := 135) hx hb dX8_scanRun_123 (by decide) (fun c26 => ?_) (fun c26 => ?_)
          · refine lv_aload_n hx hb dX8_scanRun_135 rfl (lv_at hl 1 rfl) ?_
            refine lv_iload hx hb dX8_scanRun_136 (lv_at hl 0 rfl) ?_
            refine lv_iload_n hx hb dX8_scanRun_138 rfl (lv_at hl 2 rfl) ?_
            refine lv_iload hx hb dX8_scanRun_139 (lv_at hl 5 rfl) ?_
            refine lv_lload hx hb dX8_scanRun_141 (lv_at hl 6 rfl) ?_
            refine r_cVv (k := 1) (As := [.int z21, .int a1, .int x4, .long y5]) (rest := []) ⟨hx, hb, hml, hown, hts⟩ hK hP hN hS (c_X8_note_v l D cA ad hI σ τ hR z21 a1 x4 y5 b N mo (by omega) (by omega) (by omega) (tv_rn (by rw [show (σ 1 6).toInt.toNat = (σ0 1 6).toInt.toNat by omega]; exact hpre4) hpre1 hpre2 hpre3 hi2 en (by omega) (by omega) hi5 hi6) gTL) (cwV 4 hts gX8_scanRun_X8_note rfl rfl rfl (by decide +kernel) ⟨by decide, by decide⟩) (rv_Tape hK hP (by decide) (by decide)) rfl hl.1 rfl (Nat.le_of_ble_eq_true rfl) dX8_scanRun_143 (Nat.zero_le _) (Nat.zero_le _) (fun u27 H27 locs27 hp27 hP hS => ?_)
            obtain ⟨σ27, τ27⟩ := u27
            obtain ⟨hR, f27, fL27, hp27_0, gnTL⟩ : P_X8_note_v σ τ z21 a1 x4 y5 b N mo σ27 τ27 := hp27
            have hP : va_P D vwCl (gw cA ad σ27 τ27) H27 := hP
            have hFL := hFL.step fL27 (by decide)
            have hF := hF.step f27 (by decide)
            have gBY := gBY.ag (Agr.fr f27 (by decide))
            have gTL := gnTL
            refine lv_iload hx hb dX8_scanRun_146 (lv_at hl 7 rfl) ?_
            exact r_iret hx hb hr hK hP hS hk dX8_scanRun_148 (show P_X8_scanRun_v σ0 τ0 a1 b N mo q x7 σ27 τ27 from ⟨hR, hF, hFL, by omega, by omega, by omega, gBY, gTL⟩)
          · refine lv_aload_n hx hb dX8_scanRun_126 rfl (lv_at hl 1 rfl) ?_
            refine lv_iload_n hx hb dX8_scanRun_127 rfl (lv_at hl 2 rfl) ?_
            refine lv_iload hx hb dX8_scanRun_128 (lv_at hl 7 rfl) ?_
            refine r_cVi (k := 1) (As := [.int a1, .int x7]) (rest := []) ⟨hx, hb, hml, hown, hts⟩ hK hP hN hS (c_X8_wordToken_v l D cA ad hI σ τ hR a1 x7 b N q ln (by omega) (by omega) (by omega) (by omega) (by omega) (by omega) (lt_of hi2 (by omega)) gBY) (cwV 2 hts gX8_scanRun_X8_wordToken rfl rfl rfl (by decide +kernel) ⟨by decide, by decide⟩) (rv_Tape hK hP (by decide) (by decide)) rfl hl.1 rfl (Nat.le_of_ble_eq_true rfl) dX8_scanRun_130 (Nat.zero_le _) (Nat.zero_le _) (fun r28 u28 H28 locs28 hp28 hP hS => ?_)
            obtain ⟨σ28, τ28⟩ := u28
            obtain ⟨hR, f28, fL28, hq28, hp28_0, gnBY⟩ : P_X8_wordToken_v σ τ a1 x7 b N q ln r28 σ28 τ28 := hp28
            have hP : va_P D vwCl (gw cA ad σ28 τ28) H28 := hP
            obtain rfl := FrL.nil fL28
            obtain rfl := Fr.nil f28
            refine lv_istore (lv' := [(8, .int r28), (0, .ref (ad 1)), (1, .int a1), (2, .int x2), (3, .int x3), (4, .int x4), (5, .long y5), (7, .int x7)]) hx hb dX8_scanRun_133 hl (by decide) rfl (fun ls hl => ?_)
            refine lv_aload_n hx hb dX8_scanRun_135 rfl (lv_at hl 1 rfl) ?_
            refine lv_iload hx hb dX8_scanRun_136 (lv_at hl 0 rfl) ?_
            refine lv_iload_n hx hb dX8_scanRun_138 rfl (lv_at hl 2 rfl) ?_
            refine lv_iload hx hb dX8_scanRun_139 (lv_at hl 5 rfl) ?_
            refine lv_lload hx hb dX8_scanRun_141 (lv_at hl 6 rfl) ?_
            refine r_cVv (k := 1) (As := [.int r28, .int a1, .int x4, .long y5]) (rest := []) ⟨hx, hb, hml, hown, hts⟩ hK hP hN hS (c_X8_note_v l D cA ad hI σ τ hR r28 a1 x4 y5 b N mo (by omega) (by omega) (by omega) (tv_rn (by rw [show (σ 1 6).toInt.toNat = (σ0 1 6).toInt.toNat by omega]; exact hpre4) hpre1 hpre2 hpre3 hi2 en (by omega) (by omega) hi5 hi6) gTL) (cwV 4 hts gX8_scanRun_X8_note rfl rfl rfl (by decide +kernel) ⟨by decide, by decide⟩) (rv_Tape hK hP (by decide) (by decide)) rfl hl.1 rfl (Nat.le_of_ble_eq_true rfl) dX8_scanRun_143 (Nat.zero_le _) (Nat.zero_le _) (fun u29 H29 locs29 hp29 hP hS => ?_)
            obtain ⟨σ29, τ29⟩ := u29
            obtain ⟨hR, f29, fL29, hp29_0, gnTL⟩ : P_X8_note_v σ τ r28 a1 x4 y5 b N mo σ29 τ29 := hp29
            have hP : va_P D vwCl (gw cA ad σ29 τ29) H29 := hP
            have hFL := hFL.step fL29 (by decide)
            have hF := hF.step f29 (by decide)
            have gBY := gBY.ag (Agr.fr f29 (by decide))
            have gTL := gnTL
            refine lv_iload hx hb dX8_scanRun_146 (lv_at hl 7 rfl) ?_
            exact r_iret hx hb hr hK hP hS hk dX8_scanRun_148 (show P_X8_scanRun_v σ0 τ0 a1 b N mo q x7 σ29 τ29 from ⟨hR, hF, hFL, by omega, by omega, by omega, gBY, gTL⟩)
      · refine lv_iload_n hx hb dX8_scanRun_104 rfl (lv_at hl 4 rfl) ?_
        refine r_iconst hx hb dX8_scanRun_105 (by decide) (fun z30 ez30 => ?_)
        refine r_icmp_gt (tgt := 116) hx hb dX8_scanRun_106 (by decide) (fun c31 => ?_) (fun c31 => ?_)
        · refine lv_iload_n hx hb dX8_scanRun_116 rfl (lv_at hl 4 rfl) ?_
          refine r_if_ne (tgt := 135) hx hb dX8_scanRun_117 (by decide) (fun c32 => ?_) (fun c32 => ?_)
          · refine lv_aload_n hx hb dX8_scanRun_135 rfl (lv_at hl 1 rfl) ?_
            refine lv_iload hx hb dX8_scanRun_136 (lv_at hl 0 rfl) ?_
            refine lv_iload_n hx hb dX8_scanRun_138 rfl (lv_at hl 2 rfl) ?_
            refine lv_iload hx hb dX8_scanRun_139 (lv_at hl 5 rfl) ?_
            refine lv_lload hx hb dX8_scanRun_141 (lv_at hl 6 rfl) ?_
            refine r_cVv (k := 1) (As := [.int z21, .int a1, .int x4, .long y5]) (rest := []) ⟨hx, hb, hml, hown, hts⟩ hK hP hN hS (c_X8_note_v l D cA ad hI σ τ hR z21 a1 x4 y5 b N mo (by omega) (by omega) (by omega) (tv_rn (by rw [show (σ 1 6).toInt.toNat = (σ0 1 6).toInt.toNat by omega]; exact hpre4) hpre1 hpre2 hpre3 hi2 en (by omega) (by omega) hi5 hi6) gTL) (cwV 4 hts gX8_scanRun_X8_note rfl rfl rfl (by decide +kernel) ⟨by decide, by decide⟩) (rv_Tape hK hP (by decide) (by decide)) rfl hl.1 rfl (Nat.le_of_ble_eq_true rfl) dX8_scanRun_143 (Nat.zero_le _) (Nat.zero_le _) (fun u33 H33 locs33 hp33 hP hS => ?_)
            obtain ⟨σ33, τ33⟩ := u33
            obtain ⟨hR, f33, fL33, hp33_0, gnTL⟩ : P_X8_note_v σ τ z21 a1 x4 y5 b N mo σ33 τ33 := hp33
            have hP : va_P D vwCl (gw cA ad σ33 τ33) H33 := hP
            have hFL := hFL.step fL33 (by decide)
            have hF := hF.step f33 (by decide)
            have gBY := gBY.ag (Agr.fr f33 (by decide))
            have gTL := gnTL
            refine lv_iload hx hb dX8_scanRun_146 (lv_at hl 7 rfl) ?_
            exact r_iret hx hb hr hK hP hS hk dX8_scanRun_148 (show P_X8_scanRun_v σ0 τ0 a1 b N mo q x7 σ33 τ33 from ⟨hR, hF, hFL, by omega, by omega, by omega, gBY, gTL⟩)
          · exfalso; omega
        · refine r_bipush hx hb dX8_scanRun_109 (by decide) (fun z34 ez34 => ?_)
          refine lv_istore (lv' := [(8, .int z34), (0, .ref (ad 1)), (1, .int a1), (2, .int x2), (3, .int x3), (4, .int x4), (5, .long y5), (7, .int x7)]) hx hb dX8_scanRun_111 hl (by decide) rfl (fun ls hl => ?_)
          refine lv_goto (tgt := 135) hx hb dX8_scanRun_113 (by decide) ?_
          refine lv_aload_n hx hb dX8_scanRun_135 rfl (lv_at hl 1 rfl) ?_
          refine lv_iload hx hb dX8_scanRun_136 (lv_at hl 0 rfl) ?_
          refine lv_iload_n hx hb dX8_scanRun_138 rfl (lv_at hl 2 rfl) ?_
          refine lv_iload hx hb dX8_scanRun_139 (lv_at hl 5 rfl) ?_
          refine lv_lload hx hb dX8_scanRun_141 (lv_at hl 6 rfl) ?_
          refine r_cVv (k := 1) (As := [.int z34, .int a1, .int x4, .long y5]) (rest := []) ⟨hx, hb, hml, hown, hts⟩ hK hP hN hS (c_X8_note_v l D cA ad hI σ τ hR z34 a1 x4 y5 b N mo (by omega) (by omega) (by omega) (tv_rn (by rw [show (σ 1 6).toInt.toNat = (σ0 1 6).toInt.toNat by omega]; exact hpre4) hpre1 hpre2 hpre3 hi2 en (by omega) (by omega) hi5 hi6) gTL) (cwV 4 hts gX8_scanRun_X8_note rfl rfl rfl (by decide +kernel) ⟨by decide, by decide⟩) (rv_Tape hK hP (by decide) (by decide)) rfl hl.1 rfl (Nat.le_of_ble_eq_true rfl) dX8_scanRun_143 (Nat.zero_le _) (Nat.zero_le _) (fun u35 H35 locs35 hp35 hP hS => ?_)
          obtain ⟨σ35, τ35⟩ := u35
          obtain ⟨hR, f35, fL35, hp35_0, gnTL⟩ : P_X8_note_v σ τ z34 a1 x4 y5 b N mo σ35 τ35 := hp35
          have hP : va_P D vwCl (gw cA ad σ35 τ35) H35 := hP
          have hFL := hFL.step fL35 (by decide)
          have hF := hF.step f35 (by decide)
          have gBY := gBY.ag (Agr.fr f35 (by decide))
          have gTL := gnTL
          refine lv_iload hx hb dX8_scanRun_146 (lv_at hl 7 rfl) ?_
          exact r_iret hx hb hr hK hP hS hk dX8_scanRun_148 (show P_X8_scanRun_v σ0 τ0 a1 b N mo q x7 σ35 τ35 from ⟨hR, hF, hFL, by omega, by omega, by omega, gBY, gTL⟩)
    · have hrn : isRn (b (q + ln)) := by omega
      refine lv_aload_n hx hb dX8_scanRun_34 rfl (lv_at hl 0 rfl) ?_
      refine lv_iload hx hb dX8_scanRun_35 (lv_at hl 6 rfl) ?_
      refine r_cVi (k := 1) (As := [.int x7]) (rest := []) ⟨hx, hb, hml, hown, hts⟩ hK hP hN hS (c_X8_byteAt l D cA ad hI σ τ hR x7 (by omega)) (cwV 1 hts gX8_scanRun_X8_byteAt rfl rfl rfl (by decide +kernel) ⟨by decide, by decide⟩) (rv_Tape hK hP (by decide) (by decide)) rfl hl.1 rfl (Nat.le_of_ble_eq_true rfl) dX8_scanRun_37 (Nat.zero_le _) (Nat.zero_le _) (fun r36 u36 H36 locs36 hp36 hP hS => ?_)
      obtain ⟨σ36, τ36⟩ := u36
      obtain ⟨hR, f36, fL36, hq36, hp36_0⟩ : P_X8_byteAt σ τ x7 r36 σ36 τ36 := hp36
      have hP : va_P D vwCl (gw cA ad σ36 τ36) H36 := hP
      obtain rfl := FrL.nil fL36
      obtain rfl := Fr.nil f36
      have hb37 := BY.rd gBY (j := q + ln) hp36_0 (by omega) (by omega)
      refine lv_istore (lv' := [(8, .int r36), (0, .ref (ad 1)), (1, .int a1), (2, .int x2), (3, .int x3), (4, .int x4), (5, .long y5), (7, .int x7)]) hx hb dX8_scanRun_40 hl (by decide) rfl (fun ls hl => ?_)
      refine lv_iload hx hb dX8_scanRun_42 (lv_at hl 0 rfl) ?_
      refine r_cSi (As := [.int r36]) (rest := []) ⟨hx, hb, hml, hown, hts⟩ hK hP hN hS (c_X8_isDigit l D cA ad hI σ τ hR r36 (by omega)) (va_cwS 1 hts gX8_scanRun_X8_isDigit rfl rfl rfl (by decide +kernel) ⟨by decide, by decide⟩) rfl hl.1 rfl (Nat.le_of_ble_eq_true rfl) dX8_scanRun_44 (Nat.zero_le _) (Nat.zero_le _) (fun r37 u37 H37 locs37 hp37 hP hS => ?_)
      obtain ⟨σ37, τ37⟩ := u37
      obtain ⟨hR, f37, fL37, hq37, hp37_0⟩ : P_X8_isDigit σ τ r36 r37 σ37 τ37 := hp37
      have hP : va_P D vwCl (gw cA ad σ37 τ37) H37 := hP
      obtain rfl := FrL.nil fL37
      obtain rfl := Fr.nil f37
      refine r_if_eq (tgt := 69) hx hb dX8_scanRun_47 (by decide) (fun c38 => ?_) (fun c38 => ?_)
      · have hdg : ¬ isDg (b (q + ln)) := by omega
        have hdc := dgc_n hdg
        refine r_iinc (k := 3) (lv1 := fun z39 => [(2, .int z39), (8, .int r36), (0, .ref (ad 1)), (1, .int a1), (3, .int x3), (4, .int x4), (5, .long y5), (7, .int x7)]) hx hb dX8_scanRun_69 hl rfl (by decide) (fun _ => rfl) (by decide) (by omega) (fun z39 ls ez39 hl => ?_)
        refine lv_lload hx hb dX8_scanRun_72 (lv_at hl 6 rfl) ?_
        refine lv_ldc2 (v := 27) hx hb hown (hts _ lk_X8_scanRun_78) dX8_scanRun_74 ?_
        refine lv_lmul hx hb dX8_scanRun_77 ?_
        refine lv_iload hx hb dX8_scanRun_78 (lv_at hl 1 rfl) ?_
        refine lv_i2l hx hb dX8_scanRun_80 rfl ?_
        refine lv_ladd hx hb dX8_scanRun_81 ?_
        refine lv_ldc2 (v := 97) hx hb hown (hts _ lk_X8_scanRun_80) dX8_scanRun_82 ?_
        refine lv_lsub hx hb dX8_scanRun_85 ?_
        refine lv_lconst (v := 1) hx hb dX8_scanRun_86 (by decide) ?_
        refine lv_ladd hx hb dX8_scanRun_87 ?_
        refine lv_lstore (lv' := [(5, .long ((((y5 * (27)) + (r36.toInt64)) - (97)) + (1))), (2, .int z39), (8, .int r36), (0, .ref (ad 1)), (1, .int a1), (3, .int x3), (4, .int x4), (7, .int x7)]) hx hb dX8_scanRun_88 hl (by decide) rfl (fun ls hl => ?_)
        refine r_iinc (k := 7) (lv1 := fun z40 => [(7, .int z40), (5, .long ((((y5 * (27)) + (r36.toInt64)) - (97)) + (1))), (2, .int z39), (8, .int r36), (0, .ref (ad 1)), (1, .int a1), (3, .int x3), (4, .int x4)]) hx hb dX8_scanRun_90 hl rfl (by decide) (fun _ => rfl) (by decide) (by omega) (fun z40 ls ez40 hl => ?_)
        refine lv_goto (tgt := 13) hx hb dX8_scanRun_93 (by decide) ?_
        exact K13 σ τ H37 locs37 z39 x3 x4 ((((y5 * (27)) + (r36.toInt64)) - (97)) + (1)) z40 (ln + 1) ls hR hF hFL hP hS (by omega) (by omega) (by omega) (by omega) (by omega) (by first | exact (fun i hi => absurd hi (Nat.not_lt_zero i)) | exact rn_s hi2 hrn) (by first | omega | (show _ = ((0 : Nat) : Int); omega)) (by first | omega | (show _ = ((0 : Nat) : Int) - ((0 : Nat) : Int); omega)) (by first | exact NUs hi5 hb37 hdg | exact NUn hdg | exact Or.inr (Or.inr (by show _ = (0 : Int); omega))) (by first | exact NAs hi6 hi2 hb37 hrn hdg | exact NAd hdg | exact Or.inr (Or.inr rfl)) (by omega) gBY gTL (lv_sub hl [4, 5, 2, 6, 7, 1, 0] rfl) (by omega)
      · have hdg : isDg (b (q + ln)) := by omega
        have hdc := dgc_y hdg
        refine r_iinc (k := 4) (lv1 := fun z41 => [(3, .int z41), (8, .int r36), (0, .ref (ad 1)), (1, .int a1), (2, .int x2), (4, .int x4), (5, .long y5), (7, .int x7)]) hx hb dX8_scanRun_50 hl rfl (by decide) (fun _ => rfl) (by decide) (by omega) (fun z41 ls ez41 hl => ?_)
        refine lv_iload hx hb dX8_scanRun_53 (lv_at hl 5 rfl) ?_
        refine lv_bipush (v := 10) hx hb dX8_scanRun_55 (by decide) ?_
        have kcz42 : (10 : Int32).toInt = 10 := rfl
        refine lv_imul hx hb dX8_scanRun_57 ?_
        refine lv_iload hx hb dX8_scanRun_58 (lv_at hl 1 rfl) ?_
        refine lv_iadd hx hb dX8_scanRun_60 ?_
        refine lv_bipush (v := 48) hx hb dX8_scanRun_61 (by decide) ?_
        have kcz43 : (48 : Int32).toInt = 48 := rfl
        refine lv_isub hx hb dX8_scanRun_63 ?_
        refine lv_istore (lv' := [(4, .int (((x4 * 10) + r36) - 48)), (3, .int z41), (8, .int r36), (0, .ref (ad 1)), (1, .int a1), (2, .int x2), (5, .long y5), (7, .int x7)]) hx hb dX8_scanRun_64 hl (by decide) rfl (fun ls hl => ?_)
        refine lv_goto (tgt := 90) hx hb dX8_scanRun_66 (by decide) ?_
        refine r_iinc (k := 7) (lv1 := fun z44 => [(7, .int z44), (4, .int (((x4 * 10) + r36) - 48)), (3, .int z41), (8, .int r36), (0, .ref (ad 1)), (1, .int a1), (2, .int x2), (5, .long y5)]) hx hb dX8_scanRun_90 hl rfl (by decide) (fun _ => rfl) (by decide) (by omega) (fun z44 ls ez44 hl => ?_)
        refine lv_goto (tgt := 13) hx hb dX8_scanRun_93 (by decide) ?_
        exact K13 σ τ H37 locs37 x2 z41 (((x4 * 10) + r36) - 48) y5 z44 (ln + 1) ls hR hF hFL hP hS (by omega) (by omega) (by omega) (by omega) (by omega) (by first | exact (fun i hi => absurd hi (Nat.not_lt_zero i)) | exact rn_s hi2 hrn) (by first | omega | (show _ = ((0 : Nat) : Int); omega)) (by first | omega | (show _ = ((0 : Nat) : Int) - ((0 : Nat) : Int); omega)) (by first | exact NUs hi5 hb37 hdg | exact NUn hdg | exact Or.inr (Or.inr (by show _ = (0 : Int); omega))) (by first | exact NAs hi6 hi2 hb37 hrn hdg | exact NAd hdg | exact Or.inr (Or.inr rfl)) (by omega) gBY gTL (lv_sub hl [4, 5, 6, 2, 1, 7, 0] rfl) (by omega)
theorem A_X8_scanRun_v (p : Program) (l : Launch) (e : Env) (s : State) (m : MethodId) (args : Array Value) (below : List Frame) (meth : Method) (c : Code) (D : va_G) (cA : Nat → ClassId) (ad : Nat → Nat) (σ0 : Nat → Nat → Int32) (τ0 : Nat → Nat → Int64) (a1 : Int32) (b : Nat → Int) (N : Nat) (mo : Nat) (q : Nat) (C : Cy p s m args meth c cX8_scanRun 9 wsX8_scanRun RX8 D cA ad (some .int)) (ha1 : 0 ≤ a1.toInt ∧ a1.toInt ≤ 899) (hpre0 : a1.toInt = (q : Int)) (hpre1 : q < N) (hpre2 : q < mo) (hpre3 : isRn (b q)) (hpre4 : posq b N mo (σ0 1 6).toInt.toNat = q) (hpre5 : 0 ≤ (σ0 1 6).toInt ∧ (σ0 1 6).toInt ≤ 940) (gBY0 : BY σ0 b N) (gTL0 : TL σ0 τ0 b N mo) : ∀ n : Nat, J_X8_scanRun_v_13 p l e s m args below meth c D cA ad σ0 τ0 a1 b N mo q n := by
  intro n
  induction n with
  | zero =>
    exact (by intro σ τ H locs x2 x3 x4 y5 x7 ln ls hR hF hFL hP hS hc0 hc1 hc2 hi0 hi1 hi2 hi3 hi4 hi5 hi6 hi7 gBY gTL hl hm; exfalso; omega)
  | succ n ih =>
    exact B_X8_scanRun_v_13 p l e s m args below meth c D cA ad σ0 τ0 a1 b N mo q n C ha1 hpre0 hpre1 hpre2 hpre3 hpre4 hpre5 gBY0 gTL0 ih
set_option maxHeartbeats 4000000 in
theorem c_X8_scanRun_v (l : Launch) (D : va_G) (cA : Nat → ClassId) (ad : Nat → Nat) (hI : Inj ad) (σ0 : Nat → Nat → Int32) (τ0 : Nat → Nat → Int64) (hR : Rg σ0) (a1 : Int32) (b : Nat → Int) (N : Nat) (mo : Nat) (q : Nat) (ha1 : 0 ≤ a1.toInt ∧ a1.toInt ≤ 899) (hpre0 : a1.toInt = (q : Int)) (hpre1 : q < N) (hpre2 : q < mo) (hpre3 : isRn (b q)) (hpre4 : posq b N mo (σ0 1 6).toInt.toNat = q) (hpre5 : 0 ≤ (σ0 1 6).toInt ∧ (σ0 1 6).toInt ≤ 940) (gBY0 : BY σ0 b N) (gTL0 : TL σ0 τ0 b N mo) : Met l yX8_scanRun wsX8_scanRun ({ frames := 7, cells := 0, slots := 0, locals := 158 } : Room) (WQc D cA ad [.ref (ad 1), .int a1] σ0 τ0) (va_Qi (fun (r : Int32) (u : SS) => P_X8_scanRun_v σ0 τ0 a1 b N mo q r u.1 u.2) (WB D cA ad) (AA ad)) 0 0 (AA ad) := by
  refine Met.ofW (cc := cX8_scanRun) (maxL := 9) (ret := (some .int)) (by decide) rfl ?_
  intro p e s m args below meth c s₁ B hml hv
  obtain ⟨rfl, hP, hK, hN⟩ := hv
  have C : Cy p s m _ meth c cX8_scanRun 9 wsX8_scanRun RX8 D cA ad (some .int) := ⟨B.exec, B.bytes, hml, findClass_of_methodNamed B.named, atoms_spec (ws := wsX8_scanRun) B.pre, hK, B.notSynchronized, B.returns, hI, hN⟩
  have hl := lv_entry ([.ref (ad 1), .int a1]) (n := 9) (Nat.le_of_ble_eq_true rfl)
  rw [lg_entry_eq]
  generalize (lg_sl ([.ref (ad 1), .int a1]) ++ List.replicate (9 - (lg_sl ([.ref (ad 1), .int a1])).length) Slot.unset).toArray = ls at hl ⊢
  have hl : lv_has ls 9 [(0, .ref (ad 1)), (1, .int a1)] := hl
  have hS : va_S (AA ad) s.heap s.heap [] := va_S.rf
  have hF : Fr L_X8_scanRun_v σ0 σ0 := Fr.rf
  have hFL : FrL LL_X8_scanRun_v τ0 τ0 := FrL.rf
  have gBY := gBY0
  have gTL := gTL0
  have hA := A_X8_scanRun_v p l e s m _ below meth c D cA ad σ0 τ0 a1 b N mo q C ha1 hpre0 hpre1 hpre2 hpre3 hpre4 hpre5 gBY0 gTL0 3770
  have K13 := hA
  clear hA
  obtain ⟨hx, hb, _, hown, hts, _, hk, hr, _, _⟩ := C
  refine r_iconst hx hb dX8_scanRun_0 (by decide) (fun z1 ez1 => ?_)
  refine lv_istore_n (lv' := [(2, .int z1), (0, .ref (ad 1)), (1, .int a1)]) hx hb dX8_scanRun_1 rfl hl (by decide) rfl (fun ls hl => ?_)
  refine r_iconst hx hb dX8_scanRun_2 (by decide) (fun z2 ez2 => ?_)
  refine lv_istore_n (lv' := [(3, .int z2), (2, .int z1), (0, .ref (ad 1)), (1, .int a1)]) hx hb dX8_scanRun_3 rfl hl (by decide) rfl (fun ls hl => ?_)
  refine r_iconst hx hb dX8_scanRun_4 (by decide) (fun z3 ez3 => ?_)
  refine lv_istore (lv' := [(4, .int z3), (3, .int z2), (2, .int z1), (0, .ref (ad 1)), (1, .int a1)]) hx hb dX8_scanRun_5 hl (by decide) rfl (fun ls hl => ?_)
  refine lv_lconst (v := 0) hx hb dX8_scanRun_7 (by decide) ?_
  refine lv_lstore (lv' := [(5, .long (0)), (4, .int z3), (3, .int z2), (2, .int z1), (0, .ref (ad 1)), (1, .int a1)]) hx hb dX8_scanRun_8 hl (by decide) rfl (fun ls hl => ?_)
  refine lv_iload_n hx hb dX8_scanRun_10 rfl (lv_at hl 5 rfl) ?_
  refine lv_istore (lv' := [(7, .int a1), (5, .long (0)), (4, .int z3), (3, .int z2), (2, .int z1), (0, .ref (ad 1)), (1, .int a1)]) hx hb dX8_scanRun_11 hl (by decide) rfl (fun ls hl => ?_)
  exact K13 σ0 τ0 s.heap [] z1 z2 z3 (0) a1 0 ls hR hF hFL hP hS (by omega) (by omega) (by omega) (by omega) (by omega) (by first | exact (fun i hi => absurd hi (Nat.not_lt_zero i)) | exact rn_s hi2 hrn) (by first | omega | (show _ = ((0 : Nat) : Int); omega)) (by first | omega | (show _ = ((0 : Nat) : Int) - ((0 : Nat) : Int); omega)) (by first | exact NUs hi5 hb37 hdg | exact NUn hdg | exact Or.inr (Or.inr (by show _ = (0 : Int); omega))) (by first | exact NAs hi6 hi2 hb37 hrn hdg | exact NAd hdg | exact Or.inr (Or.inr rfl)) (by omega) gBY gTL (lv_sub hl [5, 6, 4, 3, 2, 1, 0] rfl) (by omega)
abbrev L_X8_signToken : List Rc := []
abbrev LL_X8_signToken : List Rc := []
def P_X8_signToken (σ0 : Nat → Nat → Int32) (τ0 : Nat → Nat → Int64) (a0 : Int32) (r : Int32) (σ : Nat → Nat → Int32) (τ : Nat → Nat → Int64) : Prop := Rg σ ∧ Fr L_X8_signToken σ0 σ ∧ FrL LL_X8_signToken τ0 τ ∧ (40 ≤ r.toInt ∧ r.toInt ≤ 49) ∧ (r.toInt = sgT a0.toInt)
set_option maxHeartbeats 4000000 in
theorem c_X8_signToken (l : Launch) (D : va_G) (cA : Nat → ClassId) (ad : Nat → Nat) (hI : Inj ad) (σ0 : Nat → Nat → Int32) (τ0 : Nat → Nat → Int64) (hR : Rg σ0) (a0 : Int32) (ha0 : 0 ≤ a0.toInt ∧ a0.toInt ≤ 255) : Met l yX8_signToken wsX8_signToken ({ frames := 0, cells := 0, slots := 0, locals := 0 } : Room) (WQc D cA ad [.int a0] σ0 τ0) (va_Qi (fun (r : Int32) (u : SS) => P_X8_signToken σ0 τ0 a0 r u.1 u.2) (WB D cA ad) (AA ad)) 0 0 (AA ad) := by
  refine Met.ofW (cc := cX8_signToken) (maxL := 1) (ret := (some .int)) (by decide) rfl ?_
  intro p e s m args below meth c s₁ B hml hv
  obtain ⟨rfl, hP, hK, hN⟩ := hv
  have C : Cy p s m _ meth c cX8_signToken 1 wsX8_signToken RX8 D cA ad (some .int) := ⟨B.exec, B.bytes, hml, findClass_of_methodNamed B.named, atoms_spec (ws := wsX8_signToken) B.pre, hK, B.notSynchronized, B.returns, hI, hN⟩
  have hl := lv_entry ([.int a0]) (n := 1) (Nat.le_of_ble_eq_true rfl)
  rw [lg_entry_eq]
  generalize (lg_sl ([.int a0]) ++ List.replicate (1 - (lg_sl ([.int a0])).length) Slot.unset).toArray = ls at hl ⊢
  have hl : lv_has ls 1 [(0, .int a0)] := hl
  have hS : va_S (AA ad) s.heap s.heap [] := va_S.rf
  have hF : Fr L_X8_signToken σ0 σ0 := Fr.rf
  have hFL : FrL LL_X8_signToken τ0 τ0 := FrL.rf
  obtain ⟨hx, hb, _, hown, hts, _, hk, hr, _, _⟩ := C
  refine lv_iload_n hx hb dX8_signToken_0 rfl (lv_at hl 0 rfl) ?_
  by_cases c1 : a0.toInt = 40
  · refine lv_lookup (off := 71) (tgt := 72) hx hb dX8_signToken_1 (by decide) (by rw [c1]; rfl) (by decide) ?_
    refine r_bipush hx hb dX8_signToken_72 (by decide) (fun z2 ez2 => ?_)
    exact r_iret hx hb hr hK hP hS hk dX8_signToken_74 (show P_X8_signToken σ0 τ0 a0 z2 σ0 τ0 from ⟨hR, hF, hFL, by omega, by unfold sgT; first | (rw [if_pos (by omega)]; omega) | (rw [if_neg (by omega), if_pos (by omega)]; omega) | (rw [if_neg (by omega), if_neg (by omega), if_pos (by omega)]; omega) | (rw [if_neg (by omega), if_neg (by omega), if_neg (by omega), if_pos (by omega)]; omega) | (rw [if_neg (by omega), if_neg (by omega), if_neg (by omega), if_neg (by omega), if_pos (by omega)]; omega) | (rw [if_neg (by omega), if_neg (by omega), if_neg (by omega), if_neg (by omega), if_neg (by omega), if_pos (by omega)]; omega) | (rw [if_neg (by omega), if_neg (by omega), if_neg (by omega), if_neg (by omega), if_neg (by omega), if_neg (by omega)]; omega)⟩)
  by_cases c3 : a0.toInt = 41
  · refine lv_lookup (off := 74) (tgt := 75) hx hb dX8_signToken_1 (by decide) (by rw [c3]; rfl) (by decide) ?_
    refine r_bipush hx hb dX8_signToken_75 (by decide) (fun z4 ez4 => ?_)
    exact r_iret hx hb hr hK hP hS hk dX8_signToken_77 (show P_X8_signToken σ0 τ0 a0 z4 σ0 τ0 from ⟨hR, hF, hFL, by omega, by unfold sgT; first | (rw [if_pos (by omega)]; omega) | (rw [if_neg (by omega), if_pos (by omega)]; omega) | (rw [if_neg (by omega), if_neg (by omega), if_pos (by omega)]; omega) | (rw [if_neg (by omega), if_neg (by omega), if_neg (by omega), if_pos (by omega)]; omega) | (rw [if_neg (by omega), if_neg (by omega), if_neg (by omega), if_neg (by omega), if_pos (by omega)]; omega) | (rw [if_neg (by omega), if_neg (by omega), if_neg (by omega), if_neg (by omega), if_neg (by omega), if_pos (by omega)]; omega) | (rw [if_neg (by omega), if_neg (by omega), if_neg (by omega), if_neg (by omega), if_neg (by omega), if_neg (by omega)]; omega)⟩)
  by_cases c5 : a0.toInt = 59
  · refine lv_lookup (off := 59) (tgt := 60) hx hb dX8_signToken_1 (by decide) (by rw [c5]; rfl) (by decide) ?_
    refine r_bipush hx hb dX8_signToken_60 (by decide) (fun z6 ez6 => ?_)
    exact r_iret hx hb hr hK hP hS hk dX8_signToken_62 (show P_X8_signToken σ0 τ0 a0 z6 σ0 τ0 from ⟨hR, hF, hFL, by omega, by unfold sgT; first | (rw [if_pos (by omega)]; omega) | (rw [if_neg (by omega), if_pos (by omega)]; omega) | (rw [if_neg (by omega), if_neg (by omega), if_pos (by omega)]; omega) | (rw [if_neg (by omega), if_neg (by omega), if_neg (by omega), if_pos (by omega)]; omega) | (rw [if_neg (by omega), if_neg (by omega), if_neg (by omega), if_neg (by omega), if_pos (by omega)]; omega) | (rw [if_neg (by omega), if_neg (by omega), if_neg (by omega), if_neg (by omega), if_neg (by omega), if_pos (by omega)]; omega) | (rw [if_neg (by omega), if_neg (by omega), if_neg (by omega), if_neg (by omega), if_neg (by omega), if_neg (by omega)]; omega)⟩)
  by_cases c7 : a0.toInt = 60
  · refine lv_lookup (off := 62) (tgt := 63) hx hb dX8_signToken_1 (by decide) (by rw [c7]; rfl) (by decide) ?_
    refine r_bipush hx hb dX8_signToken_63 (by decide) (fun z8 ez8 => ?_)
    exact r_iret hx hb hr hK hP hS hk dX8_signToken_65 (show P_X8_signToken σ0 τ0 a0 z8 σ0 τ0 from ⟨hR, hF, hFL, by omega, by unfold sgT; first | (rw [if_pos (by omega)]; omega) | (rw [if_neg (by omega), if_pos (by omega)]; omega) | (rw [if_neg (by omega), if_neg (by omega), if_pos (by omega)]; omega) | (rw [if_neg (by omega), if_neg (by omega), if_neg (by omega), if_pos (by omega)]; omega) | (rw [if_neg (by omega), if_neg (by omega), if_neg (by omega), if_neg (by omega), if_pos (by omega)]; omega) | (rw [if_neg (by omega), if_neg (by omega), if_neg (by omega), if_neg (by omega), if_neg (by omega), if_pos (by omega)]; omega) | (rw [if_neg (by omega), if_neg (by omega), if_neg (by omega), if_neg (by omega), if_neg (by omega), if_neg (by omega)]; omega)⟩)
  by_cases c9 : a0.toInt = 61
  · refine lv_lookup (off := 65) (tgt := 66) hx hb dX8_signToken_1 (by decide) (by rw [c9]; rfl) (by decide) ?_
    refine r_bipush hx hb dX8_signToken_66 (by decide) (fun z10 ez10 => ?_)
    exact r_iret hx hb hr hK hP hS hk dX8_signToken_68 (show P_X8_signToken σ0 τ0 a0 z10 σ0 τ0 from ⟨hR, hF, hFL, by omega, by unfold sgT; first | (rw [if_pos (by omega)]; omega) | (rw [if_neg (by omega), if_pos (by omega)]; omega) | (rw [if_neg (by omega), if_neg (by omega), if_pos (by omega)]; omega) | (rw [if_neg (by omega), if_neg (by omega), if_neg (by omega), if_pos (by omega)]; omega) | (rw [if_neg (by omega), if_neg (by omega), if_neg (by omega), if_neg (by omega), if_pos (by omega)]; omega) | (rw [if_neg (by omega), if_neg (by omega), if_neg (by omega), if_neg (by omega), if_neg (by omega), if_pos (by omega)]; omega) | (rw [if_neg (by omega), if_neg (by omega), if_neg (by omega), if_neg (by omega), if_neg (by omega), if_neg (by omega)]; omega)⟩)
  by_cases c11 : a0.toInt = 62
  · refine lv_lookup (off := 68) (tgt := 69) hx hb dX8_signToken_1 (by decide) (by rw [c11]; rfl) (by decide) ?_
    refine r_bipush hx hb dX8_signToken_69 (by decide) (fun z12 ez12 => ?_)
    exact r_iret hx hb hr hK hP hS hk dX8_signToken_71 (show P_X8_signToken σ0 τ0 a0 z12 σ0 τ0 from ⟨hR, hF, hFL, by omega, by unfold sgT; first | (rw [if_pos (by omega)]; omega) | (rw [if_neg (by omega), if_pos (by omega)]; omega) | (rw [if_neg (by omega), if_neg (by omega), if_pos (by omega)]; omega) | (rw [if_neg (by omega), if_neg (by omega), if_neg (by omega), if_pos (by omega)]; omega) | (rw [if_neg (by omega), if_neg (by omega), if_neg (by omega), if_neg (by omega), if_pos (by omega)]; omega) | (rw [if_neg (by omega), if_neg (by omega), if_neg (by omega), if_neg (by omega), if_neg (by omega), if_pos (by omega)]; omega) | (rw [if_neg (by omega), if_neg (by omega), if_neg (by omega), if_neg (by omega), if_neg (by omega), if_neg (by omega)]; omega)⟩)
  refine lv_lookup (off := 77) (tgt := 78) hx hb dX8_signToken_1 (by decide) (by simp [Op.lookupswitch.offset, c1, Ne.symm c1, c3, Ne.symm c3, c5, Ne.symm c5, c7, Ne.symm c7, c9, Ne.symm c9, c11, Ne.symm c11]) (by decide) ?_
  refine r_bipush hx hb dX8_signToken_78 (by decide) (fun z13 ez13 => ?_)
  exact r_iret hx hb hr hK hP hS hk dX8_signToken_80 (show P_X8_signToken σ0 τ0 a0 z13 σ0 τ0 from ⟨hR, hF, hFL, by omega, by unfold sgT; first | (rw [if_pos (by omega)]; omega) | (rw [if_neg (by omega), if_pos (by omega)]; omega) | (rw [if_neg (by omega), if_neg (by omega), if_pos (by omega)]; omega) | (rw [if_neg (by omega), if_neg (by omega), if_neg (by omega), if_pos (by omega)]; omega) | (rw [if_neg (by omega), if_neg (by omega), if_neg (by omega), if_neg (by omega), if_pos (by omega)]; omega) | (rw [if_neg (by omega), if_neg (by omega), if_neg (by omega), if_neg (by omega), if_neg (by omega), if_pos (by omega)]; omega) | (rw [if_neg (by omega), if_neg (by omega), if_neg (by omega), if_neg (by omega), if_neg (by omega), if_neg (by omega)]; omega)⟩)
theorem in_X8_scan_8 : ∀ w ∈ u_ws RX8 TX8 15, w ∈ wsX8_scan := by decide +kernel
theorem lk_X8_scan_29 : Cond.fieldLink RX8 29 "CuckooShares$Tape" "size" "I" ∈ wsX8_scan := by decide +kernel
theorem lk_X8_scan_33 : Cond.fieldLink RX8 33 "CuckooShares$Tape" "fault" "I" ∈ wsX8_scan := by decide +kernel
theorem lk_X8_scan_36 : Cond.fieldLink RX8 36 "CuckooShares$Tape" "faultPlace" "I" ∈ wsX8_scan := by decide +kernel
theorem lk_X8_scan_39 : Cond.fieldLink RX8 39 "CuckooShares$Tape" "tokensRead" "I" ∈ wsX8_scan := by decide +kernel
theorem lk_X8_scan_63 : Cond.methodLink RX8 63 Lib.Math.min.name ∈ wsX8_scan := by decide +kernel
theorem lk_X8_scan_69 : Cond.fieldLink RX8 69 "CuckooShares$Tape" "tokensTaken" "I" ∈ wsX8_scan := by decide +kernel
theorem mi_X8_scan : Cond.initialized "java/lang/Math" ∈ wsX8_scan := by decide +kernel
theorem ms_X8_scan_min : Cond.static Lib.Math.min.name ∈ wsX8_scan := by decide +kernel
theorem mc_X8_scan_min : Cond.code Lib.Math.min.name Lib.Math.min.code 2 (some .int) ∈ wsX8_scan := by decide +kernel
abbrev L_X8_scan_v : List Rc := [(1, 1, 13, 14), (36, 36, 0, 940), (37, 37, 0, 940), (38, 38, 0, 940), (1, 1, 6, 10)]
abbrev LL_X8_scan_v : List Rc := [(39, 39, 0, 940), (1, 1, 11, 11)]
def P_X8_scan_v (σ0 : Nat → Nat → Int32) (τ0 : Nat → Nat → Int64) (a1 : Int32) (b : Nat → Int) (N : Nat) (mo : Nat) (σ : Nat → Nat → Int32) (τ : Nat → Nat → Int64) : Prop := Rg σ ∧ Fr L_X8_scan_v σ0 σ ∧ FrL LL_X8_scan_v τ0 τ ∧ (CT σ τ b N mo (posq b N mo 0)) ∧ ((σ 1 13).toInt = 0) ∧ BY σ b N
def J_X8_scan_v_19 (p : Program) (l : Launch) (e : Env) (s : State) (m : MethodId) (args : Array Value) (below : List Frame) (meth : Method) (c : Code) (D : va_G) (cA : Nat → ClassId) (ad : Nat → Nat) (σ0 : Nat → Nat → Int32) (τ0 : Nat → Nat → Int64) (a1 : Int32) (b : Nat → Int) (N : Nat) (mo : Nat) (n : Nat) : Prop := ∀ (σ : Nat → Nat → Int32) (τ : Nat → Nat → Int64) (H : Heap) (locs : List Loc) (x2 : Int32) (x3 : Int32) (ls : Array Slot), Rg σ → Fr L_X8_scan_v σ0 σ → FrL LL_X8_scan_v τ0 τ → va_P D vwCl (gw cA ad σ τ) H → va_S (AA ad) s.heap H locs → (0 ≤ x2.toInt ∧ x2.toInt ≤ 940) → (0 ≤ x3.toInt ∧ x3.toInt ≤ 940) → (0 ≤ (σ 1 13).toInt ∧ (σ 1 13).toInt ≤ 0) → (posq b N mo (σ 1 6).toInt.toNat = lmq N mo (skpE b N x2.toInt.toNat)) → ((σ 1 6).toInt ≤ x2.toInt) → (x2.toInt ≤ (N : Int)) → (x3.toInt ≤ x2.toInt) → ((σ 1 13).toInt = 0) → (BY σ b N) → (TL σ τ b N mo) → lv_has ls 5 [(0, .ref (ad 1)), (1, .int a1), (2, .int x2), (3, .int x3)] → 2 * (940 - x3.toInt) + 1 < (n : Int) → W p l e ({ frames := 8, cells := 0, slots := 0, locals := 186 } : Room) s m args below meth c H locs 0 0 (MQ below (va_Qv (fun u : SS => P_X8_scan_v σ0 τ0 a1 b N mo u.1 u.2) (WB D cA ad) (AA ad)) args s 0 0 (AA ad)) (F0 m 19 ls [])
set_option maxHeartbeats 4000000 in
theorem B_X8_scan_v_19 (p : Program) (l : Launch) (e : Env) (s : State) (m : MethodId) (args : Array Value) (below : List Frame) (meth : Method) (c : Code) (D : va_G) (cA : Nat → ClassId) (ad : Nat → Nat) (σ0 : Nat → Nat → Int32) (τ0 : Nat → Nat → Int64) (a1 : Int32) (b : Nat → Int) (N : Nat) (mo : Nat) (n : Nat) (C : Cy p s m args meth c cX8_scan 5 wsX8_scan RX8 D cA ad none) (ha1 : 200 ≤ a1.toInt ∧ a1.toInt ≤ 900) (hpre0 : a1.toInt = (mo : Int)) (gBY0 : BY σ0 b N) (K19 : J_X8_scan_v_19 p l e s m args below meth c D cA ad σ0 τ0 a1 b N mo n) : J_X8_scan_v_19 p l e s m args below meth c D cA ad σ0 τ0 a1 b N mo (n + 1) := by
  obtain ⟨hx, hb, hml, hown, hts, hK, hk, hr, hI, hN⟩ := C
  intro σ τ H locs x2 x3 ls hR hF hFL hP hS hc0 hc1 hc2 hi0 hi1 hi2 hi3 hi4 gBY gTL hl hm
  have hr6 := rg_8_6 hR (k := 1) (by decide) (by decide)
  refine lv_iload_n hx hb dX8_scan_19 rfl (lv_at hl 3 rfl) ?_
  refine r_sipush hx hb dX8_scan_20 (by decide) (fun z1 ez1 => ?_)
  refine r_icmp_ge (tgt := 92) hx hb dX8_scan_23 (by decide) (fun c2 => ?_) (fun c2 => ?_)
  · have hbs := gBY.1
    have hbl := gBY.2.1
    refine lv_aload_n hx hb dX8_scan_92 rfl (lv_at hl 0 rfl) ?_
    refine lv_aload_n hx hb dX8_scan_93 rfl (lv_at hl 0 rfl) ?_
    refine fg_8_5 (k := 1) hx hb hts in_X8_scan_8 hown hK hP (by decide) (by decide) (hts _ lk_X8_scan_29) dX8_scan_94 ?_
    have hr3 := rg_8_5 hR (k := 1) (by decide) (by decide)
    refine lv_iload_n hx hb dX8_scan_97 rfl (lv_at hl 1 rfl) ?_
    refine r_icmp_le (tgt := 106) hx hb dX8_scan_98 (by decide) (fun c4 => ?_) (fun c4 => ?_)
    · refine r_bipush hx hb dX8_scan_106 (by decide) (fun z5 ez5 => ?_)
      refine lv_aload_n hx hb dX8_scan_108 rfl (lv_at hl 0 rfl) ?_
      refine fg_8_5 (k := 1) hx hb hts in_X8_scan_8 hown hK hP (by decide) (by decide) (hts _ lk_X8_scan_29) dX8_scan_109 ?_
      refine lv_iload_n hx hb dX8_scan_112 rfl (lv_at hl 1 rfl) ?_
      refine r_mmin hx hb (by rw [hml]; exact hl.1.symm) hown (hts _ lk_X8_scan_63) (hts _ ms_X8_scan_min) (hts _ mi_X8_scan) (hts _ mc_X8_scan_min) (by decide) (Nat.le_of_ble_eq_true rfl) (Nat.zero_le _) (Nat.zero_le _) dX8_scan_113 (fun z7 ez7 => ?_)
      refine r_iconst hx hb dX8_scan_116 (by decide) (fun z8 ez8 => ?_)
      refine lv_lconst (v := 0) hx hb dX8_scan_117 (by decide) ?_
      refine r_cVv (k := 1) (As := [.int z5, .int z7, .int z8, .long (0)]) (rest := []) ⟨hx, hb, hml, hown, hts⟩ hK hP hN hS (c_X8_note_v l D cA ad hI σ τ hR z5 z7 z8 (0) b N mo (by omega) (by omega) (by omega) (tv_end hi0 (by omega) (by omega) (by omega)) gTL) (cwV 4 hts gX8_scan_X8_note rfl rfl rfl (by decide +kernel) ⟨by decide, by decide⟩) (rv_Tape hK hP (by decide) (by decide)) rfl hl.1 rfl (Nat.le_of_ble_eq_true rfl) dX8_scan_118 (Nat.zero_le _) (Nat.zero_le _) (fun u9 H9 locs9 hp9 hP hS => ?_)
      obtain ⟨σ9, τ9⟩ := u9
      obtain ⟨hR, f9, fL9, hp9_0, gnTL⟩ : P_X8_note_v σ τ z5 z7 z8 (0) b N mo σ9 τ9 := hp9
      have hP : va_P D vwCl (gw cA ad σ9 τ9) H9 := hP
      have hFL := hFL.step fL9 (by decide)
      have hF := hF.step f9 (by decide)
      have gBY := gBY.ag (Agr.fr f9 (by decide))
      have t10 : (σ9 1 13).toInt = (σ 1 13).toInt := congrArg Int32.toInt (f9.at 1 13 (by decide))
      have t11 : (σ9 1 5).toInt = (σ 1 5).toInt := congrArg Int32.toInt (f9.at 1 5 (by decide))
      have gTL := gnTL
      refine lv_aload_n hx hb dX8_scan_121 rfl (lv_at hl 0 rfl) ?_
      refine r_iconst hx hb dX8_scan_122 (by decide) (fun z12 ez12 => ?_)
      refine fp_8_7 (k := 1) hx hb hts in_X8_scan_8 hown hK hP (by decide) (by decide) (hts _ lk_X8_scan_69) hI hR hS (by omega) dX8_scan_123 (fun σ13 H13 locs13 u13 v13 hR hP hS => ?_)
      have u123 := u13
      have v123 := v13
      have hF := hF.puts u13 4 rfl (by decide) (by decide) (by decide) (by decide)
      have gBY := gBY.ag (Agr.put u13 (by decide))
      have gTL := gTL.ag (Agr.put u13 (by decide))
      have t14 : (σ13 1 13).toInt = (σ9 1 13).toInt := congrArg Int32.toInt (u13 1 13 (by omega))
      have t15 : (σ13 1 5).toInt = (σ9 1 5).toInt := congrArg Int32.toInt (u13 1 5 (by omega))
      have h6 := congrArg Int32.toInt (u123 1 6 (by omega))
      refine lv_aload_n hx hb dX8_scan_126 rfl (lv_at hl 0 rfl) ?_
      refine r_cVv (k := 1) (As := []) (rest := []) ⟨hx, hb, hml, hown, hts⟩ hK hP hN hS (c_X8_next_f l D cA ad hI σ13 τ9 hR b N mo (by omega) (by omega) (fun e he => by rw [show e = (σ 1 6).toInt.toNat by omega]; exact en_end hi0 (by omega) (by omega)) gTL) (cwV 0 hts gX8_scan_X8_next rfl rfl rfl (by decide +kernel) ⟨by decide, by decide⟩) (rv_Tape hK hP (by decide) (by decide)) rfl hl.1 rfl (Nat.le_of_ble_eq_true rfl) dX8_scan_127 (Nat.zero_le _) (Nat.zero_le _) (fun u16 H16 locs16 hp16 hP hS => ?_)
      obtain ⟨σ16, τ16⟩ := u16
      obtain ⟨hR, f16, fL16, hp16_0⟩ : P_X8_next_f σ13 τ9 b N mo σ16 τ16 := hp16
      have hP : va_P D vwCl (gw cA ad σ16 τ16) H16 := hP
      have hFL := hFL.step fL16 (by decide)
      have gTL := gTL.agL (AgrL.fr fL16 (by decide))
      have hF := hF.step f16 (by decide)
      have gBY := gBY.ag (Agr.fr f16 (by decide))
      have gTL := gTL.ag (Agr.fr f16 (by decide))
      have t17 : (σ16 1 13).toInt = (σ13 1 13).toInt := congrArg Int32.toInt (f16.at 1 13 (by decide))
      have t18 : (σ16 1 5).toInt = (σ13 1 5).toInt := congrArg Int32.toInt (f16.at 1 5 (by decide))
      have gCT := hp16_0
      exact r_vret hx hb hr hK hP hS hk dX8_scan_130 (show P_X8_scan_v σ0 τ0 a1 b N mo σ16 τ16 from ⟨hR, hF, hFL, gCT, by omega, gBY⟩)
    · refine r_bipush hx hb dX8_scan_101 (by decide) (fun z19 ez19 => ?_)
      refine lv_goto (tgt := 108) hx hb dX8_scan_103 (by decide) ?_
      refine lv_aload_n hx hb dX8_scan_108 rfl (lv_at hl 0 rfl) ?_
      refine fg_8_5 (k := 1) hx hb hts in_X8_scan_8 hown hK hP (by decide) (by decide) (hts _ lk_X8_scan_29) dX8_scan_109 ?_
      refine lv_iload_n hx hb dX8_scan_112 rfl (lv_at hl 1 rfl) ?_
      refine r_mmin hx hb (by rw [hml]; exact hl.1.symm) hown (hts _ lk_X8_scan_63) (hts _ ms_X8_scan_min) (hts _ mi_X8_scan) (hts _ mc_X8_scan_min) (by decide) (Nat.le_of_ble_eq_true rfl) (Nat.zero_le _) (Nat.zero_le _) dX8_scan_113 (fun z21 ez21 => ?_)
      refine r_iconst hx hb dX8_scan_116 (by decide) (fun z22 ez22 => ?_)
      refine lv_lconst (v := 0) hx hb dX8_scan_117 (by decide) ?_
      refine r_cVv (k := 1) (As := [.int z19, .int z21, .int z22, .long (0)]) (rest := []) ⟨hx, hb, hml, hown, hts⟩ hK hP hN hS (c_X8_note_v l D cA ad hI σ τ hR z19 z21 z22 (0) b N mo (by omega) (by omega) (by omega) (tv_end hi0 (by omega) (by omega) (by omega)) gTL) (cwV 4 hts gX8_scan_X8_note rfl rfl rfl (by decide +kernel) ⟨by decide, by decide⟩) (rv_Tape hK hP (by decide) (by decide)) rfl hl.1 rfl (Nat.le_of_ble_eq_true rfl) dX8_scan_118 (Nat.zero_le _) (Nat.zero_le _) (fun u23 H23 locs23 hp23 hP hS => ?_)
      obtain ⟨σ23, τ23⟩ := u23
      obtain ⟨hR, f23, fL23, hp23_0, gnTL⟩ : P_X8_note_v σ τ z19 z21 z22 (0) b N mo σ23 τ23 := hp23
      have hP : va_P D vwCl (gw cA ad σ23 τ23) H23 := hP
      have hFL := hFL.step fL23 (by decide)
      have hF := hF.step f23 (by decide)
      have gBY := gBY.ag (Agr.fr f23 (by decide))
      have t24 : (σ23 1 13).toInt = (σ 1 13).toInt := congrArg Int32.toInt (f23.at 1 13 (by decide))
      have t25 : (σ23 1 5).toInt = (σ 1 5).toInt := congrArg Int32.toInt (f23.at 1 5 (by decide))
      have gTL := gnTL
      refine lv_aload_n hx hb dX8_scan_121 rfl (lv_at hl 0 rfl) ?_
      refine r_iconst hx hb dX8_scan_122 (by decide) (fun z26 ez26 => ?_)
      refine fp_8_7 (k := 1) hx hb hts in_X8_scan_8 hown hK hP (by decide) (by decide) (hts _ lk_X8_scan_69) hI hR hS (by omega) dX8_scan_123 (fun σ27 H27 locs27 u27 v27 hR hP hS => ?_)
      have u123 := u27
      have v123 := v27
      have hF := hF.puts u27 4 rfl (by decide) (by decide) (by decide) (by decide)
      have gBY := gBY.ag (Agr.put u27 (by decide))
      have gTL := gTL.ag (Agr.put u27 (by decide))
      have t28 : (σ27 1 13).toInt = (σ23 1 13).toInt := congrArg Int32.toInt (u27 1 13 (by omega))
      have t29 : (σ27 1 5).toInt = (σ23 1 5).toInt := congrArg Int32.toInt (u27 1 5 (by omega))
      have h6 := congrArg Int32.toInt (u123 1 6 (by omega))
      refine lv_aload_n hx hb dX8_scan_126 rfl (lv_at hl 0 rfl) ?_
      refine r_cVv (k := 1) (As := []) (rest := []) ⟨hx, hb, hml, hown, hts⟩ hK hP hN hS (c_X8_next_f l D cA ad hI σ27 τ23 hR b N mo (by omega) (by omega) (fun e he => by rw [show e = (σ 1 6).toInt.toNat by omega]; exact en_end hi0 (by omega) (by omega)) gTL) (cwV 0 hts gX8_scan_X8_next rfl rfl rfl (by decide +kernel) ⟨by decide, by decide⟩) (rv_Tape hK hP (by decide) (by decide)) rfl hl.1 rfl (Nat.le_of_ble_eq_true rfl) dX8_scan_127 (Nat.zero_le _) (Nat.zero_le _) (fun u30 H30 locs30 hp30 hP hS => ?_)
      obtain ⟨σ30, τ30⟩ := u30
      obtain ⟨hR, f30, fL30, hp30_0⟩ : P_X8_next_f σ27 τ23 b N mo σ30 τ30 := hp30
      have hP : va_P D vwCl (gw cA ad σ30 τ30) H30 := hP
      have hFL := hFL.step fL30 (by decide)
      have gTL := gTL.agL (AgrL.fr fL30 (by decide))
      have hF := hF.step f30 (by decide)
      have gBY := gBY.ag (Agr.fr f30 (by decide))
      have gTL := gTL.ag (Agr.fr f30 (by decide))
      have t31 : (σ30 1 13).toInt = (σ27 1 13).toInt := congrArg Int32.toInt (f30.at 1 13 (by decide))
      have t32 : (σ30 1 5).toInt = (σ27 1 5).toInt := congrArg Int32.toInt (f30.at 1 5 (by decide))
      have gCT := hp30_0
      exact r_vret hx hb hr hK hP hS hk dX8_scan_130 (show P_X8_scan_v σ0 τ0 a1 b N mo σ30 τ30 from ⟨hR, hF, hFL, gCT, by omega, gBY⟩)
  · have hbs := gBY.1
    have hbl := gBY.2.1
    refine lv_iload_n hx hb dX8_scan_26 rfl (lv_at hl 2 rfl) ?_
    refine lv_aload_n hx hb dX8_scan_27 rfl (lv_at hl 0 rfl) ?_
    refine fg_8_5 (k := 1) hx hb hts in_X8_scan_8 hown hK hP (by decide) (by decide) (hts _ lk_X8_scan_29) dX8_scan_28 ?_
    have hr33 := rg_8_5 hR (k := 1) (by decide) (by decide)
    refine r_icmp_ge (tgt := 92) hx hb dX8_scan_31 (by decide) (fun c34 => ?_) (fun c34 => ?_)
    · have hbs := gBY.1
      have hbl := gBY.2.1
      refine lv_aload_n hx hb dX8_scan_92 rfl (lv_at hl 0 rfl) ?_
      refine lv_aload_n hx hb dX8_scan_93 rfl (lv_at hl 0 rfl) ?_
      refine fg_8_5 (k := 1) hx hb hts in_X8_scan_8 hown hK hP (by decide) (by decide) (hts _ lk_X8_scan_29) dX8_scan_94 ?_
      refine lv_iload_n hx hb dX8_scan_97 rfl (lv_at hl 1 rfl) ?_
      refine r_icmp_le (tgt := 106) hx hb dX8_scan_98 (by decide) (fun c35 => ?_) (fun c35 => ?_)
      · refine r_bipush hx hb dX8_scan_106 (by decide) (fun z36 ez36 => ?_)
        refine lv_aload_n hx hb dX8_scan_108 rfl (lv_at hl 0 rfl) ?_
        refine fg_8_5 (k := 1) hx hb hts in_X8_scan_8 hown hK hP (by decide) (by decide) (hts _ lk_X8_scan_29) dX8_scan_109 ?_
        refine lv_iload_n hx hb dX8_scan_112 rfl (lv_at hl 1 rfl) ?_
        refine r_mmin hx hb (by rw [hml]; exact hl.1.symm) hown (hts _ lk_X8_scan_63) (hts _ ms_X8_scan_min) (hts _ mi_X8_scan) (hts _ mc_X8_scan_min) (by decide) (Nat.le_of_ble_eq_true rfl) (Nat.zero_le _) (Nat.zero_le _) dX8_scan_113 (fun z38 ez38 => ?_)
        refine r_iconst hx hb dX8_scan_116 (by decide) (fun z39 ez39 => ?_)
        refine lv_lconst (v := 0) hx hb dX8_scan_117 (by decide) ?_
        refine r_cVv (k := 1) (As := [.int z36, .int z38, .int z39, .long (0)]) (rest := []) ⟨hx, hb, hml, hown, hts⟩ hK hP hN hS (c_X8_note_v l D cA ad hI σ τ hR z36 z38 z39 (0) b N mo (by omega) (by omega) (by omega) (tv_end hi0 (by omega) (by omega) (by omega)) gTL) (cwV 4 hts gX8_scan_X8_note rfl rfl rfl (by decide +kernel) ⟨by decide, by decide⟩) (rv_Tape hK hP (by decide) (by decide)) rfl hl.1 rfl (Nat.le_of_ble_eq_true rfl) dX8_scan_118 (Nat.zero_le _) (Nat.zero_le _) (fun u40 H40 locs40 hp40 hP hS => ?_)
        obtain ⟨σ40, τ40⟩ := u40
        obtain ⟨hR, f40, fL40, hp40_0, gnTL⟩ : P_X8_note_v σ τ z36 z38 z39 (0) b N mo σ40 τ40 := hp40
        have hP : va_P D vwCl (gw cA ad σ40 τ40) H40 := hP
        have hFL := hFL.step fL40 (by decide)
        have hF := hF.step f40 (by decide)
        have gBY := gBY.ag (Agr.fr f40 (by decide))
        have t41 : (σ40 1 13).toInt = (σ 1 13).toInt := congrArg Int32.toInt (f40.at 1 13 (by decide))
        have t42 : (σ40 1 5).toInt = (σ 1 5).toInt := congrArg Int32.toInt (f40.at 1 5 (by decide))
        have gTL := gnTL
        refine lv_aload_n hx hb dX8_scan_121 rfl (lv_at hl 0 rfl) ?_
        refine r_iconst hx hb dX8_scan_122 (by decide) (fun z43 ez43 => ?_)
        refine fp_8_7 (k := 1) hx hb hts in_X8_scan_8 hown hK hP (by decide) (by decide) (hts _ lk_X8_scan_69) hI hR hS (by omega) dX8_scan_123 (fun σ44 H44 locs44 u44 v44 hR hP hS => ?_)
        have u123 := u44
        have v123 := v44
        have hF := hF.puts u44 4 rfl (by decide) (by decide) (by decide) (by decide)
        have gBY := gBY.ag (Agr.put u44 (by decide))
        have gTL := gTL.ag (Agr.put u44 (by decide))
        have t45 : (σ44 1 13).toInt = (σ40 1 13).toInt := congrArg Int32.toInt (u44 1 13 (by omega))
        have t46 : (σ44 1 5).toInt = (σ40 1 5).toInt := congrArg Int32.toInt (u44 1 5 (by omega))
        have h6 := congrArg Int32.toInt (u123 1 6 (by omega))
        refine lv_aload_n hx hb dX8_scan_126 rfl (lv_at hl 0 rfl) ?_
        refine r_cVv (k := 1) (As := []) (rest := []) ⟨hx, hb, hml, hown, hts⟩ hK hP hN hS (c_X8_next_f l D cA ad hI σ44 τ40 hR b N mo (by omega) (by omega) (fun e he => by rw [show e = (σ 1 6).toInt.toNat by omega]; exact en_end hi0 (by omega) (by omega)) gTL) (cwV 0 hts gX8_scan_X8_next rfl rfl rfl (by decide +kernel) ⟨by decide, by decide⟩) (rv_Tape hK hP (by decide) (by decide)) rfl hl.1 rfl (Nat.le_of_ble_eq_true rfl) dX8_scan_127 (Nat.zero_le _) (Nat.zero_le _) (fun u47 H47 locs47 hp47 hP hS => ?_)
        obtain ⟨σ47, τ47⟩ := u47
        obtain ⟨hR, f47, fL47, hp47_0⟩ : P_X8_next_f σ44 τ40 b N mo σ47 τ47 := hp47
        have hP : va_P D vwCl (gw cA ad σ47 τ47) H47 := hP
        have hFL := hFL.step fL47 (by decide)
        have gTL := gTL.agL (AgrL.fr fL47 (by decide))
        have hF := hF.step f47 (by decide)
        have gBY := gBY.ag (Agr.fr f47 (by decide))
        have gTL := gTL.ag (Agr.fr f47 (by decide))
        have t48 : (σ47 1 13).toInt = (σ44 1 13).toInt := congrArg Int32.toInt (f47.at 1 13 (by decide))
        have t49 : (σ47 1 5).toInt = (σ44 1 5).toInt := congrArg Int32.toInt (f47.at 1 5 (by decide))
        have gCT := hp47_0
        exact r_vret hx hb hr hK hP hS hk dX8_scan_130 (show P_X8_scan_v σ0 τ0 a1 b N mo σ47 τ47 from ⟨hR, hF, hFL, gCT, by omega, gBY⟩)
      · refine r_bipush hx hb dX8_scan_101 (by decide) (fun z50 ez50 => ?_)
        refine lv_goto (tgt := 108) hx hb dX8_scan_103 (by decide) ?_
        refine lv_aload_n hx hb dX8_scan_108 rfl (lv_at hl 0 rfl) ?_
        refine fg_8_5 (k := 1) hx hb hts in_X8_scan_8 hown hK hP (by decide) (by decide) (hts _ lk_X8_scan_29) dX8_scan_109 ?_
        refine lv_iload_n hx hb dX8_scan_112 rfl (lv_at hl 1 rfl) ?_
        refine r_mmin hx hb (by rw [hml]; exact hl.1.symm) hown (hts _ lk_X8_scan_63) (hts _ ms_X8_scan_min) (hts _ mi_X8_scan) (hts _ mc_X8_scan_min) (by decide) (Nat.le_of_ble_eq_true rfl) (Nat.zero_le _) (Nat.zero_le _) dX8_scan_113 (fun z52 ez52 => ?_)
        refine r_iconst hx hb dX8_scan_116 (by decide) (fun z53 ez53 => ?_)
        refine lv_lconst (v := 0) hx hb dX8_scan_117 (by decide) ?_
        refine r_cVv (k := 1) (As := [.int z50, .int z52, .int z53, .long (0)]) (rest := []) ⟨hx, hb, hml, hown, hts⟩ hK hP hN hS (c_X8_note_v l D cA ad hI σ τ hR z50 z52 z53 (0) b N mo (by omega) (by omega) (by omega) (tv_end hi0 (by omega) (by omega) (by omega)) gTL) (cwV 4 hts gX8_scan_X8_note rfl rfl rfl (by decide +kernel) ⟨by decide, by decide⟩) (rv_Tape hK hP (by decide) (by decide)) rfl hl.1 rfl (Nat.le_of_ble_eq_true rfl) dX8_scan_118 (Nat.zero_le _) (Nat.zero_le _) (fun u54 H54 locs54 hp54 hP hS => ?_)
        obtain ⟨σ54, τ54⟩ := u54
        obtain ⟨hR, f54, fL54, hp54_0, gnTL⟩ : P_X8_note_v σ τ z50 z52 z53 (0) b N mo σ54 τ54 := hp54
        have hP : va_P D vwCl (gw cA ad σ54 τ54) H54 := hP
        have hFL := hFL.step fL54 (by decide)
        have hF := hF.step f54 (by decide)
        have gBY := gBY.ag (Agr.fr f54 (by decide))
        have t55 : (σ54 1 13).toInt = (σ 1 13).toInt := congrArg Int32.toInt (f54.at 1 13 (by decide))
        have t56 : (σ54 1 5).toInt = (σ 1 5).toInt := congrArg Int32.toInt (f54.at 1 5 (by decide))
        have gTL := gnTL
        refine lv_aload_n hx hb dX8_scan_121 rfl (lv_at hl 0 rfl) ?_
        refine r_iconst hx hb dX8_scan_122 (by decide) (fun z57 ez57 => ?_)
        refine fp_8_7 (k := 1) hx hb hts in_X8_scan_8 hown hK hP (by decide) (by decide) (hts _ lk_X8_scan_69) hI hR hS (by omega) dX8_scan_123 (fun σ58 H58 locs58 u58 v58 hR hP hS => ?_)
        have u123 := u58
        have v123 := v58
        have hF := hF.puts u58 4 rfl (by decide) (by decide) (by decide) (by decide)
        have gBY := gBY.ag (Agr.put u58 (by decide))
        have gTL := gTL.ag (Agr.put u58 (by decide))
        have t59 : (σ58 1 13).toInt = (σ54 1 13).toInt := congrArg Int32.toInt (u58 1 13 (by omega))
        have t60 : (σ58 1 5).toInt = (σ54 1 5).toInt := congrArg Int32.toInt (u58 1 5 (by omega))
        have h6 := congrArg Int32.toInt (u123 1 6 (by omega))
        refine lv_aload_n hx hb dX8_scan_126 rfl (lv_at hl 0 rfl) ?_
        refine r_cVv (k := 1) (As := []) (rest := []) ⟨hx, hb, hml, hown, hts⟩ hK hP hN hS (c_X8_next_f l D cA ad hI σ58 τ54 hR b N mo (by omega) (by omega) (fun e he => by rw [show e = (σ 1 6).toInt.toNat by omega]; exact en_end hi0 (by omega) (by omega)) gTL) (cwV 0 hts gX8_scan_X8_next rfl rfl rfl (by decide +kernel) ⟨by decide, by decide⟩) (rv_Tape hK hP (by decide) (by decide)) rfl hl.1 rfl (Nat.le_of_ble_eq_true rfl) dX8_scan_127 (Nat.zero_le _) (Nat.zero_le _) (fun u61 H61 locs61 hp61 hP hS => ?_)
        obtain ⟨σ61, τ61⟩ := u61
        obtain ⟨hR, f61, fL61, hp61_0⟩ : P_X8_next_f σ58 τ54 b N mo σ61 τ61 := hp61
        have hP : va_P D vwCl (gw cA ad σ61 τ61) H61 := hP
        have hFL := hFL.step fL61 (by decide)
        have gTL := gTL.agL (AgrL.fr fL61 (by decide))
        have hF := hF.step f61 (by decide)
        have gBY := gBY.ag (Agr.fr f61 (by decide))
        have gTL := gTL.ag (Agr.fr f61 (by decide))
        have t62 : (σ61 1 13).toInt = (σ58 1 13).toInt := congrArg Int32.toInt (f61.at 1 13 (by decide))
        have t63 : (σ61 1 5).toInt = (σ58 1 5).toInt := congrArg Int32.toInt (f61.at 1 5 (by decide))
        have gCT := hp61_0
        exact r_vret hx hb hr hK hP hS hk dX8_scan_130 (show P_X8_scan_v σ0 τ0 a1 b N mo σ61 τ61 from ⟨hR, hF, hFL, gCT, by omega, gBY⟩)
    · refine lv_iload_n hx hb dX8_scan_34 rfl (lv_at hl 2 rfl) ?_
      refine lv_iload_n hx hb dX8_scan_35 rfl (lv_at hl 1 rfl) ?_
      refine r_icmp_ge (tgt := 92) hx hb dX8_scan_36 (by decide) (fun c64 => ?_) (fun c64 => ?_)
      · have hbs := gBY.1
        have hbl := gBY.2.1
        refine lv_aload_n hx hb dX8_scan_92 rfl (lv_at hl 0 rfl) ?_
        refine lv_aload_n hx hb dX8_scan_93 rfl (lv_at hl 0 rfl) ?_
        refine fg_8_5 (k := 1) hx hb hts in_X8_scan_8 hown hK hP (by decide) (by decide) (hts _ lk_X8_scan_29) dX8_scan_94 ?_
        refine lv_iload_n hx hb dX8_scan_97 rfl (lv_at hl 1 rfl) ?_
        refine r_icmp_le (tgt := 106) hx hb dX8_scan_98 (by decide) (fun c65 => ?_) (fun c65 => ?_)
        · refine r_bipush hx hb dX8_scan_106 (by decide) (fun z66 ez66 => ?_)
          refine lv_aload_n hx hb dX8_scan_108 rfl (lv_at hl 0 rfl) ?_
          refine fg_8_5 (k := 1) hx hb hts in_X8_scan_8 hown hK hP (by decide) (by decide) (hts _ lk_X8_scan_29) dX8_scan_109 ?_
          refine lv_iload_n hx hb dX8_scan_112 rfl (lv_at hl 1 rfl) ?_
          refine r_mmin hx hb (by rw [hml]; exact hl.1.symm) hown (hts _ lk_X8_scan_63) (hts _ ms_X8_scan_min) (hts _ mi_X8_scan) (hts _ mc_X8_scan_min) (by decide) (Nat.le_of_ble_eq_true rfl) (Nat.zero_le _) (Nat.zero_le _) dX8_scan_113 (fun z68 ez68 => ?_)
          refine r_iconst hx hb dX8_scan_116 (by decide) (fun z69 ez69 => ?_)
          refine lv_lconst (v := 0) hx hb dX8_scan_117 (by decide) ?_
          refine r_cVv (k := 1) (As := [.int z66, .int z68, .int z69, .long (0)]) (rest := []) ⟨hx, hb, hml, hown, hts⟩ hK hP hN hS (c_X8_note_v l D cA ad hI σ τ hR z66 z68 z69 (0) b N mo (by omega) (by omega) (by omega) (tv_end hi0 (by omega) (by omega) (by omega)) gTL) (cwV 4 hts gX8_scan_X8_note rfl rfl rfl (by decide +kernel) ⟨by decide, by decide⟩) (rv_Tape hK hP (by decide) (by decide)) rfl hl.1 rfl (Nat.le_of_ble_eq_true rfl) dX8_scan_118 (Nat.zero_le _) (Nat.zero_le _) (fun u70 H70 locs70 hp70 hP hS => ?_)
          obtain ⟨σ70, τ70⟩ := u70
          obtain ⟨hR, f70, fL70, hp70_0, gnTL⟩ : P_X8_note_v σ τ z66 z68 z69 (0) b N mo σ70 τ70 := hp70
          have hP : va_P D vwCl (gw cA ad σ70 τ70) H70 := hP
          have hFL := hFL.step fL70 (by decide)
          have hF := hF.step f70 (by decide)
          have gBY := gBY.ag (Agr.fr f70 (by decide))
          have t71 : (σ70 1 13).toInt = (σ 1 13).toInt := congrArg Int32.toInt (f70.at 1 13 (by decide))
          have t72 : (σ70 1 5).toInt = (σ 1 5).toInt := congrArg Int32.toInt (f70.at 1 5 (by decide))
          have gTL := gnTL
          refine lv_aload_n hx hb dX8_scan_121 rfl (lv_at hl 0 rfl) ?_
          refine r_iconst hx hb dX8_scan_122 (by decide) (fun z73 ez73 => ?_)
          refine fp_8_7 (k := 1) hx hb hts in_X8_scan_8 hown hK hP (by decide) (by decide) (hts _ lk_X8_scan_69) hI hR hS (by omega) dX8_scan_123 (fun σ74 H74 locs74 u74 v74 hR hP hS => ?_)
          have u123 := u74
          have v123 := v74
          have hF := hF.puts u74 4 rfl (by decide) (by decide) (by decide) (by decide)
          have gBY := gBY.ag (Agr.put u74 (by decide))
          have gTL := gTL.ag (Agr.put u74 (by decide))
          have t75 : (σ74 1 13).toInt = (σ70 1 13).toInt := congrArg Int32.toInt (u74 1 13 (by omega))
          have t76 : (σ74 1 5).toInt = (σ70 1 5).toInt := congrArg Int32.toInt (u74 1 5 (by omega))
          have h6 := congrArg Int32.toInt (u123 1 6 (by omega))
          refine lv_aload_n hx hb dX8_scan_126 rfl (lv_at hl 0 rfl) ?_
          refine r_cVv (k := 1) (As := []) (rest := []) ⟨hx, hb, hml, hown, hts⟩ hK hP hN hS (c_X8_next_f l D cA ad hI σ74 τ70 hR b N mo (by omega) (by omega) (fun e he => by rw [show e = (σ 1 6).toInt.toNat by omega]; exact en_end hi0 (by omega) (by omega)) gTL) (cwV 0 hts gX8_scan_X8_next rfl rfl rfl (by decide +kernel) ⟨by decide, by decide⟩) (rv_Tape hK hP (by decide) (by decide)) rfl hl.1 rfl (Nat.le_of_ble_eq_true rfl) dX8_scan_127 (Nat.zero_le _) (Nat.zero_le _) (fun u77 H77 locs77 hp77 hP hS => ?_)
          obtain ⟨σ77, τ77⟩ := u77
          obtain ⟨hR, f77, fL77, hp77_0⟩ : P_X8_next_f σ74 τ70 b N mo σ77 τ77 := hp77
          have hP : va_P D vwCl (gw cA ad σ77 τ77) H77 := hP
          have hFL := hFL.step fL77 (by decide)
          have gTL := gTL.agL (AgrL.fr fL77 (by decide))
          have hF := hF.step f77 (by decide)
          have gBY := gBY.ag (Agr.fr f77 (by decide))
          have gTL := gTL.ag (Agr.fr f77 (by decide))
          have t78 : (σ77 1 13).toInt = (σ74 1 13).toInt := congrArg Int32.toInt (f77.at 1 13 (by decide))
          have t79 : (σ77 1 5).toInt = (σ74 1 5).toInt := congrArg Int32.toInt (f77.at 1 5 (by decide))
          have gCT := hp77_0
          exact r_vret hx hb hr hK hP hS hk dX8_scan_130 (show P_X8_scan_v σ0 τ0 a1 b N mo σ77 τ77 from ⟨hR, hF, hFL, gCT, by omega, gBY⟩)
        · refine r_bipush hx hb dX8_scan_101 (by decide) (fun z80 ez80 => ?_)
          refine lv_goto (tgt := 108) hx hb dX8_scan_103 (by decide) ?_
          refine lv_aload_n hx hb dX8_scan_108 rfl (lv_at hl 0 rfl) ?_
          refine fg_8_5 (k := 1) hx hb hts in_X8_scan_8 hown hK hP (by decide) (by decide) (hts _ lk_X8_scan_29) dX8_scan_109 ?_
          refine lv_iload_n hx hb dX8_scan_112 rfl (lv_at hl 1 rfl) ?_
          refine r_mmin hx hb (by rw [hml]; exact hl.1.symm) hown (hts _ lk_X8_scan_63) (hts _ ms_X8_scan_min) (hts _ mi_X8_scan) (hts _ mc_X8_scan_min) (by decide) (Nat.le_of_ble_eq_true rfl) (Nat.zero_le _) (Nat.zero_le _) dX8_scan_113 (fun z82 ez82 => ?_)
          refine r_iconst hx hb dX8_scan_116 (by decide) (fun z83 ez83 => ?_)
          refine lv_lconst (v := 0) hx hb dX8_scan_117 (by decide) ?_
          refine r_cVv (k := 1) (As := [.int z80, .int z82, .int z83, .long (0)]) (rest := []) ⟨hx, hb, hml, hown, hts⟩ hK hP hN hS (c_X8_note_v l D cA ad hI σ τ hR z80 z82 z83 (0) b N mo (by omega) (by omega) (by omega) (tv_end hi0 (by omega) (by omega) (by omega)) gTL) (cwV 4 hts gX8_scan_X8_note rfl rfl rfl (by decide +kernel) ⟨by decide, by decide⟩) (rv_Tape hK hP (by decide) (by decide)) rfl hl.1 rfl (Nat.le_of_ble_eq_true rfl) dX8_scan_118 (Nat.zero_le _) (Nat.zero_le _) (fun u84 H84 locs84 hp84 hP hS => ?_)
          obtain ⟨σ84, τ84⟩ := u84
          obtain ⟨hR, f84, fL84, hp84_0, gnTL⟩ : P_X8_note_v σ τ z80 z82 z83 (0) b N mo σ84 τ84 := hp84
          have hP : va_P D vwCl (gw cA ad σ84 τ84) H84 := hP
          have hFL := hFL.step fL84 (by decide)
          have hF := hF.step f84 (by decide)
          have gBY := gBY.ag (Agr.fr f84 (by decide))
          have t85 : (σ84 1 13).toInt = (σ 1 13).toInt := congrArg Int32.toInt (f84.at 1 13 (by decide))
          have t86 : (σ84 1 5).toInt = (σ 1 5).toInt := congrArg Int32.toInt (f84.at 1 5 (by decide))
          have gTL := gnTL
          refine lv_aload_n hx hb dX8_scan_121 rfl (lv_at hl 0 rfl) ?_
          refine r_iconst hx hb dX8_scan_122 (by decide) (fun z87 ez87 => ?_)
          refine fp_8_7 (k := 1) hx hb hts in_X8_scan_8 hown hK hP (by decide) (by decide) (hts _ lk_X8_scan_69) hI hR hS (by omega) dX8_scan_123 (fun σ88 H88 locs88 u88 v88 hR hP hS => ?_)
          have u123 := u88
          have v123 := v88
          have hF := hF.puts u88 4 rfl (by decide) (by decide) (by decide) (by decide)
          have gBY := gBY.ag (Agr.put u88 (by decide))
          have gTL := gTL.ag (Agr.put u88 (by decide))
          have t89 : (σ88 1 13).toInt = (σ84 1 13).toInt := congrArg Int32.toInt (u88 1 13 (by omega))
          have t90 : (σ88 1 5).toInt = (σ84 1 5).toInt := congrArg Int32.toInt (u88 1 5 (by omega))
          have h6 := congrArg Int32.toInt (u123 1 6 (by omega))
          refine lv_aload_n hx hb dX8_scan_126 rfl (lv_at hl 0 rfl) ?_
          refine r_cVv (k := 1) (As := []) (rest := []) ⟨hx, hb, hml, hown, hts⟩ hK hP hN hS (c_X8_next_f l D cA ad hI σ88 τ84 hR b N mo (by omega) (by omega) (fun e he => by rw [show e = (σ 1 6).toInt.toNat by omega]; exact en_end hi0 (by omega) (by omega)) gTL) (cwV 0 hts gX8_scan_X8_next rfl rfl rfl (by decide +kernel) ⟨by decide, by decide⟩) (rv_Tape hK hP (by decide) (by decide)) rfl hl.1 rfl (Nat.le_of_ble_eq_true rfl) dX8_scan_127 (Nat.zero_le _) (Nat.zero_le _) (fun u91 H91 locs91 hp91 hP hS => ?_)
          obtain ⟨σ91, τ91⟩ := u91
          obtain ⟨hR, f91, fL91, hp91_0⟩ : P_X8_next_f σ88 τ84 b N mo σ91 τ91 := hp91
          have hP : va_P D vwCl (gw cA ad σ91 τ91) H91 := hP
          have hFL := hFL.step fL91 (by decide)
          have gTL := gTL.agL (AgrL.fr fL91 (by decide))
          have hF := hF.step f91 (by decide)
          have gBY := gBY.ag (Agr.fr f91 (by decide))
          have gTL := gTL.ag (Agr.fr f91 (by decide))
          have t92 : (σ91 1 13).toInt = (σ88 1 13).toInt := congrArg Int32.toInt (f91.at 1 13 (by decide))
          have t93 : (σ91 1 5).toInt = (σ88 1 5).toInt := congrArg Int32.toInt (f91.at 1 5 (by decide))
          have gCT := hp91_0
          exact r_vret hx hb hr hK hP hS hk dX8_scan_130 (show P_X8_scan_v σ0 τ0 a1 b N mo σ91 τ91 from ⟨hR, hF, hFL, gCT, by omega, gBY⟩)
      · refine lv_aload_n hx hb dX8_scan_39 rfl (lv_at hl 0 rfl) ?_
        refine lv_iload_n hx hb dX8_scan_40 rfl (lv_at hl 2 rfl) ?_
        refine r_cVi (k := 1) (As := [.int x2]) (rest := []) ⟨hx, hb, hml, hown, hts⟩ hK hP hN hS (c_X8_byteAt l D cA ad hI σ τ hR x2 (by omega)) (cwV 1 hts gX8_scan_X8_byteAt rfl rfl rfl (by decide +kernel) ⟨by decide, by decide⟩) (rv_Tape hK hP (by decide) (by decide)) rfl hl.1 rfl (Nat.le_of_ble_eq_true rfl) dX8_scan_41 (Nat.zero_le _) (Nat.zero_le _) (fun r94 u94 H94 locs94 hp94 hP hS => ?_)
        obtain ⟨σ94, τ94⟩ := u94
        obtain ⟨hR, f94, fL94, hq94, hp94_0⟩ : P_X8_byteAt σ τ x2 r94 σ94 τ94 := hp94
        have hP : va_P D vwCl (gw cA ad σ94 τ94) H94 := hP
        obtain rfl := FrL.nil fL94
        obtain rfl := Fr.nil f94
        have hb41 := BY.rd gBY (j := x2.toInt.toNat) hp94_0 (by omega) (by omega)
        refine lv_istore (lv' := [(4, .int r94), (0, .ref (ad 1)), (1, .int a1), (2, .int x2), (3, .int x3)]) hx hb dX8_scan_44 hl (by decide) rfl (fun ls hl => ?_)
        refine lv_iload hx hb dX8_scan_46 (lv_at hl 0 rfl) ?_
        refine r_cSi (As := [.int r94]) (rest := []) ⟨hx, hb, hml, hown, hts⟩ hK hP hN hS (c_X8_isInRun l D cA ad hI σ τ hR r94 (by omega)) (va_cwS 1 hts gX8_scan_X8_isInRun rfl rfl rfl (by decide +kernel) ⟨by decide, by decide⟩) rfl hl.1 rfl (Nat.le_of_ble_eq_true rfl) dX8_scan_48 (Nat.zero_le _) (Nat.zero_le _) (fun r95 u95 H95 locs95 hp95 hP hS => ?_)
        obtain ⟨σ95, τ95⟩ := u95
        obtain ⟨hR, f95, fL95, hq95, hp95_0⟩ : P_X8_isInRun σ τ r94 r95 σ95 τ95 := hp95
        have hP : va_P D vwCl (gw cA ad σ95 τ95) H95 := hP
        obtain rfl := FrL.nil fL95
        obtain rfl := Fr.nil f95
        refine r_if_eq (tgt := 63) hx hb dX8_scan_51 (by decide) (fun c96 => ?_) (fun c96 => ?_)
        · have hrn : ¬ isRn (b x2.toInt.toNat) := by omega
          refine lv_iload hx hb dX8_scan_63 (lv_at hl 0 rfl) ?_
          refine r_cSi (As := [.int r94]) (rest := []) ⟨hx, hb, hml, hown, hts⟩ hK hP hN hS (c_X8_isBlank l D cA ad hI σ τ hR r94 (by omega)) (va_cwS 1 hts gX8_scan_X8_isBlank rfl rfl rfl (by decide +kernel) ⟨by decide, by decide⟩) rfl hl.1 rfl (Nat.le_of_ble_eq_true rfl) dX8_scan_65 (Nat.zero_le _) (Nat.zero_le _) (fun r97 u97 H97 locs97 hp97 hP hS => ?_)
          obtain ⟨σ97, τ97⟩ := u97
          obtain ⟨hR, f97, fL97, hq97, hp97_0⟩ : P_X8_isBlank σ τ r94 r97 σ97 τ97 := hp97
          have hP : va_P D vwCl (gw cA ad σ97 τ97) H97 := hP
          obtain rfl := FrL.nil fL97
          obtain rfl := Fr.nil f97
          refine r_if_ne (tgt := 83) hx hb dX8_scan_68 (by decide) (fun c98 => ?_) (fun c98 => ?_)
          · refine r_iinc (k := 3) (lv1 := fun z99 => [(2, .int z99), (4, .int r94), (0, .ref (ad 1)), (1, .int a1), (3, .int x3)]) hx hb dX8_scan_83 hl rfl (by decide) (fun _ => rfl) (by decide) (by omega) (fun z99 ls ez99 hl => ?_)
            refine r_iinc (k := 4) (lv1 := fun z100 => [(3, .int z100), (2, .int z99), (4, .int r94), (0, .ref (ad 1)), (1, .int a1)]) hx hb dX8_scan_86 hl rfl (by decide) (fun _ => rfl) (by decide) (by omega) (fun z100 ls ez100 hl => ?_)
            refine lv_goto (tgt := 19) hx hb dX8_scan_89 (by decide) ?_
            exact K19 σ τ H97 locs97 z99 z100 ls hR hF hFL hP hS (by omega) (by omega) (by omega) (by first | (show _ = lmq N mo (skpE b N _); rw [show (σ 1 6).toInt.toNat = 0 by omega, show z99.toInt.toNat = 0 by omega]; rfl) | (rw [show (σ 1 6).toInt.toNat = (σ 1 6).toInt.toNat + 1 by omega, sc_run hpx (by omega) (by omega) hrn]; congr 2; omega) | (rw [show (σ 1 6).toInt.toNat = (σ 1 6).toInt.toNat + 1 by omega, sc_sgn hpx (by omega) (by omega) hrn]; congr 2; omega) | (rw [hi0, ← skpE_step (s := x2.toInt.toNat) (by omega) (by omega)]; congr 2; omega)) (by omega) (by omega) (by omega) (by omega) gBY gTL (lv_sub hl [3, 4, 1, 0] rfl) (by omega)
          · have hpx := hi0.trans (sc_here (by omega) (by omega) (by omega))
            refine lv_aload_n hx hb dX8_scan_71 rfl (lv_at hl 1 rfl) ?_
            refine lv_iload hx hb dX8_scan_72 (lv_at hl 0 rfl) ?_
            refine r_cSi (As := [.int r94]) (rest := [.ref (ad 1)]) ⟨hx, hb, hml, hown, hts⟩ hK hP hN hS (c_X8_signToken l D cA ad hI σ τ hR r94 (by omega)) (va_cwS 1 hts gX8_scan_X8_signToken rfl rfl rfl (by decide +kernel) ⟨by decide, by decide⟩) rfl hl.1 rfl (Nat.le_of_ble_eq_true rfl) dX8_scan_74 (Nat.zero_le _) (Nat.zero_le _) (fun r101 u101 H101 locs101 hp101 hP hS => ?_)
            obtain ⟨σ101, τ101⟩ := u101
            obtain ⟨hR, f101, fL101, hq101, hp101_0⟩ : P_X8_signToken σ τ r94 r101 σ101 τ101 := hp101
            have hP : va_P D vwCl (gw cA ad σ101 τ101) H101 := hP
            obtain rfl := FrL.nil fL101
            obtain rfl := Fr.nil f101
            refine lv_iload_n hx hb dX8_scan_77 rfl (lv_at hl 3 rfl) ?_
            refine r_iconst hx hb dX8_scan_78 (by decide) (fun z102 ez102 => ?_)
            refine lv_lconst (v := 0) hx hb dX8_scan_79 (by decide) ?_
            refine r_cVv (k := 1) (As := [.int r101, .int x2, .int z102, .long (0)]) (rest := []) ⟨hx, hb, hml, hown, hts⟩ hK hP hN hS (c_X8_note_v l D cA ad hI σ τ hR r101 x2 z102 (0) b N mo (by omega) (by omega) (by omega) (tv_sg hpx (by omega) (by omega) hrn (by omega) (by omega) (by omega)) gTL) (cwV 4 hts gX8_scan_X8_note rfl rfl rfl (by decide +kernel) ⟨by decide, by decide⟩) (rv_Tape hK hP (by decide) (by decide)) rfl hl.1 rfl (Nat.le_of_ble_eq_true rfl) dX8_scan_80 (Nat.zero_le _) (Nat.zero_le _) (fun u103 H103 locs103 hp103 hP hS => ?_)
            obtain ⟨σ103, τ103⟩ := u103
            obtain ⟨hR, f103, fL103, hp103_0, gnTL⟩ : P_X8_note_v σ τ r101 x2 z102 (0) b N mo σ103 τ103 := hp103
            have hP : va_P D vwCl (gw cA ad σ103 τ103) H103 := hP
            have hFL := hFL.step fL103 (by decide)
            have hF := hF.step f103 (by decide)
            have gBY := gBY.ag (Agr.fr f103 (by decide))
            have t104 : (σ103 1 13).toInt = (σ 1 13).toInt := congrArg Int32.toInt (f103.at 1 13 (by decide))
            have t105 : (σ103 1 5).toInt = (σ 1 5).toInt := congrArg Int32.toInt (f103.at 1 5 (by decide))
            have gTL := gnTL
            refine r_iinc (k := 3) (lv1 := fun z106 => [(2, .int z106), (4, .int r94), (0, .ref (ad 1)), (1, .int a1), (3, .int x3)]) hx hb dX8_scan_83 hl rfl (by decide) (fun _ => rfl) (by decide) (by omega) (fun z106 ls ez106 hl => ?_)
            refine r_iinc (k := 4) (lv1 := fun z107 => [(3, .int z107), (2, .int z106), (4, .int r94), (0, .ref (ad 1)), (1, .int a1)]) hx hb dX8_scan_86 hl rfl (by decide) (fun _ => rfl) (by decide) (by omega) (fun z107 ls ez107 hl => ?_)
            refine lv_goto (tgt := 19) hx hb dX8_scan_89 (by decide) ?_
            exact K19 σ103 τ103 H103 locs103 z106 z107 ls hR hF hFL hP hS (by omega) (by omega) (by omega) (by first | (show _ = lmq N mo (skpE b N _); rw [show (σ103 1 6).toInt.toNat = 0 by omega, show z106.toInt.toNat = 0 by omega]; rfl) | (rw [show (σ103 1 6).toInt.toNat = (σ 1 6).toInt.toNat + 1 by omega, sc_run hpx (by omega) (by omega) hrn]; congr 2; omega) | (rw [show (σ103 1 6).toInt.toNat = (σ 1 6).toInt.toNat + 1 by omega, sc_sgn hpx (by omega) (by omega) hrn]; congr 2; omega) | (rw [hi0, ← skpE_step (s := x2.toInt.toNat) (by omega) (by omega)]; congr 2; omega)) (by omega) (by omega) (by omega) (by omega) gBY gTL (lv_sub hl [3, 4, 1, 0] rfl) (by omega)
        · have hrn : isRn (b x2.toInt.toNat) := by omega
          have hpx := hi0.trans (sc_here (by omega) (by omega) (by omega))
          have hgt := runE_gt (b := b) (N := N) (s := x2.toInt.toNat) (by omega) hrn
          have hle := runE_le b (N := N) (s := x2.toInt.toNat) (by omega)
          refine lv_aload_n hx hb dX8_scan_54 rfl (lv_at hl 1 rfl) ?_
          refine lv_iload_n hx hb dX8_scan_55 rfl (lv_at hl 3 rfl) ?_
          refine r_cVi (k := 1) (As := [.int x2]) (rest := []) ⟨hx, hb, hml, hown, hts⟩ hK hP hN hS (c_X8_scanRun_v l D cA ad hI σ τ hR x2 b N mo x2.toInt.toNat (by omega) (by omega) (by omega) (by omega) hrn hpx (by omega) gBY gTL) (cwV 1 hts gX8_scan_X8_scanRun rfl rfl rfl (by decide +kernel) ⟨by decide, by decide⟩) (rv_Tape hK hP (by decide) (by decide)) rfl hl.1 rfl (Nat.le_of_ble_eq_true rfl) dX8_scan_56 (Nat.zero_le _) (Nat.zero_le _) (fun r108 u108 H108 locs108 hp108 hP hS => ?_)
          obtain ⟨σ108, τ108⟩ := u108
          obtain ⟨hR, f108, fL108, hq108, hp108_0, hp108_1, gnBY, gnTL⟩ : P_X8_scanRun_v σ τ x2 b N mo x2.toInt.toNat r108 σ108 τ108 := hp108
          have hP : va_P D vwCl (gw cA ad σ108 τ108) H108 := hP
          have hFL := hFL.step fL108 (by decide)
          have hF := hF.step f108 (by decide)
          have gBY := gBY.ag (Agr.fr f108 (by decide))
          have t109 : (σ108 1 13).toInt = (σ 1 13).toInt := congrArg Int32.toInt (f108.at 1 13 (by decide))
          have t110 : (σ108 1 5).toInt = (σ 1 5).toInt := congrArg Int32.toInt (f108.at 1 5 (by decide))
          have gTL := gnTL
          refine lv_istore_n (lv' := [(2, .int r108), (4, .int r94), (0, .ref (ad 1)), (1, .int a1), (3, .int x3)]) hx hb dX8_scan_59 rfl hl (by decide) rfl (fun ls hl => ?_)
          refine lv_goto (tgt := 86) hx hb dX8_scan_60 (by decide) ?_
          refine r_iinc (k := 4) (lv1 := fun z111 => [(3, .int z111), (2, .int r108), (4, .int r94), (0, .ref (ad 1)), (1, .int a1)]) hx hb dX8_scan_86 hl rfl (by decide) (fun _ => rfl) (by decide) (by omega) (fun z111 ls ez111 hl => ?_)
          refine lv_goto (tgt := 19) hx hb dX8_scan_89 (by decide) ?_
          exact K19 σ108 τ108 H108 locs108 r108 z111 ls hR hF hFL hP hS (by omega) (by omega) (by omega) (by first | (show _ = lmq N mo (skpE b N _); rw [show (σ108 1 6).toInt.toNat = 0 by omega, show r108.toInt.toNat = 0 by omega]; rfl) | (rw [show (σ108 1 6).toInt.toNat = (σ 1 6).toInt.toNat + 1 by omega, sc_run hpx (by omega) (by omega) hrn]; congr 2; omega) | (rw [show (σ108 1 6).toInt.toNat = (σ 1 6).toInt.toNat + 1 by omega, sc_sgn hpx (by omega) (by omega) hrn]; congr 2; omega) | (rw [hi0, ← skpE_step (s := x2.toInt.toNat) (by omega) (by omega)]; congr 2; omega)) (by omega) (by omega) (by omega) (by omega) gBY gTL (lv_sub hl [3, 4, 1, 0] rfl) (by omega)
theorem A_X8_scan_v (p : Program) (l : Launch) (e : Env) (s : State) (m : MethodId) (args : Array Value) (below : List Frame) (meth : Method) (c : Code) (D : va_G) (cA : Nat → ClassId) (ad : Nat → Nat) (σ0 : Nat → Nat → Int32) (τ0 : Nat → Nat → Int64) (a1 : Int32) (b : Nat → Int) (N : Nat) (mo : Nat) (C : Cy p s m args meth c cX8_scan 5 wsX8_scan RX8 D cA ad none) (ha1 : 200 ≤ a1.toInt ∧ a1.toInt ≤ 900) (hpre0 : a1.toInt = (mo : Int)) (gBY0 : BY σ0 b N) : ∀ n : Nat, J_X8_scan_v_19 p l e s m args below meth c D cA ad σ0 τ0 a1 b N mo n := by
  intro n
  induction n with
  | zero =>
    exact (by intro σ τ H locs x2 x3 ls hR hF hFL hP hS hc0 hc1 hc2 hi0 hi1 hi2 hi3 hi4 gBY gTL hl hm; exfalso; omega)
  | succ n ih =>
    exact B_X8_scan_v_19 p l e s m args below meth c D cA ad σ0 τ0 a1 b N mo n C ha1 hpre0 gBY0 ih
set_option maxHeartbeats 4000000 in
theorem c_X8_scan_v (l : Launch) (D : va_G) (cA : Nat → ClassId) (ad : Nat → Nat) (hI : Inj ad) (σ0 : Nat → Nat → Int32) (τ0 : Nat → Nat → Int64) (hR : Rg σ0) (a1 : Int32) (b : Nat → Int) (N : Nat) (mo : Nat) (ha1 : 200 ≤ a1.toInt ∧ a1.toInt ≤ 900) (hpre0 : a1.toInt = (mo : Int)) (gBY0 : BY σ0 b N) : Met l yX8_scan wsX8_scan ({ frames := 8, cells := 0, slots := 0, locals := 186 } : Room) (WQc D cA ad [.ref (ad 1), .int a1] σ0 τ0) (va_Qv (fun u : SS => P_X8_scan_v σ0 τ0 a1 b N mo u.1 u.2) (WB D cA ad) (AA ad)) 0 0 (AA ad) := by
  refine Met.ofW (cc := cX8_scan) (maxL := 5) (ret := none) (by decide) rfl ?_
  intro p e s m args below meth c s₁ B hml hv
  obtain ⟨rfl, hP, hK, hN⟩ := hv
  have C : Cy p s m _ meth c cX8_scan 5 wsX8_scan RX8 D cA ad none := ⟨B.exec, B.bytes, hml, findClass_of_methodNamed B.named, atoms_spec (ws := wsX8_scan) B.pre, hK, B.notSynchronized, B.returns, hI, hN⟩
  have hl := lv_entry ([.ref (ad 1), .int a1]) (n := 5) (Nat.le_of_ble_eq_true rfl)
  rw [lg_entry_eq]
  generalize (lg_sl ([.ref (ad 1), .int a1]) ++ List.replicate (5 - (lg_sl ([.ref (ad 1), .int a1])).length) Slot.unset).toArray = ls at hl ⊢
  have hl : lv_has ls 5 [(0, .ref (ad 1)), (1, .int a1)] := hl
  have hS : va_S (AA ad) s.heap s.heap [] := va_S.rf
  have hF : Fr L_X8_scan_v σ0 σ0 := Fr.rf
  have hFL : FrL LL_X8_scan_v τ0 τ0 := FrL.rf
  have gBY := gBY0
  have hA := A_X8_scan_v p l e s m _ below meth c D cA ad σ0 τ0 a1 b N mo C ha1 hpre0 gBY0 3770
  have K19 := hA
  clear hA
  obtain ⟨hx, hb, _, hown, hts, _, hk, hr, _, _⟩ := C
  refine lv_aload_n hx hb dX8_scan_0 rfl (lv_at hl 0 rfl) ?_
  refine r_iconst hx hb dX8_scan_1 (by decide) (fun z1 ez1 => ?_)
  refine fp_8_13 (k := 1) hx hb hts in_X8_scan_8 hown hK hP (by decide) (by decide) (hts _ lk_X8_scan_33) hI hR hS dX8_scan_2 (fun σ2 H2 locs2 u2 v2 hR hP hS => ?_)
  have hF := hF.puts u2 0 rfl (by decide) (by decide) (by decide) (by decide)
  have gBY := gBY.ag (Agr.put u2 (by decide))
  refine lv_aload_n hx hb dX8_scan_5 rfl (lv_at hl 0 rfl) ?_
  refine r_iconst hx hb dX8_scan_6 (by decide) (fun z3 ez3 => ?_)
  refine fp_8_14 (k := 1) hx hb hts in_X8_scan_8 hown hK hP (by decide) (by decide) (hts _ lk_X8_scan_36) hI hR hS dX8_scan_7 (fun σ4 H4 locs4 u4 v4 hR hP hS => ?_)
  have hF := hF.puts u4 0 rfl (by decide) (by decide) (by decide) (by decide)
  have gBY := gBY.ag (Agr.put u4 (by decide))
  have t5 : (σ4 1 13).toInt = (σ2 1 13).toInt := congrArg Int32.toInt (u4 1 13 (by omega))
  refine lv_aload_n hx hb dX8_scan_10 rfl (lv_at hl 0 rfl) ?_
  refine r_iconst hx hb dX8_scan_11 (by decide) (fun z6 ez6 => ?_)
  refine fp_8_6 (k := 1) hx hb hts in_X8_scan_8 hown hK hP (by decide) (by decide) (hts _ lk_X8_scan_39) hI hR hS (by omega) dX8_scan_12 (fun σ7 H7 locs7 u7 v7 hR hP hS => ?_)
  have hF := hF.puts u7 4 rfl (by decide) (by decide) (by decide) (by decide)
  have gBY := gBY.ag (Agr.put u7 (by decide))
  have t8 : (σ7 1 13).toInt = (σ4 1 13).toInt := congrArg Int32.toInt (u7 1 13 (by omega))
  have gTL : TL σ7 τ0 b N mo := TL.zero (by omega)
  refine r_iconst hx hb dX8_scan_15 (by decide) (fun z9 ez9 => ?_)
  refine lv_istore_n (lv' := [(2, .int z9), (0, .ref (ad 1)), (1, .int a1)]) hx hb dX8_scan_16 rfl hl (by decide) rfl (fun ls hl => ?_)
  refine r_iconst hx hb dX8_scan_17 (by decide) (fun z10 ez10 => ?_)
  refine lv_istore_n (lv' := [(3, .int z10), (2, .int z9), (0, .ref (ad 1)), (1, .int a1)]) hx hb dX8_scan_18 rfl hl (by decide) rfl (fun ls hl => ?_)
  exact K19 σ7 τ0 H7 locs7 z9 z10 ls hR hF hFL hP hS (by omega) (by omega) (by omega) (by first | (show _ = lmq N mo (skpE b N _); rw [show (σ7 1 6).toInt.toNat = 0 by omega, show z9.toInt.toNat = 0 by omega]; rfl) | (rw [show (σ7 1 6).toInt.toNat = (σ 1 6).toInt.toNat + 1 by omega, sc_run hpx (by omega) (by omega) hrn]; congr 2; omega) | (rw [show (σ7 1 6).toInt.toNat = (σ 1 6).toInt.toNat + 1 by omega, sc_sgn hpx (by omega) (by omega) hrn]; congr 2; omega) | (rw [hi0, ← skpE_step (s := x2.toInt.toNat) (by omega) (by omega)]; congr 2; omega)) (by omega) (by omega) (by omega) (by omega) gBY gTL (lv_sub hl [2, 3, 1, 0] rfl) (by omega)
theorem cn_X9_copyRows : Cond.native arraycopyName ∈ wsX9_copyRows := by decide +kernel
theorem cs_X9_copyRows : Cond.static arraycopyName ∈ wsX9_copyRows := by decide +kernel
theorem ci_X9_copyRows : Cond.initialized "java/lang/System" ∈ wsX9_copyRows := by decide +kernel
theorem lk_X9_copyRows_58 : Cond.methodLink RX9 58 arraycopyName ∈ wsX9_copyRows := by decide +kernel
theorem lk_X9_copyRows_68 : Cond.methodLink RX9 68 Lib.Math.min.name ∈ wsX9_copyRows := by decide +kernel
theorem mi_X9_copyRows : Cond.initialized "java/lang/Math" ∈ wsX9_copyRows := by decide +kernel
theorem ms_X9_copyRows_min : Cond.static Lib.Math.min.name ∈ wsX9_copyRows := by decide +kernel
theorem mc_X9_copyRows_min : Cond.code Lib.Math.min.name Lib.Math.min.code 2 (some .int) ∈ wsX9_copyRows := by decide +kernel
abbrev L_X9_copyRows_callA_callA : List Rc := [(148, 307, 0, 3)]
abbrev LL_X9_copyRows_callA_callA : List Rc := []
def P_X9_copyRows_callA_callA (σ0 : Nat → Nat → Int32) (τ0 : Nat → Nat → Int64) (k0 : Nat) (k1 : Nat) (a2 : Int32) (σ : Nat → Nat → Int32) (τ : Nat → Nat → Int64) : Prop := Rg σ ∧ Fr L_X9_copyRows_callA_callA σ0 σ ∧ FrL LL_X9_copyRows_callA_callA τ0 τ ∧ (RCp σ0 σ (40 * (k0 - 60) + 148) (40 * (k1 - 60) + 148) a2.toInt.toNat)
def J_X9_copyRows_callA_callA_2 (p : Program) (l : Launch) (e : Env) (s : State) (m : MethodId) (args : Array Value) (below : List Frame) (meth : Method) (c : Code) (D : va_G) (cA : Nat → ClassId) (ad : Nat → Nat) (σ0 : Nat → Nat → Int32) (τ0 : Nat → Nat → Int64) (k0 : Nat) (k1 : Nat) (a2 : Int32) (n : Nat) : Prop := ∀ (σ : Nat → Nat → Int32) (τ : Nat → Nat → Int64) (H : Heap) (locs : List Loc) (x3 : Int32) (ls : Array Slot), Rg σ → Fr L_X9_copyRows_callA_callA σ0 σ → FrL LL_X9_copyRows_callA_callA τ0 τ → va_P D vwCl (gw cA ad σ τ) H → va_S (AA ad) s.heap H locs → (0 ≤ x3.toInt ∧ x3.toInt ≤ 40) → (RCp σ0 σ (40 * (k0 - 60) + 148) (40 * (k1 - 60) + 148) x3.toInt.toNat) → (x3.toInt ≤ a2.toInt) → lv_has ls 4 [(0, .ref (ad k0)), (1, .ref (ad k1)), (2, .int a2), (3, .int x3)] → 2 * (40 - x3.toInt) + 1 < (n : Int) → W p l e ({ frames := 1, cells := 0, slots := 0, locals := 60 } : Room) s m args below meth c H locs 0 0 (MQ below (va_Qv (fun u : SS => P_X9_copyRows_callA_callA σ0 τ0 k0 k1 a2 u.1 u.2) (WB D cA ad) (AA ad)) args s 0 0 (AA ad)) (F0 m 2 ls [])
set_option maxHeartbeats 4000000 in
theorem B_X9_copyRows_callA_callA_2 (p : Program) (l : Launch) (e : Env) (s : State) (m : MethodId) (args : Array Value) (below : List Frame) (meth : Method) (c : Code) (D : va_G) (cA : Nat → ClassId) (ad : Nat → Nat) (σ0 : Nat → Nat → Int32) (τ0 : Nat → Nat → Int64) (k0 : Nat) (k1 : Nat) (a2 : Int32) (n : Nat) (C : Cy p s m args meth c cX9_copyRows 4 wsX9_copyRows RX9 D cA ad none) (hk0 : 60 ≤ k0 ∧ k0 ≤ 63) (hk1 : 60 ≤ k1 ∧ k1 ≤ 63) (ha2 : 0 ≤ a2.toInt ∧ a2.toInt ≤ 40) (K2 : J_X9_copyRows_callA_callA_2 p l e s m args below meth c D cA ad σ0 τ0 k0 k1 a2 n) : J_X9_copyRows_callA_callA_2 p l e s m args below meth c D cA ad σ0 τ0 k0 k1 a2 (n + 1) := by
  obtain ⟨hx, hb, hml, hown, hts, hK, hk, hr, hI, hN⟩ := C
  intro σ τ H locs x3 ls hR hF hFL hP hS hc0 hi0 hi1 hl hm
  obtain rfl := FrL.nil hFL
  refine lv_iload_n hx hb dX9_copyRows_2 rfl (lv_at hl 3 rfl) ?_
  refine lv_iload_n hx hb dX9_copyRows_3 rfl (lv_at hl 2 rfl) ?_
  refine r_icmp_ge (tgt := 47) hx hb dX9_copyRows_4 (by decide) (fun c1 => ?_) (fun c1 => ?_)
  · exact r_vret hx hb hr hK hP hS hk dX9_copyRows_47 (show P_X9_copyRows_callA_callA σ0 τ0 k0 k1 a2 σ τ0 from ⟨hR, hF, hFL, by rw [show a2.toInt.toNat = x3.toInt.toNat by omega]; exact hi0⟩)
  · refine lv_iload_n hx hb dX9_copyRows_7 rfl (lv_at hl 3 rfl) ?_
    refine lv_aload_n hx hb dX9_copyRows_8 rfl (lv_at hl 0 rfl) ?_
    refine al_callA (k := k0) hx hb hK hP (by omega) (by omega) dX9_copyRows_9 (fun z2 ez2 => ?_)
    refine r_icmp_ge (tgt := 47) hx hb dX9_copyRows_10 (by decide) (fun c3 => ?_) (fun c3 => ?_)
    · exfalso; omega
    · refine lv_iload_n hx hb dX9_copyRows_13 rfl (lv_at hl 3 rfl) ?_
      refine lv_aload_n hx hb dX9_copyRows_14 rfl (lv_at hl 1 rfl) ?_
      refine al_callA (k := k1) hx hb hK hP (by omega) (by omega) dX9_copyRows_15 (fun z4 ez4 => ?_)
      refine r_icmp_ge (tgt := 47) hx hb dX9_copyRows_16 (by decide) (fun c5 => ?_) (fun c5 => ?_)
      · exfalso; omega
      · refine lv_aload_n hx hb dX9_copyRows_19 rfl (lv_at hl 0 rfl) ?_
        refine lv_iload_n hx hb dX9_copyRows_20 rfl (lv_at hl 3 rfl) ?_
        obtain ⟨j6, ej6⟩ : ∃ j : Nat, x3.toInt = (j : Int) := ⟨_, ti_nat (by omega)⟩
        refine ad_callA (k := k0) (j := j6) hx hb hK hP (by omega) (by omega) ej6 (by omega) dX9_copyRows_21 ?_
        refine r_iconst hx hb dX9_copyRows_22 (by decide) (fun z7 ez7 => ?_)
        refine lv_aload_n hx hb dX9_copyRows_23 rfl (lv_at hl 1 rfl) ?_
        refine lv_iload_n hx hb dX9_copyRows_24 rfl (lv_at hl 3 rfl) ?_
        refine ad_callA (k := k1) (j := j6) hx hb hK hP (by omega) (by omega) ej6 (by omega) dX9_copyRows_25 ?_
        refine r_iconst hx hb dX9_copyRows_26 (by decide) (fun z8 ez8 => ?_)
        refine lv_aload_n hx hb dX9_copyRows_27 rfl (lv_at hl 0 rfl) ?_
        refine lv_iload_n hx hb dX9_copyRows_28 rfl (lv_at hl 3 rfl) ?_
        refine ad_callA (k := k0) (j := j6) hx hb hK hP (by omega) (by omega) ej6 (by omega) dX9_copyRows_29 ?_
        refine al_callR (k := 40 * (k0 - 60) + 148 + j6) hx hb hK hP (by omega) (by omega) dX9_copyRows_30 (fun z9 ez9 => ?_)
        refine lv_aload_n hx hb dX9_copyRows_31 rfl (lv_at hl 1 rfl) ?_
        refine lv_iload_n hx hb dX9_copyRows_32 rfl (lv_at hl 3 rfl) ?_
        refine ad_callA (k := k1) (j := j6) hx hb hK hP (by omega) (by omega) ej6 (by omega) dX9_copyRows_33 ?_
        refine al_callR (k := 40 * (k1 - 60) + 148 + j6) hx hb hK hP (by omega) (by omega) dX9_copyRows_34 (fun z10 ez10 => ?_)
        refine r_mmin hx hb (by rw [hml]; exact hl.1.symm) hown (hts _ lk_X9_copyRows_68) (hts _ ms_X9_copyRows_min) (hts _ mi_X9_copyRows) (hts _ mc_X9_copyRows_min) (by decide) (Nat.le_of_ble_eq_true rfl) (Nat.zero_le _) (Nat.zero_le _) dX9_copyRows_35 (fun z12 ez12 => ?_)
        refine cpE_callR (k := 40 * (k1 - 60) + 148 + j6) (q := 40 * (k0 - 60) + 148 + j6) hx hb (by rw [hml]; exact hl.1.symm) hown (hts _ lk_X9_copyRows_58) (hts _ cn_X9_copyRows) (hts _ cs_X9_copyRows) (hts _ ci_X9_copyRows) hK hP hI hR hS (by omega) (by omega) (by omega) (by omega) (by omega) (by omega) (by omega) (by decide) (Nat.le_of_ble_eq_true rfl) dX9_copyRows_38 (fun σ13 H13 locs13 u13 v13 hR hP hS => ?_)
        have uc := u13
        have vc := v13
        have hF := hF.row u13 0 rfl (by omega) (by omega) (by decide) (by decide)
        refine r_iinc (k := 3) (lv1 := fun z14 => [(3, .int z14), (0, .ref (ad k0)), (1, .ref (ad k1)), (2, .int a2)]) hx hb dX9_copyRows_41 hl rfl (by decide) (fun _ => rfl) (by decide) (by omega) (fun z14 ls ez14 hl => ?_)
        refine lv_goto (tgt := 2) hx hb dX9_copyRows_44 (by decide) ?_
        exact K2 σ13 τ0 H13 locs13 z14 ls hR hF hFL hP hS (by omega) (by first | (rw [show z14.toInt.toNat = 0 by omega]; exact RCp.rf) | exact RCp.step (m := 40) (x := x3.toInt) hi0 uc vc (by omega) (by omega) (by omega) (by omega)) (by omega) (lv_sub hl [1, 2, 3, 0] rfl) (by omega)
theorem A_X9_copyRows_callA_callA (p : Program) (l : Launch) (e : Env) (s : State) (m : MethodId) (args : Array Value) (below : List Frame) (meth : Method) (c : Code) (D : va_G) (cA : Nat → ClassId) (ad : Nat → Nat) (σ0 : Nat → Nat → Int32) (τ0 : Nat → Nat → Int64) (k0 : Nat) (k1 : Nat) (a2 : Int32) (C : Cy p s m args meth c cX9_copyRows 4 wsX9_copyRows RX9 D cA ad none) (hk0 : 60 ≤ k0 ∧ k0 ≤ 63) (hk1 : 60 ≤ k1 ∧ k1 ≤ 63) (ha2 : 0 ≤ a2.toInt ∧ a2.toInt ≤ 40) : ∀ n : Nat, J_X9_copyRows_callA_callA_2 p l e s m args below meth c D cA ad σ0 τ0 k0 k1 a2 n := by
  intro n
  induction n with
  | zero =>
    exact (by intro σ τ H locs x3 ls hR hF hFL hP hS hc0 hi0 hi1 hl hm; exfalso; omega)
  | succ n ih =>
    exact B_X9_copyRows_callA_callA_2 p l e s m args below meth c D cA ad σ0 τ0 k0 k1 a2 n C hk0 hk1 ha2 ih
set_option maxHeartbeats 4000000 in
theorem c_X9_copyRows_callA_callA (l : Launch) (D : va_G) (cA : Nat → ClassId) (ad : Nat → Nat) (hI : Inj ad) (σ0 : Nat → Nat → Int32) (τ0 : Nat → Nat → Int64) (hR : Rg σ0) (k0 : Nat) (k1 : Nat) (a2 : Int32) (hk0 : 60 ≤ k0 ∧ k0 ≤ 63) (hk1 : 60 ≤ k1 ∧ k1 ≤ 63) (ha2 : 0 ≤ a2.toInt ∧ a2.toInt ≤ 40) : Met l yX9_copyRows wsX9_copyRows ({ frames := 1, cells := 0, slots := 0, locals := 60 } : Room) (WQc D cA ad [.ref (ad k0), .ref (ad k1), .int a2] σ0 τ0) (va_Qv (fun u : SS => P_X9_copyRows_callA_callA σ0 τ0 k0 k1 a2 u.1 u.2) (WB D cA ad) (AA ad)) 0 0 (AA ad) := by
  refine Met.ofW (cc := cX9_copyRows) (maxL := 4) (ret := none) (by decide) rfl ?_
  intro p e s m args below meth c s₁ B hml hv
  obtain ⟨rfl, hP, hK, hN⟩ := hv
  have C : Cy p s m _ meth c cX9_copyRows 4 wsX9_copyRows RX9 D cA ad none := ⟨B.exec, B.bytes, hml, findClass_of_methodNamed B.named, atoms_spec (ws := wsX9_copyRows) B.pre, hK, B.notSynchronized, B.returns, hI, hN⟩
  have hl := lv_entry ([.ref (ad k0), .ref (ad k1), .int a2]) (n := 4) (Nat.le_of_ble_eq_true rfl)
  rw [lg_entry_eq]
  generalize (lg_sl ([.ref (ad k0), .ref (ad k1), .int a2]) ++ List.replicate (4 - (lg_sl ([.ref (ad k0), .ref (ad k1), .int a2])).length) Slot.unset).toArray = ls at hl ⊢
  have hl : lv_has ls 4 [(0, .ref (ad k0)), (1, .ref (ad k1)), (2, .int a2)] := hl
  have hS : va_S (AA ad) s.heap s.heap [] := va_S.rf
  have hF : Fr L_X9_copyRows_callA_callA σ0 σ0 := Fr.rf
  have hFL : FrL LL_X9_copyRows_callA_callA τ0 τ0 := FrL.rf
  have hA := A_X9_copyRows_callA_callA p l e s m _ below meth c D cA ad σ0 τ0 k0 k1 a2 C hk0 hk1 ha2 170
  have K2 := hA
  clear hA
  obtain ⟨hx, hb, _, hown, hts, _, hk, hr, _, _⟩ := C
  refine r_iconst hx hb dX9_copyRows_0 (by decide) (fun z1 ez1 => ?_)
  refine lv_istore_n (lv' := [(3, .int z1), (0, .ref (ad k0)), (1, .ref (ad k1)), (2, .int a2)]) hx hb dX9_copyRows_1 rfl hl (by decide) rfl (fun ls hl => ?_)
  exact K2 σ0 τ0 s.heap [] z1 ls hR hF hFL hP hS (by omega) (by first | (rw [show z1.toInt.toNat = 0 by omega]; exact RCp.rf) | exact RCp.step (m := 40) (x := x3.toInt) hi0 uc vc (by omega) (by omega) (by omega) (by omega)) (by omega) (lv_sub hl [1, 2, 3, 0] rfl) (by omega)
abbrev L_X9_copyRows_flightA_flightA : List Rc := [(132, 147, 0, 3)]
abbrev LL_X9_copyRows_flightA_flightA : List Rc := []
def P_X9_copyRows_flightA_flightA (σ0 : Nat → Nat → Int32) (τ0 : Nat → Nat → Int64) (k0 : Nat) (k1 : Nat) (a2 : Int32) (σ : Nat → Nat → Int32) (τ : Nat → Nat → Int64) : Prop := Rg σ ∧ Fr L_X9_copyRows_flightA_flightA σ0 σ ∧ FrL LL_X9_copyRows_flightA_flightA τ0 τ ∧ (RCp σ0 σ (4 * (k0 - 56) + 132) (4 * (k1 - 56) + 132) a2.toInt.toNat)
def J_X9_copyRows_flightA_flightA_2 (p : Program) (l : Launch) (e : Env) (s : State) (m : MethodId) (args : Array Value) (below : List Frame) (meth : Method) (c : Code) (D : va_G) (cA : Nat → ClassId) (ad : Nat → Nat) (σ0 : Nat → Nat → Int32) (τ0 : Nat → Nat → Int64) (k0 : Nat) (k1 : Nat) (a2 : Int32) (n : Nat) : Prop := ∀ (σ : Nat → Nat → Int32) (τ : Nat → Nat → Int64) (H : Heap) (locs : List Loc) (x3 : Int32) (ls : Array Slot), Rg σ → Fr L_X9_copyRows_flightA_flightA σ0 σ → FrL LL_X9_copyRows_flightA_flightA τ0 τ → va_P D vwCl (gw cA ad σ τ) H → va_S (AA ad) s.heap H locs → (0 ≤ x3.toInt ∧ x3.toInt ≤ 4) → (RCp σ0 σ (4 * (k0 - 56) + 132) (4 * (k1 - 56) + 132) x3.toInt.toNat) → (x3.toInt ≤ a2.toInt) → lv_has ls 4 [(0, .ref (ad k0)), (1, .ref (ad k1)), (2, .int a2), (3, .int x3)] → 2 * (4 - x3.toInt) + 1 < (n : Int) → W p l e ({ frames := 1, cells := 0, slots := 0, locals := 60 } : Room) s m args below meth c H locs 0 0 (MQ below (va_Qv (fun u : SS => P_X9_copyRows_flightA_flightA σ0 τ0 k0 k1 a2 u.1 u.2) (WB D cA ad) (AA ad)) args s 0 0 (AA ad)) (F0 m 2 ls [])
set_option maxHeartbeats 4000000 in
theorem B_X9_copyRows_flightA_flightA_2 (p : Program) (l : Launch) (e : Env) (s : State) (m : MethodId) (args : Array Value) (below : List Frame) (meth : Method) (c : Code) (D : va_G) (cA : Nat → ClassId) (ad : Nat → Nat) (σ0 : Nat → Nat → Int32) (τ0 : Nat → Nat → Int64) (k0 : Nat) (k1 : Nat) (a2 : Int32) (n : Nat) (C : Cy p s m args meth c cX9_copyRows 4 wsX9_copyRows RX9 D cA ad none) (hk0 : 56 ≤ k0 ∧ k0 ≤ 59) (hk1 : 56 ≤ k1 ∧ k1 ≤ 59) (ha2 : 0 ≤ a2.toInt ∧ a2.toInt ≤ 4) (K2 : J_X9_copyRows_flightA_flightA_2 p l e s m args below meth c D cA ad σ0 τ0 k0 k1 a2 n) : J_X9_copyRows_flightA_flightA_2 p l e s m args below meth c D cA ad σ0 τ0 k0 k1 a2 (n + 1) := by
  obtain ⟨hx, hb, hml, hown, hts, hK, hk, hr, hI, hN⟩ := C
  intro σ τ H locs x3 ls hR hF hFL hP hS hc0 hi0 hi1 hl hm
  obtain rfl := FrL.nil hFL
  refine lv_iload_n hx hb dX9_copyRows_2 rfl (lv_at hl 3 rfl) ?_
  refine lv_iload_n hx hb dX9_copyRows_3 rfl (lv_at hl 2 rfl) ?_
  refine r_icmp_ge (tgt := 47) hx hb dX9_copyRows_4 (by decide) (fun c1 => ?_) (fun c1 => ?_)
  · exact r_vret hx hb hr hK hP hS hk dX9_copyRows_47 (show P_X9_copyRows_flightA_flightA σ0 τ0 k0 k1 a2 σ τ0 from ⟨hR, hF, hFL, by rw [show a2.toInt.toNat = x3.toInt.toNat by omega]; exact hi0⟩)
  · refine lv_iload_n hx hb dX9_copyRows_7 rfl (lv_at hl 3 rfl) ?_
    refine lv_aload_n hx hb dX9_copyRows_8 rfl (lv_at hl 0 rfl) ?_
    refine al_flightA (k := k0) hx hb hK hP (by omega) (by omega) dX9_copyRows_9 (fun z2 ez2 => ?_)
    refine r_icmp_ge (tgt := 47) hx hb dX9_copyRows_10 (by decide) (fun c3 => ?_) (fun c3 => ?_)
    · exfalso; omega
    · refine lv_iload_n hx hb dX9_copyRows_13 rfl (lv_at hl 3 rfl) ?_
      refine lv_aload_n hx hb dX9_copyRows_14 rfl (lv_at hl 1 rfl) ?_
      refine al_flightA (k := k1) hx hb hK hP (by omega) (by omega) dX9_copyRows_15 (fun z4 ez4 => ?_)
      refine r_icmp_ge (tgt := 47) hx hb dX9_copyRows_16 (by decide) (fun c5 => ?_) (fun c5 => ?_)
      · exfalso; omega
      · refine lv_aload_n hx hb dX9_copyRows_19 rfl (lv_at hl 0 rfl) ?_
        refine lv_iload_n hx hb dX9_copyRows_20 rfl (lv_at hl 3 rfl) ?_
        obtain ⟨j6, ej6⟩ : ∃ j : Nat, x3.toInt = (j : Int) := ⟨_, ti_nat (by omega)⟩
        refine ad_flightA (k := k0) (j := j6) hx hb hK hP (by omega) (by omega) ej6 (by omega) dX9_copyRows_21 ?_
        refine r_iconst hx hb dX9_copyRows_22 (by decide) (fun z7 ez7 => ?_)
        refine lv_aload_n hx hb dX9_copyRows_23 rfl (lv_at hl 1 rfl) ?_
        refine lv_iload_n hx hb dX9_copyRows_24 rfl (lv_at hl 3 rfl) ?_
        refine ad_flightA (k := k1) (j := j6) hx hb hK hP (by omega) (by omega) ej6 (by omega) dX9_copyRows_25 ?_
        refine r_iconst hx hb dX9_copyRows_26 (by decide) (fun z8 ez8 => ?_)
        refine lv_aload_n hx hb dX9_copyRows_27 rfl (lv_at hl 0 rfl) ?_
        refine lv_iload_n hx hb dX9_copyRows_28 rfl (lv_at hl 3 rfl) ?_
        refine ad_flightA (k := k0) (j := j6) hx hb hK hP (by omega) (by omega) ej6 (by omega) dX9_copyRows_29 ?_
        refine al_flightR (k := 4 * (k0 - 56) + 132 + j6) hx hb hK hP (by omega) (by omega) dX9_copyRows_30 (fun z9 ez9 => ?_)
        refine lv_aload_n hx hb dX9_copyRows_31 rfl (lv_at hl 1 rfl) ?_
        refine lv_iload_n hx hb dX9_copyRows_32 rfl (lv_at hl 3 rfl) ?_
        refine ad_flightA (k := k1) (j := j6) hx hb hK hP (by omega) (by omega) ej6 (by omega) dX9_copyRows_33 ?_
        refine al_flightR (k := 4 * (k1 - 56) + 132 + j6) hx hb hK hP (by omega) (by omega) dX9_copyRows_34 (fun z10 ez10 => ?_)
        refine r_mmin hx hb (by rw [hml]; exact hl.1.symm) hown (hts _ lk_X9_copyRows_68) (hts _ ms_X9_copyRows_min) (hts _ mi_X9_copyRows) (hts _ mc_X9_copyRows_min) (by decide) (Nat.le_of_ble_eq_true rfl) (Nat.zero_le _) (Nat.zero_le _) dX9_copyRows_35 (fun z12 ez12 => ?_)
        refine cpE_flightR (k := 4 * (k1 - 56) + 132 + j6) (q := 4 * (k0 - 56) + 132 + j6) hx hb (by rw [hml]; exact hl.1.symm) hown (hts _ lk_X9_copyRows_58) (hts _ cn_X9_copyRows) (hts _ cs_X9_copyRows) (hts _ ci_X9_copyRows) hK hP hI hR hS (by omega) (by omega) (by omega) (by omega) (by omega) (by omega) (by omega) (by decide) (Nat.le_of_ble_eq_true rfl) dX9_copyRows_38 (fun σ13 H13 locs13 u13 v13 hR hP hS => ?_)
        have uc := u13
        have vc := v13
        have hF := hF.row u13 0 rfl (by omega) (by omega) (by decide) (by decide)
        refine r_iinc (k := 3) (lv1 := fun z14 => [(3, .int z14), (0, .ref (ad k0)), (1, .ref (ad k1)), (2, .int a2)]) hx hb dX9_copyRows_41 hl rfl (by decide) (fun _ => rfl) (by decide) (by omega) (fun z14 ls ez14 hl => ?_)
        refine lv_goto (tgt := 2) hx hb dX9_copyRows_44 (by decide) ?_
        exact K2 σ13 τ0 H13 locs13 z14 ls hR hF hFL hP hS (by omega) (by first | (rw [show z14.toInt.toNat = 0 by omega]; exact RCp.rf) | exact RCp.step (m := 4) (x := x3.toInt) hi0 uc vc (by omega) (by omega) (by omega) (by omega)) (by omega) (lv_sub hl [1, 2, 3, 0] rfl) (by omega)
theorem A_X9_copyRows_flightA_flightA (p : Program) (l : Launch) (e : Env) (s : State) (m : MethodId) (args : Array Value) (below : List Frame) (meth : Method) (c : Code) (D : va_G) (cA : Nat → ClassId) (ad : Nat → Nat) (σ0 : Nat → Nat → Int32) (τ0 : Nat → Nat → Int64) (k0 : Nat) (k1 : Nat) (a2 : Int32) (C : Cy p s m args meth c cX9_copyRows 4 wsX9_copyRows RX9 D cA ad none) (hk0 : 56 ≤ k0 ∧ k0 ≤ 59) (hk1 : 56 ≤ k1 ∧ k1 ≤ 59) (ha2 : 0 ≤ a2.toInt ∧ a2.toInt ≤ 4) : ∀ n : Nat, J_X9_copyRows_flightA_flightA_2 p l e s m args below meth c D cA ad σ0 τ0 k0 k1 a2 n := by
  intro n
  induction n with
  | zero =>
    exact (by intro σ τ H locs x3 ls hR hF hFL hP hS hc0 hi0 hi1 hl hm; exfalso; omega)
  | succ n ih =>
    exact B_X9_copyRows_flightA_flightA_2 p l e s m args below meth c D cA ad σ0 τ0 k0 k1 a2 n C hk0 hk1 ha2 ih
set_option maxHeartbeats 4000000 in
theorem c_X9_copyRows_flightA_flightA (l : Launch) (D : va_G) (cA : Nat → ClassId) (ad : Nat → Nat) (hI : Inj ad) (σ0 : Nat → Nat → Int32) (τ0 : Nat → Nat → Int64) (hR : Rg σ0) (k0 : Nat) (k1 : Nat) (a2 : Int32) (hk0 : 56 ≤ k0 ∧ k0 ≤ 59) (hk1 : 56 ≤ k1 ∧ k1 ≤ 59) (ha2 : 0 ≤ a2.toInt ∧ a2.toInt ≤ 4) : Met l yX9_copyRows wsX9_copyRows ({ frames := 1, cells := 0, slots := 0, locals := 60 } : Room) (WQc D cA ad [.ref (ad k0), .ref (ad k1), .int a2] σ0 τ0) (va_Qv (fun u : SS => P_X9_copyRows_flightA_flightA σ0 τ0 k0 k1 a2 u.1 u.2) (WB D cA ad) (AA ad)) 0 0 (AA ad) := by
  refine Met.ofW (cc := cX9_copyRows) (maxL := 4) (ret := none) (by decide) rfl ?_
  intro p e s m args below meth c s₁ B hml hv
  obtain ⟨rfl, hP, hK, hN⟩ := hv
  have C : Cy p s m _ meth c cX9_copyRows 4 wsX9_copyRows RX9 D cA ad none := ⟨B.exec, B.bytes, hml, findClass_of_methodNamed B.named, atoms_spec (ws := wsX9_copyRows) B.pre, hK, B.notSynchronized, B.returns, hI, hN⟩
  have hl := lv_entry ([.ref (ad k0), .ref (ad k1), .int a2]) (n := 4) (Nat.le_of_ble_eq_true rfl)
  rw [lg_entry_eq]
  generalize (lg_sl ([.ref (ad k0), .ref (ad k1), .int a2]) ++ List.replicate (4 - (lg_sl ([.ref (ad k0), .ref (ad k1), .int a2])).length) Slot.unset).toArray = ls at hl ⊢
  have hl : lv_has ls 4 [(0, .ref (ad k0)), (1, .ref (ad k1)), (2, .int a2)] := hl
  have hS : va_S (AA ad) s.heap s.heap [] := va_S.rf
  have hF : Fr L_X9_copyRows_flightA_flightA σ0 σ0 := Fr.rf
  have hFL : FrL LL_X9_copyRows_flightA_flightA τ0 τ0 := FrL.rf
  have hA := A_X9_copyRows_flightA_flightA p l e s m _ below meth c D cA ad σ0 τ0 k0 k1 a2 C hk0 hk1 ha2 26
  have K2 := hA
  clear hA
  obtain ⟨hx, hb, _, hown, hts, _, hk, hr, _, _⟩ := C
  refine r_iconst hx hb dX9_copyRows_0 (by decide) (fun z1 ez1 => ?_)
  refine lv_istore_n (lv' := [(3, .int z1), (0, .ref (ad k0)), (1, .ref (ad k1)), (2, .int a2)]) hx hb dX9_copyRows_1 rfl hl (by decide) rfl (fun ls hl => ?_)
  exact K2 σ0 τ0 s.heap [] z1 ls hR hF hFL hP hS (by omega) (by first | (rw [show z1.toInt.toNat = 0 by omega]; exact RCp.rf) | exact RCp.step (m := 4) (x := x3.toInt) hi0 uc vc (by omega) (by omega) (by omega) (by omega)) (by omega) (lv_sub hl [1, 2, 3, 0] rfl) (by omega)
abbrev L_X9_copyRows_hillA_hillA : List Rc := [(68, 99, 0, 3)]
abbrev LL_X9_copyRows_hillA_hillA : List Rc := []
def P_X9_copyRows_hillA_hillA (σ0 : Nat → Nat → Int32) (τ0 : Nat → Nat → Int64) (k0 : Nat) (k1 : Nat) (a2 : Int32) (σ : Nat → Nat → Int32) (τ : Nat → Nat → Int64) : Prop := Rg σ ∧ Fr L_X9_copyRows_hillA_hillA σ0 σ ∧ FrL LL_X9_copyRows_hillA_hillA τ0 τ
def J_X9_copyRows_hillA_hillA_2 (p : Program) (l : Launch) (e : Env) (s : State) (m : MethodId) (args : Array Value) (below : List Frame) (meth : Method) (c : Code) (D : va_G) (cA : Nat → ClassId) (ad : Nat → Nat) (σ0 : Nat → Nat → Int32) (τ0 : Nat → Nat → Int64) (k0 : Nat) (k1 : Nat) (a2 : Int32) (n : Nat) : Prop := ∀ (σ : Nat → Nat → Int32) (τ : Nat → Nat → Int64) (H : Heap) (locs : List Loc) (x3 : Int32) (ls : Array Slot), Rg σ → Fr L_X9_copyRows_hillA_hillA σ0 σ → FrL LL_X9_copyRows_hillA_hillA τ0 τ → va_P D vwCl (gw cA ad σ τ) H → va_S (AA ad) s.heap H locs → (0 ≤ x3.toInt ∧ x3.toInt ≤ 8) → lv_has ls 4 [(0, .ref (ad k0)), (1, .ref (ad k1)), (2, .int a2), (3, .int x3)] → 2 * (8 - x3.toInt) + 1 < (n : Int) → W p l e ({ frames := 1, cells := 0, slots := 0, locals := 60 } : Room) s m args below meth c H locs 0 0 (MQ below (va_Qv (fun u : SS => P_X9_copyRows_hillA_hillA σ0 τ0 k0 k1 a2 u.1 u.2) (WB D cA ad) (AA ad)) args s 0 0 (AA ad)) (F0 m 2 ls [])
set_option maxHeartbeats 4000000 in
theorem B_X9_copyRows_hillA_hillA_2 (p : Program) (l : Launch) (e : Env) (s : State) (m : MethodId) (args : Array Value) (below : List Frame) (meth : Method) (c : Code) (D : va_G) (cA : Nat → ClassId) (ad : Nat → Nat) (σ0 : Nat → Nat → Int32) (τ0 : Nat → Nat → Int64) (k0 : Nat) (k1 : Nat) (a2 : Int32) (n : Nat) (C : Cy p s m args meth c cX9_copyRows 4 wsX9_copyRows RX9 D cA ad none) (hk0 : 48 ≤ k0 ∧ k0 ≤ 51) (hk1 : 48 ≤ k1 ∧ k1 ≤ 51) (ha2 : 0 ≤ a2.toInt ∧ a2.toInt ≤ 8) (K2 : J_X9_copyRows_hillA_hillA_2 p l e s m args below meth c D cA ad σ0 τ0 k0 k1 a2 n) : J_X9_copyRows_hillA_hillA_2 p l e s m args below meth c D cA ad σ0 τ0 k0 k1 a2 (n + 1) := by
  obtain ⟨hx, hb, hml, hown, hts, hK, hk, hr, hI, hN⟩ := C
  intro σ τ H locs x3 ls hR hF hFL hP hS hc0 hl hm
  obtain rfl := FrL.nil hFL
  refine lv_iload_n hx hb dX9_copyRows_2 rfl (lv_at hl 3 rfl) ?_
  refine lv_iload_n hx hb dX9_copyRows_3 rfl (lv_at hl 2 rfl) ?_
  refine r_icmp_ge (tgt := 47) hx hb dX9_copyRows_4 (by decide) (fun c1 => ?_) (fun c1 => ?_)
  · exact r_vret hx hb hr hK hP hS hk dX9_copyRows_47 (show P_X9_copyRows_hillA_hillA σ0 τ0 k0 k1 a2 σ τ0 from ⟨hR, hF, hFL⟩)
  · refine lv_iload_n hx hb dX9_copyRows_7 rfl (lv_at hl 3 rfl) ?_
    refine lv_aload_n hx hb dX9_copyRows_8 rfl (lv_at hl 0 rfl) ?_
    refine al_hillA (k := k0) hx hb hK hP (by omega) (by omega) dX9_copyRows_9 (fun z2 ez2 => ?_)
    refine r_icmp_ge (tgt := 47) hx hb dX9_copyRows_10 (by decide) (fun c3 => ?_) (fun c3 => ?_)
    · exfalso; omega
    · refine lv_iload_n hx hb dX9_copyRows_13 rfl (lv_at hl 3 rfl) ?_
      refine lv_aload_n hx hb dX9_copyRows_14 rfl (lv_at hl 1 rfl) ?_
      refine al_hillA (k := k1) hx hb hK hP (by omega) (by omega) dX9_copyRows_15 (fun z4 ez4 => ?_)
      refine r_icmp_ge (tgt := 47) hx hb dX9_copyRows_16 (by decide) (fun c5 => ?_) (fun c5 => ?_)
      · exfalso; omega
      · refine lv_aload_n hx hb dX9_copyRows_19 rfl (lv_at hl 0 rfl) ?_
        refine lv_iload_n hx hb dX9_copyRows_20 rfl (lv_at hl 3 rfl) ?_
        obtain ⟨j6, ej6⟩ : ∃ j : Nat, x3.toInt = (j : Int) := ⟨_, ti_nat (by omega)⟩
        refine ad_hillA (k := k0) (j := j6) hx hb hK hP (by omega) (by omega) ej6 (by omega) dX9_copyRows_21 ?_
        refine r_iconst hx hb dX9_copyRows_22 (by decide) (fun z7 ez7 => ?_)
        refine lv_aload_n hx hb dX9_copyRows_23 rfl (lv_at hl 1 rfl) ?_
        refine lv_iload_n hx hb dX9_copyRows_24 rfl (lv_at hl 3 rfl) ?_
        refine ad_hillA (k := k1) (j := j6) hx hb hK hP (by omega) (by omega) ej6 (by omega) dX9_copyRows_25 ?_
        refine r_iconst hx hb dX9_copyRows_26 (by decide) (fun z8 ez8 => ?_)
        refine lv_aload_n hx hb dX9_copyRows_27 rfl (lv_at hl 0 rfl) ?_
        refine lv_iload_n hx hb dX9_copyRows_28 rfl (lv_at hl 3 rfl) ?_
        refine ad_hillA (k := k0) (j := j6) hx hb hK hP (by omega) (by omega) ej6 (by omega) dX9_copyRows_29 ?_
        refine al_hillR (k := 8 * (k0 - 48) + 68 + j6) hx hb hK hP (by omega) (by omega) dX9_copyRows_30 (fun z9 ez9 => ?_)
        refine lv_aload_n hx hb dX9_copyRows_31 rfl (lv_at hl 1 rfl) ?_
        refine lv_iload_n hx hb dX9_copyRows_32 rfl (lv_at hl 3 rfl) ?_
        refine ad_hillA (k := k1) (j := j6) hx hb hK hP (by omega) (by omega) ej6 (by omega) dX9_copyRows_33 ?_
        refine al_hillR (k := 8 * (k1 - 48) + 68 + j6) hx hb hK hP (by omega) (by omega) dX9_copyRows_34 (fun z10 ez10 => ?_)
        refine r_mmin hx hb (by rw [hml]; exact hl.1.symm) hown (hts _ lk_X9_copyRows_68) (hts _ ms_X9_copyRows_min) (hts _ mi_X9_copyRows) (hts _ mc_X9_copyRows_min) (by decide) (Nat.le_of_ble_eq_true rfl) (Nat.zero_le _) (Nat.zero_le _) dX9_copyRows_35 (fun z12 ez12 => ?_)
        refine cp_hillR (k := 8 * (k1 - 48) + 68 + j6) (q := 8 * (k0 - 48) + 68 + j6) hx hb (by rw [hml]; exact hl.1.symm) hown (hts _ lk_X9_copyRows_58) (hts _ cn_X9_copyRows) (hts _ cs_X9_copyRows) (hts _ ci_X9_copyRows) hK hP hI hR hS (by omega) (by omega) (by omega) (by omega) (by omega) (by omega) (by omega) (by decide) (Nat.le_of_ble_eq_true rfl) dX9_copyRows_38 (fun σ13 H13 locs13 u13 hR hP hS => ?_)
        have hF := hF.row u13 0 rfl (by omega) (by omega) (by decide) (by decide)
        refine r_iinc (k := 3) (lv1 := fun z14 => [(3, .int z14), (0, .ref (ad k0)), (1, .ref (ad k1)), (2, .int a2)]) hx hb dX9_copyRows_41 hl rfl (by decide) (fun _ => rfl) (by decide) (by omega) (fun z14 ls ez14 hl => ?_)
        refine lv_goto (tgt := 2) hx hb dX9_copyRows_44 (by decide) ?_
        exact K2 σ13 τ0 H13 locs13 z14 ls hR hF hFL hP hS (by omega) (lv_sub hl [1, 2, 3, 0] rfl) (by omega)
theorem A_X9_copyRows_hillA_hillA (p : Program) (l : Launch) (e : Env) (s : State) (m : MethodId) (args : Array Value) (below : List Frame) (meth : Method) (c : Code) (D : va_G) (cA : Nat → ClassId) (ad : Nat → Nat) (σ0 : Nat → Nat → Int32) (τ0 : Nat → Nat → Int64) (k0 : Nat) (k1 : Nat) (a2 : Int32) (C : Cy p s m args meth c cX9_copyRows 4 wsX9_copyRows RX9 D cA ad none) (hk0 : 48 ≤ k0 ∧ k0 ≤ 51) (hk1 : 48 ≤ k1 ∧ k1 ≤ 51) (ha2 : 0 ≤ a2.toInt ∧ a2.toInt ≤ 8) : ∀ n : Nat, J_X9_copyRows_hillA_hillA_2 p l e s m args below meth c D cA ad σ0 τ0 k0 k1 a2 n := by
  intro n
  induction n with
  | zero =>
    exact (by intro σ τ H locs x3 ls hR hF hFL hP hS hc0 hl hm; exfalso; omega)
  | succ n ih =>
    exact B_X9_copyRows_hillA_hillA_2 p l e s m args below meth c D cA ad σ0 τ0 k0 k1 a2 n C hk0 hk1 ha2 ih
set_option maxHeartbeats 4000000 in
theorem c_X9_copyRows_hillA_hillA (l : Launch) (D : va_G) (cA : Nat → ClassId) (ad : Nat → Nat) (hI : Inj ad) (σ0 : Nat → Nat → Int32) (τ0 : Nat → Nat → Int64) (hR : Rg σ0) (k0 : Nat) (k1 : Nat) (a2 : Int32) (hk0 : 48 ≤ k0 ∧ k0 ≤ 51) (hk1 : 48 ≤ k1 ∧ k1 ≤ 51) (ha2 : 0 ≤ a2.toInt ∧ a2.toInt ≤ 8) : Met l yX9_copyRows wsX9_copyRows ({ frames := 1, cells := 0, slots := 0, locals := 60 } : Room) (WQc D cA ad [.ref (ad k0), .ref (ad k1), .int a2] σ0 τ0) (va_Qv (fun u : SS => P_X9_copyRows_hillA_hillA σ0 τ0 k0 k1 a2 u.1 u.2) (WB D cA ad) (AA ad)) 0 0 (AA ad) := by
  refine Met.ofW (cc := cX9_copyRows) (maxL := 4) (ret := none) (by decide) rfl ?_
  intro p e s m args below meth c s₁ B hml hv
  obtain ⟨rfl, hP, hK, hN⟩ := hv
  have C : Cy p s m _ meth c cX9_copyRows 4 wsX9_copyRows RX9 D cA ad none := ⟨B.exec, B.bytes, hml, findClass_of_methodNamed B.named, atoms_spec (ws := wsX9_copyRows) B.pre, hK, B.notSynchronized, B.returns, hI, hN⟩
  have hl := lv_entry ([.ref (ad k0), .ref (ad k1), .int a2]) (n := 4) (Nat.le_of_ble_eq_true rfl)
  rw [lg_entry_eq]
  generalize (lg_sl ([.ref (ad k0), .ref (ad k1), .int a2]) ++ List.replicate (4 - (lg_sl ([.ref (ad k0), .ref (ad k1), .int a2])).length) Slot.unset).toArray = ls at hl ⊢
  have hl : lv_has ls 4 [(0, .ref (ad k0)), (1, .ref (ad k1)), (2, .int a2)] := hl
  have hS : va_S (AA ad) s.heap s.heap [] := va_S.rf
  have hF : Fr L_X9_copyRows_hillA_hillA σ0 σ0 := Fr.rf
  have hFL : FrL LL_X9_copyRows_hillA_hillA τ0 τ0 := FrL.rf
  have hA := A_X9_copyRows_hillA_hillA p l e s m _ below meth c D cA ad σ0 τ0 k0 k1 a2 C hk0 hk1 ha2 42
  have K2 := hA
  clear hA
  obtain ⟨hx, hb, _, hown, hts, _, hk, hr, _, _⟩ := C
  refine r_iconst hx hb dX9_copyRows_0 (by decide) (fun z1 ez1 => ?_)
  refine lv_istore_n (lv' := [(3, .int z1), (0, .ref (ad k0)), (1, .ref (ad k1)), (2, .int a2)]) hx hb dX9_copyRows_1 rfl hl (by decide) rfl (fun ls hl => ?_)
  exact K2 σ0 τ0 s.heap [] z1 ls hR hF hFL hP hS (by omega) (lv_sub hl [1, 2, 3, 0] rfl) (by omega)
abbrev L_X9_copyRows_manA_manA : List Rc := [(100, 131, 0, 6)]
abbrev LL_X9_copyRows_manA_manA : List Rc := []
def P_X9_copyRows_manA_manA (σ0 : Nat → Nat → Int32) (τ0 : Nat → Nat → Int64) (k0 : Nat) (k1 : Nat) (a2 : Int32) (σ : Nat → Nat → Int32) (τ : Nat → Nat → Int64) : Prop := Rg σ ∧ Fr L_X9_copyRows_manA_manA σ0 σ ∧ FrL LL_X9_copyRows_manA_manA τ0 τ
def J_X9_copyRows_manA_manA_2 (p : Program) (l : Launch) (e : Env) (s : State) (m : MethodId) (args : Array Value) (below : List Frame) (meth : Method) (c : Code) (D : va_G) (cA : Nat → ClassId) (ad : Nat → Nat) (σ0 : Nat → Nat → Int32) (τ0 : Nat → Nat → Int64) (k0 : Nat) (k1 : Nat) (a2 : Int32) (n : Nat) : Prop := ∀ (σ : Nat → Nat → Int32) (τ : Nat → Nat → Int64) (H : Heap) (locs : List Loc) (x3 : Int32) (ls : Array Slot), Rg σ → Fr L_X9_copyRows_manA_manA σ0 σ → FrL LL_X9_copyRows_manA_manA τ0 τ → va_P D vwCl (gw cA ad σ τ) H → va_S (AA ad) s.heap H locs → (0 ≤ x3.toInt ∧ x3.toInt ≤ 8) → lv_has ls 4 [(0, .ref (ad k0)), (1, .ref (ad k1)), (2, .int a2), (3, .int x3)] → 2 * (8 - x3.toInt) + 1 < (n : Int) → W p l e ({ frames := 1, cells := 0, slots := 0, locals := 60 } : Room) s m args below meth c H locs 0 0 (MQ below (va_Qv (fun u : SS => P_X9_copyRows_manA_manA σ0 τ0 k0 k1 a2 u.1 u.2) (WB D cA ad) (AA ad)) args s 0 0 (AA ad)) (F0 m 2 ls [])
set_option maxHeartbeats 4000000 in
theorem B_X9_copyRows_manA_manA_2 (p : Program) (l : Launch) (e : Env) (s : State) (m : MethodId) (args : Array Value) (below : List Frame) (meth : Method) (c : Code) (D : va_G) (cA : Nat → ClassId) (ad : Nat → Nat) (σ0 : Nat → Nat → Int32) (τ0 : Nat → Nat → Int64) (k0 : Nat) (k1 : Nat) (a2 : Int32) (n : Nat) (C : Cy p s m args meth c cX9_copyRows 4 wsX9_copyRows RX9 D cA ad none) (hk0 : 52 ≤ k0 ∧ k0 ≤ 55) (hk1 : 52 ≤ k1 ∧ k1 ≤ 55) (ha2 : 0 ≤ a2.toInt ∧ a2.toInt ≤ 8) (K2 : J_X9_copyRows_manA_manA_2 p l e s m args below meth c D cA ad σ0 τ0 k0 k1 a2 n) : J_X9_copyRows_manA_manA_2 p l e s m args below meth c D cA ad σ0 τ0 k0 k1 a2 (n + 1) := by
  obtain ⟨hx, hb, hml, hown, hts, hK, hk, hr, hI, hN⟩ := C
  intro σ τ H locs x3 ls hR hF hFL hP hS hc0 hl hm
  obtain rfl := FrL.nil hFL
  refine lv_iload_n hx hb dX9_copyRows_2 rfl (lv_at hl 3 rfl) ?_
  refine lv_iload_n hx hb dX9_copyRows_3 rfl (lv_at hl 2 rfl) ?_
  refine r_icmp_ge (tgt := 47) hx hb dX9_copyRows_4 (by decide) (fun c1 => ?_) (fun c1 => ?_)
  · exact r_vret hx hb hr hK hP hS hk dX9_copyRows_47 (show P_X9_copyRows_manA_manA σ0 τ0 k0 k1 a2 σ τ0 from ⟨hR, hF, hFL⟩)
  · refine lv_iload_n hx hb dX9_copyRows_7 rfl (lv_at hl 3 rfl) ?_
    refine lv_aload_n hx hb dX9_copyRows_8 rfl (lv_at hl 0 rfl) ?_
    refine al_manA (k := k0) hx hb hK hP (by omega) (by omega) dX9_copyRows_9 (fun z2 ez2 => ?_)
    refine r_icmp_ge (tgt := 47) hx hb dX9_copyRows_10 (by decide) (fun c3 => ?_) (fun c3 => ?_)
    · exfalso; omega
    · refine lv_iload_n hx hb dX9_copyRows_13 rfl (lv_at hl 3 rfl) ?_
      refine lv_aload_n hx hb dX9_copyRows_14 rfl (lv_at hl 1 rfl) ?_
      refine al_manA (k := k1) hx hb hK hP (by omega) (by omega) dX9_copyRows_15 (fun z4 ez4 => ?_)
      refine r_icmp_ge (tgt := 47) hx hb dX9_copyRows_16 (by decide) (fun c5 => ?_) (fun c5 => ?_)
      · exfalso; omega
      · refine lv_aload_n hx hb dX9_copyRows_19 rfl (lv_at hl 0 rfl) ?_
        refine lv_iload_n hx hb dX9_copyRows_20 rfl (lv_at hl 3 rfl) ?_
        obtain ⟨j6, ej6⟩ : ∃ j : Nat, x3.toInt = (j : Int) := ⟨_, ti_nat (by omega)⟩
        refine ad_manA (k := k0) (j := j6) hx hb hK hP (by omega) (by omega) ej6 (by omega) dX9_copyRows_21 ?_
        refine r_iconst hx hb dX9_copyRows_22 (by decide) (fun z7 ez7 => ?_)
        refine lv_aload_n hx hb dX9_copyRows_23 rfl (lv_at hl 1 rfl) ?_
        refine lv_iload_n hx hb dX9_copyRows_24 rfl (lv_at hl 3 rfl) ?_
        refine ad_manA (k := k1) (j := j6) hx hb hK hP (by omega) (by omega) ej6 (by omega) dX9_copyRows_25 ?_
        refine r_iconst hx hb dX9_copyRows_26 (by decide) (fun z8 ez8 => ?_)
        refine lv_aload_n hx hb dX9_copyRows_27 rfl (lv_at hl 0 rfl) ?_
        refine lv_iload_n hx hb dX9_copyRows_28 rfl (lv_at hl 3 rfl) ?_
        refine ad_manA (k := k0) (j := j6) hx hb hK hP (by omega) (by omega) ej6 (by omega) dX9_copyRows_29 ?_
        refine al_manR (k := 8 * (k0 - 52) + 100 + j6) hx hb hK hP (by omega) (by omega) dX9_copyRows_30 (fun z9 ez9 => ?_)
        refine lv_aload_n hx hb dX9_copyRows_31 rfl (lv_at hl 1 rfl) ?_
        refine lv_iload_n hx hb dX9_copyRows_32 rfl (lv_at hl 3 rfl) ?_
        refine ad_manA (k := k1) (j := j6) hx hb hK hP (by omega) (by omega) ej6 (by omega) dX9_copyRows_33 ?_
        refine al_manR (k := 8 * (k1 - 52) + 100 + j6) hx hb hK hP (by omega) (by omega) dX9_copyRows_34 (fun z10 ez10 => ?_)
        refine r_mmin hx hb (by rw [hml]; exact hl.1.symm) hown (hts _ lk_X9_copyRows_68) (hts _ ms_X9_copyRows_min) (hts _ mi_X9_copyRows) (hts _ mc_X9_copyRows_min) (by decide) (Nat.le_of_ble_eq_true rfl) (Nat.zero_le _) (Nat.zero_le _) dX9_copyRows_35 (fun z12 ez12 => ?_)
        refine cp_manR (k := 8 * (k1 - 52) + 100 + j6) (q := 8 * (k0 - 52) + 100 + j6) hx hb (by rw [hml]; exact hl.1.symm) hown (hts _ lk_X9_copyRows_58) (hts _ cn_X9_copyRows) (hts _ cs_X9_copyRows) (hts _ ci_X9_copyRows) hK hP hI hR hS (by omega) (by omega) (by omega) (by omega) (by omega) (by omega) (by omega) (by decide) (Nat.le_of_ble_eq_true rfl) dX9_copyRows_38 (fun σ13 H13 locs13 u13 hR hP hS => ?_)
        have hF := hF.row u13 0 rfl (by omega) (by omega) (by decide) (by decide)
        refine r_iinc (k := 3) (lv1 := fun z14 => [(3, .int z14), (0, .ref (ad k0)), (1, .ref (ad k1)), (2, .int a2)]) hx hb dX9_copyRows_41 hl rfl (by decide) (fun _ => rfl) (by decide) (by omega) (fun z14 ls ez14 hl => ?_)
        refine lv_goto (tgt := 2) hx hb dX9_copyRows_44 (by decide) ?_
        exact K2 σ13 τ0 H13 locs13 z14 ls hR hF hFL hP hS (by omega) (lv_sub hl [1, 2, 3, 0] rfl) (by omega)
theorem A_X9_copyRows_manA_manA (p : Program) (l : Launch) (e : Env) (s : State) (m : MethodId) (args : Array Value) (below : List Frame) (meth : Method) (c : Code) (D : va_G) (cA : Nat → ClassId) (ad : Nat → Nat) (σ0 : Nat → Nat → Int32) (τ0 : Nat → Nat → Int64) (k0 : Nat) (k1 : Nat) (a2 : Int32) (C : Cy p s m args meth c cX9_copyRows 4 wsX9_copyRows RX9 D cA ad none) (hk0 : 52 ≤ k0 ∧ k0 ≤ 55) (hk1 : 52 ≤ k1 ∧ k1 ≤ 55) (ha2 : 0 ≤ a2.toInt ∧ a2.toInt ≤ 8) : ∀ n : Nat, J_X9_copyRows_manA_manA_2 p l e s m args below meth c D cA ad σ0 τ0 k0 k1 a2 n := by
  intro n
  induction n with
  | zero =>
    exact (by intro σ τ H locs x3 ls hR hF hFL hP hS hc0 hl hm; exfalso; omega)
  | succ n ih =>
    exact B_X9_copyRows_manA_manA_2 p l e s m args below meth c D cA ad σ0 τ0 k0 k1 a2 n C hk0 hk1 ha2 ih
set_option maxHeartbeats 4000000 in
theorem c_X9_copyRows_manA_manA (l : Launch) (D : va_G) (cA : Nat → ClassId) (ad : Nat → Nat) (hI : Inj ad) (σ0 : Nat → Nat → Int32) (τ0 : Nat → Nat → Int64) (hR : Rg σ0) (k0 : Nat) (k1 : Nat) (a2 : Int32) (hk0 : 52 ≤ k0 ∧ k0 ≤ 55) (hk1 : 52 ≤ k1 ∧ k1 ≤ 55) (ha2 : 0 ≤ a2.toInt ∧ a2.toInt ≤ 8) : Met l yX9_copyRows wsX9_copyRows ({ frames := 1, cells := 0, slots := 0, locals := 60 } : Room) (WQc D cA ad [.ref (ad k0), .ref (ad k1), .int a2] σ0 τ0) (va_Qv (fun u : SS => P_X9_copyRows_manA_manA σ0 τ0 k0 k1 a2 u.1 u.2) (WB D cA ad) (AA ad)) 0 0 (AA ad) := by
  refine Met.ofW (cc := cX9_copyRows) (maxL := 4) (ret := none) (by decide) rfl ?_
  intro p e s m args below meth c s₁ B hml hv
  obtain ⟨rfl, hP, hK, hN⟩ := hv
  have C : Cy p s m _ meth c cX9_copyRows 4 wsX9_copyRows RX9 D cA ad none := ⟨B.exec, B.bytes, hml, findClass_of_methodNamed B.named, atoms_spec (ws := wsX9_copyRows) B.pre, hK, B.notSynchronized, B.returns, hI, hN⟩
  have hl := lv_entry ([.ref (ad k0), .ref (ad k1), .int a2]) (n := 4) (Nat.le_of_ble_eq_true rfl)
  rw [lg_entry_eq]
  generalize (lg_sl ([.ref (ad k0), .ref (ad k1), .int a2]) ++ List.replicate (4 - (lg_sl ([.ref (ad k0), .ref (ad k1), .int a2])).length) Slot.unset).toArray = ls at hl ⊢
  have hl : lv_has ls 4 [(0, .ref (ad k0)), (1, .ref (ad k1)), (2, .int a2)] := hl
  have hS : va_S (AA ad) s.heap s.heap [] := va_S.rf
  have hF : Fr L_X9_copyRows_manA_manA σ0 σ0 := Fr.rf
  have hFL : FrL LL_X9_copyRows_manA_manA τ0 τ0 := FrL.rf
  have hA := A_X9_copyRows_manA_manA p l e s m _ below meth c D cA ad σ0 τ0 k0 k1 a2 C hk0 hk1 ha2 42
  have K2 := hA
  clear hA
  obtain ⟨hx, hb, _, hown, hts, _, hk, hr, _, _⟩ := C
  refine r_iconst hx hb dX9_copyRows_0 (by decide) (fun z1 ez1 => ?_)
  refine lv_istore_n (lv' := [(3, .int z1), (0, .ref (ad k0)), (1, .ref (ad k1)), (2, .int a2)]) hx hb dX9_copyRows_1 rfl hl (by decide) rfl (fun ls hl => ?_)
  exact K2 σ0 τ0 s.heap [] z1 ls hR hF hFL hP hS (by omega) (lv_sub hl [1, 2, 3, 0] rfl) (by omega)
