theorem in_X6_menOfWhom_6 : ∀ w ∈ u_ws RX6 TX6 7, w ∈ wsX6_menOfWhom := by decide +kernel
theorem lk_X6_menOfWhom_21 : Cond.fieldLink RX6 21 "CuckooShares$Sentence" "stack" "[I" ∈ wsX6_menOfWhom := by decide +kernel
theorem lk_X6_menOfWhom_32 : Cond.fieldLink RX6 32 "CuckooShares$Sentence" "steps" "I" ∈ wsX6_menOfWhom := by decide +kernel
theorem lk_X6_menOfWhom_9 : Cond.fieldLink RX6 9 "CuckooShares$Sentence" "word" "[I" ∈ wsX6_menOfWhom := by decide +kernel
abbrev L_X6_menOfWhom : List Rc := [(383, 383, 0, 39), (360, 360, 0, 7), (361, 361, 0, 7), (362, 362, 0, 7)]
abbrev LL_X6_menOfWhom : List Rc := []
def P_X6_menOfWhom (σ0 : Nat → Nat → Int32) (τ0 : Nat → Nat → Int64)  (r : Int32) (σ : Nat → Nat → Int32) (τ : Nat → Nat → Int64) : Prop := Rg σ ∧ Fr L_X6_menOfWhom σ0 σ ∧ FrL LL_X6_menOfWhom τ0 τ
def J_X6_menOfWhom_6 (p : Program) (l : Launch) (e : Env) (s : State) (m : MethodId) (args : Array Value) (below : List Frame) (meth : Method) (c : Code) (D : va_G) (cA : Nat → ClassId) (ad : Nat → Nat) (σ0 : Nat → Nat → Int32) (τ0 : Nat → Nat → Int64)  (n : Nat) : Prop := ∀ (σ : Nat → Nat → Int32) (τ : Nat → Nat → Int64) (H : Heap) (locs : List Loc) (x4 : Int32) (x5 : Int32) (ls : Array Slot), Rg σ → Fr L_X6_menOfWhom σ0 σ → FrL LL_X6_menOfWhom τ0 τ → va_P D vwCl (gw cA ad σ τ) H → va_S (AA ad) s.heap H locs → (0 ≤ x4.toInt ∧ x4.toInt ≤ 40) → (0 ≤ x5.toInt ∧ x5.toInt ≤ 40) → lv_has ls 7 [(0, .ref (ad 23)), (1, .ref (ad 2)), (2, .ref (ad 7)), (3, .ref (ad 22)), (4, .int x4), (5, .int x5)] → 5 * (40 - x5.toInt) + 4 < (n : Int) → W p l e ({ frames := 6, cells := 0, slots := 0, locals := 143 } : Room) s m args below meth c H locs 0 0 (MQ below (va_Qi (fun (r : Int32) (u : SS) => P_X6_menOfWhom σ0 τ0 r u.1 u.2) (WB D cA ad) (AA ad)) args s 0 0 (AA ad)) (F0 m 6 ls [])
def J_X6_menOfWhom_72 (p : Program) (l : Launch) (e : Env) (s : State) (m : MethodId) (args : Array Value) (below : List Frame) (meth : Method) (c : Code) (D : va_G) (cA : Nat → ClassId) (ad : Nat → Nat) (σ0 : Nat → Nat → Int32) (τ0 : Nat → Nat → Int64)  (n : Nat) : Prop := ∀ (σ : Nat → Nat → Int32) (τ : Nat → Nat → Int64) (H : Heap) (locs : List Loc) (x4 : Int32) (x5 : Int32) (x6 : Int32) (ls : Array Slot), Rg σ → Fr L_X6_menOfWhom σ0 σ → FrL LL_X6_menOfWhom τ0 τ → va_P D vwCl (gw cA ad σ τ) H → va_S (AA ad) s.heap H locs → (0 ≤ x4.toInt ∧ x4.toInt ≤ 40) → (0 ≤ x5.toInt ∧ x5.toInt ≤ 39) → lv_has ls 7 [(0, .ref (ad 23)), (1, .ref (ad 2)), (2, .ref (ad 7)), (3, .ref (ad 22)), (4, .int x4), (5, .int x5), (6, .int x6)] → 5 * (40 - x5.toInt) + 3 < (n : Int) → W p l e ({ frames := 6, cells := 0, slots := 0, locals := 143 } : Room) s m args below meth c H locs 0 0 (MQ below (va_Qi (fun (r : Int32) (u : SS) => P_X6_menOfWhom σ0 τ0 r u.1 u.2) (WB D cA ad) (AA ad)) args s 0 0 (AA ad)) (F0 m 72 ls [])
def J_X6_menOfWhom_110 (p : Program) (l : Launch) (e : Env) (s : State) (m : MethodId) (args : Array Value) (below : List Frame) (meth : Method) (c : Code) (D : va_G) (cA : Nat → ClassId) (ad : Nat → Nat) (σ0 : Nat → Nat → Int32) (τ0 : Nat → Nat → Int64)  (n : Nat) : Prop := ∀ (σ : Nat → Nat → Int32) (τ : Nat → Nat → Int64) (H : Heap) (locs : List Loc) (x4 : Int32) (x5 : Int32) (x6 : Int32) (ls : Array Slot), Rg σ → Fr L_X6_menOfWhom σ0 σ → FrL LL_X6_menOfWhom τ0 τ → va_P D vwCl (gw cA ad σ τ) H → va_S (AA ad) s.heap H locs → (0 ≤ x4.toInt ∧ x4.toInt ≤ 40) → (0 ≤ x5.toInt ∧ x5.toInt ≤ 39) → lv_has ls 7 [(0, .ref (ad 23)), (1, .ref (ad 2)), (2, .ref (ad 7)), (3, .ref (ad 22)), (4, .int x4), (5, .int x5), (6, .int x6)] → 5 * (40 - x5.toInt) + 2 < (n : Int) → W p l e ({ frames := 6, cells := 0, slots := 0, locals := 143 } : Room) s m args below meth c H locs 0 0 (MQ below (va_Qi (fun (r : Int32) (u : SS) => P_X6_menOfWhom σ0 τ0 r u.1 u.2) (WB D cA ad) (AA ad)) args s 0 0 (AA ad)) (F0 m 110 ls [])
def J_X6_menOfWhom_148 (p : Program) (l : Launch) (e : Env) (s : State) (m : MethodId) (args : Array Value) (below : List Frame) (meth : Method) (c : Code) (D : va_G) (cA : Nat → ClassId) (ad : Nat → Nat) (σ0 : Nat → Nat → Int32) (τ0 : Nat → Nat → Int64)  (n : Nat) : Prop := ∀ (σ : Nat → Nat → Int32) (τ : Nat → Nat → Int64) (H : Heap) (locs : List Loc) (x4 : Int32) (x5 : Int32) (x6 : Int32) (ls : Array Slot), Rg σ → Fr L_X6_menOfWhom σ0 σ → FrL LL_X6_menOfWhom τ0 τ → va_P D vwCl (gw cA ad σ τ) H → va_S (AA ad) s.heap H locs → (0 ≤ x4.toInt ∧ x4.toInt ≤ 40) → (0 ≤ x5.toInt ∧ x5.toInt ≤ 39) → lv_has ls 7 [(0, .ref (ad 23)), (1, .ref (ad 2)), (2, .ref (ad 7)), (3, .ref (ad 22)), (4, .int x4), (5, .int x5), (6, .int x6)] → 5 * (40 - x5.toInt) + 1 < (n : Int) → W p l e ({ frames := 6, cells := 0, slots := 0, locals := 143 } : Room) s m args below meth c H locs 0 0 (MQ below (va_Qi (fun (r : Int32) (u : SS) => P_X6_menOfWhom σ0 τ0 r u.1 u.2) (WB D cA ad) (AA ad)) args s 0 0 (AA ad)) (F0 m 148 ls [])
set_option maxHeartbeats 4000000 in
theorem B_X6_menOfWhom_6 (p : Program) (l : Launch) (e : Env) (s : State) (m : MethodId) (args : Array Value) (below : List Frame) (meth : Method) (c : Code) (D : va_G) (cA : Nat → ClassId) (ad : Nat → Nat) (σ0 : Nat → Nat → Int32) (τ0 : Nat → Nat → Int64)  (n : Nat) (C : Cy p s m args meth c cX6_menOfWhom 7 wsX6_menOfWhom RX6 D cA ad (some .int))  (K6 : J_X6_menOfWhom_6 p l e s m args below meth c D cA ad σ0 τ0 n) (K72 : J_X6_menOfWhom_72 p l e s m args below meth c D cA ad σ0 τ0 n) (K110 : J_X6_menOfWhom_110 p l e s m args below meth c D cA ad σ0 τ0 n) (K148 : J_X6_menOfWhom_148 p l e s m args below meth c D cA ad σ0 τ0 n) : J_X6_menOfWhom_6 p l e s m args below meth c D cA ad σ0 τ0 (n + 1) := by
  obtain ⟨hx, hb, hml, hown, hts, hK, hk, hr, hI, hN⟩ := C
  intro σ τ H locs x4 x5 ls hR hF hFL hP hS hc0 hc1 hl hm
  obtain rfl := FrL.nil hFL
  refine lv_iload hx hb dX6_menOfWhom_6 (lv_at hl 5 rfl) ?_
  refine lv_aload_n hx hb dX6_menOfWhom_8 rfl (lv_at hl 0 rfl) ?_
  refine fg_6_2 (k := 23) hx hb hts in_X6_menOfWhom_6 hown hK hP (by decide) (by decide) (hts _ lk_X6_menOfWhom_32) dX6_menOfWhom_9 ?_
  have hr1 := rg_6_2 hR (k := 23) (by decide) (by decide)
  refine r_icmp_ge (tgt := 180) hx hb dX6_menOfWhom_12 (by decide) (fun c2 => ?_) (fun c2 => ?_)
  · refine lv_iload hx hb dX6_menOfWhom_180 (lv_at hl 4 rfl) ?_
    refine r_iconst hx hb dX6_menOfWhom_182 (by decide) (fun z3 ez3 => ?_)
    refine r_icmp_ne (tgt := 195) hx hb dX6_menOfWhom_183 (by decide) (fun c4 => ?_) (fun c4 => ?_)
    · refine r_iconst hx hb dX6_menOfWhom_195 (by decide) (fun z5 ez5 => ?_)
      exact r_iret hx hb hr hK hP hS hk dX6_menOfWhom_196 (show P_X6_menOfWhom σ0 τ0 z5 σ τ0 from ⟨hR, hF, hFL⟩)
    · refine lv_aload_n hx hb dX6_menOfWhom_186 rfl (lv_at hl 0 rfl) ?_
      refine fg_6_6 (k := 23) hx hb hts in_X6_menOfWhom_6 hown hK hP (by decide) (by decide) (hts _ lk_X6_menOfWhom_21) dX6_menOfWhom_187 ?_
      refine r_iconst hx hb dX6_menOfWhom_190 (by decide) (fun z6 ez6 => ?_)
      refine ad_sent40 (k := 383) (j := 0) hx hb hK hP (by decide) (by decide) (by omega) (by omega) dX6_menOfWhom_191 ?_
      refine lv_goto (tgt := 196) hx hb dX6_menOfWhom_192 (by decide) ?_
      exact r_iret hx hb hr hK hP hS hk dX6_menOfWhom_196 (show P_X6_menOfWhom σ0 τ0 (σ 383 0) σ τ0 from ⟨hR, hF, hFL⟩)
  · refine lv_iload hx hb dX6_menOfWhom_15 (lv_at hl 5 rfl) ?_
    refine r_bipush hx hb dX6_menOfWhom_17 (by decide) (fun z7 ez7 => ?_)
    refine r_icmp_ge (tgt := 180) hx hb dX6_menOfWhom_19 (by decide) (fun c8 => ?_) (fun c8 => ?_)
    · exfalso; omega
    · refine lv_aload_n hx hb dX6_menOfWhom_22 rfl (lv_at hl 0 rfl) ?_
      refine fg_6_3 (k := 23) hx hb hts in_X6_menOfWhom_6 hown hK hP (by decide) (by decide) (hts _ lk_X6_menOfWhom_9) dX6_menOfWhom_23 ?_
      refine lv_iload hx hb dX6_menOfWhom_26 (lv_at hl 5 rfl) ?_
      obtain ⟨j9, ej9⟩ : ∃ j : Nat, x5.toInt = (j : Int) := ⟨_, ti_nat (by omega)⟩
      refine ad_sent40 (k := 371) (j := j9) hx hb hK hP (by decide) (by decide) ej9 (by omega) dX6_menOfWhom_28 ?_
      refine lv_istore (lv' := [(6, .int (σ 371 j9)), (0, .ref (ad 23)), (1, .ref (ad 2)), (2, .ref (ad 7)), (3, .ref (ad 22)), (4, .int x4), (5, .int x5)]) hx hb dX6_menOfWhom_29 hl (by decide) rfl (fun ls hl => ?_)
      refine lv_iload hx hb dX6_menOfWhom_31 (lv_at hl 0 rfl) ?_
      refine r_bipush hx hb dX6_menOfWhom_33 (by decide) (fun z10 ez10 => ?_)
      refine r_icmp_ne (tgt := 72) hx hb dX6_menOfWhom_35 (by decide) (fun c11 => ?_) (fun c11 => ?_)
      · exact K72 σ τ0 H locs x4 x5 (σ 371 j9) ls hR hF hFL hP hS (by omega) (by omega) (lv_sub hl [1, 2, 3, 4, 5, 6, 0] rfl) (by omega)
      · refine lv_iload hx hb dX6_menOfWhom_38 (lv_at hl 5 rfl) ?_
        refine r_iconst hx hb dX6_menOfWhom_40 (by decide) (fun z12 ez12 => ?_)
        refine r_icmp_lt (tgt := 72) hx hb dX6_menOfWhom_41 (by decide) (fun c13 => ?_) (fun c13 => ?_)
        · exact K72 σ τ0 H locs x4 x5 (σ 371 j9) ls hR hF hFL hP hS (by omega) (by omega) (lv_sub hl [1, 2, 3, 4, 5, 6, 0] rfl) (by omega)
        · refine lv_aload_n hx hb dX6_menOfWhom_44 rfl (lv_at hl 1 rfl) ?_
          refine fg_6_6 (k := 23) hx hb hts in_X6_menOfWhom_6 hown hK hP (by decide) (by decide) (hts _ lk_X6_menOfWhom_21) dX6_menOfWhom_45 ?_
          refine lv_iload hx hb dX6_menOfWhom_48 (lv_at hl 5 rfl) ?_
          refine r_iconst hx hb dX6_menOfWhom_50 (by decide) (fun z14 ez14 => ?_)
          refine r_isub hx hb dX6_menOfWhom_51 (by omega) (fun z15 ez15 => ?_)
          refine lv_aload_n hx hb dX6_menOfWhom_52 rfl (lv_at hl 2 rfl) ?_
          refine r_cVi (k := 2) (As := []) (rest := [.int z15, .ref (ad 383)]) ⟨hx, hb, hml, hown, hts⟩ hK hP hN hS (c_X9_allMen l D cA ad hI σ τ0 hR) (cwV 0 hts gX6_menOfWhom_X9_allMen rfl rfl rfl (by decide +kernel) ⟨by decide, by decide⟩) (rv_Valley hK hP (by decide) (by decide)) rfl hl.1 rfl (Nat.le_of_ble_eq_true rfl) dX6_menOfWhom_53 (Nat.zero_le _) (Nat.zero_le _) (fun r16 u16 H16 locs16 hp16 hP hS => ?_)
          obtain ⟨σ16, τ16⟩ := u16
          obtain ⟨hR, f16, fL16⟩ : P_X9_allMen σ τ0 r16 σ16 τ16 := hp16
          have hP : va_P D vwCl (gw cA ad σ16 τ16) H16 := hP
          obtain rfl := FrL.nil fL16
          obtain rfl := Fr.nil f16
          refine lv_aload_n hx hb dX6_menOfWhom_56 rfl (lv_at hl 1 rfl) ?_
          refine fg_6_6 (k := 23) hx hb hts in_X6_menOfWhom_6 hown hK hP (by decide) (by decide) (hts _ lk_X6_menOfWhom_21) dX6_menOfWhom_57 ?_
          refine lv_iload hx hb dX6_menOfWhom_60 (lv_at hl 5 rfl) ?_
          refine r_iconst hx hb dX6_menOfWhom_62 (by decide) (fun z17 ez17 => ?_)
          refine r_isub hx hb dX6_menOfWhom_63 (by omega) (fun z18 ez18 => ?_)
          obtain ⟨j19, ej19⟩ : ∃ j : Nat, z18.toInt = (j : Int) := ⟨_, ti_nat (by omega)⟩
          refine ad_sent40 (k := 383) (j := j19) hx hb hK hP (by decide) (by decide) ej19 (by omega) dX6_menOfWhom_64 ?_
          refine r_iconst hx hb dX6_menOfWhom_65 (by decide) (fun z20 ez20 => ?_)
          refine r_ixorU hx hb dX6_menOfWhom_66 (fun z21 => ?_)
          refine r_iandU hx hb dX6_menOfWhom_67 (fun z22 => ?_)
          refine as_sent40 (k := 383) (j := j19) hx hb hK hP hI hR hS (by decide) (by decide) (by omega) (by omega) dX6_menOfWhom_68 (fun σ23 H23 locs23 u23 v23 hR hP hS => ?_)
          have hF := hF.puts u23 0 rfl (by decide) (by decide) (by omega) (by omega)
          refine lv_goto (tgt := 174) hx hb dX6_menOfWhom_69 (by decide) ?_
          refine r_iinc (k := 6) (lv1 := fun z24 => [(5, .int z24), (6, .int (σ 371 j9)), (0, .ref (ad 23)), (1, .ref (ad 2)), (2, .ref (ad 7)), (3, .ref (ad 22)), (4, .int x4)]) hx hb dX6_menOfWhom_174 hl rfl (by decide) (fun _ => rfl) (by decide) (by omega) (fun z24 ls ez24 hl => ?_)
          refine lv_goto (tgt := 6) hx hb dX6_menOfWhom_177 (by decide) ?_
          exact K6 σ23 τ0 H23 locs23 x4 z24 ls hR hF hFL hP hS (by omega) (by omega) (lv_sub hl [2, 3, 4, 5, 6, 0] rfl) (by omega)
set_option maxHeartbeats 4000000 in
theorem B_X6_menOfWhom_72 (p : Program) (l : Launch) (e : Env) (s : State) (m : MethodId) (args : Array Value) (below : List Frame) (meth : Method) (c : Code) (D : va_G) (cA : Nat → ClassId) (ad : Nat → Nat) (σ0 : Nat → Nat → Int32) (τ0 : Nat → Nat → Int64)  (n : Nat) (C : Cy p s m args meth c cX6_menOfWhom 7 wsX6_menOfWhom RX6 D cA ad (some .int))  (K6 : J_X6_menOfWhom_6 p l e s m args below meth c D cA ad σ0 τ0 n) (K72 : J_X6_menOfWhom_72 p l e s m args below meth c D cA ad σ0 τ0 n) (K110 : J_X6_menOfWhom_110 p l e s m args below meth c D cA ad σ0 τ0 n) (K148 : J_X6_menOfWhom_148 p l e s m args below meth c D cA ad σ0 τ0 n) : J_X6_menOfWhom_72 p l e s m args below meth c D cA ad σ0 τ0 (n + 1) := by
  obtain ⟨hx, hb, hml, hown, hts, hK, hk, hr, hI, hN⟩ := C
  intro σ τ H locs x4 x5 x6 ls hR hF hFL hP hS hc0 hc1 hl hm
  obtain rfl := FrL.nil hFL
  refine lv_iload hx hb dX6_menOfWhom_72 (lv_at hl 6 rfl) ?_
  refine r_bipush hx hb dX6_menOfWhom_74 (by decide) (fun z1 ez1 => ?_)
  refine r_icmp_ne (tgt := 110) hx hb dX6_menOfWhom_76 (by decide) (fun c2 => ?_) (fun c2 => ?_)
  · exact K110 σ τ0 H locs x4 x5 x6 ls hR hF hFL hP hS (by omega) (by omega) (lv_sub hl [0, 1, 2, 3, 4, 5, 6] rfl) (by omega)
  · refine lv_iload hx hb dX6_menOfWhom_79 (lv_at hl 4 rfl) ?_
    refine r_iconst hx hb dX6_menOfWhom_81 (by decide) (fun z3 ez3 => ?_)
    refine r_icmp_lt (tgt := 110) hx hb dX6_menOfWhom_82 (by decide) (fun c4 => ?_) (fun c4 => ?_)
    · exact K110 σ τ0 H locs x4 x5 x6 ls hR hF hFL hP hS (by omega) (by omega) (lv_sub hl [0, 1, 2, 3, 4, 5, 6] rfl) (by omega)
    · refine r_iinc (k := 4) (lv1 := fun z5 => [(4, .int z5), (0, .ref (ad 23)), (1, .ref (ad 2)), (2, .ref (ad 7)), (3, .ref (ad 22)), (5, .int x5), (6, .int x6)]) hx hb dX6_menOfWhom_85 hl rfl (by decide) (fun _ => rfl) (by decide) (by omega) (fun z5 ls ez5 hl => ?_)
      refine lv_aload_n hx hb dX6_menOfWhom_88 rfl (lv_at hl 1 rfl) ?_
      refine fg_6_6 (k := 23) hx hb hts in_X6_menOfWhom_6 hown hK hP (by decide) (by decide) (hts _ lk_X6_menOfWhom_21) dX6_menOfWhom_89 ?_
      refine lv_iload hx hb dX6_menOfWhom_92 (lv_at hl 0 rfl) ?_
      refine r_iconst hx hb dX6_menOfWhom_94 (by decide) (fun z6 ez6 => ?_)
      refine r_isub hx hb dX6_menOfWhom_95 (by omega) (fun z7 ez7 => ?_)
      refine lv_dup2_11 hx hb dX6_menOfWhom_96 rfl rfl ?_
      obtain ⟨j8, ej8⟩ : ∃ j : Nat, z7.toInt = (j : Int) := ⟨_, ti_nat (by omega)⟩
      refine ad_sent40 (k := 383) (j := j8) hx hb hK hP (by decide) (by decide) ej8 (by omega) dX6_menOfWhom_97 ?_
      refine lv_aload_n hx hb dX6_menOfWhom_98 rfl (lv_at hl 1 rfl) ?_
      refine fg_6_6 (k := 23) hx hb hts in_X6_menOfWhom_6 hown hK hP (by decide) (by decide) (hts _ lk_X6_menOfWhom_21) dX6_menOfWhom_99 ?_
      refine lv_iload hx hb dX6_menOfWhom_102 (lv_at hl 0 rfl) ?_
      obtain ⟨j9, ej9⟩ : ∃ j : Nat, z5.toInt = (j : Int) := ⟨_, ti_nat (by omega)⟩
      refine ad_sent40 (k := 383) (j := j9) hx hb hK hP (by decide) (by decide) ej9 (by omega) dX6_menOfWhom_104 ?_
      refine r_iandU hx hb dX6_menOfWhom_105 (fun z10 => ?_)
      refine as_sent40 (k := 383) (j := j8) hx hb hK hP hI hR hS (by decide) (by decide) ej8 (by omega) dX6_menOfWhom_106 (fun σ11 H11 locs11 u11 v11 hR hP hS => ?_)
      have hF := hF.puts u11 0 rfl (by decide) (by decide) (by omega) (by omega)
      refine lv_goto (tgt := 174) hx hb dX6_menOfWhom_107 (by decide) ?_
      refine r_iinc (k := 5) (lv1 := fun z12 => [(5, .int z12), (4, .int z5), (0, .ref (ad 23)), (1, .ref (ad 2)), (2, .ref (ad 7)), (3, .ref (ad 22)), (6, .int x6)]) hx hb dX6_menOfWhom_174 hl rfl (by decide) (fun _ => rfl) (by decide) (by omega) (fun z12 ls ez12 hl => ?_)
      refine lv_goto (tgt := 6) hx hb dX6_menOfWhom_177 (by decide) ?_
      exact K6 σ11 τ0 H11 locs11 z5 z12 ls hR hF hFL hP hS (by omega) (by omega) (lv_sub hl [2, 3, 4, 5, 1, 0] rfl) (by omega)
set_option maxHeartbeats 4000000 in
theorem B_X6_menOfWhom_110 (p : Program) (l : Launch) (e : Env) (s : State) (m : MethodId) (args : Array Value) (below : List Frame) (meth : Method) (c : Code) (D : va_G) (cA : Nat → ClassId) (ad : Nat → Nat) (σ0 : Nat → Nat → Int32) (τ0 : Nat → Nat → Int64)  (n : Nat) (C : Cy p s m args meth c cX6_menOfWhom 7 wsX6_menOfWhom RX6 D cA ad (some .int))  (K6 : J_X6_menOfWhom_6 p l e s m args below meth c D cA ad σ0 τ0 n) (K72 : J_X6_menOfWhom_72 p l e s m args below meth c D cA ad σ0 τ0 n) (K110 : J_X6_menOfWhom_110 p l e s m args below meth c D cA ad σ0 τ0 n) (K148 : J_X6_menOfWhom_148 p l e s m args below meth c D cA ad σ0 τ0 n) : J_X6_menOfWhom_110 p l e s m args below meth c D cA ad σ0 τ0 (n + 1) := by
  obtain ⟨hx, hb, hml, hown, hts, hK, hk, hr, hI, hN⟩ := C
  intro σ τ H locs x4 x5 x6 ls hR hF hFL hP hS hc0 hc1 hl hm
  obtain rfl := FrL.nil hFL
  refine lv_iload hx hb dX6_menOfWhom_110 (lv_at hl 6 rfl) ?_
  refine r_bipush hx hb dX6_menOfWhom_112 (by decide) (fun z1 ez1 => ?_)
  refine r_icmp_ne (tgt := 148) hx hb dX6_menOfWhom_114 (by decide) (fun c2 => ?_) (fun c2 => ?_)
  · exact K148 σ τ0 H locs x4 x5 x6 ls hR hF hFL hP hS (by omega) (by omega) (lv_sub hl [0, 1, 2, 3, 4, 5, 6] rfl) (by omega)
  · refine lv_iload hx hb dX6_menOfWhom_117 (lv_at hl 4 rfl) ?_
    refine r_iconst hx hb dX6_menOfWhom_119 (by decide) (fun z3 ez3 => ?_)
    refine r_icmp_lt (tgt := 148) hx hb dX6_menOfWhom_120 (by decide) (fun c4 => ?_) (fun c4 => ?_)
    · exact K148 σ τ0 H locs x4 x5 x6 ls hR hF hFL hP hS (by omega) (by omega) (lv_sub hl [0, 1, 2, 3, 4, 5, 6] rfl) (by omega)
    · refine r_iinc (k := 4) (lv1 := fun z5 => [(4, .int z5), (0, .ref (ad 23)), (1, .ref (ad 2)), (2, .ref (ad 7)), (3, .ref (ad 22)), (5, .int x5), (6, .int x6)]) hx hb dX6_menOfWhom_123 hl rfl (by decide) (fun _ => rfl) (by decide) (by omega) (fun z5 ls ez5 hl => ?_)
      refine lv_aload_n hx hb dX6_menOfWhom_126 rfl (lv_at hl 1 rfl) ?_
      refine fg_6_6 (k := 23) hx hb hts in_X6_menOfWhom_6 hown hK hP (by decide) (by decide) (hts _ lk_X6_menOfWhom_21) dX6_menOfWhom_127 ?_
      refine lv_iload hx hb dX6_menOfWhom_130 (lv_at hl 0 rfl) ?_
      refine r_iconst hx hb dX6_menOfWhom_132 (by decide) (fun z6 ez6 => ?_)
      refine r_isub hx hb dX6_menOfWhom_133 (by omega) (fun z7 ez7 => ?_)
      refine lv_dup2_11 hx hb dX6_menOfWhom_134 rfl rfl ?_
      obtain ⟨j8, ej8⟩ : ∃ j : Nat, z7.toInt = (j : Int) := ⟨_, ti_nat (by omega)⟩
      refine ad_sent40 (k := 383) (j := j8) hx hb hK hP (by decide) (by decide) ej8 (by omega) dX6_menOfWhom_135 ?_
      refine lv_aload_n hx hb dX6_menOfWhom_136 rfl (lv_at hl 1 rfl) ?_
      refine fg_6_6 (k := 23) hx hb hts in_X6_menOfWhom_6 hown hK hP (by decide) (by decide) (hts _ lk_X6_menOfWhom_21) dX6_menOfWhom_137 ?_
      refine lv_iload hx hb dX6_menOfWhom_140 (lv_at hl 0 rfl) ?_
      obtain ⟨j9, ej9⟩ : ∃ j : Nat, z5.toInt = (j : Int) := ⟨_, ti_nat (by omega)⟩
      refine ad_sent40 (k := 383) (j := j9) hx hb hK hP (by decide) (by decide) ej9 (by omega) dX6_menOfWhom_142 ?_
      refine r_iorU hx hb dX6_menOfWhom_143 (fun z10 => ?_)
      refine as_sent40 (k := 383) (j := j8) hx hb hK hP hI hR hS (by decide) (by decide) ej8 (by omega) dX6_menOfWhom_144 (fun σ11 H11 locs11 u11 v11 hR hP hS => ?_)
      have hF := hF.puts u11 0 rfl (by decide) (by decide) (by omega) (by omega)
      refine lv_goto (tgt := 174) hx hb dX6_menOfWhom_145 (by decide) ?_
      refine r_iinc (k := 5) (lv1 := fun z12 => [(5, .int z12), (4, .int z5), (0, .ref (ad 23)), (1, .ref (ad 2)), (2, .ref (ad 7)), (3, .ref (ad 22)), (6, .int x6)]) hx hb dX6_menOfWhom_174 hl rfl (by decide) (fun _ => rfl) (by decide) (by omega) (fun z12 ls ez12 hl => ?_)
      refine lv_goto (tgt := 6) hx hb dX6_menOfWhom_177 (by decide) ?_
      exact K6 σ11 τ0 H11 locs11 z5 z12 ls hR hF hFL hP hS (by omega) (by omega) (lv_sub hl [2, 3, 4, 5, 1, 0] rfl) (by omega)
set_option maxHeartbeats 4000000 in
theorem B_X6_menOfWhom_148 (p : Program) (l : Launch) (e : Env) (s : State) (m : MethodId) (args : Array Value) (below : List Frame) (meth : Method) (c : Code) (D : va_G) (cA : Nat → ClassId) (ad : Nat → Nat) (σ0 : Nat → Nat → Int32) (τ0 : Nat → Nat → Int64)  (n : Nat) (C : Cy p s m args meth c cX6_menOfWhom 7 wsX6_menOfWhom RX6 D cA ad (some .int))  (K6 : J_X6_menOfWhom_6 p l e s m args below meth c D cA ad σ0 τ0 n) (K72 : J_X6_menOfWhom_72 p l e s m args below meth c D cA ad σ0 τ0 n) (K110 : J_X6_menOfWhom_110 p l e s m args below meth c D cA ad σ0 τ0 n) (K148 : J_X6_menOfWhom_148 p l e s m args below meth c D cA ad σ0 τ0 n) : J_X6_menOfWhom_148 p l e s m args below meth c D cA ad σ0 τ0 (n + 1) := by
  obtain ⟨hx, hb, hml, hown, hts, hK, hk, hr, hI, hN⟩ := C
  intro σ τ H locs x4 x5 x6 ls hR hF hFL hP hS hc0 hc1 hl hm
  obtain rfl := FrL.nil hFL
  refine lv_iload hx hb dX6_menOfWhom_148 (lv_at hl 4 rfl) ?_
  refine r_bipush hx hb dX6_menOfWhom_150 (by decide) (fun z1 ez1 => ?_)
  refine r_icmp_ge (tgt := 174) hx hb dX6_menOfWhom_152 (by decide) (fun c2 => ?_) (fun c2 => ?_)
  · refine r_iinc (k := 5) (lv1 := fun z3 => [(5, .int z3), (0, .ref (ad 23)), (1, .ref (ad 2)), (2, .ref (ad 7)), (3, .ref (ad 22)), (4, .int x4), (6, .int x6)]) hx hb dX6_menOfWhom_174 hl rfl (by decide) (fun _ => rfl) (by decide) (by omega) (fun z3 ls ez3 hl => ?_)
    refine lv_goto (tgt := 6) hx hb dX6_menOfWhom_177 (by decide) ?_
    exact K6 σ τ0 H locs x4 z3 ls hR hF hFL hP hS (by omega) (by omega) (lv_sub hl [1, 2, 3, 4, 5, 0] rfl) (by omega)
  · refine lv_aload_n hx hb dX6_menOfWhom_155 rfl (lv_at hl 0 rfl) ?_
    refine fg_6_6 (k := 23) hx hb hts in_X6_menOfWhom_6 hown hK hP (by decide) (by decide) (hts _ lk_X6_menOfWhom_21) dX6_menOfWhom_156 ?_
    refine lv_iload hx hb dX6_menOfWhom_159 (lv_at hl 4 rfl) ?_
    refine lv_aload_n hx hb dX6_menOfWhom_161 rfl (lv_at hl 0 rfl) ?_
    refine lv_iload hx hb dX6_menOfWhom_162 (lv_at hl 5 rfl) ?_
    refine lv_aload_n hx hb dX6_menOfWhom_164 rfl (lv_at hl 1 rfl) ?_
    refine lv_aload_n hx hb dX6_menOfWhom_165 rfl (lv_at hl 2 rfl) ?_
    refine lv_aload_n hx hb dX6_menOfWhom_166 rfl (lv_at hl 3 rfl) ?_
    refine r_cVi (k := 23) (As := [.int x5, .ref (ad 2), .ref (ad 7), .ref (ad 22)]) (rest := [.int x4, .ref (ad 383)]) ⟨hx, hb, hml, hown, hts⟩ hK hP hN hS (c_X6_menOfStep l D cA ad hI σ τ0 hR x5 (by omega)) (cwV 4 hts gX6_menOfWhom_X6_menOfStep rfl rfl rfl (by decide +kernel) ⟨by decide, by decide⟩) (rv_Sent hK hP (by decide) (by decide)) rfl hl.1 rfl (Nat.le_of_ble_eq_true rfl) dX6_menOfWhom_167 (Nat.zero_le _) (Nat.zero_le _) (fun r4 u4 H4 locs4 hp4 hP hS => ?_)
    obtain ⟨σ4, τ4⟩ := u4
    obtain ⟨hR, f4, fL4⟩ : P_X6_menOfStep σ τ0 x5 r4 σ4 τ4 := hp4
    have hP : va_P D vwCl (gw cA ad σ4 τ4) H4 := hP
    obtain rfl := FrL.nil fL4
    have hF := hF.step f4 (by decide)
    obtain ⟨j5, ej5⟩ : ∃ j : Nat, x4.toInt = (j : Int) := ⟨_, ti_nat (by omega)⟩
    refine as_sent40 (k := 383) (j := j5) hx hb hK hP hI hR hS (by decide) (by decide) ej5 (by omega) dX6_menOfWhom_170 (fun σ6 H6 locs6 u6 v6 hR hP hS => ?_)
    have hF := hF.puts u6 0 rfl (by decide) (by decide) (by omega) (by omega)
    refine r_iinc (k := 4) (lv1 := fun z7 => [(4, .int z7), (0, .ref (ad 23)), (1, .ref (ad 2)), (2, .ref (ad 7)), (3, .ref (ad 22)), (5, .int x5), (6, .int x6)]) hx hb dX6_menOfWhom_171 hl rfl (by decide) (fun _ => rfl) (by decide) (by omega) (fun z7 ls ez7 hl => ?_)
    refine r_iinc (k := 5) (lv1 := fun z8 => [(5, .int z8), (4, .int z7), (0, .ref (ad 23)), (1, .ref (ad 2)), (2, .ref (ad 7)), (3, .ref (ad 22)), (6, .int x6)]) hx hb dX6_menOfWhom_174 hl rfl (by decide) (fun _ => rfl) (by decide) (by omega) (fun z8 ls ez8 hl => ?_)
    refine lv_goto (tgt := 6) hx hb dX6_menOfWhom_177 (by decide) ?_
    exact K6 σ6 τ0 H6 locs6 z7 z8 ls hR hF hFL hP hS (by omega) (by omega) (lv_sub hl [2, 3, 4, 5, 1, 0] rfl) (by omega)
theorem A_X6_menOfWhom (p : Program) (l : Launch) (e : Env) (s : State) (m : MethodId) (args : Array Value) (below : List Frame) (meth : Method) (c : Code) (D : va_G) (cA : Nat → ClassId) (ad : Nat → Nat) (σ0 : Nat → Nat → Int32) (τ0 : Nat → Nat → Int64)  (C : Cy p s m args meth c cX6_menOfWhom 7 wsX6_menOfWhom RX6 D cA ad (some .int))  : ∀ n : Nat, J_X6_menOfWhom_6 p l e s m args below meth c D cA ad σ0 τ0 n ∧ J_X6_menOfWhom_72 p l e s m args below meth c D cA ad σ0 τ0 n ∧ J_X6_menOfWhom_110 p l e s m args below meth c D cA ad σ0 τ0 n ∧ J_X6_menOfWhom_148 p l e s m args below meth c D cA ad σ0 τ0 n := by
  intro n
  induction n with
  | zero =>
    exact ⟨(by intro σ τ H locs x4 x5 ls hR hF hFL hP hS hc0 hc1 hl hm; exfalso; omega), (by intro σ τ H locs x4 x5 x6 ls hR hF hFL hP hS hc0 hc1 hl hm; exfalso; omega), (by intro σ τ H locs x4 x5 x6 ls hR hF hFL hP hS hc0 hc1 hl hm; exfalso; omega), (by intro σ τ H locs x4 x5 x6 ls hR hF hFL hP hS hc0 hc1 hl hm; exfalso; omega)⟩
  | succ n ih =>
    exact ⟨B_X6_menOfWhom_6 p l e s m args below meth c D cA ad σ0 τ0 n C  ih.1 ih.2.1 ih.2.2.1 ih.2.2.2, B_X6_menOfWhom_72 p l e s m args below meth c D cA ad σ0 τ0 n C  ih.1 ih.2.1 ih.2.2.1 ih.2.2.2, B_X6_menOfWhom_110 p l e s m args below meth c D cA ad σ0 τ0 n C  ih.1 ih.2.1 ih.2.2.1 ih.2.2.2, B_X6_menOfWhom_148 p l e s m args below meth c D cA ad σ0 τ0 n C  ih.1 ih.2.1 ih.2.2.1 ih.2.2.2⟩
set_option maxHeartbeats 4000000 in
theorem c_X6_menOfWhom (l : Launch) (D : va_G) (cA : Nat → ClassId) (ad : Nat → Nat) (hI : Inj ad) (σ0 : Nat → Nat → Int32) (τ0 : Nat → Nat → Int64) (hR : Rg σ0)   : Met l yX6_menOfWhom wsX6_menOfWhom ({ frames := 6, cells := 0, slots := 0, locals := 143 } : Room) (WQc D cA ad [.ref (ad 23), .ref (ad 2), .ref (ad 7), .ref (ad 22)] σ0 τ0) (va_Qi (fun (r : Int32) (u : SS) => P_X6_menOfWhom σ0 τ0 r u.1 u.2) (WB D cA ad) (AA ad)) 0 0 (AA ad) := by
  refine Met.ofW (cc := cX6_menOfWhom) (maxL := 7) (ret := (some .int)) (by decide) rfl ?_
  intro p e s m args below meth c s₁ B hml hv
  obtain ⟨rfl, hP, hK, hN⟩ := hv
  have C : Cy p s m _ meth c cX6_menOfWhom 7 wsX6_menOfWhom RX6 D cA ad (some .int) := ⟨B.exec, B.bytes, hml, findClass_of_methodNamed B.named, atoms_spec (ws := wsX6_menOfWhom) B.pre, hK, B.notSynchronized, B.returns, hI, hN⟩
  have hl := lv_entry ([.ref (ad 23), .ref (ad 2), .ref (ad 7), .ref (ad 22)]) (n := 7) (Nat.le_of_ble_eq_true rfl)
  rw [lg_entry_eq]
  generalize (lg_sl ([.ref (ad 23), .ref (ad 2), .ref (ad 7), .ref (ad 22)]) ++ List.replicate (7 - (lg_sl ([.ref (ad 23), .ref (ad 2), .ref (ad 7), .ref (ad 22)])).length) Slot.unset).toArray = ls at hl ⊢
  have hl : lv_has ls 7 [(0, .ref (ad 23)), (1, .ref (ad 2)), (2, .ref (ad 7)), (3, .ref (ad 22))] := hl
  have hS : va_S (AA ad) s.heap s.heap [] := va_S.rf
  have hF : Fr L_X6_menOfWhom σ0 σ0 := Fr.rf
  have hFL : FrL LL_X6_menOfWhom τ0 τ0 := FrL.rf
  have hA := A_X6_menOfWhom p l e s m _ below meth c D cA ad σ0 τ0 C  419
  have K6 := hA.1
  have K72 := hA.2.1
  have K110 := hA.2.2.1
  have K148 := hA.2.2.2
  clear hA
  obtain ⟨hx, hb, _, hown, hts, _, hk, hr, _, _⟩ := C
  refine r_iconst hx hb dX6_menOfWhom_0 (by decide) (fun z1 ez1 => ?_)
  refine lv_istore (lv' := [(4, .int z1), (0, .ref (ad 23)), (1, .ref (ad 2)), (2, .ref (ad 7)), (3, .ref (ad 22))]) hx hb dX6_menOfWhom_1 hl (by decide) rfl (fun ls hl => ?_)
  refine r_iconst hx hb dX6_menOfWhom_3 (by decide) (fun z2 ez2 => ?_)
  refine lv_istore (lv' := [(5, .int z2), (4, .int z1), (0, .ref (ad 23)), (1, .ref (ad 2)), (2, .ref (ad 7)), (3, .ref (ad 22))]) hx hb dX6_menOfWhom_4 hl (by decide) rfl (fun ls hl => ?_)
  exact K6 σ0 τ0 s.heap [] z1 z2 ls hR hF hFL hP hS (by omega) (by omega) (lv_sub hl [2, 3, 4, 5, 1, 0] rfl) (by omega)
theorem in_X4_keep_4 : ∀ w ∈ u_ws RX4 TX4 4, w ∈ wsX4_keep := by decide +kernel
theorem lk_X4_keep_10 : Cond.fieldLink RX4 10 "CuckooShares$Image" "valley" "LCuckooShares$Valley;" ∈ wsX4_keep := by decide +kernel
theorem lk_X4_keep_19 : Cond.fieldLink RX4 19 "CuckooShares$Image" "days" "LCuckooShares$Days;" ∈ wsX4_keep := by decide +kernel
theorem lk_X4_keep_26 : Cond.fieldLink RX4 26 "CuckooShares$Image" "sentence" "LCuckooShares$Sentence;" ∈ wsX4_keep := by decide +kernel
theorem lk_X4_keep_40 : Cond.fieldLink RX4 40 "CuckooShares$Image" "kept" "Z" ∈ wsX4_keep := by decide +kernel
abbrev L_X4_keep : List Rc := [(2, 5, 0, 6), (64, 67, 0, 8), (68, 99, 0, 3), (100, 131, 0, 6), (132, 147, 0, 3), (148, 307, 0, 3), (7, 19, 0, 2), (308, 320, 0, 8), (321, 333, 0, 8), (334, 346, 0, 8), (347, 359, 0, 8), (23, 26, 0, 2), (371, 374, 0, 40), (375, 378, 0, 40), (379, 382, 0, 40), (29, 30, 3, 3)]
abbrev LL_X4_keep : List Rc := [(40, 43, 0, 8), (44, 47, 0, 8)]
def P_X4_keep (σ0 : Nat → Nat → Int32) (τ0 : Nat → Nat → Int64) (k0 : Nat) (σ : Nat → Nat → Int32) (τ : Nat → Nat → Int64) : Prop := Rg σ ∧ Fr L_X4_keep σ0 σ ∧ FrL LL_X4_keep τ0 τ ∧ ((σ k0 3).toInt = 1) ∧ (KO σ0 σ k0) ∧ (VCp σ0 σ 2 (k0 - 25)) ∧ (NCp τ0 τ 2 (k0 - 25))
set_option maxHeartbeats 4000000 in
theorem c_X4_keep (l : Launch) (D : va_G) (cA : Nat → ClassId) (ad : Nat → Nat) (hI : Inj ad) (σ0 : Nat → Nat → Int32) (τ0 : Nat → Nat → Int64) (hR : Rg σ0) (k0 : Nat) (hk0 : 29 ≤ k0 ∧ k0 ≤ 30) : Met l yX4_keep wsX4_keep ({ frames := 3, cells := 0, slots := 0, locals := 104 } : Room) (WQc D cA ad [.ref (ad k0), .ref (ad 2), .ref (ad 7), .ref (ad 23)] σ0 τ0) (va_Qv (fun u : SS => P_X4_keep σ0 τ0 k0 u.1 u.2) (WB D cA ad) (AA ad)) 0 0 (AA ad) := by
  refine Met.ofW (cc := cX4_keep) (maxL := 4) (ret := none) (by decide) rfl ?_
  intro p e s m args below meth c s₁ B hml hv
  obtain ⟨rfl, hP, hK, hN⟩ := hv
  have C : Cy p s m _ meth c cX4_keep 4 wsX4_keep RX4 D cA ad none := ⟨B.exec, B.bytes, hml, findClass_of_methodNamed B.named, atoms_spec (ws := wsX4_keep) B.pre, hK, B.notSynchronized, B.returns, hI, hN⟩
  have hl := lv_entry ([.ref (ad k0), .ref (ad 2), .ref (ad 7), .ref (ad 23)]) (n := 4) (Nat.le_of_ble_eq_true rfl)
  rw [lg_entry_eq]
  generalize (lg_sl ([.ref (ad k0), .ref (ad 2), .ref (ad 7), .ref (ad 23)]) ++ List.replicate (4 - (lg_sl ([.ref (ad k0), .ref (ad 2), .ref (ad 7), .ref (ad 23)])).length) Slot.unset).toArray = ls at hl ⊢
  have hl : lv_has ls 4 [(0, .ref (ad k0)), (1, .ref (ad 2)), (2, .ref (ad 7)), (3, .ref (ad 23))] := hl
  have hS : va_S (AA ad) s.heap s.heap [] := va_S.rf
  have hF : Fr L_X4_keep σ0 σ0 := Fr.rf
  have hFL : FrL LL_X4_keep τ0 τ0 := FrL.rf
  obtain ⟨hx, hb, _, hown, hts, _, hk, hr, _, _⟩ := C
  refine lv_aload_n hx hb dX4_keep_0 rfl (lv_at hl 0 rfl) ?_
  refine fg_4_0 (k := k0) hx hb hts in_X4_keep_4 hown hK hP (by omega) (by omega) (hts _ lk_X4_keep_10) dX4_keep_1 ?_
  refine lv_aload_n hx hb dX4_keep_4 rfl (lv_at hl 1 rfl) ?_
  refine r_cVv (k := k0 - 25) (As := [.ref (ad 2)]) (rest := []) ⟨hx, hb, hml, hown, hts⟩ hK hP hN hS (c_X9_copyFrom l D cA ad hI σ0 τ0 hR (k0 - 25) 2 ⟨by omega, by omega⟩ ⟨by omega, by omega⟩) (cwV 1 hts gX4_keep_X9_copyFrom rfl rfl rfl (by decide +kernel) ⟨by decide, by decide⟩) (rv_Valley hK hP (by omega) (by omega)) rfl hl.1 rfl (Nat.le_of_ble_eq_true rfl) dX4_keep_5 (Nat.zero_le _) (Nat.zero_le _) (fun u1 H1 locs1 hp1 hP hS => ?_)
  obtain ⟨σ1, τ1⟩ := u1
  obtain ⟨hR, f1, fL1, hp1_0, hp1_1⟩ : P_X9_copyFrom σ0 τ0 (k0 - 25) 2 σ1 τ1 := hp1
  have vcp := hp1_0
  have ncp := hp1_1
  have fa := f1
  have hP : va_P D vwCl (gw cA ad σ1 τ1) H1 := hP
  have hFL := hFL.step fL1 (by decide)
  have hF := hF.step f1 (by decide)
  refine lv_aload_n hx hb dX4_keep_8 rfl (lv_at hl 0 rfl) ?_
  refine fg_4_1 (k := k0) hx hb hts in_X4_keep_4 hown hK hP (by omega) (by omega) (hts _ lk_X4_keep_19) dX4_keep_9 ?_
  refine lv_aload_n hx hb dX4_keep_12 rfl (lv_at hl 2 rfl) ?_
  refine r_cVv (k := k0 - 11) (As := [.ref (ad 7)]) (rest := []) ⟨hx, hb, hml, hown, hts⟩ hK hP hN hS (c_X2_copyFrom l D cA ad hI σ1 τ1 hR (k0 - 11) 7 ⟨by omega, by omega⟩ ⟨by omega, by omega⟩) (cwV 1 hts gX4_keep_X2_copyFrom rfl rfl rfl (by decide +kernel) ⟨by decide, by decide⟩) (rv_Days hK hP (by omega) (by omega)) rfl hl.1 rfl (Nat.le_of_ble_eq_true rfl) dX4_keep_13 (Nat.zero_le _) (Nat.zero_le _) (fun u2 H2 locs2 hp2 hP hS => ?_)
  obtain ⟨σ2, τ2⟩ := u2
  obtain ⟨hR, f2, fL2⟩ : P_X2_copyFrom σ1 τ1 (k0 - 11) 7 σ2 τ2 := hp2
  have fb := f2
  have hP : va_P D vwCl (gw cA ad σ2 τ2) H2 := hP
  obtain rfl := FrL.nil fL2
  have hF := hF.step f2 (by decide)
  refine lv_aload_n hx hb dX4_keep_16 rfl (lv_at hl 0 rfl) ?_
  refine fg_4_2 (k := k0) hx hb hts in_X4_keep_4 hown hK hP (by omega) (by omega) (hts _ lk_X4_keep_26) dX4_keep_17 ?_
  refine lv_aload_n hx hb dX4_keep_20 rfl (lv_at hl 3 rfl) ?_
  refine r_cVv (k := k0 - 4) (As := [.ref (ad 23)]) (rest := []) ⟨hx, hb, hml, hown, hts⟩ hK hP hN hS (c_X6_copyFrom l D cA ad hI σ2 τ1 hR (k0 - 4) 23 ⟨by omega, by omega⟩ ⟨by omega, by omega⟩) (cwV 1 hts gX4_keep_X6_copyFrom rfl rfl rfl (by decide +kernel) ⟨by decide, by decide⟩) (rv_Sent hK hP (by omega) (by omega)) rfl hl.1 rfl (Nat.le_of_ble_eq_true rfl) dX4_keep_21 (Nat.zero_le _) (Nat.zero_le _) (fun u3 H3 locs3 hp3 hP hS => ?_)
  obtain ⟨σ3, τ3⟩ := u3
  obtain ⟨hR, f3, fL3, hp3_0⟩ : P_X6_copyFrom σ2 τ1 (k0 - 4) 23 σ3 τ3 := hp3
  have fc := f3
  have hP : va_P D vwCl (gw cA ad σ3 τ3) H3 := hP
  obtain rfl := FrL.nil fL3
  have hF := hF.step f3 (by decide)
  refine lv_aload_n hx hb dX4_keep_24 rfl (lv_at hl 0 rfl) ?_
  refine r_iconst hx hb dX4_keep_25 (by decide) (fun z4 ez4 => ?_)
  refine fp_4_3 (k := k0) hx hb hts in_X4_keep_4 hown hK hP (by omega) (by omega) (hts _ lk_X4_keep_40) hI hR hS (by omega) dX4_keep_26 (fun σ5 H5 locs5 u5 v5 hR hP hS => ?_)
  have uk := u5
  have vk := v5
  have hF := hF.puts u5 15 rfl (by omega) (by omega) (by decide) (by decide)
  exact r_vret hx hb hr hK hP hS hk dX4_keep_29 (show P_X4_keep σ0 τ0 k0 σ5 τ1 from ⟨hR, hF, hFL, by omega, KO.of3 fa (by decide) fb (by decide) fc (by decide) uk, ((vcp.fr (by omega) fb (by decide)).fr (by omega) fc (by decide)).up (by omega) uk (by omega), ncp⟩)
theorem in_X4_giveBack_4 : ∀ w ∈ u_ws RX4 TX4 4, w ∈ wsX4_giveBack := by decide +kernel
theorem lk_X4_giveBack_10 : Cond.fieldLink RX4 10 "CuckooShares$Image" "valley" "LCuckooShares$Valley;" ∈ wsX4_giveBack := by decide +kernel
theorem lk_X4_giveBack_19 : Cond.fieldLink RX4 19 "CuckooShares$Image" "days" "LCuckooShares$Days;" ∈ wsX4_giveBack := by decide +kernel
theorem lk_X4_giveBack_26 : Cond.fieldLink RX4 26 "CuckooShares$Image" "sentence" "LCuckooShares$Sentence;" ∈ wsX4_giveBack := by decide +kernel
abbrev L_X4_giveBack : List Rc := [(2, 5, 0, 6), (64, 67, 0, 8), (68, 99, 0, 3), (100, 131, 0, 6), (132, 147, 0, 3), (148, 307, 0, 3), (7, 19, 0, 2), (308, 320, 0, 8), (321, 333, 0, 8), (334, 346, 0, 8), (347, 359, 0, 8), (23, 26, 0, 2), (371, 374, 0, 40), (375, 378, 0, 40), (379, 382, 0, 40)]
abbrev LL_X4_giveBack : List Rc := [(40, 43, 0, 8), (44, 47, 0, 8)]
def P_X4_giveBack (σ0 : Nat → Nat → Int32) (τ0 : Nat → Nat → Int64) (k0 : Nat) (σ : Nat → Nat → Int32) (τ : Nat → Nat → Int64) : Prop := Rg σ ∧ Fr L_X4_giveBack σ0 σ ∧ FrL LL_X4_giveBack τ0 τ ∧ (VCp σ0 σ (k0 - 25) 2) ∧ (NCp τ0 τ (k0 - 25) 2)
set_option maxHeartbeats 4000000 in
theorem c_X4_giveBack (l : Launch) (D : va_G) (cA : Nat → ClassId) (ad : Nat → Nat) (hI : Inj ad) (σ0 : Nat → Nat → Int32) (τ0 : Nat → Nat → Int64) (hR : Rg σ0) (k0 : Nat) (hk0 : 29 ≤ k0 ∧ k0 ≤ 30) : Met l yX4_giveBack wsX4_giveBack ({ frames := 3, cells := 0, slots := 0, locals := 104 } : Room) (WQc D cA ad [.ref (ad k0), .ref (ad 2), .ref (ad 7), .ref (ad 23)] σ0 τ0) (va_Qv (fun u : SS => P_X4_giveBack σ0 τ0 k0 u.1 u.2) (WB D cA ad) (AA ad)) 0 0 (AA ad) := by
  refine Met.ofW (cc := cX4_giveBack) (maxL := 4) (ret := none) (by decide) rfl ?_
  intro p e s m args below meth c s₁ B hml hv
  obtain ⟨rfl, hP, hK, hN⟩ := hv
  have C : Cy p s m _ meth c cX4_giveBack 4 wsX4_giveBack RX4 D cA ad none := ⟨B.exec, B.bytes, hml, findClass_of_methodNamed B.named, atoms_spec (ws := wsX4_giveBack) B.pre, hK, B.notSynchronized, B.returns, hI, hN⟩
  have hl := lv_entry ([.ref (ad k0), .ref (ad 2), .ref (ad 7), .ref (ad 23)]) (n := 4) (Nat.le_of_ble_eq_true rfl)
  rw [lg_entry_eq]
  generalize (lg_sl ([.ref (ad k0), .ref (ad 2), .ref (ad 7), .ref (ad 23)]) ++ List.replicate (4 - (lg_sl ([.ref (ad k0), .ref (ad 2), .ref (ad 7), .ref (ad 23)])).length) Slot.unset).toArray = ls at hl ⊢
  have hl : lv_has ls 4 [(0, .ref (ad k0)), (1, .ref (ad 2)), (2, .ref (ad 7)), (3, .ref (ad 23))] := hl
  have hS : va_S (AA ad) s.heap s.heap [] := va_S.rf
  have hF : Fr L_X4_giveBack σ0 σ0 := Fr.rf
  have hFL : FrL LL_X4_giveBack τ0 τ0 := FrL.rf
  obtain ⟨hx, hb, _, hown, hts, _, hk, hr, _, _⟩ := C
  refine lv_aload_n hx hb dX4_giveBack_0 rfl (lv_at hl 1 rfl) ?_
  refine lv_aload_n hx hb dX4_giveBack_1 rfl (lv_at hl 0 rfl) ?_
  refine fg_4_0 (k := k0) hx hb hts in_X4_giveBack_4 hown hK hP (by omega) (by omega) (hts _ lk_X4_giveBack_10) dX4_giveBack_2 ?_
  refine r_cVv (k := 2) (As := [.ref (ad (k0 - 25))]) (rest := []) ⟨hx, hb, hml, hown, hts⟩ hK hP hN hS (c_X9_copyFrom l D cA ad hI σ0 τ0 hR 2 (k0 - 25) ⟨by omega, by omega⟩ ⟨by omega, by omega⟩) (cwV 1 hts gX4_giveBack_X9_copyFrom rfl rfl rfl (by decide +kernel) ⟨by decide, by decide⟩) (rv_Valley hK hP (by decide) (by decide)) rfl hl.1 rfl (Nat.le_of_ble_eq_true rfl) dX4_giveBack_5 (Nat.zero_le _) (Nat.zero_le _) (fun u1 H1 locs1 hp1 hP hS => ?_)
  obtain ⟨σ1, τ1⟩ := u1
  obtain ⟨hR, f1, fL1, hp1_0, hp1_1⟩ : P_X9_copyFrom σ0 τ0 2 (k0 - 25) σ1 τ1 := hp1
  have vcp := hp1_0
  have ncp := hp1_1
  have hP : va_P D vwCl (gw cA ad σ1 τ1) H1 := hP
  have hFL := hFL.step fL1 (by decide)
  have hF := hF.step f1 (by decide)
  refine lv_aload_n hx hb dX4_giveBack_8 rfl (lv_at hl 2 rfl) ?_
  refine lv_aload_n hx hb dX4_giveBack_9 rfl (lv_at hl 0 rfl) ?_
  refine fg_4_1 (k := k0) hx hb hts in_X4_giveBack_4 hown hK hP (by omega) (by omega) (hts _ lk_X4_giveBack_19) dX4_giveBack_10 ?_
  refine r_cVv (k := 7) (As := [.ref (ad (k0 - 11))]) (rest := []) ⟨hx, hb, hml, hown, hts⟩ hK hP hN hS (c_X2_copyFrom l D cA ad hI σ1 τ1 hR 7 (k0 - 11) ⟨by omega, by omega⟩ ⟨by omega, by omega⟩) (cwV 1 hts gX4_giveBack_X2_copyFrom rfl rfl rfl (by decide +kernel) ⟨by decide, by decide⟩) (rv_Days hK hP (by decide) (by decide)) rfl hl.1 rfl (Nat.le_of_ble_eq_true rfl) dX4_giveBack_13 (Nat.zero_le _) (Nat.zero_le _) (fun u2 H2 locs2 hp2 hP hS => ?_)
  obtain ⟨σ2, τ2⟩ := u2
  obtain ⟨hR, f2, fL2⟩ : P_X2_copyFrom σ1 τ1 7 (k0 - 11) σ2 τ2 := hp2
  have fb := f2
  have hP : va_P D vwCl (gw cA ad σ2 τ2) H2 := hP
  obtain rfl := FrL.nil fL2
  have hF := hF.step f2 (by decide)
  refine lv_aload_n hx hb dX4_giveBack_16 rfl (lv_at hl 3 rfl) ?_
  refine lv_aload_n hx hb dX4_giveBack_17 rfl (lv_at hl 0 rfl) ?_
  refine fg_4_2 (k := k0) hx hb hts in_X4_giveBack_4 hown hK hP (by omega) (by omega) (hts _ lk_X4_giveBack_26) dX4_giveBack_18 ?_
  refine r_cVv (k := 23) (As := [.ref (ad (k0 - 4))]) (rest := []) ⟨hx, hb, hml, hown, hts⟩ hK hP hN hS (c_X6_copyFrom l D cA ad hI σ2 τ1 hR 23 (k0 - 4) ⟨by omega, by omega⟩ ⟨by omega, by omega⟩) (cwV 1 hts gX4_giveBack_X6_copyFrom rfl rfl rfl (by decide +kernel) ⟨by decide, by decide⟩) (rv_Sent hK hP (by decide) (by decide)) rfl hl.1 rfl (Nat.le_of_ble_eq_true rfl) dX4_giveBack_21 (Nat.zero_le _) (Nat.zero_le _) (fun u3 H3 locs3 hp3 hP hS => ?_)
  obtain ⟨σ3, τ3⟩ := u3
  obtain ⟨hR, f3, fL3, hp3_0⟩ : P_X6_copyFrom σ2 τ1 23 (k0 - 4) σ3 τ3 := hp3
  have fc := f3
  have hP : va_P D vwCl (gw cA ad σ3 τ3) H3 := hP
  obtain rfl := FrL.nil fL3
  have hF := hF.step f3 (by decide)
  exact r_vret hx hb hr hK hP hS hk dX4_giveBack_24 (show P_X4_giveBack σ0 τ0 k0 σ3 τ1 from ⟨hR, hF, hFL, (vcp.fr (by omega) fb (by decide)).fr (by omega) fc (by decide), ncp⟩)
