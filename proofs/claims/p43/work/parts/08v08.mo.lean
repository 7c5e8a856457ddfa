theorem in_X12_sentence_12 : ∀ w ∈ u_ws RX12 TX12 47, w ∈ wsX12_sentence := by decide +kernel
theorem lk_X12_sentence_1 : Cond.fieldLink RX12 1 "CuckooSharesModel" "thrown" "I" ∈ wsX12_sentence := by decide +kernel
theorem lk_X12_sentence_159 : Cond.fieldLink RX12 159 "CuckooSharesModel" "token" "I" ∈ wsX12_sentence := by decide +kernel
theorem lk_X12_sentence_176 : Cond.fieldLink RX12 176 "CuckooSharesModel" "fault" "I" ∈ wsX12_sentence := by decide +kernel
theorem lk_X12_sentence_179 : Cond.fieldLink RX12 179 "CuckooSharesModel" "faultAt" "I" ∈ wsX12_sentence := by decide +kernel
theorem lk_X12_sentence_33 : Cond.fieldLink RX12 33 "CuckooSharesModel" "s" "[I" ∈ wsX12_sentence := by decide +kernel
theorem lk_X12_sentence_40 : Cond.fieldLink RX12 40 "CuckooSharesModel" "read" "[I" ∈ wsX12_sentence := by decide +kernel
theorem lk_X12_sentence_431 : Cond.fieldLink RX12 431 "CuckooSharesModel" "codes" "I" ∈ wsX12_sentence := by decide +kernel
theorem lk_X12_sentence_434 : Cond.fieldLink RX12 434 "CuckooSharesModel" "top" "I" ∈ wsX12_sentence := by decide +kernel
theorem lk_X12_sentence_440 : Cond.fieldLink RX12 440 "CuckooSharesModel" "deep" "I" ∈ wsX12_sentence := by decide +kernel
theorem lk_X12_sentence_446 : Cond.fieldLink RX12 446 "CuckooSharesModel" "ones" "I" ∈ wsX12_sentence := by decide +kernel
theorem lk_X12_sentence_449 : Cond.fieldLink RX12 449 "CuckooSharesModel" "isWhole" "Z" ∈ wsX12_sentence := by decide +kernel
abbrev L_X12_sentence : List Rc := [(387, 387, 0, 0), (387, 387, 2, 5), (387, 387, 38, 42), (387, 387, 11, 16), (401, 401, 0, 40), (391, 391, 0, 119), (387, 387, 18, 18), (389, 389, 246, 366)]
def P_X12_sentence (σ0 : Nat → Nat → Int32)  (r : Int32) (σ : Nat → Nat → Int32) : Prop := Rg σ ∧ Fr L_X12_sentence σ0 σ ∧ ((σ 387 2).toInt = 0) ∧ SI σ
def J_X12_sentence_48 (p : Program) (l : Launch) (e : Env) (s : State) (m : MethodId) (args : Array Value) (below : List Frame) (meth : Method) (c : Code) (D : va_G) (cA : Nat → ClassId) (ad : Nat → Nat) (σ0 : Nat → Nat → Int32)  (n : Nat) : Prop := ∀ (σ : Nat → Nat → Int32) (τ : Nat → Nat → Int64) (H : Heap) (locs : List Loc) (x1 : Int32) (ls : Array Slot), Rg σ → Fr L_X12_sentence σ0 σ → va_P D vwCl (gw cA ad σ τ) H → va_S (AA ad) s.heap H locs → (0 ≤ x1.toInt ∧ x1.toInt ≤ 1) → (0 ≤ (σ 387 2).toInt ∧ (σ 387 2).toInt ≤ 0) → (0 ≤ (σ 387 38).toInt ∧ (σ 387 38).toInt ≤ 40) → (0 ≤ (σ 387 39).toInt ∧ (σ 387 39).toInt ≤ 20) → (0 ≤ (σ 387 40).toInt ∧ (σ 387 40).toInt ≤ 40) → (0 ≤ (σ 387 42).toInt ∧ (σ 387 42).toInt ≤ 1) → ((σ 387 38).toInt + (σ 387 40).toInt + (σ 387 42).toInt ≤ 2 * (σ 387 39).toInt) → (SI σ) → (PV σ) → lv_has ls 3 [(0, .ref (ad 387)), (1, .int x1)] → 259 * (100 * (20 - (σ 387 39).toInt) + 2 * (σ 387 40).toInt + 3 * (σ 387 42).toInt + x1.toInt) + 258 < (n : Int) → W p l e ({ frames := 3, cells := 0, slots := 0, locals := 69 } : Room) s m args below meth c H locs 0 0 (MQ below (va_Qi (fun (r : Int32) (u : SS) => P_X12_sentence σ0 r u.1) (WB D cA ad) (AA ad)) args s 0 0 (AA ad)) (F0 m 48 ls [])
def J_X12_sentence_146 (p : Program) (l : Launch) (e : Env) (s : State) (m : MethodId) (args : Array Value) (below : List Frame) (meth : Method) (c : Code) (D : va_G) (cA : Nat → ClassId) (ad : Nat → Nat) (σ0 : Nat → Nat → Int32)  (n : Nat) : Prop := ∀ (σ : Nat → Nat → Int32) (τ : Nat → Nat → Int64) (H : Heap) (locs : List Loc) (x1 : Int32) (x2 : Int32) (ls : Array Slot), Rg σ → Fr L_X12_sentence σ0 σ → va_P D vwCl (gw cA ad σ τ) H → va_S (AA ad) s.heap H locs → (0 ≤ x1.toInt ∧ x1.toInt ≤ 0) → (0 ≤ x2.toInt ∧ x2.toInt ≤ 127) → (0 ≤ (σ 387 2).toInt ∧ (σ 387 2).toInt ≤ 0) → (0 ≤ (σ 387 38).toInt ∧ (σ 387 38).toInt ≤ 40) → (0 ≤ (σ 387 39).toInt ∧ (σ 387 39).toInt ≤ 20) → (0 ≤ (σ 387 40).toInt ∧ (σ 387 40).toInt ≤ 40) → (0 ≤ (σ 387 42).toInt ∧ (σ 387 42).toInt ≤ 1) → (0 ≤ (σ 389 246).toInt ∧ (σ 389 246).toInt ≤ 40) → ((σ 389 246).toInt = (σ 387 38).toInt) → (∀ i : Nat, (i : Int) < x2.toInt → σ 389 (247 + i) = σ 391 i) → (PV σ) → lv_has ls 3 [(0, .ref (ad 387)), (1, .int x1), (2, .int x2)] → 2 * (127 - x2.toInt) + 1 < (n : Int) → W p l e ({ frames := 3, cells := 0, slots := 0, locals := 69 } : Room) s m args below meth c H locs 0 0 (MQ below (va_Qi (fun (r : Int32) (u : SS) => P_X12_sentence σ0 r u.1) (WB D cA ad) (AA ad)) args s 0 0 (AA ad)) (F0 m 146 ls [])
set_option maxHeartbeats 4000000 in
theorem B_X12_sentence_48 (p : Program) (l : Launch) (e : Env) (s : State) (m : MethodId) (args : Array Value) (below : List Frame) (meth : Method) (c : Code) (D : va_G) (cA : Nat → ClassId) (ad : Nat → Nat) (σ0 : Nat → Nat → Int32)  (n : Nat) (C : Cy p s m args meth c cX12_sentence 3 wsX12_sentence RX12 D cA ad (some .int)) (gSI0 : SI σ0) (K48 : J_X12_sentence_48 p l e s m args below meth c D cA ad σ0 n) (K146 : J_X12_sentence_146 p l e s m args below meth c D cA ad σ0 n) : J_X12_sentence_48 p l e s m args below meth c D cA ad σ0 (n + 1) := by
  obtain ⟨hx, hb, hml, hown, hts, hK, hk, hr, hI, hN⟩ := C
  intro σ τ H locs x1 ls hR hF hP hS hc0 hc1 hc2 hc3 hc4 hc5 hi0 gSI gPV hl hm
  refine lv_iload_n hx hb dX12_sentence_48 rfl (lv_at hl 1 rfl) ?_
  refine r_if_eq (tgt := 132) hx hb dX12_sentence_49 (by decide) (fun c1 => ?_) (fun c1 => ?_)
  · refine lv_aload_n hx hb dX12_sentence_132 rfl (lv_at hl 0 rfl) ?_
    refine fg_12_6 (k := 387) hx hb hts in_X12_sentence_12 hown hK hP (by decide) (by decide) (hts _ lk_X12_sentence_33) dX12_sentence_133 ?_
    refine r_sipush hx hb dX12_sentence_136 (by decide) (fun z2 ez2 => ?_)
    refine lv_aload_n hx hb dX12_sentence_139 rfl (lv_at hl 0 rfl) ?_
    refine fg_12_38 (k := 387) hx hb hts in_X12_sentence_12 hown hK hP (by decide) (by decide) (hts _ lk_X12_sentence_431) dX12_sentence_140 ?_
    refine as_ms (k := 389) (j := 246) hx hb hK hP hI hR hS (by decide) (by decide) (by omega) (by omega) (rw_ms_8 (by decide) (by decide) (by decide) (by decide) (by omega)) dX12_sentence_143 (fun σ3 H3 locs3 u3 v3 hR hP hS => ?_)
    have hF := hF.puts u3 7 rfl (by decide) (by decide) (by decide) (by decide)
    have gPV := PV.put gPV hR u3 (by decide)
    have t4 : (σ3 387 2).toInt = (σ 387 2).toInt := congrArg Int32.toInt (u3 387 2 (by omega))
    have t5 : (σ3 387 38).toInt = (σ 387 38).toInt := congrArg Int32.toInt (u3 387 38 (by omega))
    have t6 : (σ3 387 39).toInt = (σ 387 39).toInt := congrArg Int32.toInt (u3 387 39 (by omega))
    have t7 : (σ3 387 40).toInt = (σ 387 40).toInt := congrArg Int32.toInt (u3 387 40 (by omega))
    have t8 : (σ3 387 42).toInt = (σ 387 42).toInt := congrArg Int32.toInt (u3 387 42 (by omega))
    have t9 : (σ3 387 11).toInt = (σ 387 11).toInt := congrArg Int32.toInt (u3 387 11 (by omega))
    refine r_iconst hx hb dX12_sentence_144 (by decide) (fun z10 ez10 => ?_)
    refine lv_istore_n (lv' := [(2, .int z10), (0, .ref (ad 387)), (1, .int x1)]) hx hb dX12_sentence_145 rfl hl (by decide) rfl (fun ls hl => ?_)
    exact K146 σ3 τ H3 locs3 x1 z10 ls hR hF hP hS (by omega) (by omega) (by omega) (by omega) (by omega) (by omega) (by omega) (by omega) (by omega) (by first | exact (fun i hi => absurd hi (by omega)) | exact (fun i hi => CPs uz vz (by omega) (fun k hk => hi1 k (by omega)) i (by omega))) gPV (lv_sub hl [1, 2, 0] rfl) (by omega)
  · refine lv_aload_n hx hb dX12_sentence_52 rfl (lv_at hl 0 rfl) ?_
    refine fg_12_42 (k := 387) hx hb hts in_X12_sentence_12 hown hK hP (by decide) (by decide) (hts _ lk_X12_sentence_449) dX12_sentence_53 ?_
    refine r_if_eq (tgt := 101) hx hb dX12_sentence_56 (by decide) (fun c11 => ?_) (fun c11 => ?_)
    · refine lv_aload_n hx hb dX12_sentence_101 rfl (lv_at hl 0 rfl) ?_
      refine fg_12_42 (k := 387) hx hb hts in_X12_sentence_12 hown hK hP (by decide) (by decide) (hts _ lk_X12_sentence_449) dX12_sentence_102 ?_
      refine r_if_eq (tgt := 118) hx hb dX12_sentence_105 (by decide) (fun c12 => ?_) (fun c12 => ?_)
      · refine lv_aload_n hx hb dX12_sentence_118 rfl (lv_at hl 0 rfl) ?_
        refine r_cVi (k := 387) (As := []) (rest := []) ⟨hx, hb, hml, hown, hts⟩ hK hP hN hS (c_X12_operand l D cA ad hI σ τ hR (by omega) (by omega) gPV) (cwV 0 hts gX12_sentence_X12_operand rfl rfl rfl (by decide +kernel) ⟨by decide, by decide⟩) (rv_M hK hP (by decide) (by decide)) rfl hl.1 rfl (Nat.le_of_ble_eq_true rfl) dX12_sentence_119 (Nat.zero_le _) (Nat.zero_le _) (fun r13 u13 H13 locs13 hp13 hP hS => ?_)
        obtain ⟨σ13, τ13⟩ := u13
        obtain ⟨hR, f13, hq13, hp13_0, hp13_1, hp13_2⟩ : P_X12_operand σ r13 σ13 := hp13
        have pvo := hp13_0
        have hP : va_P D vwCl (gw cA ad σ13 τ13) H13 := hP
        have hF := hF.step f13 (by decide)
        have gSI := SI.fr gSI hR f13 (by decide)
        have t14 : (σ13 387 2).toInt = (σ 387 2).toInt := congrArg Int32.toInt (f13.at 387 2 (by decide))
        have hr15 := rg_12_38 hR (k := 387) (by decide) (by decide)
        have hr16 := rg_12_39 hR (k := 387) (by decide) (by decide)
        have hr17 := rg_12_40 hR (k := 387) (by decide) (by decide)
        have hr18 := rg_12_42 hR (k := 387) (by decide) (by decide)
        refine r_if_ne (tgt := 48) hx hb dX12_sentence_122 (by decide) (fun c19 => ?_) (fun c19 => ?_)
        · replace hp13_0 := hp13_0.resolve_left (by omega)
          replace hp13_1 := hp13_1.resolve_left (by omega)
          replace hp13_2 := hp13_2.resolve_left (by omega)
          have gPV : PV σ13 := by first | exact gPV | exact pvo.resolve_left (by omega)
          exact K48 σ13 τ13 H13 locs13 x1 ls hR hF hP hS (by omega) (by omega) (by omega) (by omega) (by omega) (by omega) (by omega) gSI gPV (lv_sub hl [0, 1] rfl) (by omega)
        · clear hp13_0 hp13_1 hp13_2
          refine r_iconst hx hb dX12_sentence_125 (by decide) (fun z20 ez20 => ?_)
          refine lv_aload_n hx hb dX12_sentence_126 rfl (lv_at hl 0 rfl) ?_
          refine fg_12_16 (k := 387) hx hb hts in_X12_sentence_12 hown hK hP (by decide) (by decide) (hts _ lk_X12_sentence_179) dX12_sentence_127 ?_
          have b22 := And.intro (ti_lo (σ13 387 16)) (ti_hi (σ13 387 16))
          refine r_isub hx hb dX12_sentence_130 (by omega) (fun z21 ez21 => ?_)
          exact r_iret hx hb hr hK hP hS hk dX12_sentence_131 (show P_X12_sentence σ0 z21 σ13 from ⟨hR, hF, by omega, gSI⟩)
      · exfalso; omega
    · refine lv_aload_n hx hb dX12_sentence_59 rfl (lv_at hl 0 rfl) ?_
      refine fg_12_11 (k := 387) hx hb hts in_X12_sentence_12 hown hK hP (by decide) (by decide) (hts _ lk_X12_sentence_159) dX12_sentence_60 ?_
      refine r_if_ne (tgt := 101) hx hb dX12_sentence_63 (by decide) (fun c23 => ?_) (fun c23 => ?_)
      · refine lv_aload_n hx hb dX12_sentence_101 rfl (lv_at hl 0 rfl) ?_
        refine fg_12_42 (k := 387) hx hb hts in_X12_sentence_12 hown hK hP (by decide) (by decide) (hts _ lk_X12_sentence_449) dX12_sentence_102 ?_
        refine r_if_eq (tgt := 118) hx hb dX12_sentence_105 (by decide) (fun c24 => ?_) (fun c24 => ?_)
        · exfalso; omega
        · refine lv_aload_n hx hb dX12_sentence_108 rfl (lv_at hl 0 rfl) ?_
          refine r_cVi (k := 387) (As := []) (rest := []) ⟨hx, hb, hml, hown, hts⟩ hK hP hN hS (c_X12_behind l D cA ad hI σ τ hR (by omega) (by omega) gPV) (cwV 0 hts gX12_sentence_X12_behind rfl rfl rfl (by decide +kernel) ⟨by decide, by decide⟩) (rv_M hK hP (by decide) (by decide)) rfl hl.1 rfl (Nat.le_of_ble_eq_true rfl) dX12_sentence_109 (Nat.zero_le _) (Nat.zero_le _) (fun r25 u25 H25 locs25 hp25 hP hS => ?_)
          obtain ⟨σ25, τ25⟩ := u25
          obtain ⟨hR, f25, hq25, hp25_0, hp25_1, hp25_2⟩ : P_X12_behind σ r25 σ25 := hp25
          have pvo := hp25_0
          have hP : va_P D vwCl (gw cA ad σ25 τ25) H25 := hP
          have hF := hF.step f25 (by decide)
          have gSI := SI.fr gSI hR f25 (by decide)
          have t26 : (σ25 387 2).toInt = (σ 387 2).toInt := congrArg Int32.toInt (f25.at 387 2 (by decide))
          have t27 : (σ25 387 39).toInt = (σ 387 39).toInt := congrArg Int32.toInt (f25.at 387 39 (by decide))
          have hr28 := rg_12_38 hR (k := 387) (by decide) (by decide)
          have hr29 := rg_12_40 hR (k := 387) (by decide) (by decide)
          have hr30 := rg_12_42 hR (k := 387) (by decide) (by decide)
          refine r_if_ne (tgt := 48) hx hb dX12_sentence_112 (by decide) (fun c31 => ?_) (fun c31 => ?_)
          · replace hp25_0 := hp25_0.resolve_left (by omega)
            replace hp25_1 := hp25_1.resolve_left (by omega)
            replace hp25_2 := hp25_2.resolve_left (by omega)
            have gPV : PV σ25 := by first | exact gPV | exact pvo.resolve_left (by omega)
            exact K48 σ25 τ25 H25 locs25 x1 ls hR hF hP hS (by omega) (by omega) (by omega) (by omega) (by omega) (by omega) (by omega) gSI gPV (lv_sub hl [0, 1] rfl) (by omega)
          · clear hp25_0 hp25_1 hp25_2
            refine lv_goto (tgt := 125) hx hb dX12_sentence_115 (by decide) ?_
            refine r_iconst hx hb dX12_sentence_125 (by decide) (fun z32 ez32 => ?_)
            refine lv_aload_n hx hb dX12_sentence_126 rfl (lv_at hl 0 rfl) ?_
            refine fg_12_16 (k := 387) hx hb hts in_X12_sentence_12 hown hK hP (by decide) (by decide) (hts _ lk_X12_sentence_179) dX12_sentence_127 ?_
            have b34 := And.intro (ti_lo (σ25 387 16)) (ti_hi (σ25 387 16))
            refine r_isub hx hb dX12_sentence_130 (by omega) (fun z33 ez33 => ?_)
            exact r_iret hx hb hr hK hP hS hk dX12_sentence_131 (show P_X12_sentence σ0 z33 σ25 from ⟨hR, hF, by omega, gSI⟩)
      · refine lv_aload_n hx hb dX12_sentence_66 rfl (lv_at hl 0 rfl) ?_
        refine r_cVv (k := 387) (As := []) (rest := []) ⟨hx, hb, hml, hown, hts⟩ hK hP hN hS (c_X12_nots l D cA ad hI σ τ hR (by omega) (by omega) gPV) (cwV 0 hts gX12_sentence_X12_nots rfl rfl rfl (by decide +kernel) ⟨by decide, by decide⟩) (rv_M hK hP (by decide) (by decide)) rfl hl.1 rfl (Nat.le_of_ble_eq_true rfl) dX12_sentence_67 (Nat.zero_le _) (Nat.zero_le _) (fun u35 H35 locs35 hp35 hP hS => ?_)
        obtain ⟨σ35, τ35⟩ := u35
        obtain ⟨hR, f35, hp35_0, hp35_1, gnPV⟩ : P_X12_nots σ σ35 := hp35
        have hP : va_P D vwCl (gw cA ad σ35 τ35) H35 := hP
        have hF := hF.step f35 (by decide)
        have gSI := SI.fr gSI hR f35 (by decide)
        have t36 : (σ35 387 2).toInt = (σ 387 2).toInt := congrArg Int32.toInt (f35.at 387 2 (by decide))
        have t37 : (σ35 387 39).toInt = (σ 387 39).toInt := congrArg Int32.toInt (f35.at 387 39 (by decide))
        have t38 : (σ35 387 42).toInt = (σ 387 42).toInt := congrArg Int32.toInt (f35.at 387 42 (by decide))
        have t39 : (σ35 387 11).toInt = (σ 387 11).toInt := congrArg Int32.toInt (f35.at 387 11 (by decide))
        have hr40 := rg_12_38 hR (k := 387) (by decide) (by decide)
        have hr41 := rg_12_40 hR (k := 387) (by decide) (by decide)
        have gPV := gnPV
        refine lv_aload_n hx hb dX12_sentence_70 rfl (lv_at hl 0 rfl) ?_
        refine r_bipush hx hb dX12_sentence_71 (by decide) (fun z42 ez42 => ?_)
        refine r_cVv (k := 387) (As := [.int z42]) (rest := []) ⟨hx, hb, hml, hown, hts⟩ hK hP hN hS (c_X12_joins l D cA ad hI σ35 τ35 hR z42 (by omega) (by omega) (by omega) gPV) (cwV 1 hts gX12_sentence_X12_joins rfl rfl rfl (by decide +kernel) ⟨by decide, by decide⟩) (rv_M hK hP (by decide) (by decide)) rfl hl.1 rfl (Nat.le_of_ble_eq_true rfl) dX12_sentence_73 (Nat.zero_le _) (Nat.zero_le _) (fun u43 H43 locs43 hp43 hP hS => ?_)
        obtain ⟨σ43, τ43⟩ := u43
        obtain ⟨hR, f43, hp43_0, hp43_1, hp43_2, gnPV⟩ : P_X12_joins σ35 z42 σ43 := hp43
        have hP : va_P D vwCl (gw cA ad σ43 τ43) H43 := hP
        have hF := hF.step f43 (by decide)
        have gSI := SI.fr gSI hR f43 (by decide)
        have t44 : (σ43 387 2).toInt = (σ35 387 2).toInt := congrArg Int32.toInt (f43.at 387 2 (by decide))
        have t45 : (σ43 387 39).toInt = (σ35 387 39).toInt := congrArg Int32.toInt (f43.at 387 39 (by decide))
        have t46 : (σ43 387 42).toInt = (σ35 387 42).toInt := congrArg Int32.toInt (f43.at 387 42 (by decide))
        have t47 : (σ43 387 11).toInt = (σ35 387 11).toInt := congrArg Int32.toInt (f43.at 387 11 (by decide))
        have hr48 := rg_12_38 hR (k := 387) (by decide) (by decide)
        have hr49 := rg_12_40 hR (k := 387) (by decide) (by decide)
        have gPV := gnPV
        refine lv_aload_n hx hb dX12_sentence_76 rfl (lv_at hl 0 rfl) ?_
        refine fg_12_40 (k := 387) hx hb hts in_X12_sentence_12 hown hK hP (by decide) (by decide) (hts _ lk_X12_sentence_434) dX12_sentence_77 ?_
        refine r_if_le (tgt := 96) hx hb dX12_sentence_80 (by decide) (fun c50 => ?_) (fun c50 => ?_)
        · refine r_iconst hx hb dX12_sentence_96 (by decide) (fun z51 ez51 => ?_)
          refine lv_istore_n (lv' := [(1, .int z51), (0, .ref (ad 387))]) hx hb dX12_sentence_97 rfl hl (by decide) rfl (fun ls hl => ?_)
          refine lv_goto (tgt := 48) hx hb dX12_sentence_98 (by decide) ?_
          have gPV : PV σ43 := by first | exact gPV | exact pvo.resolve_left (by omega)
          exact K48 σ43 τ43 H43 locs43 z51 ls hR hF hP hS (by omega) (by omega) (by omega) (by omega) (by omega) (by omega) (by omega) gSI gPV (lv_sub hl [1, 0] rfl) (by omega)
        · refine lv_aload_n hx hb dX12_sentence_83 rfl (lv_at hl 0 rfl) ?_
          refine r_iconst hx hb dX12_sentence_84 (by decide) (fun z52 ez52 => ?_)
          refine r_cVi (k := 387) (As := [.int z52]) (rest := []) ⟨hx, hb, hml, hown, hts⟩ hK hP hN hS (c_X12_bad l D cA ad hI σ43 τ43 hR z52 (by omega)) (cwV 1 hts gX12_sentence_X12_bad rfl rfl rfl (by decide +kernel) ⟨by decide, by decide⟩) (rv_M hK hP (by decide) (by decide)) rfl hl.1 rfl (Nat.le_of_ble_eq_true rfl) dX12_sentence_85 (Nat.zero_le _) (Nat.zero_le _) (fun r53 u53 H53 locs53 hp53 hP hS => ?_)
          obtain ⟨σ53, τ53⟩ := u53
          obtain ⟨hR, f53, hq53⟩ : P_X12_bad σ43 z52 r53 σ53 := hp53
          have hP : va_P D vwCl (gw cA ad σ53 τ53) H53 := hP
          have hF := hF.step f53 (by decide)
          have gPV := PV.fr gPV hR f53 (by decide)
          have gSI := SI.fr gSI hR f53 (by decide)
          have t54 : (σ53 387 2).toInt = (σ43 387 2).toInt := congrArg Int32.toInt (f53.at 387 2 (by decide))
          have t55 : (σ53 387 39).toInt = (σ43 387 39).toInt := congrArg Int32.toInt (f53.at 387 39 (by decide))
          have t56 : (σ53 387 42).toInt = (σ43 387 42).toInt := congrArg Int32.toInt (f53.at 387 42 (by decide))
          have t57 : (σ53 387 11).toInt = (σ43 387 11).toInt := congrArg Int32.toInt (f53.at 387 11 (by decide))
          have t58 : (σ53 387 38).toInt = (σ43 387 38).toInt := congrArg Int32.toInt (f53.at 387 38 (by decide))
          have t59 : (σ53 387 40).toInt = (σ43 387 40).toInt := congrArg Int32.toInt (f53.at 387 40 (by decide))
          refine lv_pop hx hb dX12_sentence_88 rfl ?_
          refine r_iconst hx hb dX12_sentence_89 (by decide) (fun z60 ez60 => ?_)
          refine lv_aload_n hx hb dX12_sentence_90 rfl (lv_at hl 0 rfl) ?_
          refine fg_12_16 (k := 387) hx hb hts in_X12_sentence_12 hown hK hP (by decide) (by decide) (hts _ lk_X12_sentence_179) dX12_sentence_91 ?_
          have b62 := And.intro (ti_lo (σ53 387 16)) (ti_hi (σ53 387 16))
          refine r_isub hx hb dX12_sentence_94 (by omega) (fun z61 ez61 => ?_)
          exact r_iret hx hb hr hK hP hS hk dX12_sentence_95 (show P_X12_sentence σ0 z61 σ53 from ⟨hR, hF, by omega, gSI⟩)
set_option maxHeartbeats 4000000 in
theorem B_X12_sentence_146 (p : Program) (l : Launch) (e : Env) (s : State) (m : MethodId) (args : Array Value) (below : List Frame) (meth : Method) (c : Code) (D : va_G) (cA : Nat → ClassId) (ad : Nat → Nat) (σ0 : Nat → Nat → Int32)  (n : Nat) (C : Cy p s m args meth c cX12_sentence 3 wsX12_sentence RX12 D cA ad (some .int)) (gSI0 : SI σ0) (K48 : J_X12_sentence_48 p l e s m args below meth c D cA ad σ0 n) (K146 : J_X12_sentence_146 p l e s m args below meth c D cA ad σ0 n) : J_X12_sentence_146 p l e s m args below meth c D cA ad σ0 (n + 1) := by
  obtain ⟨hx, hb, hml, hown, hts, hK, hk, hr, hI, hN⟩ := C
  intro σ τ H locs x1 x2 ls hR hF hP hS hc0 hc1 hc2 hc3 hc4 hc5 hc6 hc7 hi0 hi1 gPV hl hm
  refine lv_iload_n hx hb dX12_sentence_146 rfl (lv_at hl 2 rfl) ?_
  refine r_iconst hx hb dX12_sentence_147 (by decide) (fun z1 ez1 => ?_)
  refine lv_aload_n hx hb dX12_sentence_148 rfl (lv_at hl 0 rfl) ?_
  refine fg_12_38 (k := 387) hx hb hts in_X12_sentence_12 hown hK hP (by decide) (by decide) (hts _ lk_X12_sentence_431) dX12_sentence_149 ?_
  refine r_imulL (n := 3) hx hb dX12_sentence_152 (by omega) (by omega) (fun z2 ez2 => ?_)
  refine r_icmp_ge (tgt := 178) hx hb dX12_sentence_153 (by decide) (fun c3 => ?_) (fun c3 => ?_)
  · refine lv_aload_n hx hb dX12_sentence_178 rfl (lv_at hl 0 rfl) ?_
    refine fg_12_39 (k := 387) hx hb hts in_X12_sentence_12 hown hK hP (by decide) (by decide) (hts _ lk_X12_sentence_446) dX12_sentence_179 ?_
    exact r_iret hx hb hr hK hP hS hk dX12_sentence_182 (show P_X12_sentence σ0 (σ 387 39) σ from ⟨hR, hF, by omega, SI.sent gSI0 hF (by decide) hR gPV (by omega) (fun i hi => hi1 i (by omega))⟩)
  · refine lv_aload_n hx hb dX12_sentence_156 rfl (lv_at hl 0 rfl) ?_
    refine fg_12_6 (k := 387) hx hb hts in_X12_sentence_12 hown hK hP (by decide) (by decide) (hts _ lk_X12_sentence_33) dX12_sentence_157 ?_
    refine r_sipush hx hb dX12_sentence_160 (by decide) (fun z4 ez4 => ?_)
    refine lv_iload_n hx hb dX12_sentence_163 rfl (lv_at hl 2 rfl) ?_
    refine r_iadd hx hb dX12_sentence_164 (by omega) (fun z5 ez5 => ?_)
    refine lv_aload_n hx hb dX12_sentence_165 rfl (lv_at hl 0 rfl) ?_
    refine fg_12_8 (k := 387) hx hb hts in_X12_sentence_12 hown hK hP (by decide) (by decide) (hts _ lk_X12_sentence_40) dX12_sentence_166 ?_
    refine lv_iload_n hx hb dX12_sentence_169 rfl (lv_at hl 2 rfl) ?_
    obtain ⟨j6, ej6⟩ : ∃ j : Nat, x2.toInt = (j : Int) := ⟨_, ti_nat (by omega)⟩
    refine ad_mread (k := 391) (j := j6) hx hb hK hP (by decide) (by decide) ej6 (by omega) dX12_sentence_170 ?_
    obtain ⟨j7, ej7⟩ : ∃ j : Nat, z5.toInt = (j : Int) := ⟨_, ti_nat (by omega)⟩
    refine as_ms (k := 389) (j := j7) hx hb hK hP hI hR hS (by decide) (by decide) ej7 (by omega) (rx_ms_247 (by decide) (by decide) (by omega) (by omega)) dX12_sentence_171 (fun σ8 H8 locs8 u8 v8 hR hP hS => ?_)
    have uz := u8
    have vz := v8
    have hF := hF.puts u8 7 rfl (by decide) (by decide) (by omega) (by omega)
    have gPV := PV.putV gPV hR u8 (by intro q hq; simp only [Gd_PV, List.mem_cons, List.not_mem_nil, or_false] at hq; rcases hq with rfl | rfl | rfl | rfl | rfl <;> dsimp only [inRc] <;> omega)
    have t9 : (σ8 387 2).toInt = (σ 387 2).toInt := congrArg Int32.toInt (u8 387 2 (by omega))
    have t10 : (σ8 387 38).toInt = (σ 387 38).toInt := congrArg Int32.toInt (u8 387 38 (by omega))
    have t11 : (σ8 387 39).toInt = (σ 387 39).toInt := congrArg Int32.toInt (u8 387 39 (by omega))
    have t12 : (σ8 387 40).toInt = (σ 387 40).toInt := congrArg Int32.toInt (u8 387 40 (by omega))
    have t13 : (σ8 387 42).toInt = (σ 387 42).toInt := congrArg Int32.toInt (u8 387 42 (by omega))
    have t14 : (σ8 387 11).toInt = (σ 387 11).toInt := congrArg Int32.toInt (u8 387 11 (by omega))
    have t15 : (σ8 389 246).toInt = (σ 389 246).toInt := congrArg Int32.toInt (u8 389 246 (by omega))
    have t16 : (σ8 391 j6).toInt = (σ 391 j6).toInt := congrArg Int32.toInt (u8 391 j6 (by omega))
    refine r_iinc (k := 2) (lv1 := fun z17 => [(2, .int z17), (0, .ref (ad 387)), (1, .int x1)]) hx hb dX12_sentence_172 hl rfl (by decide) (fun _ => rfl) (by decide) (by omega) (fun z17 ls ez17 hl => ?_)
    refine lv_goto (tgt := 146) hx hb dX12_sentence_175 (by decide) ?_
    exact K146 σ8 τ H8 locs8 x1 z17 ls hR hF hP hS (by omega) (by omega) (by omega) (by omega) (by omega) (by omega) (by omega) (by omega) (by omega) (by first | exact (fun i hi => absurd hi (by omega)) | exact (fun i hi => CPs uz vz (by omega) (fun k hk => hi1 k (by omega)) i (by omega))) gPV (lv_sub hl [1, 2, 0] rfl) (by omega)
theorem A_X12_sentence (p : Program) (l : Launch) (e : Env) (s : State) (m : MethodId) (args : Array Value) (below : List Frame) (meth : Method) (c : Code) (D : va_G) (cA : Nat → ClassId) (ad : Nat → Nat) (σ0 : Nat → Nat → Int32)  (C : Cy p s m args meth c cX12_sentence 3 wsX12_sentence RX12 D cA ad (some .int)) (gSI0 : SI σ0) : ∀ n : Nat, J_X12_sentence_48 p l e s m args below meth c D cA ad σ0 n ∧ J_X12_sentence_146 p l e s m args below meth c D cA ad σ0 n := by
  intro n
  induction n with
  | zero =>
    exact ⟨(by intro σ τ H locs x1 ls hR hF hP hS hc0 hc1 hc2 hc3 hc4 hc5 hi0 gSI gPV hl hm; exfalso; omega), (by intro σ τ H locs x1 x2 ls hR hF hP hS hc0 hc1 hc2 hc3 hc4 hc5 hc6 hc7 hi0 hi1 gPV hl hm; exfalso; omega)⟩
  | succ n ih =>
    exact ⟨B_X12_sentence_48 p l e s m args below meth c D cA ad σ0 n C gSI0 ih.1 ih.2, B_X12_sentence_146 p l e s m args below meth c D cA ad σ0 n C gSI0 ih.1 ih.2⟩
set_option maxHeartbeats 4000000 in
theorem c_X12_sentence (l : Launch) (D : va_G) (cA : Nat → ClassId) (ad : Nat → Nat) (hI : Inj ad) (σ0 : Nat → Nat → Int32) (τ0 : Nat → Nat → Int64) (hR : Rg σ0)  (gSI0 : SI σ0) : Met l yX12_sentence wsX12_sentence ({ frames := 3, cells := 0, slots := 0, locals := 69 } : Room) (WQc D cA ad [.ref (ad 387)] σ0 τ0) (va_Qi (fun (r : Int32) (u : SS) => P_X12_sentence σ0 r u.1) (WB D cA ad) (AA ad)) 0 0 (AA ad) := by
  refine Met.ofW (cc := cX12_sentence) (maxL := 3) (ret := (some .int)) (by decide) rfl ?_
  intro p e s m args below meth c s₁ B hml hv
  obtain ⟨rfl, hP, hK, hN⟩ := hv
  have C : Cy p s m _ meth c cX12_sentence 3 wsX12_sentence RX12 D cA ad (some .int) := ⟨B.exec, B.bytes, hml, findClass_of_methodNamed B.named, atoms_spec (ws := wsX12_sentence) B.pre, hK, B.notSynchronized, B.returns, hI, hN⟩
  have hl := lv_entry ([.ref (ad 387)]) (n := 3) (Nat.le_of_ble_eq_true rfl)
  rw [lg_entry_eq]
  generalize (lg_sl ([.ref (ad 387)]) ++ List.replicate (3 - (lg_sl ([.ref (ad 387)])).length) Slot.unset).toArray = ls at hl ⊢
  have hl : lv_has ls 3 [(0, .ref (ad 387))] := hl
  have hS : va_S (AA ad) s.heap s.heap [] := va_S.rf
  have hF : Fr L_X12_sentence σ0 σ0 := Fr.rf
  have gSI := gSI0
  have hA := A_X12_sentence p l e s m _ below meth c D cA ad σ0 C gSI0 1192437
  have K48 := hA.1
  have K146 := hA.2
  clear hA
  obtain ⟨hx, hb, _, hown, hts, _, hk, hr, _, _⟩ := C
  have hrt38 := rg_12_38 hR (k := 387) (by decide) (by decide)
  have hrt39 := rg_12_39 hR (k := 387) (by decide) (by decide)
  have hrt40 := rg_12_40 hR (k := 387) (by decide) (by decide)
  have hrt42 := rg_12_42 hR (k := 387) (by decide) (by decide)
  have hrt2 := rg_12_2 hR (k := 387) (by decide) (by decide)
  refine lv_aload_n hx hb dX12_sentence_0 rfl (lv_at hl 0 rfl) ?_
  refine r_iconst hx hb dX12_sentence_1 (by decide) (fun z1 ez1 => ?_)
  refine fp_12_0 (k := 387) hx hb hts in_X12_sentence_12 hown hK hP (by decide) (by decide) (hts _ lk_X12_sentence_1) hI hR hS (by omega) dX12_sentence_2 (fun σ2 H2 locs2 u2 v2 hR hP hS => ?_)
  have hF := hF.puts u2 0 rfl (by decide) (by decide) (by decide) (by decide)
  have gSI := SI.put gSI hR u2 (by decide)
  have t3 : (σ2 387 38).toInt = (σ0 387 38).toInt := congrArg Int32.toInt (u2 387 38 (by omega))
  have t4 : (σ2 387 39).toInt = (σ0 387 39).toInt := congrArg Int32.toInt (u2 387 39 (by omega))
  have t5 : (σ2 387 40).toInt = (σ0 387 40).toInt := congrArg Int32.toInt (u2 387 40 (by omega))
  have t6 : (σ2 387 42).toInt = (σ0 387 42).toInt := congrArg Int32.toInt (u2 387 42 (by omega))
  have t7 : (σ2 387 11).toInt = (σ0 387 11).toInt := congrArg Int32.toInt (u2 387 11 (by omega))
  have t8 : (σ2 387 2).toInt = (σ0 387 2).toInt := congrArg Int32.toInt (u2 387 2 (by omega))
  refine lv_aload_n hx hb dX12_sentence_5 rfl (lv_at hl 0 rfl) ?_
  refine r_sipush hx hb dX12_sentence_6 (by decide) (fun z9 ez9 => ?_)
  refine r_cVv (k := 387) (As := [.int z9]) (rest := []) ⟨hx, hb, hml, hown, hts⟩ hK hP hN hS (c_X12_taken l D cA ad hI σ2 τ0 hR z9 (by omega)) (cwV 1 hts gX12_sentence_X12_taken rfl rfl rfl (by decide +kernel) ⟨by decide, by decide⟩) (rv_M hK hP (by decide) (by decide)) rfl hl.1 rfl (Nat.le_of_ble_eq_true rfl) dX12_sentence_9 (Nat.zero_le _) (Nat.zero_le _) (fun u10 H10 locs10 hp10 hP hS => ?_)
  obtain ⟨σ10, τ10⟩ := u10
  obtain ⟨hR, f10, hp10_0⟩ : P_X12_taken σ2 z9 σ10 := hp10
  have hP : va_P D vwCl (gw cA ad σ10 τ10) H10 := hP
  have hF := hF.step f10 (by decide)
  have gSI := SI.fr gSI hR f10 (by decide)
  have t11 : (σ10 387 38).toInt = (σ2 387 38).toInt := congrArg Int32.toInt (f10.at 387 38 (by decide))
  have t12 : (σ10 387 39).toInt = (σ2 387 39).toInt := congrArg Int32.toInt (f10.at 387 39 (by decide))
  have t13 : (σ10 387 40).toInt = (σ2 387 40).toInt := congrArg Int32.toInt (f10.at 387 40 (by decide))
  have t14 : (σ10 387 42).toInt = (σ2 387 42).toInt := congrArg Int32.toInt (f10.at 387 42 (by decide))
  have t15 : (σ10 387 11).toInt = (σ2 387 11).toInt := congrArg Int32.toInt (f10.at 387 11 (by decide))
  have hr16 := rg_12_2 hR (k := 387) (by decide) (by decide)
  refine lv_aload_n hx hb dX12_sentence_12 rfl (lv_at hl 0 rfl) ?_
  refine r_iconst hx hb dX12_sentence_13 (by decide) (fun z17 ez17 => ?_)
  refine fp_12_15 (k := 387) hx hb hts in_X12_sentence_12 hown hK hP (by decide) (by decide) (hts _ lk_X12_sentence_176) hI hR hS dX12_sentence_14 (fun σ18 H18 locs18 u18 v18 hR hP hS => ?_)
  have hF := hF.puts u18 3 rfl (by decide) (by decide) (by decide) (by decide)
  have gSI := SI.put gSI hR u18 (by decide)
  have t19 : (σ18 387 38).toInt = (σ10 387 38).toInt := congrArg Int32.toInt (u18 387 38 (by omega))
  have t20 : (σ18 387 39).toInt = (σ10 387 39).toInt := congrArg Int32.toInt (u18 387 39 (by omega))
  have t21 : (σ18 387 40).toInt = (σ10 387 40).toInt := congrArg Int32.toInt (u18 387 40 (by omega))
  have t22 : (σ18 387 42).toInt = (σ10 387 42).toInt := congrArg Int32.toInt (u18 387 42 (by omega))
  have t23 : (σ18 387 11).toInt = (σ10 387 11).toInt := congrArg Int32.toInt (u18 387 11 (by omega))
  have t24 : (σ18 387 2).toInt = (σ10 387 2).toInt := congrArg Int32.toInt (u18 387 2 (by omega))
  refine lv_aload_n hx hb dX12_sentence_17 rfl (lv_at hl 0 rfl) ?_
  refine r_iconst hx hb dX12_sentence_18 (by decide) (fun z25 ez25 => ?_)
  refine fp_12_38 (k := 387) hx hb hts in_X12_sentence_12 hown hK hP (by decide) (by decide) (hts _ lk_X12_sentence_431) hI hR hS (by omega) dX12_sentence_19 (fun σ26 H26 locs26 u26 v26 hR hP hS => ?_)
  have hF := hF.puts u26 2 rfl (by decide) (by decide) (by decide) (by decide)
  have gSI := SI.put gSI hR u26 (by decide)
  have t27 : (σ26 387 39).toInt = (σ18 387 39).toInt := congrArg Int32.toInt (u26 387 39 (by omega))
  have t28 : (σ26 387 40).toInt = (σ18 387 40).toInt := congrArg Int32.toInt (u26 387 40 (by omega))
  have t29 : (σ26 387 42).toInt = (σ18 387 42).toInt := congrArg Int32.toInt (u26 387 42 (by omega))
  have t30 : (σ26 387 11).toInt = (σ18 387 11).toInt := congrArg Int32.toInt (u26 387 11 (by omega))
  have t31 : (σ26 387 2).toInt = (σ18 387 2).toInt := congrArg Int32.toInt (u26 387 2 (by omega))
  refine lv_aload_n hx hb dX12_sentence_22 rfl (lv_at hl 0 rfl) ?_
  refine r_iconst hx hb dX12_sentence_23 (by decide) (fun z32 ez32 => ?_)
  refine fp_12_39 (k := 387) hx hb hts in_X12_sentence_12 hown hK hP (by decide) (by decide) (hts _ lk_X12_sentence_446) hI hR hS (by omega) dX12_sentence_24 (fun σ33 H33 locs33 u33 v33 hR hP hS => ?_)
  have hF := hF.puts u33 2 rfl (by decide) (by decide) (by decide) (by decide)
  have gSI := SI.put gSI hR u33 (by decide)
  have t34 : (σ33 387 40).toInt = (σ26 387 40).toInt := congrArg Int32.toInt (u33 387 40 (by omega))
  have t35 : (σ33 387 42).toInt = (σ26 387 42).toInt := congrArg Int32.toInt (u33 387 42 (by omega))
  have t36 : (σ33 387 11).toInt = (σ26 387 11).toInt := congrArg Int32.toInt (u33 387 11 (by omega))
  have t37 : (σ33 387 2).toInt = (σ26 387 2).toInt := congrArg Int32.toInt (u33 387 2 (by omega))
  have t38 : (σ33 387 38).toInt = (σ26 387 38).toInt := congrArg Int32.toInt (u33 387 38 (by omega))
  refine lv_aload_n hx hb dX12_sentence_27 rfl (lv_at hl 0 rfl) ?_
  refine r_iconst hx hb dX12_sentence_28 (by decide) (fun z39 ez39 => ?_)
  refine fp_12_40 (k := 387) hx hb hts in_X12_sentence_12 hown hK hP (by decide) (by decide) (hts _ lk_X12_sentence_434) hI hR hS (by omega) dX12_sentence_29 (fun σ40 H40 locs40 u40 v40 hR hP hS => ?_)
  have hF := hF.puts u40 2 rfl (by decide) (by decide) (by decide) (by decide)
  have gSI := SI.put gSI hR u40 (by decide)
  have t41 : (σ40 387 42).toInt = (σ33 387 42).toInt := congrArg Int32.toInt (u40 387 42 (by omega))
  have t42 : (σ40 387 11).toInt = (σ33 387 11).toInt := congrArg Int32.toInt (u40 387 11 (by omega))
  have t43 : (σ40 387 2).toInt = (σ33 387 2).toInt := congrArg Int32.toInt (u40 387 2 (by omega))
  have t44 : (σ40 387 38).toInt = (σ33 387 38).toInt := congrArg Int32.toInt (u40 387 38 (by omega))
  have t45 : (σ40 387 39).toInt = (σ33 387 39).toInt := congrArg Int32.toInt (u40 387 39 (by omega))
  refine lv_aload_n hx hb dX12_sentence_32 rfl (lv_at hl 0 rfl) ?_
  refine r_iconst hx hb dX12_sentence_33 (by decide) (fun z46 ez46 => ?_)
  refine fp_12_41 (k := 387) hx hb hts in_X12_sentence_12 hown hK hP (by decide) (by decide) (hts _ lk_X12_sentence_440) hI hR hS dX12_sentence_34 (fun σ47 H47 locs47 u47 v47 hR hP hS => ?_)
  have hF := hF.puts u47 2 rfl (by decide) (by decide) (by decide) (by decide)
  have gSI := SI.put gSI hR u47 (by decide)
  have t48 : (σ47 387 42).toInt = (σ40 387 42).toInt := congrArg Int32.toInt (u47 387 42 (by omega))
  have t49 : (σ47 387 11).toInt = (σ40 387 11).toInt := congrArg Int32.toInt (u47 387 11 (by omega))
  have t50 : (σ47 387 2).toInt = (σ40 387 2).toInt := congrArg Int32.toInt (u47 387 2 (by omega))
  have t51 : (σ47 387 38).toInt = (σ40 387 38).toInt := congrArg Int32.toInt (u47 387 38 (by omega))
  have t52 : (σ47 387 39).toInt = (σ40 387 39).toInt := congrArg Int32.toInt (u47 387 39 (by omega))
  have t53 : (σ47 387 40).toInt = (σ40 387 40).toInt := congrArg Int32.toInt (u47 387 40 (by omega))
  refine lv_aload_n hx hb dX12_sentence_37 rfl (lv_at hl 0 rfl) ?_
  refine r_iconst hx hb dX12_sentence_38 (by decide) (fun z54 ez54 => ?_)
  refine fp_12_42 (k := 387) hx hb hts in_X12_sentence_12 hown hK hP (by decide) (by decide) (hts _ lk_X12_sentence_449) hI hR hS (by omega) dX12_sentence_39 (fun σ55 H55 locs55 u55 v55 hR hP hS => ?_)
  have hF := hF.puts u55 2 rfl (by decide) (by decide) (by decide) (by decide)
  have gSI := SI.put gSI hR u55 (by decide)
  have t56 : (σ55 387 11).toInt = (σ47 387 11).toInt := congrArg Int32.toInt (u55 387 11 (by omega))
  have t57 : (σ55 387 2).toInt = (σ47 387 2).toInt := congrArg Int32.toInt (u55 387 2 (by omega))
  have t58 : (σ55 387 38).toInt = (σ47 387 38).toInt := congrArg Int32.toInt (u55 387 38 (by omega))
  have t59 : (σ55 387 39).toInt = (σ47 387 39).toInt := congrArg Int32.toInt (u55 387 39 (by omega))
  have t60 : (σ55 387 40).toInt = (σ47 387 40).toInt := congrArg Int32.toInt (u55 387 40 (by omega))
  have gPV := PV.start (σ := σ55) (by omega) (by omega) (by omega)
  refine lv_aload_n hx hb dX12_sentence_42 rfl (lv_at hl 0 rfl) ?_
  refine r_cVv (k := 387) (As := []) (rest := []) ⟨hx, hb, hml, hown, hts⟩ hK hP hN hS (c_X12_next l D cA ad hI σ55 τ10 hR) (cwV 0 hts gX12_sentence_X12_next rfl rfl rfl (by decide +kernel) ⟨by decide, by decide⟩) (rv_M hK hP (by decide) (by decide)) rfl hl.1 rfl (Nat.le_of_ble_eq_true rfl) dX12_sentence_43 (Nat.zero_le _) (Nat.zero_le _) (fun u61 H61 locs61 hp61 hP hS => ?_)
  obtain ⟨σ61, τ61⟩ := u61
  obtain ⟨hR, f61, hp61_0, hp61_1, hp61_2⟩ : P_X12_next σ55 σ61 := hp61
  have hP : va_P D vwCl (gw cA ad σ61 τ61) H61 := hP
  have hF := hF.step f61 (by decide)
  have gPV := PV.fr gPV hR f61 (by decide)
  have gSI := SI.fr gSI hR f61 (by decide)
  have t62 : (σ61 387 2).toInt = (σ55 387 2).toInt := congrArg Int32.toInt (f61.at 387 2 (by decide))
  have t63 : (σ61 387 38).toInt = (σ55 387 38).toInt := congrArg Int32.toInt (f61.at 387 38 (by decide))
  have t64 : (σ61 387 39).toInt = (σ55 387 39).toInt := congrArg Int32.toInt (f61.at 387 39 (by decide))
  have t65 : (σ61 387 40).toInt = (σ55 387 40).toInt := congrArg Int32.toInt (f61.at 387 40 (by decide))
  have t66 : (σ61 387 42).toInt = (σ55 387 42).toInt := congrArg Int32.toInt (f61.at 387 42 (by decide))
  refine r_iconst hx hb dX12_sentence_46 (by decide) (fun z67 ez67 => ?_)
  refine lv_istore_n (lv' := [(1, .int z67), (0, .ref (ad 387))]) hx hb dX12_sentence_47 rfl hl (by decide) rfl (fun ls hl => ?_)
  have gPV : PV σ61 := by first | exact gPV | exact pvo.resolve_left (by omega)
  exact K48 σ61 τ61 H61 locs61 z67 ls hR hF hP hS (by omega) (by omega) (by omega) (by omega) (by omega) (by omega) (by omega) gSI gPV (lv_sub hl [1, 0] rfl) (by omega)
theorem in_X12_hasHeard_12 : ∀ w ∈ u_ws RX12 TX12 47, w ∈ wsX12_hasHeard := by decide +kernel
theorem lk_X12_hasHeard_33 : Cond.fieldLink RX12 33 "CuckooSharesModel" "s" "[I" ∈ wsX12_hasHeard := by decide +kernel
abbrev L_X12_hasHeard : List Rc := [(394, 394, 0, 7), (395, 395, 0, 7), (396, 396, 0, 7)]
def P_X12_hasHeard (σ0 : Nat → Nat → Int32) (a1 : Int32) (r : Int32) (σ : Nat → Nat → Int32) : Prop := Rg σ ∧ Fr L_X12_hasHeard σ0 σ ∧ (0 ≤ r.toInt ∧ r.toInt ≤ 1)
def J_X12_hasHeard_11 (p : Program) (l : Launch) (e : Env) (s : State) (m : MethodId) (args : Array Value) (below : List Frame) (meth : Method) (c : Code) (D : va_G) (cA : Nat → ClassId) (ad : Nat → Nat) (σ0 : Nat → Nat → Int32) (a1 : Int32) (n : Nat) : Prop := ∀ (σ : Nat → Nat → Int32) (τ : Nat → Nat → Int64) (H : Heap) (locs : List Loc) (x2 : Int32) (x3 : Int32) (ls : Array Slot), Rg σ → Fr L_X12_hasHeard σ0 σ → va_P D vwCl (gw cA ad σ τ) H → va_S (AA ad) s.heap H locs → (0 ≤ x2.toInt ∧ x2.toInt ≤ 10) → (0 ≤ x3.toInt ∧ x3.toInt ≤ 10) → lv_has ls 4 [(0, .ref (ad 387)), (1, .int a1), (2, .int x2), (3, .int x3)] → 2 * (10 - x3.toInt) + 1 < (n : Int) → W p l e ({ frames := 3, cells := 0, slots := 0, locals := 69 } : Room) s m args below meth c H locs 0 0 (MQ below (va_Qi (fun (r : Int32) (u : SS) => P_X12_hasHeard σ0 a1 r u.1) (WB D cA ad) (AA ad)) args s 0 0 (AA ad)) (F0 m 11 ls [])
set_option maxHeartbeats 4000000 in
theorem B_X12_hasHeard_11 (p : Program) (l : Launch) (e : Env) (s : State) (m : MethodId) (args : Array Value) (below : List Frame) (meth : Method) (c : Code) (D : va_G) (cA : Nat → ClassId) (ad : Nat → Nat) (σ0 : Nat → Nat → Int32) (a1 : Int32) (n : Nat) (C : Cy p s m args meth c cX12_hasHeard 4 wsX12_hasHeard RX12 D cA ad (some .boolean)) (ha1 : 0 ≤ a1.toInt ∧ a1.toInt ≤ 7) (K11 : J_X12_hasHeard_11 p l e s m args below meth c D cA ad σ0 a1 n) : J_X12_hasHeard_11 p l e s m args below meth c D cA ad σ0 a1 (n + 1) := by
  obtain ⟨hx, hb, hml, hown, hts, hK, hk, hr, hI, hN⟩ := C
  intro σ τ H locs x2 x3 ls hR hF hP hS hc0 hc1 hl hm
  refine lv_iload_n hx hb dX12_hasHeard_11 rfl (lv_at hl 3 rfl) ?_
  refine lv_iload_n hx hb dX12_hasHeard_12 rfl (lv_at hl 2 rfl) ?_
  refine r_icmp_ge (tgt := 43) hx hb dX12_hasHeard_13 (by decide) (fun c1 => ?_) (fun c1 => ?_)
  · refine r_iconst hx hb dX12_hasHeard_43 (by decide) (fun z2 ez2 => ?_)
    exact r_zret hx hb hr hK hP hS hk (by omega) dX12_hasHeard_44 (show P_X12_hasHeard σ0 a1 z2 σ from ⟨hR, hF, by omega⟩)
  · refine lv_aload_n hx hb dX12_hasHeard_16 rfl (lv_at hl 0 rfl) ?_
    refine lv_iload_n hx hb dX12_hasHeard_17 rfl (lv_at hl 1 rfl) ?_
    refine lv_aload_n hx hb dX12_hasHeard_18 rfl (lv_at hl 0 rfl) ?_
    refine fg_12_6 (k := 387) hx hb hts in_X12_hasHeard_12 hown hK hP (by decide) (by decide) (hts _ lk_X12_hasHeard_33) dX12_hasHeard_19 ?_
    refine r_sipush hx hb dX12_hasHeard_22 (by decide) (fun z3 ez3 => ?_)
    refine ad_ms (k := 389) (j := 212) hx hb hK hP (by decide) (by decide) (by omega) (by omega) dX12_hasHeard_25 ?_
    have hr4 := ra_ms_5 hR (k := 389) (j := 212) (by decide) (by decide) (by decide) (by decide)
    refine r_iconst hx hb dX12_hasHeard_26 (by decide) (fun z5 ez5 => ?_)
    refine r_isub hx hb dX12_hasHeard_27 (by omega) (fun z6 ez6 => ?_)
    refine lv_iload_n hx hb dX12_hasHeard_28 rfl (lv_at hl 3 rfl) ?_
    refine r_cVi (k := 387) (As := [.int a1, .int z6, .int x3]) (rest := []) ⟨hx, hb, hml, hown, hts⟩ hK hP hN hS (c_X12_canHear l D cA ad hI σ τ hR a1 z6 x3 (by omega) (by omega) (by omega)) (cwV 3 hts gX12_hasHeard_X12_canHear rfl rfl rfl (by decide +kernel) ⟨by decide, by decide⟩) (rv_M hK hP (by decide) (by decide)) rfl hl.1 rfl (Nat.le_of_ble_eq_true rfl) dX12_hasHeard_29 (Nat.zero_le _) (Nat.zero_le _) (fun r7 u7 H7 locs7 hp7 hP hS => ?_)
    obtain ⟨σ7, τ7⟩ := u7
    obtain ⟨hR, f7, hq7⟩ : P_X12_canHear σ a1 z6 x3 r7 σ7 := hp7
    have hP : va_P D vwCl (gw cA ad σ7 τ7) H7 := hP
    obtain rfl := Fr.nil f7
    refine r_if_eq (tgt := 37) hx hb dX12_hasHeard_32 (by decide) (fun c8 => ?_) (fun c8 => ?_)
    · refine r_iinc (k := 3) (lv1 := fun z9 => [(3, .int z9), (0, .ref (ad 387)), (1, .int a1), (2, .int x2)]) hx hb dX12_hasHeard_37 hl rfl (by decide) (fun _ => rfl) (by decide) (by omega) (fun z9 ls ez9 hl => ?_)
      refine lv_goto (tgt := 11) hx hb dX12_hasHeard_40 (by decide) ?_
      exact K11 σ τ7 H7 locs7 x2 z9 ls hR hF hP hS (by omega) (by omega) (lv_sub hl [1, 2, 3, 0] rfl) (by omega)
    · refine r_iconst hx hb dX12_hasHeard_35 (by decide) (fun z10 ez10 => ?_)
      exact r_zret hx hb hr hK hP hS hk (by omega) dX12_hasHeard_36 (show P_X12_hasHeard σ0 a1 z10 σ from ⟨hR, hF, by omega⟩)
theorem A_X12_hasHeard (p : Program) (l : Launch) (e : Env) (s : State) (m : MethodId) (args : Array Value) (below : List Frame) (meth : Method) (c : Code) (D : va_G) (cA : Nat → ClassId) (ad : Nat → Nat) (σ0 : Nat → Nat → Int32) (a1 : Int32) (C : Cy p s m args meth c cX12_hasHeard 4 wsX12_hasHeard RX12 D cA ad (some .boolean)) (ha1 : 0 ≤ a1.toInt ∧ a1.toInt ≤ 7) : ∀ n : Nat, J_X12_hasHeard_11 p l e s m args below meth c D cA ad σ0 a1 n := by
  intro n
  induction n with
  | zero =>
    exact (by intro σ τ H locs x2 x3 ls hR hF hP hS hc0 hc1 hl hm; exfalso; omega)
  | succ n ih =>
    exact B_X12_hasHeard_11 p l e s m args below meth c D cA ad σ0 a1 n C ha1 ih
set_option maxHeartbeats 4000000 in
theorem c_X12_hasHeard (l : Launch) (D : va_G) (cA : Nat → ClassId) (ad : Nat → Nat) (hI : Inj ad) (σ0 : Nat → Nat → Int32) (τ0 : Nat → Nat → Int64) (hR : Rg σ0) (a1 : Int32) (ha1 : 0 ≤ a1.toInt ∧ a1.toInt ≤ 7) : Met l yX12_hasHeard wsX12_hasHeard ({ frames := 3, cells := 0, slots := 0, locals := 69 } : Room) (WQc D cA ad [.ref (ad 387), .int a1] σ0 τ0) (va_Qi (fun (r : Int32) (u : SS) => P_X12_hasHeard σ0 a1 r u.1) (WB D cA ad) (AA ad)) 0 0 (AA ad) := by
  refine Met.ofW (cc := cX12_hasHeard) (maxL := 4) (ret := (some .boolean)) (by decide) rfl ?_
  intro p e s m args below meth c s₁ B hml hv
  obtain ⟨rfl, hP, hK, hN⟩ := hv
  have C : Cy p s m _ meth c cX12_hasHeard 4 wsX12_hasHeard RX12 D cA ad (some .boolean) := ⟨B.exec, B.bytes, hml, findClass_of_methodNamed B.named, atoms_spec (ws := wsX12_hasHeard) B.pre, hK, B.notSynchronized, B.returns, hI, hN⟩
  have hl := lv_entry ([.ref (ad 387), .int a1]) (n := 4) (Nat.le_of_ble_eq_true rfl)
  rw [lg_entry_eq]
  generalize (lg_sl ([.ref (ad 387), .int a1]) ++ List.replicate (4 - (lg_sl ([.ref (ad 387), .int a1])).length) Slot.unset).toArray = ls at hl ⊢
  have hl : lv_has ls 4 [(0, .ref (ad 387)), (1, .int a1)] := hl
  have hS : va_S (AA ad) s.heap s.heap [] := va_S.rf
  have hF : Fr L_X12_hasHeard σ0 σ0 := Fr.rf
  have hA := A_X12_hasHeard p l e s m _ below meth c D cA ad σ0 a1 C ha1 50
  have K11 := hA
  clear hA
  obtain ⟨hx, hb, _, hown, hts, _, hk, hr, _, _⟩ := C
  refine lv_aload_n hx hb dX12_hasHeard_0 rfl (lv_at hl 0 rfl) ?_
  refine r_cVv (k := 387) (As := []) (rest := []) ⟨hx, hb, hml, hown, hts⟩ hK hP hN hS (c_X12_asNow l D cA ad hI σ0 τ0 hR) (cwV 0 hts gX12_hasHeard_X12_asNow rfl rfl rfl (by decide +kernel) ⟨by decide, by decide⟩) (rv_M hK hP (by decide) (by decide)) rfl hl.1 rfl (Nat.le_of_ble_eq_true rfl) dX12_hasHeard_1 (Nat.zero_le _) (Nat.zero_le _) (fun u1 H1 locs1 hp1 hP hS => ?_)
  obtain ⟨σ1, τ1⟩ := u1
  obtain ⟨hR, f1⟩ : P_X12_asNow σ0 σ1 := hp1
  have hP : va_P D vwCl (gw cA ad σ1 τ1) H1 := hP
  have hF := hF.step f1 (by decide)
  refine lv_aload_n hx hb dX12_hasHeard_4 rfl (lv_at hl 0 rfl) ?_
  refine r_cVi (k := 387) (As := []) (rest := []) ⟨hx, hb, hml, hown, hts⟩ hK hP hN hS (c_X12_pastOf l D cA ad hI σ1 τ1 hR) (cwV 0 hts gX12_hasHeard_X12_pastOf rfl rfl rfl (by decide +kernel) ⟨by decide, by decide⟩) (rv_M hK hP (by decide) (by decide)) rfl hl.1 rfl (Nat.le_of_ble_eq_true rfl) dX12_hasHeard_5 (Nat.zero_le _) (Nat.zero_le _) (fun r2 u2 H2 locs2 hp2 hP hS => ?_)
  obtain ⟨σ2, τ2⟩ := u2
  obtain ⟨hR, f2, hq2⟩ : P_X12_pastOf σ1 r2 σ2 := hp2
  have hP : va_P D vwCl (gw cA ad σ2 τ2) H2 := hP
  obtain rfl := Fr.nil f2
  refine lv_istore_n (lv' := [(2, .int r2), (0, .ref (ad 387)), (1, .int a1)]) hx hb dX12_hasHeard_8 rfl hl (by decide) rfl (fun ls hl => ?_)
  refine r_iconst hx hb dX12_hasHeard_9 (by decide) (fun z3 ez3 => ?_)
  refine lv_istore_n (lv' := [(3, .int z3), (2, .int r2), (0, .ref (ad 387)), (1, .int a1)]) hx hb dX12_hasHeard_10 rfl hl (by decide) rfl (fun ls hl => ?_)
  exact K11 σ1 τ2 H2 locs2 r2 z3 ls hR hF hP hS (by omega) (by omega) (lv_sub hl [2, 3, 1, 0] rfl) (by omega)
theorem in_X12_isLeaf_12 : ∀ w ∈ u_ws RX12 TX12 47, w ∈ wsX12_isLeaf := by decide +kernel
theorem lk_X12_isLeaf_33 : Cond.fieldLink RX12 33 "CuckooSharesModel" "s" "[I" ∈ wsX12_isLeaf := by decide +kernel
abbrev L_X12_isLeaf : List Rc := [(394, 394, 0, 7), (395, 395, 0, 7), (396, 396, 0, 7)]
def P_X12_isLeaf (σ0 : Nat → Nat → Int32) (a1 : Int32) (a2 : Int32) (a3 : Int32) (a4 : Int32) (r : Int32) (σ : Nat → Nat → Int32) : Prop := Rg σ ∧ Fr L_X12_isLeaf σ0 σ ∧ (0 ≤ r.toInt ∧ r.toInt ≤ 1)
def J_X12_isLeaf_207 (p : Program) (l : Launch) (e : Env) (s : State) (m : MethodId) (args : Array Value) (below : List Frame) (meth : Method) (c : Code) (D : va_G) (cA : Nat → ClassId) (ad : Nat → Nat) (σ0 : Nat → Nat → Int32) (a1 : Int32) (a2 : Int32) (a3 : Int32) (a4 : Int32) (n : Nat) : Prop := ∀ (σ : Nat → Nat → Int32) (τ : Nat → Nat → Int64) (H : Heap) (locs : List Loc) (w0 : Int32) (ls : Array Slot), Rg σ → Fr L_X12_isLeaf σ0 σ → va_P D vwCl (gw cA ad σ τ) H → va_S (AA ad) s.heap H locs → lv_has ls 6 [(0, .ref (ad 387)), (1, .int a1), (2, .int a2), (3, .int a3), (4, .int a4)] → 1 < (n : Int) → W p l e ({ frames := 4, cells := 0, slots := 0, locals := 92 } : Room) s m args below meth c H locs 0 0 (MQ below (va_Qi (fun (r : Int32) (u : SS) => P_X12_isLeaf σ0 a1 a2 a3 a4 r u.1) (WB D cA ad) (AA ad)) args s 0 0 (AA ad)) (F0 m 207 ls [.int w0])
set_option maxHeartbeats 4000000 in
theorem B_X12_isLeaf_207 (p : Program) (l : Launch) (e : Env) (s : State) (m : MethodId) (args : Array Value) (below : List Frame) (meth : Method) (c : Code) (D : va_G) (cA : Nat → ClassId) (ad : Nat → Nat) (σ0 : Nat → Nat → Int32) (a1 : Int32) (a2 : Int32) (a3 : Int32) (a4 : Int32) (n : Nat) (C : Cy p s m args meth c cX12_isLeaf 6 wsX12_isLeaf RX12 D cA ad (some .boolean)) (ha1 : 0 ≤ a1.toInt ∧ a1.toInt ≤ 7) (K207 : J_X12_isLeaf_207 p l e s m args below meth c D cA ad σ0 a1 a2 a3 a4 n) : J_X12_isLeaf_207 p l e s m args below meth c D cA ad σ0 a1 a2 a3 a4 (n + 1) := by
  obtain ⟨hx, hb, hml, hown, hts, hK, hk, hr, hI, hN⟩ := C
  intro σ τ H locs w0 ls hR hF hP hS hl hm
  refine lv_istore (lv' := [(5, .int w0), (0, .ref (ad 387)), (1, .int a1), (2, .int a2), (3, .int a3), (4, .int a4)]) hx hb dX12_isLeaf_207 hl (by decide) rfl (fun ls hl => ?_)
  refine lv_iload_n hx hb dX12_isLeaf_209 rfl (lv_at hl 4 rfl) ?_
  refine r_bipush hx hb dX12_isLeaf_210 (by decide) (fun z1 ez1 => ?_)
  refine r_icmp_ne (tgt := 230) hx hb dX12_isLeaf_212 (by decide) (fun c2 => ?_) (fun c2 => ?_)
  · refine lv_iload_n hx hb dX12_isLeaf_230 rfl (lv_at hl 4 rfl) ?_
    refine r_bipush hx hb dX12_isLeaf_231 (by decide) (fun z3 ez3 => ?_)
    refine r_icmp_ne (tgt := 251) hx hb dX12_isLeaf_233 (by decide) (fun c4 => ?_) (fun c4 => ?_)
    · refine lv_iload hx hb dX12_isLeaf_251 (lv_at hl 0 rfl) ?_
      refine lv_iload hx hb dX12_isLeaf_253 (lv_at hl 5 rfl) ?_
      refine r_icmp_le (tgt := 262) hx hb dX12_isLeaf_255 (by decide) (fun c5 => ?_) (fun c5 => ?_)
      · refine r_iconst hx hb dX12_isLeaf_262 (by decide) (fun z6 ez6 => ?_)
        exact r_zret hx hb hr hK hP hS hk (by omega) dX12_isLeaf_263 (show P_X12_isLeaf σ0 a1 a2 a3 a4 z6 σ from ⟨hR, hF, by omega⟩)
      · refine r_iconst hx hb dX12_isLeaf_258 (by decide) (fun z7 ez7 => ?_)
        refine lv_goto (tgt := 263) hx hb dX12_isLeaf_259 (by decide) ?_
        exact r_zret hx hb hr hK hP hS hk (by omega) dX12_isLeaf_263 (show P_X12_isLeaf σ0 a1 a2 a3 a4 z7 σ from ⟨hR, hF, by omega⟩)
    · refine lv_iload hx hb dX12_isLeaf_236 (lv_at hl 0 rfl) ?_
      refine lv_iload hx hb dX12_isLeaf_238 (lv_at hl 5 rfl) ?_
      refine r_icmp_ne (tgt := 247) hx hb dX12_isLeaf_240 (by decide) (fun c8 => ?_) (fun c8 => ?_)
      · refine r_iconst hx hb dX12_isLeaf_247 (by decide) (fun z9 ez9 => ?_)
        refine lv_goto (tgt := 263) hx hb dX12_isLeaf_248 (by decide) ?_
        exact r_zret hx hb hr hK hP hS hk (by omega) dX12_isLeaf_263 (show P_X12_isLeaf σ0 a1 a2 a3 a4 z9 σ from ⟨hR, hF, by omega⟩)
      · refine r_iconst hx hb dX12_isLeaf_243 (by decide) (fun z10 ez10 => ?_)
        refine lv_goto (tgt := 263) hx hb dX12_isLeaf_244 (by decide) ?_
        exact r_zret hx hb hr hK hP hS hk (by omega) dX12_isLeaf_263 (show P_X12_isLeaf σ0 a1 a2 a3 a4 z10 σ from ⟨hR, hF, by omega⟩)
  · refine lv_iload hx hb dX12_isLeaf_215 (lv_at hl 0 rfl) ?_
    refine lv_iload hx hb dX12_isLeaf_217 (lv_at hl 5 rfl) ?_
    refine r_icmp_ge (tgt := 226) hx hb dX12_isLeaf_219 (by decide) (fun c11 => ?_) (fun c11 => ?_)
    · refine r_iconst hx hb dX12_isLeaf_226 (by decide) (fun z12 ez12 => ?_)
      refine lv_goto (tgt := 263) hx hb dX12_isLeaf_227 (by decide) ?_
      exact r_zret hx hb hr hK hP hS hk (by omega) dX12_isLeaf_263 (show P_X12_isLeaf σ0 a1 a2 a3 a4 z12 σ from ⟨hR, hF, by omega⟩)
    · refine r_iconst hx hb dX12_isLeaf_222 (by decide) (fun z13 ez13 => ?_)
      refine lv_goto (tgt := 263) hx hb dX12_isLeaf_223 (by decide) ?_
      exact r_zret hx hb hr hK hP hS hk (by omega) dX12_isLeaf_263 (show P_X12_isLeaf σ0 a1 a2 a3 a4 z13 σ from ⟨hR, hF, by omega⟩)
theorem A_X12_isLeaf (p : Program) (l : Launch) (e : Env) (s : State) (m : MethodId) (args : Array Value) (below : List Frame) (meth : Method) (c : Code) (D : va_G) (cA : Nat → ClassId) (ad : Nat → Nat) (σ0 : Nat → Nat → Int32) (a1 : Int32) (a2 : Int32) (a3 : Int32) (a4 : Int32) (C : Cy p s m args meth c cX12_isLeaf 6 wsX12_isLeaf RX12 D cA ad (some .boolean)) (ha1 : 0 ≤ a1.toInt ∧ a1.toInt ≤ 7) : ∀ n : Nat, J_X12_isLeaf_207 p l e s m args below meth c D cA ad σ0 a1 a2 a3 a4 n := by
  intro n
  induction n with
  | zero =>
    exact (by intro σ τ H locs w0 ls hR hF hP hS hl hm; exfalso; omega)
  | succ n ih =>
    exact B_X12_isLeaf_207 p l e s m args below meth c D cA ad σ0 a1 a2 a3 a4 n C ha1 ih
set_option maxHeartbeats 4000000 in
theorem c_X12_isLeaf (l : Launch) (D : va_G) (cA : Nat → ClassId) (ad : Nat → Nat) (hI : Inj ad) (σ0 : Nat → Nat → Int32) (τ0 : Nat → Nat → Int64) (hR : Rg σ0) (a1 : Int32) (a2 : Int32) (a3 : Int32) (a4 : Int32) (ha1 : 0 ≤ a1.toInt ∧ a1.toInt ≤ 7) : Met l yX12_isLeaf wsX12_isLeaf ({ frames := 4, cells := 0, slots := 0, locals := 92 } : Room) (WQc D cA ad [.ref (ad 387), .int a1, .int a2, .int a3, .int a4] σ0 τ0) (va_Qi (fun (r : Int32) (u : SS) => P_X12_isLeaf σ0 a1 a2 a3 a4 r u.1) (WB D cA ad) (AA ad)) 0 0 (AA ad) := by
  refine Met.ofW (cc := cX12_isLeaf) (maxL := 6) (ret := (some .boolean)) (by decide) rfl ?_
  intro p e s m args below meth c s₁ B hml hv
  obtain ⟨rfl, hP, hK, hN⟩ := hv
  have C : Cy p s m _ meth c cX12_isLeaf 6 wsX12_isLeaf RX12 D cA ad (some .boolean) := ⟨B.exec, B.bytes, hml, findClass_of_methodNamed B.named, atoms_spec (ws := wsX12_isLeaf) B.pre, hK, B.notSynchronized, B.returns, hI, hN⟩
  have hl := lv_entry ([.ref (ad 387), .int a1, .int a2, .int a3, .int a4]) (n := 6) (Nat.le_of_ble_eq_true rfl)
  rw [lg_entry_eq]
  generalize (lg_sl ([.ref (ad 387), .int a1, .int a2, .int a3, .int a4]) ++ List.replicate (6 - (lg_sl ([.ref (ad 387), .int a1, .int a2, .int a3, .int a4])).length) Slot.unset).toArray = ls at hl ⊢
  have hl : lv_has ls 6 [(0, .ref (ad 387)), (1, .int a1), (2, .int a2), (3, .int a3), (4, .int a4)] := hl
  have hS : va_S (AA ad) s.heap s.heap [] := va_S.rf
  have hF : Fr L_X12_isLeaf σ0 σ0 := Fr.rf
  have hA := A_X12_isLeaf p l e s m _ below meth c D cA ad σ0 a1 a2 a3 a4 C ha1 6
  have K207 := hA
  clear hA
  obtain ⟨hx, hb, _, hown, hts, _, hk, hr, _, _⟩ := C
  refine lv_iload_n hx hb dX12_isLeaf_0 rfl (lv_at hl 2 rfl) ?_
  by_cases c1 : a2.toInt = 0
  · refine lv_tableIn (off := 39) (tgt := 40) hx hb dX12_isLeaf_1 (by omega) (by omega) (by rw [c1]; rfl) (by decide) ?_
    refine lv_aload_n hx hb dX12_isLeaf_40 rfl (lv_at hl 0 rfl) ?_
    refine fg_12_6 (k := 387) hx hb hts in_X12_isLeaf_12 hown hK hP (by decide) (by decide) (hts _ lk_X12_isLeaf_33) dX12_isLeaf_41 ?_
    refine r_bipush hx hb dX12_isLeaf_44 (by decide) (fun z2 ez2 => ?_)
    refine lv_iload_n hx hb dX12_isLeaf_46 rfl (lv_at hl 1 rfl) ?_
    refine r_iadd hx hb dX12_isLeaf_47 (by omega) (fun z3 ez3 => ?_)
    obtain ⟨j4, ej4⟩ : ∃ j : Nat, z3.toInt = (j : Int) := ⟨_, ti_nat (by omega)⟩
    refine ad_ms (k := 389) (j := j4) hx hb hK hP (by decide) (by decide) ej4 (by omega) dX12_isLeaf_48 ?_
    refine r_iconst hx hb dX12_isLeaf_49 (by decide) (fun z5 ez5 => ?_)
    refine r_icmp_ne (tgt := 57) hx hb dX12_isLeaf_50 (by decide) (fun c6 => ?_) (fun c6 => ?_)
    · refine r_iconst hx hb dX12_isLeaf_57 (by decide) (fun z7 ez7 => ?_)
      exact r_zret hx hb hr hK hP hS hk (by omega) dX12_isLeaf_58 (show P_X12_isLeaf σ0 a1 a2 a3 a4 z7 σ0 from ⟨hR, hF, by omega⟩)
    · refine r_iconst hx hb dX12_isLeaf_53 (by decide) (fun z8 ez8 => ?_)
      refine lv_goto (tgt := 58) hx hb dX12_isLeaf_54 (by decide) ?_
      exact r_zret hx hb hr hK hP hS hk (by omega) dX12_isLeaf_58 (show P_X12_isLeaf σ0 a1 a2 a3 a4 z8 σ0 from ⟨hR, hF, by omega⟩)
  by_cases c9 : a2.toInt = 1
  · refine lv_tableIn (off := 58) (tgt := 59) hx hb dX12_isLeaf_1 (by omega) (by omega) (by rw [c9]; rfl) (by decide) ?_
    refine lv_aload_n hx hb dX12_isLeaf_59 rfl (lv_at hl 0 rfl) ?_
    refine fg_12_6 (k := 387) hx hb hts in_X12_isLeaf_12 hown hK hP (by decide) (by decide) (hts _ lk_X12_isLeaf_33) dX12_isLeaf_60 ?_
    refine r_bipush hx hb dX12_isLeaf_63 (by decide) (fun z10 ez10 => ?_)
    refine lv_iload_n hx hb dX12_isLeaf_65 rfl (lv_at hl 1 rfl) ?_
    refine r_iadd hx hb dX12_isLeaf_66 (by omega) (fun z11 ez11 => ?_)
    obtain ⟨j12, ej12⟩ : ∃ j : Nat, z11.toInt = (j : Int) := ⟨_, ti_nat (by omega)⟩
    refine ad_ms (k := 389) (j := j12) hx hb hK hP (by decide) (by decide) ej12 (by omega) dX12_isLeaf_67 ?_
    have hr13 := ra_ms_3 hR (k := 389) (j := j12) (by decide) (by decide) (by omega) (by omega)
    refine r_if_le (tgt := 75) hx hb dX12_isLeaf_68 (by decide) (fun c14 => ?_) (fun c14 => ?_)
    · refine r_iconst hx hb dX12_isLeaf_75 (by decide) (fun z15 ez15 => ?_)
      exact r_zret hx hb hr hK hP hS hk (by omega) dX12_isLeaf_76 (show P_X12_isLeaf σ0 a1 a2 a3 a4 z15 σ0 from ⟨hR, hF, by omega⟩)
    · refine r_iconst hx hb dX12_isLeaf_71 (by decide) (fun z16 ez16 => ?_)
      refine lv_goto (tgt := 76) hx hb dX12_isLeaf_72 (by decide) ?_
      exact r_zret hx hb hr hK hP hS hk (by omega) dX12_isLeaf_76 (show P_X12_isLeaf σ0 a1 a2 a3 a4 z16 σ0 from ⟨hR, hF, by omega⟩)
  by_cases c17 : a2.toInt = 2
  · refine lv_tableIn (off := 76) (tgt := 77) hx hb dX12_isLeaf_1 (by omega) (by omega) (by rw [c17]; rfl) (by decide) ?_
    refine lv_aload_n hx hb dX12_isLeaf_77 rfl (lv_at hl 0 rfl) ?_
    refine fg_12_6 (k := 387) hx hb hts in_X12_isLeaf_12 hown hK hP (by decide) (by decide) (hts _ lk_X12_isLeaf_33) dX12_isLeaf_78 ?_
    refine r_sipush hx hb dX12_isLeaf_81 (by decide) (fun z18 ez18 => ?_)
    refine lv_iload_n hx hb dX12_isLeaf_84 rfl (lv_at hl 1 rfl) ?_
    refine r_iadd hx hb dX12_isLeaf_85 (by omega) (fun z19 ez19 => ?_)
    obtain ⟨j20, ej20⟩ : ∃ j : Nat, z19.toInt = (j : Int) := ⟨_, ti_nat (by omega)⟩
    refine ad_ms (k := 389) (j := j20) hx hb hK hP (by decide) (by decide) ej20 (by omega) dX12_isLeaf_86 ?_
    have hr21 := ra_ms_7 hR (k := 389) (j := j20) (by decide) (by decide) (by omega) (by omega)
    refine r_if_le (tgt := 94) hx hb dX12_isLeaf_87 (by decide) (fun c22 => ?_) (fun c22 => ?_)
    · refine r_iconst hx hb dX12_isLeaf_94 (by decide) (fun z23 ez23 => ?_)
      exact r_zret hx hb hr hK hP hS hk (by omega) dX12_isLeaf_95 (show P_X12_isLeaf σ0 a1 a2 a3 a4 z23 σ0 from ⟨hR, hF, by omega⟩)
    · refine r_iconst hx hb dX12_isLeaf_90 (by decide) (fun z24 ez24 => ?_)
      refine lv_goto (tgt := 95) hx hb dX12_isLeaf_91 (by decide) ?_
      exact r_zret hx hb hr hK hP hS hk (by omega) dX12_isLeaf_95 (show P_X12_isLeaf σ0 a1 a2 a3 a4 z24 σ0 from ⟨hR, hF, by omega⟩)
  by_cases c25 : a2.toInt = 3
  · refine lv_tableIn (off := 95) (tgt := 96) hx hb dX12_isLeaf_1 (by omega) (by omega) (by rw [c25]; rfl) (by decide) ?_
    refine lv_aload_n hx hb dX12_isLeaf_96 rfl (lv_at hl 0 rfl) ?_
    refine fg_12_6 (k := 387) hx hb hts in_X12_isLeaf_12 hown hK hP (by decide) (by decide) (hts _ lk_X12_isLeaf_33) dX12_isLeaf_97 ?_
    refine r_sipush hx hb dX12_isLeaf_100 (by decide) (fun z26 ez26 => ?_)
    refine lv_iload_n hx hb dX12_isLeaf_103 rfl (lv_at hl 1 rfl) ?_
    refine r_iadd hx hb dX12_isLeaf_104 (by omega) (fun z27 ez27 => ?_)
    obtain ⟨j28, ej28⟩ : ∃ j : Nat, z27.toInt = (j : Int) := ⟨_, ti_nat (by omega)⟩
    refine ad_ms (k := 389) (j := j28) hx hb hK hP (by decide) (by decide) ej28 (by omega) dX12_isLeaf_105 ?_
    have hr29 := ra_ms_7 hR (k := 389) (j := j28) (by decide) (by decide) (by omega) (by omega)
    refine r_if_le (tgt := 121) hx hb dX12_isLeaf_106 (by decide) (fun c30 => ?_) (fun c30 => ?_)
    · refine r_iconst hx hb dX12_isLeaf_121 (by decide) (fun z31 ez31 => ?_)
      exact r_zret hx hb hr hK hP hS hk (by omega) dX12_isLeaf_122 (show P_X12_isLeaf σ0 a1 a2 a3 a4 z31 σ0 from ⟨hR, hF, by omega⟩)
    · refine lv_aload_n hx hb dX12_isLeaf_109 rfl (lv_at hl 0 rfl) ?_
      refine lv_iload_n hx hb dX12_isLeaf_110 rfl (lv_at hl 1 rfl) ?_
      refine r_cVi (k := 387) (As := [.int a1]) (rest := []) ⟨hx, hb, hml, hown, hts⟩ hK hP hN hS (c_X12_isTrue l D cA ad hI σ0 τ0 hR a1 (by omega)) (cwV 1 hts gX12_isLeaf_X12_isTrue rfl rfl rfl (by decide +kernel) ⟨by decide, by decide⟩) (rv_M hK hP (by decide) (by decide)) rfl hl.1 rfl (Nat.le_of_ble_eq_true rfl) dX12_isLeaf_111 (Nat.zero_le _) (Nat.zero_le _) (fun r32 u32 H32 locs32 hp32 hP hS => ?_)
      obtain ⟨σ32, τ32⟩ := u32
      obtain ⟨hR, f32, hq32⟩ : P_X12_isTrue σ0 a1 r32 σ32 := hp32
      have hP : va_P D vwCl (gw cA ad σ32 τ32) H32 := hP
      have hF := hF.step f32 (by decide)
      refine r_if_ne (tgt := 121) hx hb dX12_isLeaf_114 (by decide) (fun c33 => ?_) (fun c33 => ?_)
      · refine r_iconst hx hb dX12_isLeaf_121 (by decide) (fun z34 ez34 => ?_)
        exact r_zret hx hb hr hK hP hS hk (by omega) dX12_isLeaf_122 (show P_X12_isLeaf σ0 a1 a2 a3 a4 z34 σ32 from ⟨hR, hF, by omega⟩)
      · refine r_iconst hx hb dX12_isLeaf_117 (by decide) (fun z35 ez35 => ?_)
        refine lv_goto (tgt := 122) hx hb dX12_isLeaf_118 (by decide) ?_
        exact r_zret hx hb hr hK hP hS hk (by omega) dX12_isLeaf_122 (show P_X12_isLeaf σ0 a1 a2 a3 a4 z35 σ32 from ⟨hR, hF, by omega⟩)
  by_cases c36 : a2.toInt = 4
  · refine lv_tableIn (off := 122) (tgt := 123) hx hb dX12_isLeaf_1 (by omega) (by omega) (by rw [c36]; rfl) (by decide) ?_
    refine lv_aload_n hx hb dX12_isLeaf_123 rfl (lv_at hl 0 rfl) ?_
    refine lv_iload_n hx hb dX12_isLeaf_124 rfl (lv_at hl 1 rfl) ?_
    refine r_cVi (k := 387) (As := [.int a1]) (rest := []) ⟨hx, hb, hml, hown, hts⟩ hK hP hN hS (c_X12_hasHeard l D cA ad hI σ0 τ0 hR a1 (by omega)) (cwV 1 hts gX12_isLeaf_X12_hasHeard rfl rfl rfl (by decide +kernel) ⟨by decide, by decide⟩) (rv_M hK hP (by decide) (by decide)) rfl hl.1 rfl (Nat.le_of_ble_eq_true rfl) dX12_isLeaf_125 (Nat.zero_le _) (Nat.zero_le _) (fun r37 u37 H37 locs37 hp37 hP hS => ?_)
    obtain ⟨σ37, τ37⟩ := u37
    obtain ⟨hR, f37, hq37⟩ : P_X12_hasHeard σ0 a1 r37 σ37 := hp37
    have hP : va_P D vwCl (gw cA ad σ37 τ37) H37 := hP
    have hF := hF.step f37 (by decide)
    exact r_zret hx hb hr hK hP hS hk (by omega) dX12_isLeaf_128 (show P_X12_isLeaf σ0 a1 a2 a3 a4 r37 σ37 from ⟨hR, hF, by omega⟩)
  by_cases c38 : a2.toInt = 5
  · refine lv_tableIn (off := 128) (tgt := 129) hx hb dX12_isLeaf_1 (by omega) (by omega) (by rw [c38]; rfl) (by decide) ?_
    refine lv_aload_n hx hb dX12_isLeaf_129 rfl (lv_at hl 0 rfl) ?_
    refine fg_12_6 (k := 387) hx hb hts in_X12_isLeaf_12 hown hK hP (by decide) (by decide) (hts _ lk_X12_isLeaf_33) dX12_isLeaf_130 ?_
    refine r_sipush hx hb dX12_isLeaf_133 (by decide) (fun z39 ez39 => ?_)
    refine lv_iload_n hx hb dX12_isLeaf_136 rfl (lv_at hl 1 rfl) ?_
    refine r_iadd hx hb dX12_isLeaf_137 (by omega) (fun z40 ez40 => ?_)
    obtain ⟨j41, ej41⟩ : ∃ j : Nat, z40.toInt = (j : Int) := ⟨_, ti_nat (by omega)⟩
    refine ad_ms (k := 389) (j := j41) hx hb hK hP (by decide) (by decide) ej41 (by omega) dX12_isLeaf_138 ?_
    have hr42 := ra_ms_6 hR (k := 389) (j := j41) (by decide) (by decide) (by omega) (by omega)
    refine lv_iload hx hb dX12_isLeaf_139 (lv_at hl 4 rfl) ?_
    refine r_icmp_ne (tgt := 148) hx hb dX12_isLeaf_141 (by decide) (fun c43 => ?_) (fun c43 => ?_)
    · refine r_iconst hx hb dX12_isLeaf_148 (by decide) (fun z44 ez44 => ?_)
      exact r_zret hx hb hr hK hP hS hk (by omega) dX12_isLeaf_149 (show P_X12_isLeaf σ0 a1 a2 a3 a4 z44 σ0 from ⟨hR, hF, by omega⟩)
    · refine r_iconst hx hb dX12_isLeaf_144 (by decide) (fun z45 ez45 => ?_)
      refine lv_goto (tgt := 149) hx hb dX12_isLeaf_145 (by decide) ?_
      exact r_zret hx hb hr hK hP hS hk (by omega) dX12_isLeaf_149 (show P_X12_isLeaf σ0 a1 a2 a3 a4 z45 σ0 from ⟨hR, hF, by omega⟩)
  refine lv_tableOut (tgt := 150) hx hb dX12_isLeaf_1 (by omega) (by decide) ?_
  refine lv_iload_n hx hb dX12_isLeaf_150 rfl (lv_at hl 2 rfl) ?_
  refine r_bipush hx hb dX12_isLeaf_151 (by decide) (fun z46 ez46 => ?_)
  refine r_icmp_ne (tgt := 169) hx hb dX12_isLeaf_153 (by decide) (fun c47 => ?_) (fun c47 => ?_)
  · refine lv_iload_n hx hb dX12_isLeaf_169 rfl (lv_at hl 2 rfl) ?_
    refine r_bipush hx hb dX12_isLeaf_170 (by decide) (fun z48 ez48 => ?_)
    refine r_icmp_ne (tgt := 188) hx hb dX12_isLeaf_172 (by decide) (fun c49 => ?_) (fun c49 => ?_)
    · refine lv_iload_n hx hb dX12_isLeaf_188 rfl (lv_at hl 2 rfl) ?_
      refine r_bipush hx hb dX12_isLeaf_189 (by decide) (fun z50 ez50 => ?_)
      refine r_icmp_ne (tgt := 206) hx hb dX12_isLeaf_191 (by decide) (fun c51 => ?_) (fun c51 => ?_)
      · refine lv_iload_n hx hb dX12_isLeaf_206 rfl (lv_at hl 1 rfl) ?_
        exact K207 σ0 τ0 s.heap [] a1 ls hR hF hP hS  (lv_sub hl [0, 1, 2, 3, 4] rfl) (by omega)
      · refine lv_aload_n hx hb dX12_isLeaf_194 rfl (lv_at hl 0 rfl) ?_
        refine fg_12_6 (k := 387) hx hb hts in_X12_isLeaf_12 hown hK hP (by decide) (by decide) (hts _ lk_X12_isLeaf_33) dX12_isLeaf_195 ?_
        refine r_bipush hx hb dX12_isLeaf_198 (by decide) (fun z52 ez52 => ?_)
        refine lv_iload_n hx hb dX12_isLeaf_200 rfl (lv_at hl 1 rfl) ?_
        refine r_iadd hx hb dX12_isLeaf_201 (by omega) (fun z53 ez53 => ?_)
        obtain ⟨j54, ej54⟩ : ∃ j : Nat, z53.toInt = (j : Int) := ⟨_, ti_nat (by omega)⟩
        refine ad_ms (k := 389) (j := j54) hx hb hK hP (by decide) (by decide) ej54 (by omega) dX12_isLeaf_202 ?_
        refine lv_goto (tgt := 207) hx hb dX12_isLeaf_203 (by decide) ?_
        exact K207 σ0 τ0 s.heap [] (σ0 389 j54) ls hR hF hP hS  (lv_sub hl [0, 1, 2, 3, 4] rfl) (by omega)
    · refine lv_aload_n hx hb dX12_isLeaf_175 rfl (lv_at hl 0 rfl) ?_
      refine fg_12_6 (k := 387) hx hb hts in_X12_isLeaf_12 hown hK hP (by decide) (by decide) (hts _ lk_X12_isLeaf_33) dX12_isLeaf_176 ?_
      refine r_sipush hx hb dX12_isLeaf_179 (by decide) (fun z55 ez55 => ?_)
      refine lv_iload_n hx hb dX12_isLeaf_182 rfl (lv_at hl 1 rfl) ?_
      refine r_iadd hx hb dX12_isLeaf_183 (by omega) (fun z56 ez56 => ?_)
      obtain ⟨j57, ej57⟩ : ∃ j : Nat, z56.toInt = (j : Int) := ⟨_, ti_nat (by omega)⟩
      refine ad_ms (k := 389) (j := j57) hx hb hK hP (by decide) (by decide) ej57 (by omega) dX12_isLeaf_184 ?_
      refine lv_goto (tgt := 207) hx hb dX12_isLeaf_185 (by decide) ?_
      exact K207 σ0 τ0 s.heap [] (σ0 389 j57) ls hR hF hP hS  (lv_sub hl [0, 1, 2, 3, 4] rfl) (by omega)
  · refine lv_aload_n hx hb dX12_isLeaf_156 rfl (lv_at hl 0 rfl) ?_
    refine fg_12_6 (k := 387) hx hb hts in_X12_isLeaf_12 hown hK hP (by decide) (by decide) (hts _ lk_X12_isLeaf_33) dX12_isLeaf_157 ?_
    refine r_sipush hx hb dX12_isLeaf_160 (by decide) (fun z58 ez58 => ?_)
    refine lv_iload_n hx hb dX12_isLeaf_163 rfl (lv_at hl 1 rfl) ?_
    refine r_iadd hx hb dX12_isLeaf_164 (by omega) (fun z59 ez59 => ?_)
    obtain ⟨j60, ej60⟩ : ∃ j : Nat, z59.toInt = (j : Int) := ⟨_, ti_nat (by omega)⟩
    refine ad_ms (k := 389) (j := j60) hx hb hK hP (by decide) (by decide) ej60 (by omega) dX12_isLeaf_165 ?_
    refine lv_goto (tgt := 207) hx hb dX12_isLeaf_166 (by decide) ?_
    exact K207 σ0 τ0 s.heap [] (σ0 389 j60) ls hR hF hP hS  (lv_sub hl [0, 1, 2, 3, 4] rfl) (by omega)
theorem in_X12_isSaid_12 : ∀ w ∈ u_ws RX12 TX12 47, w ∈ wsX12_isSaid := by decide +kernel
theorem lk_X12_isSaid_33 : Cond.fieldLink RX12 33 "CuckooSharesModel" "s" "[I" ∈ wsX12_isSaid := by decide +kernel
theorem lk_X12_isSaid_74 : Cond.fieldLink RX12 74 "CuckooSharesModel" "truths" "[Z" ∈ wsX12_isSaid := by decide +kernel
abbrev L_X12_isSaid : List Rc := [(402, 402, 0, 39), (394, 394, 0, 7), (395, 395, 0, 7), (396, 396, 0, 7)]
def P_X12_isSaid (σ0 : Nat → Nat → Int32) (a1 : Int32) (r : Int32) (σ : Nat → Nat → Int32) : Prop := Rg σ ∧ Fr L_X12_isSaid σ0 σ ∧ (0 ≤ r.toInt ∧ r.toInt ≤ 1)
def J_X12_isSaid_4 (p : Program) (l : Launch) (e : Env) (s : State) (m : MethodId) (args : Array Value) (below : List Frame) (meth : Method) (c : Code) (D : va_G) (cA : Nat → ClassId) (ad : Nat → Nat) (σ0 : Nat → Nat → Int32) (a1 : Int32) (n : Nat) : Prop := ∀ (σ : Nat → Nat → Int32) (τ : Nat → Nat → Int64) (H : Heap) (locs : List Loc) (x2 : Int32) (x3 : Int32) (ls : Array Slot), Rg σ → Fr L_X12_isSaid σ0 σ → va_P D vwCl (gw cA ad σ τ) H → va_S (AA ad) s.heap H locs → (0 ≤ x2.toInt ∧ x2.toInt ≤ 40) → (0 ≤ x3.toInt ∧ x3.toInt ≤ 40) → (x2.toInt = DP (fun i => σ0 389 (247 + 3 * i)) x3.toInt.toNat) → (0 ≤ x2.toInt) → (x3.toInt = 0 ∨ 1 ≤ x2.toInt) → (∀ i : Nat, (i : Int) < x2.toInt → 0 ≤ (σ 402 i).toInt ∧ (σ 402 i).toInt ≤ 1) → (SI σ) → lv_has ls 5 [(0, .ref (ad 387)), (1, .int a1), (2, .int x2), (3, .int x3)] → 2 * (40 - x3.toInt) + 1 < (n : Int) → W p l e ({ frames := 5, cells := 0, slots := 0, locals := 117 } : Room) s m args below meth c H locs 0 0 (MQ below (va_Qi (fun (r : Int32) (u : SS) => P_X12_isSaid σ0 a1 r u.1) (WB D cA ad) (AA ad)) args s 0 0 (AA ad)) (F0 m 4 ls [])
set_option maxHeartbeats 4000000 in
theorem B_X12_isSaid_4 (p : Program) (l : Launch) (e : Env) (s : State) (m : MethodId) (args : Array Value) (below : List Frame) (meth : Method) (c : Code) (D : va_G) (cA : Nat → ClassId) (ad : Nat → Nat) (σ0 : Nat → Nat → Int32) (a1 : Int32) (n : Nat) (C : Cy p s m args meth c cX12_isSaid 5 wsX12_isSaid RX12 D cA ad (some .boolean)) (ha1 : 0 ≤ a1.toInt ∧ a1.toInt ≤ 7) (hq0 : 1 ≤ (σ0 389 246).toInt) (gSI0 : SI σ0) (K4 : J_X12_isSaid_4 p l e s m args below meth c D cA ad σ0 a1 n) : J_X12_isSaid_4 p l e s m args below meth c D cA ad σ0 a1 (n + 1) := by
  obtain ⟨hx, hb, hml, hown, hts, hK, hk, hr, hI, hN⟩ := C
  intro σ τ H locs x2 x3 ls hR hF hP hS hc0 hc1 hi0 hi1 hi2 hi3 gSI hl hm
  refine lv_iload_n hx hb dX12_isSaid_4 rfl (lv_at hl 3 rfl) ?_
  refine lv_aload_n hx hb dX12_isSaid_5 rfl (lv_at hl 0 rfl) ?_
  refine fg_12_6 (k := 387) hx hb hts in_X12_isSaid_12 hown hK hP (by decide) (by decide) (hts _ lk_X12_isSaid_33) dX12_isSaid_6 ?_
  refine r_sipush hx hb dX12_isSaid_9 (by decide) (fun z1 ez1 => ?_)
  refine ad_ms (k := 389) (j := 246) hx hb hK hP (by decide) (by decide) (by omega) (by omega) dX12_isSaid_12 ?_
  have hr2 := ra_ms_8 hR (k := 389) (j := 246) (by decide) (by decide) (by decide) (by decide)
  refine r_icmp_ge (tgt := 212) hx hb dX12_isSaid_13 (by decide) (fun c3 => ?_) (fun c3 => ?_)
  · refine lv_aload_n hx hb dX12_isSaid_212 rfl (lv_at hl 0 rfl) ?_
    have h2e := congrArg Int32.toInt (hF.at 389 246 (by decide))
    have hq0 := hi3 0 (by omega)
    refine fg_12_43 (k := 387) hx hb hts in_X12_isSaid_12 hown hK hP (by decide) (by decide) (hts _ lk_X12_isSaid_74) dX12_isSaid_213 ?_
    refine r_iconst hx hb dX12_isSaid_216 (by decide) (fun z4 ez4 => ?_)
    refine ad_mtruths (k := 402) (j := 0) hx hb hK hP (by decide) (by decide) (by omega) (by omega) dX12_isSaid_217 ?_
    exact r_zret hx hb hr hK hP hS hk (by omega) dX12_isSaid_218 (show P_X12_isSaid σ0 a1 (σ 402 0) σ from ⟨hR, hF, by omega⟩)
  · refine r_sipush hx hb dX12_isSaid_16 (by decide) (fun z5 ez5 => ?_)
    refine r_iconst hx hb dX12_isSaid_19 (by decide) (fun z6 ez6 => ?_)
    refine lv_iload_n hx hb dX12_isSaid_20 rfl (lv_at hl 3 rfl) ?_
    refine r_imulL (n := 3) hx hb dX12_isSaid_21 (by omega) (by omega) (fun z7 ez7 => ?_)
    refine r_iadd hx hb dX12_isSaid_22 (by omega) (fun z8 ez8 => ?_)
    refine lv_istore (lv' := [(4, .int z8), (0, .ref (ad 387)), (1, .int a1), (2, .int x2), (3, .int x3)]) hx hb dX12_isSaid_23 hl (by decide) rfl (fun ls hl => ?_)
    refine lv_aload_n hx hb dX12_isSaid_25 rfl (lv_at hl 1 rfl) ?_
    refine fg_12_6 (k := 387) hx hb hts in_X12_isSaid_12 hown hK hP (by decide) (by decide) (hts _ lk_X12_isSaid_33) dX12_isSaid_26 ?_
    refine lv_iload hx hb dX12_isSaid_29 (lv_at hl 0 rfl) ?_
    obtain ⟨j9, ej9⟩ : ∃ j : Nat, z8.toInt = (j : Int) := ⟨_, ti_nat (by omega)⟩
    refine ad_ms (k := 389) (j := j9) hx hb hK hP (by decide) (by decide) ej9 (by omega) dX12_isSaid_31 ?_
    have hz := SI.code (x := x3) (y := x2) (j := j9) gSI0 hF (by decide) hR (by omega) (by omega) (by omega) hi0
    refine r_bipush hx hb dX12_isSaid_32 (by decide) (fun z10 ez10 => ?_)
    refine r_icmp_ne (tgt := 64) hx hb dX12_isSaid_34 (by decide) (fun c11 => ?_) (fun c11 => ?_)
    · refine lv_aload_n hx hb dX12_isSaid_64 rfl (lv_at hl 1 rfl) ?_
      refine fg_12_6 (k := 387) hx hb hts in_X12_isSaid_12 hown hK hP (by decide) (by decide) (hts _ lk_X12_isSaid_33) dX12_isSaid_65 ?_
      refine lv_iload hx hb dX12_isSaid_68 (lv_at hl 0 rfl) ?_
      refine ad_ms (k := 389) (j := j9) hx hb hK hP (by decide) (by decide) ej9 (by omega) dX12_isSaid_70 ?_
      refine r_bipush hx hb dX12_isSaid_71 (by decide) (fun z12 ez12 => ?_)
      refine r_icmp_eq (tgt := 88) hx hb dX12_isSaid_73 (by decide) (fun c13 => ?_) (fun c13 => ?_)
      · refine r_iinc (k := 3) (lv1 := fun z14 => [(2, .int z14), (4, .int z8), (0, .ref (ad 387)), (1, .int a1), (3, .int x3)]) hx hb dX12_isSaid_88 hl rfl (by decide) (fun _ => rfl) (by decide) (by omega) (fun z14 ls ez14 hl => ?_)
        refine lv_aload_n hx hb dX12_isSaid_91 rfl (lv_at hl 2 rfl) ?_
        refine fg_12_43 (k := 387) hx hb hts in_X12_isSaid_12 hown hK hP (by decide) (by decide) (hts _ lk_X12_isSaid_74) dX12_isSaid_92 ?_
        refine lv_iload_n hx hb dX12_isSaid_95 rfl (lv_at hl 0 rfl) ?_
        refine r_iconst hx hb dX12_isSaid_96 (by decide) (fun z15 ez15 => ?_)
        refine r_isub hx hb dX12_isSaid_97 (by omega) (fun z16 ez16 => ?_)
        refine lv_aload_n hx hb dX12_isSaid_98 rfl (lv_at hl 2 rfl) ?_
        refine fg_12_6 (k := 387) hx hb hts in_X12_isSaid_12 hown hK hP (by decide) (by decide) (hts _ lk_X12_isSaid_33) dX12_isSaid_99 ?_
        refine lv_iload hx hb dX12_isSaid_102 (lv_at hl 1 rfl) ?_
        refine ad_ms (k := 389) (j := j9) hx hb hK hP (by decide) (by decide) ej9 (by omega) dX12_isSaid_104 ?_
        refine r_bipush hx hb dX12_isSaid_105 (by decide) (fun z17 ez17 => ?_)
        refine r_icmp_ne (tgt := 138) hx hb dX12_isSaid_107 (by decide) (fun c18 => ?_) (fun c18 => ?_)
        · exfalso; omega
        · refine lv_aload_n hx hb dX12_isSaid_110 rfl (lv_at hl 2 rfl) ?_
          refine fg_12_43 (k := 387) hx hb hts in_X12_isSaid_12 hown hK hP (by decide) (by decide) (hts _ lk_X12_isSaid_74) dX12_isSaid_111 ?_
          refine lv_iload_n hx hb dX12_isSaid_114 rfl (lv_at hl 0 rfl) ?_
          refine r_iconst hx hb dX12_isSaid_115 (by decide) (fun z19 ez19 => ?_)
          refine r_isub hx hb dX12_isSaid_116 (by omega) (fun z20 ez20 => ?_)
          obtain ⟨j21, ej21⟩ : ∃ j : Nat, z20.toInt = (j : Int) := ⟨_, ti_nat (by omega)⟩
          refine ad_mtruths (k := 402) (j := j21) hx hb hK hP (by decide) (by decide) ej21 (by omega) dX12_isSaid_117 ?_
          refine r_if_eq (tgt := 134) hx hb dX12_isSaid_118 (by decide) (fun c22 => ?_) (fun c22 => ?_)
          · refine r_iconst hx hb dX12_isSaid_134 (by decide) (fun z23 ez23 => ?_)
            refine lv_goto (tgt := 163) hx hb dX12_isSaid_135 (by decide) ?_
            refine as_mtruths (k := 402) (j := j21) hx hb hK hP hI hR hS (by decide) (by decide) (by omega) (by omega) (by omega) dX12_isSaid_163 (fun σ24 H24 locs24 u24 v24 hR hP hS => ?_)
            have ut := u24
            have vt := v24
            have hF := hF.puts u24 0 rfl (by decide) (by decide) (by omega) (by omega)
            have gSI := SI.putV gSI hR u24 (by intro q hq; simp only [Gd_SI, List.mem_cons, List.not_mem_nil, or_false] at hq; rcases hq with rfl | rfl | rfl <;> dsimp only [inRc] <;> omega)
            refine lv_goto (tgt := 206) hx hb dX12_isSaid_164 (by decide) ?_
            refine r_iinc (k := 4) (lv1 := fun z25 => [(3, .int z25), (2, .int z14), (4, .int z8), (0, .ref (ad 387)), (1, .int a1)]) hx hb dX12_isSaid_206 hl rfl (by decide) (fun _ => rfl) (by decide) (by omega) (fun z25 ls ez25 hl => ?_)
            refine lv_goto (tgt := 4) hx hb dX12_isSaid_209 (by decide) ?_
            exact K4 σ24 τ H24 locs24 z14 z25 ls hR hF hP hS (by omega) (by omega) (by first | (have e1 : z25.toInt.toNat = (x3.toInt + 1).toNat := (by omega); rw [e1]; omega) | (have e0 : z25.toInt.toNat = 0 := (by omega); rw [e0]; show z14.toInt = 0; omega)) (by omega) (by omega) (by first | exact (fun i hi => absurd hi (by omega)) | exact QTst hi3 ut (by omega) (by omega) | exact QTst (QTfr hi3 fl (by decide) (by omega)) ut (by omega) (by omega)) gSI (lv_sub hl [3, 4, 1, 0] rfl) (by omega)
          · refine lv_aload_n hx hb dX12_isSaid_121 rfl (lv_at hl 2 rfl) ?_
            refine fg_12_43 (k := 387) hx hb hts in_X12_isSaid_12 hown hK hP (by decide) (by decide) (hts _ lk_X12_isSaid_74) dX12_isSaid_122 ?_
            refine lv_iload_n hx hb dX12_isSaid_125 rfl (lv_at hl 0 rfl) ?_
            obtain ⟨j26, ej26⟩ : ∃ j : Nat, z14.toInt = (j : Int) := ⟨_, ti_nat (by omega)⟩
            refine ad_mtruths (k := 402) (j := j26) hx hb hK hP (by decide) (by decide) ej26 (by omega) dX12_isSaid_126 ?_
            refine r_if_eq (tgt := 134) hx hb dX12_isSaid_127 (by decide) (fun c27 => ?_) (fun c27 => ?_)
            · refine r_iconst hx hb dX12_isSaid_134 (by decide) (fun z28 ez28 => ?_)
              refine lv_goto (tgt := 163) hx hb dX12_isSaid_135 (by decide) ?_
              refine as_mtruths (k := 402) (j := j21) hx hb hK hP hI hR hS (by decide) (by decide) (by omega) (by omega) (by omega) dX12_isSaid_163 (fun σ29 H29 locs29 u29 v29 hR hP hS => ?_)
              have ut := u29
              have vt := v29
              have hF := hF.puts u29 0 rfl (by decide) (by decide) (by omega) (by omega)
              have gSI := SI.putV gSI hR u29 (by intro q hq; simp only [Gd_SI, List.mem_cons, List.not_mem_nil, or_false] at hq; rcases hq with rfl | rfl | rfl <;> dsimp only [inRc] <;> omega)
              refine lv_goto (tgt := 206) hx hb dX12_isSaid_164 (by decide) ?_
              refine r_iinc (k := 4) (lv1 := fun z30 => [(3, .int z30), (2, .int z14), (4, .int z8), (0, .ref (ad 387)), (1, .int a1)]) hx hb dX12_isSaid_206 hl rfl (by decide) (fun _ => rfl) (by decide) (by omega) (fun z30 ls ez30 hl => ?_)
              refine lv_goto (tgt := 4) hx hb dX12_isSaid_209 (by decide) ?_
              exact K4 σ29 τ H29 locs29 z14 z30 ls hR hF hP hS (by omega) (by omega) (by first | (have e1 : z30.toInt.toNat = (x3.toInt + 1).toNat := (by omega); rw [e1]; omega) | (have e0 : z30.toInt.toNat = 0 := (by omega); rw [e0]; show z14.toInt = 0; omega)) (by omega) (by omega) (by first | exact (fun i hi => absurd hi (by omega)) | exact QTst hi3 ut (by omega) (by omega) | exact QTst (QTfr hi3 fl (by decide) (by omega)) ut (by omega) (by omega)) gSI (lv_sub hl [3, 4, 1, 0] rfl) (by omega)
            · refine r_iconst hx hb dX12_isSaid_130 (by decide) (fun z31 ez31 => ?_)
              refine lv_goto (tgt := 163) hx hb dX12_isSaid_131 (by decide) ?_
              refine as_mtruths (k := 402) (j := j21) hx hb hK hP hI hR hS (by decide) (by decide) (by omega) (by omega) (by omega) dX12_isSaid_163 (fun σ32 H32 locs32 u32 v32 hR hP hS => ?_)
              have ut := u32
              have vt := v32
              have hF := hF.puts u32 0 rfl (by decide) (by decide) (by omega) (by omega)
              have gSI := SI.putV gSI hR u32 (by intro q hq; simp only [Gd_SI, List.mem_cons, List.not_mem_nil, or_false] at hq; rcases hq with rfl | rfl | rfl <;> dsimp only [inRc] <;> omega)
              refine lv_goto (tgt := 206) hx hb dX12_isSaid_164 (by decide) ?_
              refine r_iinc (k := 4) (lv1 := fun z33 => [(3, .int z33), (2, .int z14), (4, .int z8), (0, .ref (ad 387)), (1, .int a1)]) hx hb dX12_isSaid_206 hl rfl (by decide) (fun _ => rfl) (by decide) (by omega) (fun z33 ls ez33 hl => ?_)
              refine lv_goto (tgt := 4) hx hb dX12_isSaid_209 (by decide) ?_
              exact K4 σ32 τ H32 locs32 z14 z33 ls hR hF hP hS (by omega) (by omega) (by first | (have e1 : z33.toInt.toNat = (x3.toInt + 1).toNat := (by omega); rw [e1]; omega) | (have e0 : z33.toInt.toNat = 0 := (by omega); rw [e0]; show z14.toInt = 0; omega)) (by omega) (by omega) (by first | exact (fun i hi => absurd hi (by omega)) | exact QTst hi3 ut (by omega) (by omega) | exact QTst (QTfr hi3 fl (by decide) (by omega)) ut (by omega) (by omega)) gSI (lv_sub hl [3, 4, 1, 0] rfl) (by omega)
      · refine lv_aload_n hx hb dX12_isSaid_76 rfl (lv_at hl 1 rfl) ?_
        refine fg_12_6 (k := 387) hx hb hts in_X12_isSaid_12 hown hK hP (by decide) (by decide) (hts _ lk_X12_isSaid_33) dX12_isSaid_77 ?_
        refine lv_iload hx hb dX12_isSaid_80 (lv_at hl 0 rfl) ?_
        refine ad_ms (k := 389) (j := j9) hx hb hK hP (by decide) (by decide) ej9 (by omega) dX12_isSaid_82 ?_
        refine r_bipush hx hb dX12_isSaid_83 (by decide) (fun z34 ez34 => ?_)
        refine r_icmp_ne (tgt := 167) hx hb dX12_isSaid_85 (by decide) (fun c35 => ?_) (fun c35 => ?_)
        · refine lv_aload_n hx hb dX12_isSaid_167 rfl (lv_at hl 1 rfl) ?_
          refine fg_12_43 (k := 387) hx hb hts in_X12_isSaid_12 hown hK hP (by decide) (by decide) (hts _ lk_X12_isSaid_74) dX12_isSaid_168 ?_
          refine lv_iload_n hx hb dX12_isSaid_171 rfl (lv_at hl 3 rfl) ?_
          refine lv_aload_n hx hb dX12_isSaid_172 rfl (lv_at hl 1 rfl) ?_
          refine lv_iload_n hx hb dX12_isSaid_173 rfl (lv_at hl 2 rfl) ?_
          refine lv_aload_n hx hb dX12_isSaid_174 rfl (lv_at hl 1 rfl) ?_
          refine fg_12_6 (k := 387) hx hb hts in_X12_isSaid_12 hown hK hP (by decide) (by decide) (hts _ lk_X12_isSaid_33) dX12_isSaid_175 ?_
          refine lv_iload hx hb dX12_isSaid_178 (lv_at hl 0 rfl) ?_
          refine ad_ms (k := 389) (j := j9) hx hb hK hP (by decide) (by decide) ej9 (by omega) dX12_isSaid_180 ?_
          refine lv_aload_n hx hb dX12_isSaid_181 rfl (lv_at hl 1 rfl) ?_
          refine fg_12_6 (k := 387) hx hb hts in_X12_isSaid_12 hown hK hP (by decide) (by decide) (hts _ lk_X12_isSaid_33) dX12_isSaid_182 ?_
          refine lv_iload hx hb dX12_isSaid_185 (lv_at hl 0 rfl) ?_
          refine r_iconst hx hb dX12_isSaid_187 (by decide) (fun z36 ez36 => ?_)
          refine r_iadd hx hb dX12_isSaid_188 (by omega) (fun z37 ez37 => ?_)
          obtain ⟨j38, ej38⟩ : ∃ j : Nat, z37.toInt = (j : Int) := ⟨_, ti_nat (by omega)⟩
          refine ad_ms (k := 389) (j := j38) hx hb hK hP (by decide) (by decide) ej38 (by omega) dX12_isSaid_189 ?_
          refine lv_aload_n hx hb dX12_isSaid_190 rfl (lv_at hl 1 rfl) ?_
          refine fg_12_6 (k := 387) hx hb hts in_X12_isSaid_12 hown hK hP (by decide) (by decide) (hts _ lk_X12_isSaid_33) dX12_isSaid_191 ?_
          refine lv_iload hx hb dX12_isSaid_194 (lv_at hl 0 rfl) ?_
          refine r_iconst hx hb dX12_isSaid_196 (by decide) (fun z39 ez39 => ?_)
          refine r_iadd hx hb dX12_isSaid_197 (by omega) (fun z40 ez40 => ?_)
          obtain ⟨j41, ej41⟩ : ∃ j : Nat, z40.toInt = (j : Int) := ⟨_, ti_nat (by omega)⟩
          refine ad_ms (k := 389) (j := j41) hx hb hK hP (by decide) (by decide) ej41 (by omega) dX12_isSaid_198 ?_
          refine r_cVi (k := 387) (As := [.int a1, .int (σ 389 j9), .int (σ 389 j38), .int (σ 389 j41)]) (rest := [.int x2, .ref (ad 402)]) ⟨hx, hb, hml, hown, hts⟩ hK hP hN hS (c_X12_isLeaf l D cA ad hI σ τ hR a1 (σ 389 j9) (σ 389 j38) (σ 389 j41) (by omega)) (cwV 4 hts gX12_isSaid_X12_isLeaf rfl rfl rfl (by decide +kernel) ⟨by decide, by decide⟩) (rv_M hK hP (by decide) (by decide)) rfl hl.1 rfl (Nat.le_of_ble_eq_true rfl) dX12_isSaid_199 (Nat.zero_le _) (Nat.zero_le _) (fun r42 u42 H42 locs42 hp42 hP hS => ?_)
          obtain ⟨σ42, τ42⟩ := u42
          obtain ⟨hR, f42, hq42⟩ : P_X12_isLeaf σ a1 (σ 389 j9) (σ 389 j38) (σ 389 j41) r42 σ42 := hp42
          have fl := f42
          have hP : va_P D vwCl (gw cA ad σ42 τ42) H42 := hP
          have hF := hF.step f42 (by decide)
          have gSI := SI.fr gSI hR f42 (by decide)
          obtain ⟨j43, ej43⟩ : ∃ j : Nat, x2.toInt = (j : Int) := ⟨_, ti_nat (by omega)⟩
          refine as_mtruths (k := 402) (j := j43) hx hb hK hP hI hR hS (by decide) (by decide) ej43 (by omega) (by omega) dX12_isSaid_202 (fun σ44 H44 locs44 u44 v44 hR hP hS => ?_)
          have ut := u44
          have vt := v44
          have hF := hF.puts u44 0 rfl (by decide) (by decide) (by omega) (by omega)
          have gSI := SI.putV gSI hR u44 (by intro q hq; simp only [Gd_SI, List.mem_cons, List.not_mem_nil, or_false] at hq; rcases hq with rfl | rfl | rfl <;> dsimp only [inRc] <;> omega)
          refine r_iinc (k := 3) (lv1 := fun z45 => [(2, .int z45), (4, .int z8), (0, .ref (ad 387)), (1, .int a1), (3, .int x3)]) hx hb dX12_isSaid_203 hl rfl (by decide) (fun _ => rfl) (by decide) (by omega) (fun z45 ls ez45 hl => ?_)
          refine r_iinc (k := 4) (lv1 := fun z46 => [(3, .int z46), (2, .int z45), (4, .int z8), (0, .ref (ad 387)), (1, .int a1)]) hx hb dX12_isSaid_206 hl rfl (by decide) (fun _ => rfl) (by decide) (by omega) (fun z46 ls ez46 hl => ?_)
          refine lv_goto (tgt := 4) hx hb dX12_isSaid_209 (by decide) ?_
          exact K4 σ44 τ42 H44 locs44 z45 z46 ls hR hF hP hS (by omega) (by omega) (by first | (have e1 : z46.toInt.toNat = (x3.toInt + 1).toNat := (by omega); rw [e1]; omega) | (have e0 : z46.toInt.toNat = 0 := (by omega); rw [e0]; show z45.toInt = 0; omega)) (by omega) (by omega) (by first | exact (fun i hi => absurd hi (by omega)) | exact QTst hi3 ut (by omega) (by omega) | exact QTst (QTfr hi3 fl (by decide) (by omega)) ut (by omega) (by omega)) gSI (lv_sub hl [3, 4, 1, 0] rfl) (by omega)
        · refine r_iinc (k := 3) (lv1 := fun z47 => [(2, .int z47), (4, .int z8), (0, .ref (ad 387)), (1, .int a1), (3, .int x3)]) hx hb dX12_isSaid_88 hl rfl (by decide) (fun _ => rfl) (by decide) (by omega) (fun z47 ls ez47 hl => ?_)
          refine lv_aload_n hx hb dX12_isSaid_91 rfl (lv_at hl 2 rfl) ?_
          refine fg_12_43 (k := 387) hx hb hts in_X12_isSaid_12 hown hK hP (by decide) (by decide) (hts _ lk_X12_isSaid_74) dX12_isSaid_92 ?_
          refine lv_iload_n hx hb dX12_isSaid_95 rfl (lv_at hl 0 rfl) ?_
          refine r_iconst hx hb dX12_isSaid_96 (by decide) (fun z48 ez48 => ?_)
          refine r_isub hx hb dX12_isSaid_97 (by omega) (fun z49 ez49 => ?_)
          refine lv_aload_n hx hb dX12_isSaid_98 rfl (lv_at hl 2 rfl) ?_
          refine fg_12_6 (k := 387) hx hb hts in_X12_isSaid_12 hown hK hP (by decide) (by decide) (hts _ lk_X12_isSaid_33) dX12_isSaid_99 ?_
          refine lv_iload hx hb dX12_isSaid_102 (lv_at hl 1 rfl) ?_
          refine ad_ms (k := 389) (j := j9) hx hb hK hP (by decide) (by decide) ej9 (by omega) dX12_isSaid_104 ?_
          refine r_bipush hx hb dX12_isSaid_105 (by decide) (fun z50 ez50 => ?_)
          refine r_icmp_ne (tgt := 138) hx hb dX12_isSaid_107 (by decide) (fun c51 => ?_) (fun c51 => ?_)
          · refine lv_aload_n hx hb dX12_isSaid_138 rfl (lv_at hl 2 rfl) ?_
            refine fg_12_43 (k := 387) hx hb hts in_X12_isSaid_12 hown hK hP (by decide) (by decide) (hts _ lk_X12_isSaid_74) dX12_isSaid_139 ?_
            refine lv_iload_n hx hb dX12_isSaid_142 rfl (lv_at hl 0 rfl) ?_
            refine r_iconst hx hb dX12_isSaid_143 (by decide) (fun z52 ez52 => ?_)
            refine r_isub hx hb dX12_isSaid_144 (by omega) (fun z53 ez53 => ?_)
            obtain ⟨j54, ej54⟩ : ∃ j : Nat, z53.toInt = (j : Int) := ⟨_, ti_nat (by omega)⟩
            refine ad_mtruths (k := 402) (j := j54) hx hb hK hP (by decide) (by decide) ej54 (by omega) dX12_isSaid_145 ?_
            refine r_if_ne (tgt := 158) hx hb dX12_isSaid_146 (by decide) (fun c55 => ?_) (fun c55 => ?_)
            · refine r_iconst hx hb dX12_isSaid_158 (by decide) (fun z56 ez56 => ?_)
              refine lv_goto (tgt := 163) hx hb dX12_isSaid_159 (by decide) ?_
              refine as_mtruths (k := 402) (j := j54) hx hb hK hP hI hR hS (by decide) (by decide) (by omega) (by omega) (by omega) dX12_isSaid_163 (fun σ57 H57 locs57 u57 v57 hR hP hS => ?_)
              have ut := u57
              have vt := v57
              have hF := hF.puts u57 0 rfl (by decide) (by decide) (by omega) (by omega)
              have gSI := SI.putV gSI hR u57 (by intro q hq; simp only [Gd_SI, List.mem_cons, List.not_mem_nil, or_false] at hq; rcases hq with rfl | rfl | rfl <;> dsimp only [inRc] <;> omega)
              refine lv_goto (tgt := 206) hx hb dX12_isSaid_164 (by decide) ?_
              refine r_iinc (k := 4) (lv1 := fun z58 => [(3, .int z58), (2, .int z47), (4, .int z8), (0, .ref (ad 387)), (1, .int a1)]) hx hb dX12_isSaid_206 hl rfl (by decide) (fun _ => rfl) (by decide) (by omega) (fun z58 ls ez58 hl => ?_)
              refine lv_goto (tgt := 4) hx hb dX12_isSaid_209 (by decide) ?_
              exact K4 σ57 τ H57 locs57 z47 z58 ls hR hF hP hS (by omega) (by omega) (by first | (have e1 : z58.toInt.toNat = (x3.toInt + 1).toNat := (by omega); rw [e1]; omega) | (have e0 : z58.toInt.toNat = 0 := (by omega); rw [e0]; show z47.toInt = 0; omega)) (by omega) (by omega) (by first | exact (fun i hi => absurd hi (by omega)) | exact QTst hi3 ut (by omega) (by omega) | exact QTst (QTfr hi3 fl (by decide) (by omega)) ut (by omega) (by omega)) gSI (lv_sub hl [3, 4, 1, 0] rfl) (by omega)
            · refine lv_aload_n hx hb dX12_isSaid_149 rfl (lv_at hl 2 rfl) ?_
              refine fg_12_43 (k := 387) hx hb hts in_X12_isSaid_12 hown hK hP (by decide) (by decide) (hts _ lk_X12_isSaid_74) dX12_isSaid_150 ?_
              refine lv_iload_n hx hb dX12_isSaid_153 rfl (lv_at hl 0 rfl) ?_
              obtain ⟨j59, ej59⟩ : ∃ j : Nat, z47.toInt = (j : Int) := ⟨_, ti_nat (by omega)⟩
              refine ad_mtruths (k := 402) (j := j59) hx hb hK hP (by decide) (by decide) ej59 (by omega) dX12_isSaid_154 ?_
              refine r_if_eq (tgt := 162) hx hb dX12_isSaid_155 (by decide) (fun c60 => ?_) (fun c60 => ?_)
              · refine r_iconst hx hb dX12_isSaid_162 (by decide) (fun z61 ez61 => ?_)
                refine as_mtruths (k := 402) (j := j54) hx hb hK hP hI hR hS (by decide) (by decide) (by omega) (by omega) (by omega) dX12_isSaid_163 (fun σ62 H62 locs62 u62 v62 hR hP hS => ?_)
                have ut := u62
                have vt := v62
                have hF := hF.puts u62 0 rfl (by decide) (by decide) (by omega) (by omega)
                have gSI := SI.putV gSI hR u62 (by intro q hq; simp only [Gd_SI, List.mem_cons, List.not_mem_nil, or_false] at hq; rcases hq with rfl | rfl | rfl <;> dsimp only [inRc] <;> omega)
                refine lv_goto (tgt := 206) hx hb dX12_isSaid_164 (by decide) ?_
                refine r_iinc (k := 4) (lv1 := fun z63 => [(3, .int z63), (2, .int z47), (4, .int z8), (0, .ref (ad 387)), (1, .int a1)]) hx hb dX12_isSaid_206 hl rfl (by decide) (fun _ => rfl) (by decide) (by omega) (fun z63 ls ez63 hl => ?_)
                refine lv_goto (tgt := 4) hx hb dX12_isSaid_209 (by decide) ?_
                exact K4 σ62 τ H62 locs62 z47 z63 ls hR hF hP hS (by omega) (by omega) (by first | (have e1 : z63.toInt.toNat = (x3.toInt + 1).toNat := (by omega); rw [e1]; omega) | (have e0 : z63.toInt.toNat = 0 := (by omega); rw [e0]; show z47.toInt = 0; omega)) (by omega) (by omega) (by first | exact (fun i hi => absurd hi (by omega)) | exact QTst hi3 ut (by omega) (by omega) | exact QTst (QTfr hi3 fl (by decide) (by omega)) ut (by omega) (by omega)) gSI (lv_sub hl [3, 4, 1, 0] rfl) (by omega)
              · refine r_iconst hx hb dX12_isSaid_158 (by decide) (fun z64 ez64 => ?_)
                refine lv_goto (tgt := 163) hx hb dX12_isSaid_159 (by decide) ?_
                refine as_mtruths (k := 402) (j := j54) hx hb hK hP hI hR hS (by decide) (by decide) (by omega) (by omega) (by omega) dX12_isSaid_163 (fun σ65 H65 locs65 u65 v65 hR hP hS => ?_)
                have ut := u65
                have vt := v65
                have hF := hF.puts u65 0 rfl (by decide) (by decide) (by omega) (by omega)
                have gSI := SI.putV gSI hR u65 (by intro q hq; simp only [Gd_SI, List.mem_cons, List.not_mem_nil, or_false] at hq; rcases hq with rfl | rfl | rfl <;> dsimp only [inRc] <;> omega)
                refine lv_goto (tgt := 206) hx hb dX12_isSaid_164 (by decide) ?_
                refine r_iinc (k := 4) (lv1 := fun z66 => [(3, .int z66), (2, .int z47), (4, .int z8), (0, .ref (ad 387)), (1, .int a1)]) hx hb dX12_isSaid_206 hl rfl (by decide) (fun _ => rfl) (by decide) (by omega) (fun z66 ls ez66 hl => ?_)
                refine lv_goto (tgt := 4) hx hb dX12_isSaid_209 (by decide) ?_
                exact K4 σ65 τ H65 locs65 z47 z66 ls hR hF hP hS (by omega) (by omega) (by first | (have e1 : z66.toInt.toNat = (x3.toInt + 1).toNat := (by omega); rw [e1]; omega) | (have e0 : z66.toInt.toNat = 0 := (by omega); rw [e0]; show z47.toInt = 0; omega)) (by omega) (by omega) (by first | exact (fun i hi => absurd hi (by omega)) | exact QTst hi3 ut (by omega) (by omega) | exact QTst (QTfr hi3 fl (by decide) (by omega)) ut (by omega) (by omega)) gSI (lv_sub hl [3, 4, 1, 0] rfl) (by omega)
          · exfalso; omega
    · refine lv_aload_n hx hb dX12_isSaid_37 rfl (lv_at hl 1 rfl) ?_
      refine fg_12_43 (k := 387) hx hb hts in_X12_isSaid_12 hown hK hP (by decide) (by decide) (hts _ lk_X12_isSaid_74) dX12_isSaid_38 ?_
      refine lv_iload_n hx hb dX12_isSaid_41 rfl (lv_at hl 3 rfl) ?_
      refine r_iconst hx hb dX12_isSaid_42 (by decide) (fun z67 ez67 => ?_)
      refine r_isub hx hb dX12_isSaid_43 (by omega) (fun z68 ez68 => ?_)
      refine lv_aload_n hx hb dX12_isSaid_44 rfl (lv_at hl 1 rfl) ?_
      refine fg_12_43 (k := 387) hx hb hts in_X12_isSaid_12 hown hK hP (by decide) (by decide) (hts _ lk_X12_isSaid_74) dX12_isSaid_45 ?_
      refine lv_iload_n hx hb dX12_isSaid_48 rfl (lv_at hl 3 rfl) ?_
      refine r_iconst hx hb dX12_isSaid_49 (by decide) (fun z69 ez69 => ?_)
      refine r_isub hx hb dX12_isSaid_50 (by omega) (fun z70 ez70 => ?_)
      obtain ⟨j71, ej71⟩ : ∃ j : Nat, z70.toInt = (j : Int) := ⟨_, ti_nat (by omega)⟩
      refine ad_mtruths (k := 402) (j := j71) hx hb hK hP (by decide) (by decide) ej71 (by omega) dX12_isSaid_51 ?_
      refine r_if_ne (tgt := 59) hx hb dX12_isSaid_52 (by decide) (fun c72 => ?_) (fun c72 => ?_)
      · refine r_iconst hx hb dX12_isSaid_59 (by decide) (fun z73 ez73 => ?_)
        refine as_mtruths (k := 402) (j := j71) hx hb hK hP hI hR hS (by decide) (by decide) (by omega) (by omega) (by omega) dX12_isSaid_60 (fun σ74 H74 locs74 u74 v74 hR hP hS => ?_)
        have ut := u74
        have vt := v74
        have hF := hF.puts u74 0 rfl (by decide) (by decide) (by omega) (by omega)
        have gSI := SI.putV gSI hR u74 (by intro q hq; simp only [Gd_SI, List.mem_cons, List.not_mem_nil, or_false] at hq; rcases hq with rfl | rfl | rfl <;> dsimp only [inRc] <;> omega)
        refine lv_goto (tgt := 206) hx hb dX12_isSaid_61 (by decide) ?_
        refine r_iinc (k := 4) (lv1 := fun z75 => [(3, .int z75), (4, .int z8), (0, .ref (ad 387)), (1, .int a1), (2, .int x2)]) hx hb dX12_isSaid_206 hl rfl (by decide) (fun _ => rfl) (by decide) (by omega) (fun z75 ls ez75 hl => ?_)
        refine lv_goto (tgt := 4) hx hb dX12_isSaid_209 (by decide) ?_
        exact K4 σ74 τ H74 locs74 x2 z75 ls hR hF hP hS (by omega) (by omega) (by first | (have e1 : z75.toInt.toNat = (x3.toInt + 1).toNat := (by omega); rw [e1]; omega) | (have e0 : z75.toInt.toNat = 0 := (by omega); rw [e0]; show x2.toInt = 0; omega)) (by omega) (by omega) (by first | exact (fun i hi => absurd hi (by omega)) | exact QTst hi3 ut (by omega) (by omega) | exact QTst (QTfr hi3 fl (by decide) (by omega)) ut (by omega) (by omega)) gSI (lv_sub hl [2, 3, 4, 0] rfl) (by omega)
      · refine r_iconst hx hb dX12_isSaid_55 (by decide) (fun z76 ez76 => ?_)
        refine lv_goto (tgt := 60) hx hb dX12_isSaid_56 (by decide) ?_
        refine as_mtruths (k := 402) (j := j71) hx hb hK hP hI hR hS (by decide) (by decide) (by omega) (by omega) (by omega) dX12_isSaid_60 (fun σ77 H77 locs77 u77 v77 hR hP hS => ?_)
        have ut := u77
        have vt := v77
        have hF := hF.puts u77 0 rfl (by decide) (by decide) (by omega) (by omega)
        have gSI := SI.putV gSI hR u77 (by intro q hq; simp only [Gd_SI, List.mem_cons, List.not_mem_nil, or_false] at hq; rcases hq with rfl | rfl | rfl <;> dsimp only [inRc] <;> omega)
        refine lv_goto (tgt := 206) hx hb dX12_isSaid_61 (by decide) ?_
        refine r_iinc (k := 4) (lv1 := fun z78 => [(3, .int z78), (4, .int z8), (0, .ref (ad 387)), (1, .int a1), (2, .int x2)]) hx hb dX12_isSaid_206 hl rfl (by decide) (fun _ => rfl) (by decide) (by omega) (fun z78 ls ez78 hl => ?_)
        refine lv_goto (tgt := 4) hx hb dX12_isSaid_209 (by decide) ?_
        exact K4 σ77 τ H77 locs77 x2 z78 ls hR hF hP hS (by omega) (by omega) (by first | (have e1 : z78.toInt.toNat = (x3.toInt + 1).toNat := (by omega); rw [e1]; omega) | (have e0 : z78.toInt.toNat = 0 := (by omega); rw [e0]; show x2.toInt = 0; omega)) (by omega) (by omega) (by first | exact (fun i hi => absurd hi (by omega)) | exact QTst hi3 ut (by omega) (by omega) | exact QTst (QTfr hi3 fl (by decide) (by omega)) ut (by omega) (by omega)) gSI (lv_sub hl [2, 3, 4, 0] rfl) (by omega)
theorem A_X12_isSaid (p : Program) (l : Launch) (e : Env) (s : State) (m : MethodId) (args : Array Value) (below : List Frame) (meth : Method) (c : Code) (D : va_G) (cA : Nat → ClassId) (ad : Nat → Nat) (σ0 : Nat → Nat → Int32) (a1 : Int32) (C : Cy p s m args meth c cX12_isSaid 5 wsX12_isSaid RX12 D cA ad (some .boolean)) (ha1 : 0 ≤ a1.toInt ∧ a1.toInt ≤ 7) (hq0 : 1 ≤ (σ0 389 246).toInt) (gSI0 : SI σ0) : ∀ n : Nat, J_X12_isSaid_4 p l e s m args below meth c D cA ad σ0 a1 n := by
  intro n
  induction n with
  | zero =>
    exact (by intro σ τ H locs x2 x3 ls hR hF hP hS hc0 hc1 hi0 hi1 hi2 hi3 gSI hl hm; exfalso; omega)
  | succ n ih =>
    exact B_X12_isSaid_4 p l e s m args below meth c D cA ad σ0 a1 n C ha1 hq0 gSI0 ih
set_option maxHeartbeats 4000000 in
theorem c_X12_isSaid (l : Launch) (D : va_G) (cA : Nat → ClassId) (ad : Nat → Nat) (hI : Inj ad) (σ0 : Nat → Nat → Int32) (τ0 : Nat → Nat → Int64) (hR : Rg σ0) (a1 : Int32) (ha1 : 0 ≤ a1.toInt ∧ a1.toInt ≤ 7) (hq0 : 1 ≤ (σ0 389 246).toInt) (gSI0 : SI σ0) : Met l yX12_isSaid wsX12_isSaid ({ frames := 5, cells := 0, slots := 0, locals := 117 } : Room) (WQc D cA ad [.ref (ad 387), .int a1] σ0 τ0) (va_Qi (fun (r : Int32) (u : SS) => P_X12_isSaid σ0 a1 r u.1) (WB D cA ad) (AA ad)) 0 0 (AA ad) := by
  refine Met.ofW (cc := cX12_isSaid) (maxL := 5) (ret := (some .boolean)) (by decide) rfl ?_
  intro p e s m args below meth c s₁ B hml hv
  obtain ⟨rfl, hP, hK, hN⟩ := hv
  have C : Cy p s m _ meth c cX12_isSaid 5 wsX12_isSaid RX12 D cA ad (some .boolean) := ⟨B.exec, B.bytes, hml, findClass_of_methodNamed B.named, atoms_spec (ws := wsX12_isSaid) B.pre, hK, B.notSynchronized, B.returns, hI, hN⟩
  have hl := lv_entry ([.ref (ad 387), .int a1]) (n := 5) (Nat.le_of_ble_eq_true rfl)
  rw [lg_entry_eq]
  generalize (lg_sl ([.ref (ad 387), .int a1]) ++ List.replicate (5 - (lg_sl ([.ref (ad 387), .int a1])).length) Slot.unset).toArray = ls at hl ⊢
  have hl : lv_has ls 5 [(0, .ref (ad 387)), (1, .int a1)] := hl
  have hS : va_S (AA ad) s.heap s.heap [] := va_S.rf
  have hF : Fr L_X12_isSaid σ0 σ0 := Fr.rf
  have gSI := gSI0
  have hA := A_X12_isSaid p l e s m _ below meth c D cA ad σ0 a1 C ha1 hq0 gSI0 170
  have K4 := hA
  clear hA
  obtain ⟨hx, hb, _, hown, hts, _, hk, hr, _, _⟩ := C
  refine r_iconst hx hb dX12_isSaid_0 (by decide) (fun z1 ez1 => ?_)
  refine lv_istore_n (lv' := [(2, .int z1), (0, .ref (ad 387)), (1, .int a1)]) hx hb dX12_isSaid_1 rfl hl (by decide) rfl (fun ls hl => ?_)
  refine r_iconst hx hb dX12_isSaid_2 (by decide) (fun z2 ez2 => ?_)
  refine lv_istore_n (lv' := [(3, .int z2), (2, .int z1), (0, .ref (ad 387)), (1, .int a1)]) hx hb dX12_isSaid_3 rfl hl (by decide) rfl (fun ls hl => ?_)
  exact K4 σ0 τ0 s.heap [] z1 z2 ls hR hF hP hS (by omega) (by omega) (by first | (have e1 : z2.toInt.toNat = (x3.toInt + 1).toNat := (by omega); rw [e1]; omega) | (have e0 : z2.toInt.toNat = 0 := (by omega); rw [e0]; show z1.toInt = 0; omega)) (by omega) (by omega) (by first | exact (fun i hi => absurd hi (by omega)) | exact QTst hi3 ut (by omega) (by omega) | exact QTst (QTfr hi3 fl (by decide) (by omega)) ut (by omega) (by omega)) gSI (lv_sub hl [2, 3, 1, 0] rfl) (by omega)
theorem in_X12_said_12 : ∀ w ∈ u_ws RX12 TX12 47, w ∈ wsX12_said := by decide +kernel
theorem lk_X12_said_1 : Cond.fieldLink RX12 1 "CuckooSharesModel" "thrown" "I" ∈ wsX12_said := by decide +kernel
theorem lk_X12_said_33 : Cond.fieldLink RX12 33 "CuckooSharesModel" "s" "[I" ∈ wsX12_said := by decide +kernel
abbrev L_X12_said : List Rc := [(387, 387, 0, 0), (402, 402, 0, 39), (394, 394, 0, 7), (395, 395, 0, 7), (396, 396, 0, 7)]
def P_X12_said (σ0 : Nat → Nat → Int32) (a1 : Int32) (r : Int32) (σ : Nat → Nat → Int32) : Prop := Rg σ ∧ Fr L_X12_said σ0 σ
def J_X12_said_27 (p : Program) (l : Launch) (e : Env) (s : State) (m : MethodId) (args : Array Value) (below : List Frame) (meth : Method) (c : Code) (D : va_G) (cA : Nat → ClassId) (ad : Nat → Nat) (σ0 : Nat → Nat → Int32) (a1 : Int32) (n : Nat) : Prop := ∀ (σ : Nat → Nat → Int32) (τ : Nat → Nat → Int64) (H : Heap) (locs : List Loc) (x2 : Int32) (x3 : Int32) (ls : Array Slot), Rg σ → Fr L_X12_said σ0 σ → va_P D vwCl (gw cA ad σ τ) H → va_S (AA ad) s.heap H locs → (-1 ≤ a1.toInt) → (0 ≤ x3.toInt ∧ x3.toInt ≤ 8) → (1 ≤ (σ 389 246).toInt ∧ (σ 389 246).toInt ≤ 40) → (1 ≤ (σ 389 246).toInt) → (SI σ) → lv_has ls 4 [(0, .ref (ad 387)), (1, .int a1), (2, .int x2), (3, .int x3)] → 2 * (8 - x3.toInt) + 1 < (n : Int) → W p l e ({ frames := 6, cells := 0, slots := 0, locals := 141 } : Room) s m args below meth c H locs 0 0 (MQ below (va_Qi (fun (r : Int32) (u : SS) => P_X12_said σ0 a1 r u.1) (WB D cA ad) (AA ad)) args s 0 0 (AA ad)) (F0 m 27 ls [])
set_option maxHeartbeats 4000000 in
theorem B_X12_said_27 (p : Program) (l : Launch) (e : Env) (s : State) (m : MethodId) (args : Array Value) (below : List Frame) (meth : Method) (c : Code) (D : va_G) (cA : Nat → ClassId) (ad : Nat → Nat) (σ0 : Nat → Nat → Int32) (a1 : Int32) (n : Nat) (C : Cy p s m args meth c cX12_said 4 wsX12_said RX12 D cA ad (some .int)) (gSI0 : SI σ0) (K27 : J_X12_said_27 p l e s m args below meth c D cA ad σ0 a1 n) : J_X12_said_27 p l e s m args below meth c D cA ad σ0 a1 (n + 1) := by
  obtain ⟨hx, hb, hml, hown, hts, hK, hk, hr, hI, hN⟩ := C
  intro σ τ H locs x2 x3 ls hR hF hP hS hc0 hc1 hc2 hi0 gSI hl hm
  refine lv_iload_n hx hb dX12_said_27 rfl (lv_at hl 3 rfl) ?_
  refine lv_aload_n hx hb dX12_said_28 rfl (lv_at hl 0 rfl) ?_
  refine fg_12_6 (k := 387) hx hb hts in_X12_said_12 hown hK hP (by decide) (by decide) (hts _ lk_X12_said_33) dX12_said_29 ?_
  refine r_iconst hx hb dX12_said_32 (by decide) (fun z1 ez1 => ?_)
  refine ad_ms (k := 389) (j := 1) hx hb hK hP (by decide) (by decide) (by omega) (by omega) dX12_said_33 ?_
  have hr2 := ra_ms_0 hR (k := 389) (j := 1) (by decide) (by decide) (by decide) (by decide)
  refine r_icmp_ge (tgt := 64) hx hb dX12_said_34 (by decide) (fun c3 => ?_) (fun c3 => ?_)
  · refine lv_iload_n hx hb dX12_said_64 rfl (lv_at hl 1 rfl) ?_
    refine r_iconst hx hb dX12_said_65 (by decide) (fun z4 ez4 => ?_)
    refine r_icmp_ne (tgt := 73) hx hb dX12_said_66 (by decide) (fun c5 => ?_) (fun c5 => ?_)
    · refine r_iconst hx hb dX12_said_73 (by decide) (fun z6 ez6 => ?_)
      exact r_iret hx hb hr hK hP hS hk dX12_said_74 (show P_X12_said σ0 a1 z6 σ from ⟨hR, hF⟩)
    · refine lv_iload_n hx hb dX12_said_69 rfl (lv_at hl 2 rfl) ?_
      refine lv_goto (tgt := 74) hx hb dX12_said_70 (by decide) ?_
      exact r_iret hx hb hr hK hP hS hk dX12_said_74 (show P_X12_said σ0 a1 x2 σ from ⟨hR, hF⟩)
  · refine lv_aload_n hx hb dX12_said_37 rfl (lv_at hl 0 rfl) ?_
    refine lv_iload_n hx hb dX12_said_38 rfl (lv_at hl 3 rfl) ?_
    refine r_cVi (k := 387) (As := [.int x3]) (rest := []) ⟨hx, hb, hml, hown, hts⟩ hK hP hN hS (c_X12_isSaid l D cA ad hI σ τ hR x3 (by omega) (by omega) gSI) (cwV 1 hts gX12_said_X12_isSaid rfl rfl rfl (by decide +kernel) ⟨by decide, by decide⟩) (rv_M hK hP (by decide) (by decide)) rfl hl.1 rfl (Nat.le_of_ble_eq_true rfl) dX12_said_39 (Nat.zero_le _) (Nat.zero_le _) (fun r7 u7 H7 locs7 hp7 hP hS => ?_)
    obtain ⟨σ7, τ7⟩ := u7
    obtain ⟨hR, f7, hq7⟩ : P_X12_isSaid σ x3 r7 σ7 := hp7
    have hP : va_P D vwCl (gw cA ad σ7 τ7) H7 := hP
    have hF := hF.step f7 (by decide)
    have gSI := SI.fr gSI hR f7 (by decide)
    have t8 : (σ7 389 246).toInt = (σ 389 246).toInt := congrArg Int32.toInt (f7.at 389 246 (by decide))
    have t9 : (σ7 389 1).toInt = (σ 389 1).toInt := congrArg Int32.toInt (f7.at 389 1 (by decide))
    refine r_if_ne (tgt := 48) hx hb dX12_said_42 (by decide) (fun c10 => ?_) (fun c10 => ?_)
    · refine lv_iload_n hx hb dX12_said_48 rfl (lv_at hl 2 rfl) ?_
      refine lv_iload_n hx hb dX12_said_49 rfl (lv_at hl 1 rfl) ?_
      refine r_icmp_ne (tgt := 55) hx hb dX12_said_50 (by decide) (fun c11 => ?_) (fun c11 => ?_)
      · refine r_iincU (k := 2) (lv1 := fun z12 => [(2, .int z12), (0, .ref (ad 387)), (1, .int a1), (3, .int x3)]) hx hb dX12_said_55 hl rfl (by decide) (fun _ => rfl) (fun z12 ls hl => ?_)
        refine r_iinc (k := 3) (lv1 := fun z13 => [(3, .int z13), (2, .int z12), (0, .ref (ad 387)), (1, .int a1)]) hx hb dX12_said_58 hl rfl (by decide) (fun _ => rfl) (by decide) (by omega) (fun z13 ls ez13 hl => ?_)
        refine lv_goto (tgt := 27) hx hb dX12_said_61 (by decide) ?_
        exact K27 σ7 τ7 H7 locs7 z12 z13 ls hR hF hP hS (by omega) (by omega) (by omega) (by omega) gSI (lv_sub hl [2, 3, 1, 0] rfl) (by omega)
      · refine lv_iload_n hx hb dX12_said_53 rfl (lv_at hl 3 rfl) ?_
        exact r_iret hx hb hr hK hP hS hk dX12_said_54 (show P_X12_said σ0 a1 x3 σ7 from ⟨hR, hF⟩)
    · refine lv_goto (tgt := 58) hx hb dX12_said_45 (by decide) ?_
      refine r_iinc (k := 3) (lv1 := fun z14 => [(3, .int z14), (0, .ref (ad 387)), (1, .int a1), (2, .int x2)]) hx hb dX12_said_58 hl rfl (by decide) (fun _ => rfl) (by decide) (by omega) (fun z14 ls ez14 hl => ?_)
      refine lv_goto (tgt := 27) hx hb dX12_said_61 (by decide) ?_
      exact K27 σ7 τ7 H7 locs7 x2 z14 ls hR hF hP hS (by omega) (by omega) (by omega) (by omega) gSI (lv_sub hl [1, 2, 3, 0] rfl) (by omega)
theorem A_X12_said (p : Program) (l : Launch) (e : Env) (s : State) (m : MethodId) (args : Array Value) (below : List Frame) (meth : Method) (c : Code) (D : va_G) (cA : Nat → ClassId) (ad : Nat → Nat) (σ0 : Nat → Nat → Int32) (a1 : Int32) (C : Cy p s m args meth c cX12_said 4 wsX12_said RX12 D cA ad (some .int)) (gSI0 : SI σ0) : ∀ n : Nat, J_X12_said_27 p l e s m args below meth c D cA ad σ0 a1 n := by
  intro n
  induction n with
  | zero =>
    exact (by intro σ τ H locs x2 x3 ls hR hF hP hS hc0 hc1 hc2 hi0 gSI hl hm; exfalso; omega)
  | succ n ih =>
    exact B_X12_said_27 p l e s m args below meth c D cA ad σ0 a1 n C gSI0 ih
set_option maxHeartbeats 4000000 in
theorem c_X12_said (l : Launch) (D : va_G) (cA : Nat → ClassId) (ad : Nat → Nat) (hI : Inj ad) (σ0 : Nat → Nat → Int32) (τ0 : Nat → Nat → Int64) (hR : Rg σ0) (a1 : Int32) (gSI0 : SI σ0) : Met l yX12_said wsX12_said ({ frames := 6, cells := 0, slots := 0, locals := 141 } : Room) (WQc D cA ad [.ref (ad 387), .int a1] σ0 τ0) (va_Qi (fun (r : Int32) (u : SS) => P_X12_said σ0 a1 r u.1) (WB D cA ad) (AA ad)) 0 0 (AA ad) := by
  refine Met.ofW (cc := cX12_said) (maxL := 4) (ret := (some .int)) (by decide) rfl ?_
  intro p e s m args below meth c s₁ B hml hv
  obtain ⟨rfl, hP, hK, hN⟩ := hv
  have C : Cy p s m _ meth c cX12_said 4 wsX12_said RX12 D cA ad (some .int) := ⟨B.exec, B.bytes, hml, findClass_of_methodNamed B.named, atoms_spec (ws := wsX12_said) B.pre, hK, B.notSynchronized, B.returns, hI, hN⟩
  have hl := lv_entry ([.ref (ad 387), .int a1]) (n := 4) (Nat.le_of_ble_eq_true rfl)
  rw [lg_entry_eq]
  generalize (lg_sl ([.ref (ad 387), .int a1]) ++ List.replicate (4 - (lg_sl ([.ref (ad 387), .int a1])).length) Slot.unset).toArray = ls at hl ⊢
  have hl : lv_has ls 4 [(0, .ref (ad 387)), (1, .int a1)] := hl
  have hS : va_S (AA ad) s.heap s.heap [] := va_S.rf
  have hF : Fr L_X12_said σ0 σ0 := Fr.rf
  have gSI := gSI0
  have hA := A_X12_said p l e s m _ below meth c D cA ad σ0 a1 C gSI0 42
  have K27 := hA
  clear hA
  obtain ⟨hx, hb, _, hown, hts, _, hk, hr, _, _⟩ := C
  refine lv_aload_n hx hb dX12_said_0 rfl (lv_at hl 0 rfl) ?_
  refine r_iconst hx hb dX12_said_1 (by decide) (fun z1 ez1 => ?_)
  refine fp_12_0 (k := 387) hx hb hts in_X12_said_12 hown hK hP (by decide) (by decide) (hts _ lk_X12_said_1) hI hR hS (by omega) dX12_said_2 (fun σ2 H2 locs2 u2 v2 hR hP hS => ?_)
  have hF := hF.puts u2 0 rfl (by decide) (by decide) (by decide) (by decide)
  have gSI := SI.put gSI hR u2 (by decide)
  refine lv_aload_n hx hb dX12_said_5 rfl (lv_at hl 0 rfl) ?_
  refine fg_12_6 (k := 387) hx hb hts in_X12_said_12 hown hK hP (by decide) (by decide) (hts _ lk_X12_said_33) dX12_said_6 ?_
  refine r_sipush hx hb dX12_said_9 (by decide) (fun z3 ez3 => ?_)
  refine ad_ms (k := 389) (j := 246) hx hb hK hP (by decide) (by decide) (by omega) (by omega) dX12_said_12 ?_
  have hr4 := ra_ms_8 hR (k := 389) (j := 246) (by decide) (by decide) (by decide) (by decide)
  refine r_if_eq (tgt := 21) hx hb dX12_said_13 (by decide) (fun c5 => ?_) (fun c5 => ?_)
  · refine r_iconst hx hb dX12_said_21 (by decide) (fun z6 ez6 => ?_)
    exact r_iret hx hb hr hK hP hS hk dX12_said_22 (show P_X12_said σ0 a1 z6 σ2 from ⟨hR, hF⟩)
  · refine lv_iload_n hx hb dX12_said_16 rfl (lv_at hl 1 rfl) ?_
    refine r_iconst hx hb dX12_said_17 (by decide) (fun z7 ez7 => ?_)
    refine r_icmp_ge (tgt := 23) hx hb dX12_said_18 (by decide) (fun c8 => ?_) (fun c8 => ?_)
    · refine r_iconst hx hb dX12_said_23 (by decide) (fun z9 ez9 => ?_)
      refine lv_istore_n (lv' := [(2, .int z9), (0, .ref (ad 387)), (1, .int a1)]) hx hb dX12_said_24 rfl hl (by decide) rfl (fun ls hl => ?_)
      refine r_iconst hx hb dX12_said_25 (by decide) (fun z10 ez10 => ?_)
      refine lv_istore_n (lv' := [(3, .int z10), (2, .int z9), (0, .ref (ad 387)), (1, .int a1)]) hx hb dX12_said_26 rfl hl (by decide) rfl (fun ls hl => ?_)
      exact K27 σ2 τ0 H2 locs2 z9 z10 ls hR hF hP hS (by omega) (by omega) (by omega) (by omega) gSI (lv_sub hl [2, 3, 1, 0] rfl) (by omega)
    · refine r_iconst hx hb dX12_said_21 (by decide) (fun z11 ez11 => ?_)
      exact r_iret hx hb hr hK hP hS hk dX12_said_22 (show P_X12_said σ0 a1 z11 σ2 from ⟨hR, hF⟩)
theorem in_X12_image_12 : ∀ w ∈ u_ws RX12 TX12 47, w ∈ wsX12_image := by decide +kernel
theorem lk_X12_image_1 : Cond.fieldLink RX12 1 "CuckooSharesModel" "thrown" "I" ∈ wsX12_image := by decide +kernel
theorem lk_X12_image_33 : Cond.fieldLink RX12 33 "CuckooSharesModel" "s" "[I" ∈ wsX12_image := by decide +kernel
theorem lk_X12_image_43 : Cond.fieldLink RX12 43 "CuckooSharesModel" "names" "[J" ∈ wsX12_image := by decide +kernel
theorem lk_X12_image_78 : Cond.fieldLink RX12 78 "CuckooSharesModel" "kept" "[I" ∈ wsX12_image := by decide +kernel
theorem lk_X12_image_81 : Cond.fieldLink RX12 81 "CuckooSharesModel" "namesKept" "[J" ∈ wsX12_image := by decide +kernel
theorem lk_X12_image_84 : Cond.fieldLink RX12 84 "CuckooSharesModel" "areKept" "[Z" ∈ wsX12_image := by decide +kernel
abbrev L_X12_image : List Rc := [(387, 387, 0, 0), (403, 403, 0, 853), (405, 405, 0, 1)]
def P_X12_image (σ0 : Nat → Nat → Int32) (a1 : Int32) (r : Int32) (σ : Nat → Nat → Int32) : Prop := Rg σ ∧ Fr L_X12_image σ0 σ ∧ (0 ≤ r.toInt ∧ r.toInt ≤ 1) ∧ ((r.toInt = 0 ∧ (a1.toInt < 0 ∨ 1 < a1.toInt) ∧ (σ 405 0).toInt = (σ0 405 0).toInt ∧ (σ 405 1).toInt = (σ0 405 1).toInt) ∨ (r.toInt = 1 ∧ a1.toInt = 0 ∧ (σ 405 0).toInt = 1 ∧ (σ 405 1).toInt = (σ0 405 1).toInt) ∨ (r.toInt = 1 ∧ a1.toInt = 1 ∧ (σ 405 1).toInt = 1 ∧ (σ 405 0).toInt = (σ0 405 0).toInt)) ∧ SI σ ∧ SIK σ
def J_X12_image_18 (p : Program) (l : Launch) (e : Env) (s : State) (m : MethodId) (args : Array Value) (below : List Frame) (meth : Method) (c : Code) (D : va_G) (cA : Nat → ClassId) (ad : Nat → Nat) (σ0 : Nat → Nat → Int32) (a1 : Int32) (n : Nat) : Prop := ∀ (σ : Nat → Nat → Int32) (τ : Nat → Nat → Int64) (H : Heap) (locs : List Loc) (x2 : Int32) (ls : Array Slot), Rg σ → Fr L_X12_image σ0 σ → va_P D vwCl (gw cA ad σ τ) H → va_S (AA ad) s.heap H locs → (0 ≤ a1.toInt ∧ a1.toInt ≤ 1) → (0 ≤ x2.toInt ∧ x2.toInt ≤ 441) → (∀ i j : Nat, a1.toInt = (i : Int) → (j : Int) < x2.toInt → σ 403 (427 * i + j) = σ 389 j) → (∀ k j : Nat, k < 2 → j < 427 → a1.toInt ≠ (k : Int) → σ 403 (427 * k + j) = σ0 403 (427 * k + j)) → (∀ k : Nat, k < 2 → σ 405 k = σ0 405 k) → (SI σ) → lv_has ls 3 [(0, .ref (ad 387)), (1, .int a1), (2, .int x2)] → 43 * (441 - x2.toInt) + 42 < (n : Int) → W p l e ({ frames := 1, cells := 0, slots := 0, locals := 22 } : Room) s m args below meth c H locs 0 0 (MQ below (va_Qi (fun (r : Int32) (u : SS) => P_X12_image σ0 a1 r u.1) (WB D cA ad) (AA ad)) args s 0 0 (AA ad)) (F0 m 18 ls [])
def J_X12_image_51 (p : Program) (l : Launch) (e : Env) (s : State) (m : MethodId) (args : Array Value) (below : List Frame) (meth : Method) (c : Code) (D : va_G) (cA : Nat → ClassId) (ad : Nat → Nat) (σ0 : Nat → Nat → Int32) (a1 : Int32) (n : Nat) : Prop := ∀ (σ : Nat → Nat → Int32) (τ : Nat → Nat → Int64) (H : Heap) (locs : List Loc) (x2 : Int32) (ls : Array Slot), Rg σ → Fr L_X12_image σ0 σ → va_P D vwCl (gw cA ad σ τ) H → va_S (AA ad) s.heap H locs → (0 ≤ a1.toInt ∧ a1.toInt ≤ 1) → (0 ≤ x2.toInt ∧ x2.toInt ≤ 19) → (∀ i j : Nat, a1.toInt = (i : Int) → j < 427 → σ 403 (427 * i + j) = σ 389 j) → (∀ k j : Nat, k < 2 → j < 427 → a1.toInt ≠ (k : Int) → σ 403 (427 * k + j) = σ0 403 (427 * k + j)) → (∀ k : Nat, k < 2 → σ 405 k = σ0 405 k) → (SI σ) → lv_has ls 3 [(0, .ref (ad 387)), (1, .int a1), (2, .int x2)] → 2 * (19 - x2.toInt) + 1 < (n : Int) → W p l e ({ frames := 1, cells := 0, slots := 0, locals := 22 } : Room) s m args below meth c H locs 0 0 (MQ below (va_Qi (fun (r : Int32) (u : SS) => P_X12_image σ0 a1 r u.1) (WB D cA ad) (AA ad)) args s 0 0 (AA ad)) (F0 m 51 ls [])
set_option maxHeartbeats 4000000 in
theorem B_X12_image_18 (p : Program) (l : Launch) (e : Env) (s : State) (m : MethodId) (args : Array Value) (below : List Frame) (meth : Method) (c : Code) (D : va_G) (cA : Nat → ClassId) (ad : Nat → Nat) (σ0 : Nat → Nat → Int32) (a1 : Int32) (n : Nat) (C : Cy p s m args meth c cX12_image 3 wsX12_image RX12 D cA ad (some .boolean)) (gSI0 : SI σ0) (gSIK0 : SIK σ0) (K18 : J_X12_image_18 p l e s m args below meth c D cA ad σ0 a1 n) (K51 : J_X12_image_51 p l e s m args below meth c D cA ad σ0 a1 n) : J_X12_image_18 p l e s m args below meth c D cA ad σ0 a1 (n + 1) := by
  obtain ⟨hx, hb, hml, hown, hts, hK, hk, hr, hI, hN⟩ := C
  intro σ τ H locs x2 ls hR hF hP hS hc0 hc1 hi0 hi1 hi2 gSI hl hm
  refine lv_iload_n hx hb dX12_image_18 rfl (lv_at hl 2 rfl) ?_
  refine r_sipush hx hb dX12_image_19 (by decide) (fun z1 ez1 => ?_)
  refine r_icmp_ge (tgt := 49) hx hb dX12_image_22 (by decide) (fun c2 => ?_) (fun c2 => ?_)
  · refine r_iconst hx hb dX12_image_49 (by decide) (fun z3 ez3 => ?_)
    refine lv_istore_n (lv' := [(2, .int z3), (0, .ref (ad 387)), (1, .int a1)]) hx hb dX12_image_50 rfl hl (by decide) rfl (fun ls hl => ?_)
    exact K51 σ τ H locs z3 ls hR hF hP hS (by omega) (by omega) (by first | exact hi0 | exact (fun i j h1 h2 => hi0 i j h1 (by omega))) (by exact hi1) (by exact hi2) gSI (lv_sub hl [1, 2, 0] rfl) (by omega)
  · refine lv_aload_n hx hb dX12_image_25 rfl (lv_at hl 0 rfl) ?_
    refine fg_12_44 (k := 387) hx hb hts in_X12_image_12 hown hK hP (by decide) (by decide) (hts _ lk_X12_image_78) dX12_image_26 ?_
    refine r_sipush hx hb dX12_image_29 (by decide) (fun z4 ez4 => ?_)
    refine lv_iload_n hx hb dX12_image_32 rfl (lv_at hl 1 rfl) ?_
    refine r_imulL (n := 427) hx hb dX12_image_33 (by omega) (by omega) (fun z5 ez5 => ?_)
    refine lv_iload_n hx hb dX12_image_34 rfl (lv_at hl 2 rfl) ?_
    refine r_iadd hx hb dX12_image_35 (by omega) (fun z6 ez6 => ?_)
    refine lv_aload_n hx hb dX12_image_36 rfl (lv_at hl 0 rfl) ?_
    refine fg_12_6 (k := 387) hx hb hts in_X12_image_12 hown hK hP (by decide) (by decide) (hts _ lk_X12_image_33) dX12_image_37 ?_
    refine lv_iload_n hx hb dX12_image_40 rfl (lv_at hl 2 rfl) ?_
    obtain ⟨j7, ej7⟩ : ∃ j : Nat, x2.toInt = (j : Int) := ⟨_, ti_nat (by omega)⟩
    refine ad_ms (k := 389) (j := j7) hx hb hK hP (by decide) (by decide) ej7 (by omega) dX12_image_41 ?_
    obtain ⟨j8, ej8⟩ : ∃ j : Nat, z6.toInt = (j : Int) := ⟨_, ti_nat (by omega)⟩
    refine as_mkept (k := 403) (j := j8) hx hb hK hP hI hR hS (by decide) (by decide) ej8 (by omega) (mc_ks hR (a1.toInt.toNat) (by omega) (by omega) (by omega)) dX12_image_42 (fun σ9 H9 locs9 u9 v9 hR hP hS => ?_)
    have us := u9
    have vs := v9
    have hF := hF.puts u9 1 rfl (by decide) (by decide) (by omega) (by omega)
    have gSI := SI.putV gSI hR u9 (by intro q hq; simp only [Gd_SI, List.mem_cons, List.not_mem_nil, or_false] at hq; rcases hq with rfl | rfl | rfl <;> dsimp only [inRc] <;> omega)
    refine r_iinc (k := 2) (lv1 := fun z10 => [(2, .int z10), (0, .ref (ad 387)), (1, .int a1)]) hx hb dX12_image_43 hl rfl (by decide) (fun _ => rfl) (by decide) (by omega) (fun z10 ls ez10 hl => ?_)
    refine lv_goto (tgt := 18) hx hb dX12_image_46 (by decide) ?_
    exact K18 σ9 τ H9 locs9 z10 ls hR hF hP hS (by omega) (by omega) (by first | exact (fun i j _ hj => absurd hj (by omega)) | exact I1st hi0 us vs (by omega) (by omega) (by omega) (by omega) (by omega)) (by first | exact (fun k j _ _ _ => u0 403 _ (by omega)) | exact I2st (x := x2.toInt) hi1 us (by omega) (by omega) (by omega)) (by first | exact (fun k _ => u0 405 k (by omega)) | exact (fun k hk => (us 405 k (by omega)).trans (hi2 k hk))) gSI (lv_sub hl [1, 2, 0] rfl) (by omega)
set_option maxHeartbeats 4000000 in
theorem B_X12_image_51 (p : Program) (l : Launch) (e : Env) (s : State) (m : MethodId) (args : Array Value) (below : List Frame) (meth : Method) (c : Code) (D : va_G) (cA : Nat → ClassId) (ad : Nat → Nat) (σ0 : Nat → Nat → Int32) (a1 : Int32) (n : Nat) (C : Cy p s m args meth c cX12_image 3 wsX12_image RX12 D cA ad (some .boolean)) (gSI0 : SI σ0) (gSIK0 : SIK σ0) (K18 : J_X12_image_18 p l e s m args below meth c D cA ad σ0 a1 n) (K51 : J_X12_image_51 p l e s m args below meth c D cA ad σ0 a1 n) : J_X12_image_51 p l e s m args below meth c D cA ad σ0 a1 (n + 1) := by
  obtain ⟨hx, hb, hml, hown, hts, hK, hk, hr, hI, hN⟩ := C
  intro σ τ H locs x2 ls hR hF hP hS hc0 hc1 hi0 hi1 hi2 gSI hl hm
  refine lv_iload_n hx hb dX12_image_51 rfl (lv_at hl 2 rfl) ?_
  refine r_bipush hx hb dX12_image_52 (by decide) (fun z1 ez1 => ?_)
  refine r_icmp_ge (tgt := 80) hx hb dX12_image_54 (by decide) (fun c2 => ?_) (fun c2 => ?_)
  · refine lv_aload_n hx hb dX12_image_80 rfl (lv_at hl 0 rfl) ?_
    refine fg_12_46 (k := 387) hx hb hts in_X12_image_12 hown hK hP (by decide) (by decide) (hts _ lk_X12_image_84) dX12_image_81 ?_
    refine lv_iload_n hx hb dX12_image_84 rfl (lv_at hl 1 rfl) ?_
    refine r_iconst hx hb dX12_image_85 (by decide) (fun z3 ez3 => ?_)
    obtain ⟨j4, ej4⟩ : ∃ j : Nat, a1.toInt = (j : Int) := ⟨_, ti_nat (by omega)⟩
    refine as_mareKept (k := 405) (j := j4) hx hb hK hP hI hR hS (by decide) (by decide) ej4 (by omega) (by omega) dX12_image_86 (fun σ5 H5 locs5 u5 v5 hR hP hS => ?_)
    have uk := u5
    have vk := v5
    have hF := hF.puts u5 2 rfl (by decide) (by decide) (by omega) (by omega)
    have gSI := SI.putV gSI hR u5 (by intro q hq; simp only [Gd_SI, List.mem_cons, List.not_mem_nil, or_false] at hq; rcases hq with rfl | rfl | rfl <;> dsimp only [inRc] <;> omega)
    refine r_iconst hx hb dX12_image_87 (by decide) (fun z6 ez6 => ?_)
    exact r_zret hx hb hr hK hP hS hk (by omega) dX12_image_88 (show P_X12_image σ0 a1 z6 σ5 from ⟨hR, hF, by omega, by first | exact IMm_no u0 (by omega) (by omega) | exact IMm_of (j := j4) (by omega) (by omega) (by omega) uk (by omega) hi2, gSI, SIK.im gSIK0 gSI hR hi0 hi1 hi2 uk (by omega)⟩)
  · refine lv_aload_n hx hb dX12_image_57 rfl (lv_at hl 0 rfl) ?_
    refine fg_12_45 (k := 387) hx hb hts in_X12_image_12 hown hK hP (by decide) (by decide) (hts _ lk_X12_image_81) dX12_image_58 ?_
    refine r_bipush hx hb dX12_image_61 (by decide) (fun z7 ez7 => ?_)
    refine lv_iload_n hx hb dX12_image_63 rfl (lv_at hl 1 rfl) ?_
    refine r_imulL (n := 16) hx hb dX12_image_64 (by omega) (by omega) (fun z8 ez8 => ?_)
    refine lv_iload_n hx hb dX12_image_65 rfl (lv_at hl 2 rfl) ?_
    refine r_iadd hx hb dX12_image_66 (by omega) (fun z9 ez9 => ?_)
    refine lv_aload_n hx hb dX12_image_67 rfl (lv_at hl 0 rfl) ?_
    refine fg_12_9 (k := 387) hx hb hts in_X12_image_12 hown hK hP (by decide) (by decide) (hts _ lk_X12_image_43) dX12_image_68 ?_
    refine lv_iload_n hx hb dX12_image_71 rfl (lv_at hl 2 rfl) ?_
    obtain ⟨j10, ej10⟩ : ∃ j : Nat, x2.toInt = (j : Int) := ⟨_, ti_nat (by omega)⟩
    refine ad_mnames (k := 392) (j := j10) hx hb hK hP (by decide) (by decide) ej10 (by omega) dX12_image_72 (fun z11 => ?_)
    obtain ⟨j12, ej12⟩ : ∃ j : Nat, z9.toInt = (j : Int) := ⟨_, ti_nat (by omega)⟩
    refine as_mnamesKept (k := 404) (j := j12) hx hb hK hP hI hS (by decide) (by decide) ej12 (by omega) dX12_image_73 (fun τ13 H13 locs13 hP hS => ?_)
    refine r_iinc (k := 2) (lv1 := fun z14 => [(2, .int z14), (0, .ref (ad 387)), (1, .int a1)]) hx hb dX12_image_74 hl rfl (by decide) (fun _ => rfl) (by decide) (by omega) (fun z14 ls ez14 hl => ?_)
    refine lv_goto (tgt := 51) hx hb dX12_image_77 (by decide) ?_
    exact K51 σ τ13 H13 locs13 z14 ls hR hF hP hS (by omega) (by omega) (by first | exact hi0 | exact (fun i j h1 h2 => hi0 i j h1 (by omega))) (by exact hi1) (by exact hi2) gSI (lv_sub hl [1, 2, 0] rfl) (by omega)
theorem A_X12_image (p : Program) (l : Launch) (e : Env) (s : State) (m : MethodId) (args : Array Value) (below : List Frame) (meth : Method) (c : Code) (D : va_G) (cA : Nat → ClassId) (ad : Nat → Nat) (σ0 : Nat → Nat → Int32) (a1 : Int32) (C : Cy p s m args meth c cX12_image 3 wsX12_image RX12 D cA ad (some .boolean)) (gSI0 : SI σ0) (gSIK0 : SIK σ0) : ∀ n : Nat, J_X12_image_18 p l e s m args below meth c D cA ad σ0 a1 n ∧ J_X12_image_51 p l e s m args below meth c D cA ad σ0 a1 n := by
  intro n
  induction n with
  | zero =>
    exact ⟨(by intro σ τ H locs x2 ls hR hF hP hS hc0 hc1 hi0 hi1 hi2 gSI hl hm; exfalso; omega), (by intro σ τ H locs x2 ls hR hF hP hS hc0 hc1 hi0 hi1 hi2 gSI hl hm; exfalso; omega)⟩
  | succ n ih =>
    exact ⟨B_X12_image_18 p l e s m args below meth c D cA ad σ0 a1 n C gSI0 gSIK0 ih.1 ih.2, B_X12_image_51 p l e s m args below meth c D cA ad σ0 a1 n C gSI0 gSIK0 ih.1 ih.2⟩
set_option maxHeartbeats 4000000 in
theorem c_X12_image (l : Launch) (D : va_G) (cA : Nat → ClassId) (ad : Nat → Nat) (hI : Inj ad) (σ0 : Nat → Nat → Int32) (τ0 : Nat → Nat → Int64) (hR : Rg σ0) (a1 : Int32) (gSI0 : SI σ0) (gSIK0 : SIK σ0) : Met l yX12_image wsX12_image ({ frames := 1, cells := 0, slots := 0, locals := 22 } : Room) (WQc D cA ad [.ref (ad 387), .int a1] σ0 τ0) (va_Qi (fun (r : Int32) (u : SS) => P_X12_image σ0 a1 r u.1) (WB D cA ad) (AA ad)) 0 0 (AA ad) := by
  refine Met.ofW (cc := cX12_image) (maxL := 3) (ret := (some .boolean)) (by decide) rfl ?_
  intro p e s m args below meth c s₁ B hml hv
  obtain ⟨rfl, hP, hK, hN⟩ := hv
  have C : Cy p s m _ meth c cX12_image 3 wsX12_image RX12 D cA ad (some .boolean) := ⟨B.exec, B.bytes, hml, findClass_of_methodNamed B.named, atoms_spec (ws := wsX12_image) B.pre, hK, B.notSynchronized, B.returns, hI, hN⟩
  have hl := lv_entry ([.ref (ad 387), .int a1]) (n := 3) (Nat.le_of_ble_eq_true rfl)
  rw [lg_entry_eq]
  generalize (lg_sl ([.ref (ad 387), .int a1]) ++ List.replicate (3 - (lg_sl ([.ref (ad 387), .int a1])).length) Slot.unset).toArray = ls at hl ⊢
  have hl : lv_has ls 3 [(0, .ref (ad 387)), (1, .int a1)] := hl
  have hS : va_S (AA ad) s.heap s.heap [] := va_S.rf
  have hF : Fr L_X12_image σ0 σ0 := Fr.rf
  have gSI := gSI0
  have gSIK := gSIK0
  have hA := A_X12_image p l e s m _ below meth c D cA ad σ0 a1 C gSI0 gSIK0 38099
  have K18 := hA.1
  have K51 := hA.2
  clear hA
  obtain ⟨hx, hb, _, hown, hts, _, hk, hr, _, _⟩ := C
  refine lv_aload_n hx hb dX12_image_0 rfl (lv_at hl 0 rfl) ?_
  refine r_iconst hx hb dX12_image_1 (by decide) (fun z1 ez1 => ?_)
  refine fp_12_0 (k := 387) hx hb hts in_X12_image_12 hown hK hP (by decide) (by decide) (hts _ lk_X12_image_1) hI hR hS (by omega) dX12_image_2 (fun σ2 H2 locs2 u2 v2 hR hP hS => ?_)
  have u0 := u2
  have v0 := v2
  have hF := hF.puts u2 0 rfl (by decide) (by decide) (by decide) (by decide)
  have gSI := SI.put gSI hR u2 (by decide)
  have gSIK := SIK.put gSIK hR u2 (by decide)
  refine lv_iload_n hx hb dX12_image_5 rfl (lv_at hl 1 rfl) ?_
  refine r_iconst hx hb dX12_image_6 (by decide) (fun z3 ez3 => ?_)
  refine r_iconst hx hb dX12_image_7 (by decide) (fun z4 ez4 => ?_)
  refine r_cSi (As := [.int a1, .int z3, .int z4]) (rest := []) ⟨hx, hb, hml, hown, hts⟩ hK hP hN hS (c_X12_isIn l D cA ad hI σ2 τ0 hR a1 z3 z4) (va_cwS 3 hts gX12_image_X12_isIn rfl rfl rfl (by decide +kernel) ⟨by decide, by decide⟩) rfl hl.1 rfl (Nat.le_of_ble_eq_true rfl) dX12_image_8 (Nat.zero_le _) (Nat.zero_le _) (fun r5 u5 H5 locs5 hp5 hP hS => ?_)
  obtain ⟨σ5, τ5⟩ := u5
  obtain ⟨hR, f5, hq5, hp5_0, hp5_1⟩ : P_X12_isIn σ2 a1 z3 z4 r5 σ5 := hp5
  have hP : va_P D vwCl (gw cA ad σ5 τ5) H5 := hP
  obtain rfl := Fr.nil f5
  refine r_if_ne (tgt := 16) hx hb dX12_image_11 (by decide) (fun c6 => ?_) (fun c6 => ?_)
  · replace hp5_0 := hp5_0.resolve_left (by omega)
    refine r_iconst hx hb dX12_image_16 (by decide) (fun z7 ez7 => ?_)
    refine lv_istore_n (lv' := [(2, .int z7), (0, .ref (ad 387)), (1, .int a1)]) hx hb dX12_image_17 rfl hl (by decide) rfl (fun ls hl => ?_)
    exact K18 σ2 τ5 H5 locs5 z7 ls hR hF hP hS (by omega) (by omega) (by first | exact (fun i j _ hj => absurd hj (by omega)) | exact I1st hi0 us vs (by omega) (by omega) (by omega) (by omega) (by omega)) (by first | exact (fun k j _ _ _ => u0 403 _ (by omega)) | exact I2st (x := x2.toInt) hi1 us (by omega) (by omega) (by omega)) (by first | exact (fun k _ => u0 405 k (by omega)) | exact (fun k hk => (us 405 k (by omega)).trans (hi2 k hk))) gSI (lv_sub hl [1, 2, 0] rfl) (by omega)
  · clear hp5_0
    refine r_iconst hx hb dX12_image_14 (by decide) (fun z8 ez8 => ?_)
    exact r_zret hx hb hr hK hP hS hk (by omega) dX12_image_15 (show P_X12_image σ0 a1 z8 σ2 from ⟨hR, hF, by omega, by first | exact IMm_no u0 (by omega) (by omega) | exact IMm_of (j := 0) (by omega) (by omega) (by omega) uk (by omega) hi2, gSI, gSIK⟩)
theorem in_X12_restore_12 : ∀ w ∈ u_ws RX12 TX12 47, w ∈ wsX12_restore := by decide +kernel
theorem lk_X12_restore_1 : Cond.fieldLink RX12 1 "CuckooSharesModel" "thrown" "I" ∈ wsX12_restore := by decide +kernel
theorem lk_X12_restore_256 : Cond.fieldLink RX12 256 "CuckooSharesModel" "undoMany" "I" ∈ wsX12_restore := by decide +kernel
theorem lk_X12_restore_33 : Cond.fieldLink RX12 33 "CuckooSharesModel" "s" "[I" ∈ wsX12_restore := by decide +kernel
theorem lk_X12_restore_43 : Cond.fieldLink RX12 43 "CuckooSharesModel" "names" "[J" ∈ wsX12_restore := by decide +kernel
theorem lk_X12_restore_78 : Cond.fieldLink RX12 78 "CuckooSharesModel" "kept" "[I" ∈ wsX12_restore := by decide +kernel
theorem lk_X12_restore_81 : Cond.fieldLink RX12 81 "CuckooSharesModel" "namesKept" "[J" ∈ wsX12_restore := by decide +kernel
theorem lk_X12_restore_84 : Cond.fieldLink RX12 84 "CuckooSharesModel" "areKept" "[Z" ∈ wsX12_restore := by decide +kernel
abbrev L_X12_restore : List Rc := [(387, 387, 0, 0), (389, 389, 0, 426), (387, 387, 29, 29)]
def P_X12_restore (σ0 : Nat → Nat → Int32) (a1 : Int32) (r : Int32) (σ : Nat → Nat → Int32) : Prop := Rg σ ∧ Fr L_X12_restore σ0 σ ∧ (0 ≤ r.toInt ∧ r.toInt ≤ 1) ∧ ((r.toInt = 1 ∧ ((a1.toInt = 0 ∧ (σ0 405 0).toInt ≠ 0) ∨ (a1.toInt = 1 ∧ (σ0 405 1).toInt ≠ 0))) ∨ (r.toInt = 0 ∧ (a1.toInt < 0 ∨ 1 < a1.toInt ∨ (a1.toInt = 0 ∧ (σ0 405 0).toInt = 0) ∨ (a1.toInt = 1 ∧ (σ0 405 1).toInt = 0)))) ∧ SI σ ∧ SIK σ
def J_X12_restore_27 (p : Program) (l : Launch) (e : Env) (s : State) (m : MethodId) (args : Array Value) (below : List Frame) (meth : Method) (c : Code) (D : va_G) (cA : Nat → ClassId) (ad : Nat → Nat) (σ0 : Nat → Nat → Int32) (a1 : Int32) (n : Nat) : Prop := ∀ (σ : Nat → Nat → Int32) (τ : Nat → Nat → Int64) (H : Heap) (locs : List Loc) (x2 : Int32) (ls : Array Slot), Rg σ → Fr L_X12_restore σ0 σ → va_P D vwCl (gw cA ad σ τ) H → va_S (AA ad) s.heap H locs → (0 ≤ a1.toInt ∧ a1.toInt ≤ 1) → (0 ≤ x2.toInt ∧ x2.toInt ≤ 441) → (∀ i j : Nat, a1.toInt = (i : Int) → (j : Int) < x2.toInt → σ 389 j = σ 403 (427 * i + j)) → (∀ i : Nat, a1.toInt = (i : Int) → (σ 405 i).toInt ≠ 0) → (∀ i : Nat, a1.toInt = (i : Int) → (σ0 405 i).toInt ≠ 0) → (SIK σ) → lv_has ls 3 [(0, .ref (ad 387)), (1, .int a1), (2, .int x2)] → 43 * (441 - x2.toInt) + 42 < (n : Int) → W p l e ({ frames := 1, cells := 0, slots := 0, locals := 22 } : Room) s m args below meth c H locs 0 0 (MQ below (va_Qi (fun (r : Int32) (u : SS) => P_X12_restore σ0 a1 r u.1) (WB D cA ad) (AA ad)) args s 0 0 (AA ad)) (F0 m 27 ls [])
def J_X12_restore_60 (p : Program) (l : Launch) (e : Env) (s : State) (m : MethodId) (args : Array Value) (below : List Frame) (meth : Method) (c : Code) (D : va_G) (cA : Nat → ClassId) (ad : Nat → Nat) (σ0 : Nat → Nat → Int32) (a1 : Int32) (n : Nat) : Prop := ∀ (σ : Nat → Nat → Int32) (τ : Nat → Nat → Int64) (H : Heap) (locs : List Loc) (x2 : Int32) (ls : Array Slot), Rg σ → Fr L_X12_restore σ0 σ → va_P D vwCl (gw cA ad σ τ) H → va_S (AA ad) s.heap H locs → (0 ≤ a1.toInt ∧ a1.toInt ≤ 1) → (0 ≤ x2.toInt ∧ x2.toInt ≤ 19) → (∀ i : Nat, a1.toInt = (i : Int) → (σ0 405 i).toInt ≠ 0) → (SI σ) → (SIK σ) → lv_has ls 3 [(0, .ref (ad 387)), (1, .int a1), (2, .int x2)] → 2 * (19 - x2.toInt) + 1 < (n : Int) → W p l e ({ frames := 1, cells := 0, slots := 0, locals := 22 } : Room) s m args below meth c H locs 0 0 (MQ below (va_Qi (fun (r : Int32) (u : SS) => P_X12_restore σ0 a1 r u.1) (WB D cA ad) (AA ad)) args s 0 0 (AA ad)) (F0 m 60 ls [])
set_option maxHeartbeats 4000000 in
theorem B_X12_restore_27 (p : Program) (l : Launch) (e : Env) (s : State) (m : MethodId) (args : Array Value) (below : List Frame) (meth : Method) (c : Code) (D : va_G) (cA : Nat → ClassId) (ad : Nat → Nat) (σ0 : Nat → Nat → Int32) (a1 : Int32) (n : Nat) (C : Cy p s m args meth c cX12_restore 3 wsX12_restore RX12 D cA ad (some .boolean)) (gSI0 : SI σ0) (gSIK0 : SIK σ0) (K27 : J_X12_restore_27 p l e s m args below meth c D cA ad σ0 a1 n) (K60 : J_X12_restore_60 p l e s m args below meth c D cA ad σ0 a1 n) : J_X12_restore_27 p l e s m args below meth c D cA ad σ0 a1 (n + 1) := by
  obtain ⟨hx, hb, hml, hown, hts, hK, hk, hr, hI, hN⟩ := C
  intro σ τ H locs x2 ls hR hF hP hS hc0 hc1 hi0 hi1 hi2 gSIK hl hm
  refine lv_iload_n hx hb dX12_restore_27 rfl (lv_at hl 2 rfl) ?_
  refine r_sipush hx hb dX12_restore_28 (by decide) (fun z1 ez1 => ?_)
  refine r_icmp_ge (tgt := 58) hx hb dX12_restore_31 (by decide) (fun c2 => ?_) (fun c2 => ?_)
  · have gSI := SI.rest gSIK hR (fun i hi => hi1 i hi) (fun i j h1 h2 => hi0 i j h1 (by omega)) (by omega) (by omega)
    refine r_iconst hx hb dX12_restore_58 (by decide) (fun z3 ez3 => ?_)
    refine lv_istore_n (lv' := [(2, .int z3), (0, .ref (ad 387)), (1, .int a1)]) hx hb dX12_restore_59 rfl hl (by decide) rfl (fun ls hl => ?_)
    exact K60 σ τ H locs z3 ls hR hF hP hS (by omega) (by omega) (by first | exact hi0 | exact hi2) gSI gSIK (lv_sub hl [1, 2, 0] rfl) (by omega)
  · refine lv_aload_n hx hb dX12_restore_34 rfl (lv_at hl 0 rfl) ?_
    refine fg_12_6 (k := 387) hx hb hts in_X12_restore_12 hown hK hP (by decide) (by decide) (hts _ lk_X12_restore_33) dX12_restore_35 ?_
    refine lv_iload_n hx hb dX12_restore_38 rfl (lv_at hl 2 rfl) ?_
    refine lv_aload_n hx hb dX12_restore_39 rfl (lv_at hl 0 rfl) ?_
    refine fg_12_44 (k := 387) hx hb hts in_X12_restore_12 hown hK hP (by decide) (by decide) (hts _ lk_X12_restore_78) dX12_restore_40 ?_
    refine r_sipush hx hb dX12_restore_43 (by decide) (fun z4 ez4 => ?_)
    refine lv_iload_n hx hb dX12_restore_46 rfl (lv_at hl 1 rfl) ?_
    refine r_imulL (n := 427) hx hb dX12_restore_47 (by omega) (by omega) (fun z5 ez5 => ?_)
    refine lv_iload_n hx hb dX12_restore_48 rfl (lv_at hl 2 rfl) ?_
    refine r_iadd hx hb dX12_restore_49 (by omega) (fun z6 ez6 => ?_)
    obtain ⟨j7, ej7⟩ : ∃ j : Nat, z6.toInt = (j : Int) := ⟨_, ti_nat (by omega)⟩
    refine ad_mkept (k := 403) (j := j7) hx hb hK hP (by decide) (by decide) ej7 (by omega) dX12_restore_50 ?_
    obtain ⟨j8, ej8⟩ : ∃ j : Nat, x2.toInt = (j : Int) := ⟨_, ti_nat (by omega)⟩
    refine as_ms (k := 389) (j := j8) hx hb hK hP hI hR hS (by decide) (by decide) ej8 (by omega) (mc_sk hR (a1.toInt.toNat) (by omega) (by omega) (by omega)) dX12_restore_51 (fun σ9 H9 locs9 u9 v9 hR hP hS => ?_)
    have us := u9
    have vs := v9
    have hF := hF.puts u9 1 rfl (by decide) (by decide) (by omega) (by omega)
    have gSIK := SIK.putV gSIK hR u9 (by intro q hq; simp only [Gd_SIK, List.mem_cons, List.not_mem_nil, or_false] at hq; rcases hq with rfl | rfl <;> dsimp only [inRc] <;> omega)
    have t10 : (σ9 403 j7).toInt = (σ 403 j7).toInt := congrArg Int32.toInt (u9 403 j7 (by omega))
    refine r_iinc (k := 2) (lv1 := fun z11 => [(2, .int z11), (0, .ref (ad 387)), (1, .int a1)]) hx hb dX12_restore_52 hl rfl (by decide) (fun _ => rfl) (by decide) (by omega) (fun z11 ls ez11 hl => ?_)
    refine lv_goto (tgt := 27) hx hb dX12_restore_55 (by decide) ?_
    exact K27 σ9 τ H9 locs9 z11 ls hR hF hP hS (by omega) (by omega) (by first | exact (fun i j _ hj => absurd hj (by omega)) | exact R1st hi0 us vs (by omega) (by omega) (by omega) (by omega) (by omega)) (by first | exact (fun i hi => by rw [us 405 i (by omega)]; exact hi1 i hi) | exact (fun i hi => by have ej : i = {nat:a1} := (by omega); subst ej; omega)) (by first | exact hi2 | exact (fun i hi => by have ej : i = {nat:a1} := (by omega); subst ej; rw [← u0 405 _ (by omega)]; omega)) gSIK (lv_sub hl [1, 2, 0] rfl) (by omega)
set_option maxHeartbeats 4000000 in
theorem B_X12_restore_60 (p : Program) (l : Launch) (e : Env) (s : State) (m : MethodId) (args : Array Value) (below : List Frame) (meth : Method) (c : Code) (D : va_G) (cA : Nat → ClassId) (ad : Nat → Nat) (σ0 : Nat → Nat → Int32) (a1 : Int32) (n : Nat) (C : Cy p s m args meth c cX12_restore 3 wsX12_restore RX12 D cA ad (some .boolean)) (gSI0 : SI σ0) (gSIK0 : SIK σ0) (K27 : J_X12_restore_27 p l e s m args below meth c D cA ad σ0 a1 n) (K60 : J_X12_restore_60 p l e s m args below meth c D cA ad σ0 a1 n) : J_X12_restore_60 p l e s m args below meth c D cA ad σ0 a1 (n + 1) := by
  obtain ⟨hx, hb, hml, hown, hts, hK, hk, hr, hI, hN⟩ := C
  intro σ τ H locs x2 ls hR hF hP hS hc0 hc1 hi0 gSI gSIK hl hm
  refine lv_iload_n hx hb dX12_restore_60 rfl (lv_at hl 2 rfl) ?_
  refine r_bipush hx hb dX12_restore_61 (by decide) (fun z1 ez1 => ?_)
  refine r_icmp_ge (tgt := 89) hx hb dX12_restore_63 (by decide) (fun c2 => ?_) (fun c2 => ?_)
  · refine lv_aload_n hx hb dX12_restore_89 rfl (lv_at hl 0 rfl) ?_
    refine r_iconst hx hb dX12_restore_90 (by decide) (fun z3 ez3 => ?_)
    refine fp_12_29 (k := 387) hx hb hts in_X12_restore_12 hown hK hP (by decide) (by decide) (hts _ lk_X12_restore_256) hI hR hS (by omega) dX12_restore_91 (fun σ4 H4 locs4 u4 v4 hR hP hS => ?_)
    have hF := hF.puts u4 2 rfl (by decide) (by decide) (by decide) (by decide)
    have gSI := SI.put gSI hR u4 (by decide)
    have gSIK := SIK.put gSIK hR u4 (by decide)
    refine r_iconst hx hb dX12_restore_94 (by decide) (fun z5 ez5 => ?_)
    exact r_zret hx hb hr hK hP hS hk (by omega) dX12_restore_95 (show P_X12_restore σ0 a1 z5 σ4 from ⟨hR, hF, by omega, by first | exact RSm_ok hi0 (by omega) (by omega) (by omega) | omega | exact RSm_0 u0 (j := 0) (by omega) (by omega) (by omega) (by omega), gSI, gSIK⟩)
  · refine lv_aload_n hx hb dX12_restore_66 rfl (lv_at hl 0 rfl) ?_
    refine fg_12_9 (k := 387) hx hb hts in_X12_restore_12 hown hK hP (by decide) (by decide) (hts _ lk_X12_restore_43) dX12_restore_67 ?_
    refine lv_iload_n hx hb dX12_restore_70 rfl (lv_at hl 2 rfl) ?_
    refine lv_aload_n hx hb dX12_restore_71 rfl (lv_at hl 0 rfl) ?_
    refine fg_12_45 (k := 387) hx hb hts in_X12_restore_12 hown hK hP (by decide) (by decide) (hts _ lk_X12_restore_81) dX12_restore_72 ?_
    refine r_bipush hx hb dX12_restore_75 (by decide) (fun z6 ez6 => ?_)
    refine lv_iload_n hx hb dX12_restore_77 rfl (lv_at hl 1 rfl) ?_
    refine r_imulL (n := 16) hx hb dX12_restore_78 (by omega) (by omega) (fun z7 ez7 => ?_)
    refine lv_iload_n hx hb dX12_restore_79 rfl (lv_at hl 2 rfl) ?_
    refine r_iadd hx hb dX12_restore_80 (by omega) (fun z8 ez8 => ?_)
    obtain ⟨j9, ej9⟩ : ∃ j : Nat, z8.toInt = (j : Int) := ⟨_, ti_nat (by omega)⟩
    refine ad_mnamesKept (k := 404) (j := j9) hx hb hK hP (by decide) (by decide) ej9 (by omega) dX12_restore_81 (fun z10 => ?_)
    obtain ⟨j11, ej11⟩ : ∃ j : Nat, x2.toInt = (j : Int) := ⟨_, ti_nat (by omega)⟩
    refine as_mnames (k := 392) (j := j11) hx hb hK hP hI hS (by decide) (by decide) ej11 (by omega) dX12_restore_82 (fun τ12 H12 locs12 hP hS => ?_)
    refine r_iinc (k := 2) (lv1 := fun z13 => [(2, .int z13), (0, .ref (ad 387)), (1, .int a1)]) hx hb dX12_restore_83 hl rfl (by decide) (fun _ => rfl) (by decide) (by omega) (fun z13 ls ez13 hl => ?_)
    refine lv_goto (tgt := 60) hx hb dX12_restore_86 (by decide) ?_
    exact K60 σ τ12 H12 locs12 z13 ls hR hF hP hS (by omega) (by omega) (by first | exact hi0 | exact hi2) gSI gSIK (lv_sub hl [1, 2, 0] rfl) (by omega)
theorem A_X12_restore (p : Program) (l : Launch) (e : Env) (s : State) (m : MethodId) (args : Array Value) (below : List Frame) (meth : Method) (c : Code) (D : va_G) (cA : Nat → ClassId) (ad : Nat → Nat) (σ0 : Nat → Nat → Int32) (a1 : Int32) (C : Cy p s m args meth c cX12_restore 3 wsX12_restore RX12 D cA ad (some .boolean)) (gSI0 : SI σ0) (gSIK0 : SIK σ0) : ∀ n : Nat, J_X12_restore_27 p l e s m args below meth c D cA ad σ0 a1 n ∧ J_X12_restore_60 p l e s m args below meth c D cA ad σ0 a1 n := by
  intro n
  induction n with
  | zero =>
    exact ⟨(by intro σ τ H locs x2 ls hR hF hP hS hc0 hc1 hi0 hi1 hi2 gSIK hl hm; exfalso; omega), (by intro σ τ H locs x2 ls hR hF hP hS hc0 hc1 hi0 gSI gSIK hl hm; exfalso; omega)⟩
  | succ n ih =>
    exact ⟨B_X12_restore_27 p l e s m args below meth c D cA ad σ0 a1 n C gSI0 gSIK0 ih.1 ih.2, B_X12_restore_60 p l e s m args below meth c D cA ad σ0 a1 n C gSI0 gSIK0 ih.1 ih.2⟩
set_option maxHeartbeats 4000000 in
theorem c_X12_restore (l : Launch) (D : va_G) (cA : Nat → ClassId) (ad : Nat → Nat) (hI : Inj ad) (σ0 : Nat → Nat → Int32) (τ0 : Nat → Nat → Int64) (hR : Rg σ0) (a1 : Int32) (gSI0 : SI σ0) (gSIK0 : SIK σ0) : Met l yX12_restore wsX12_restore ({ frames := 1, cells := 0, slots := 0, locals := 22 } : Room) (WQc D cA ad [.ref (ad 387), .int a1] σ0 τ0) (va_Qi (fun (r : Int32) (u : SS) => P_X12_restore σ0 a1 r u.1) (WB D cA ad) (AA ad)) 0 0 (AA ad) := by
  refine Met.ofW (cc := cX12_restore) (maxL := 3) (ret := (some .boolean)) (by decide) rfl ?_
  intro p e s m args below meth c s₁ B hml hv
  obtain ⟨rfl, hP, hK, hN⟩ := hv
  have C : Cy p s m _ meth c cX12_restore 3 wsX12_restore RX12 D cA ad (some .boolean) := ⟨B.exec, B.bytes, hml, findClass_of_methodNamed B.named, atoms_spec (ws := wsX12_restore) B.pre, hK, B.notSynchronized, B.returns, hI, hN⟩
  have hl := lv_entry ([.ref (ad 387), .int a1]) (n := 3) (Nat.le_of_ble_eq_true rfl)
  rw [lg_entry_eq]
  generalize (lg_sl ([.ref (ad 387), .int a1]) ++ List.replicate (3 - (lg_sl ([.ref (ad 387), .int a1])).length) Slot.unset).toArray = ls at hl ⊢
  have hl : lv_has ls 3 [(0, .ref (ad 387)), (1, .int a1)] := hl
  have hS : va_S (AA ad) s.heap s.heap [] := va_S.rf
  have hF : Fr L_X12_restore σ0 σ0 := Fr.rf
  have gSI := gSI0
  have gSIK := gSIK0
  have hA := A_X12_restore p l e s m _ below meth c D cA ad σ0 a1 C gSI0 gSIK0 38099
  have K27 := hA.1
  have K60 := hA.2
  clear hA
  obtain ⟨hx, hb, _, hown, hts, _, hk, hr, _, _⟩ := C
  refine lv_aload_n hx hb dX12_restore_0 rfl (lv_at hl 0 rfl) ?_
  refine r_iconst hx hb dX12_restore_1 (by decide) (fun z1 ez1 => ?_)
  refine fp_12_0 (k := 387) hx hb hts in_X12_restore_12 hown hK hP (by decide) (by decide) (hts _ lk_X12_restore_1) hI hR hS (by omega) dX12_restore_2 (fun σ2 H2 locs2 u2 v2 hR hP hS => ?_)
  have u0 := u2
  have v0 := v2
  have hF := hF.puts u2 0 rfl (by decide) (by decide) (by decide) (by decide)
  have gSI := SI.put gSI hR u2 (by decide)
  have gSIK := SIK.put gSIK hR u2 (by decide)
  refine lv_iload_n hx hb dX12_restore_5 rfl (lv_at hl 1 rfl) ?_
  refine r_iconst hx hb dX12_restore_6 (by decide) (fun z3 ez3 => ?_)
  refine r_iconst hx hb dX12_restore_7 (by decide) (fun z4 ez4 => ?_)
  refine r_cSi (As := [.int a1, .int z3, .int z4]) (rest := []) ⟨hx, hb, hml, hown, hts⟩ hK hP hN hS (c_X12_isIn l D cA ad hI σ2 τ0 hR a1 z3 z4) (va_cwS 3 hts gX12_restore_X12_isIn rfl rfl rfl (by decide +kernel) ⟨by decide, by decide⟩) rfl hl.1 rfl (Nat.le_of_ble_eq_true rfl) dX12_restore_8 (Nat.zero_le _) (Nat.zero_le _) (fun r5 u5 H5 locs5 hp5 hP hS => ?_)
  obtain ⟨σ5, τ5⟩ := u5
  obtain ⟨hR, f5, hq5, hp5_0, hp5_1⟩ : P_X12_isIn σ2 a1 z3 z4 r5 σ5 := hp5
  have hP : va_P D vwCl (gw cA ad σ5 τ5) H5 := hP
  obtain rfl := Fr.nil f5
  refine r_if_eq (tgt := 23) hx hb dX12_restore_11 (by decide) (fun c6 => ?_) (fun c6 => ?_)
  · clear hp5_0
    refine r_iconst hx hb dX12_restore_23 (by decide) (fun z7 ez7 => ?_)
    exact r_zret hx hb hr hK hP hS hk (by omega) dX12_restore_24 (show P_X12_restore σ0 a1 z7 σ2 from ⟨hR, hF, by omega, by first | exact RSm_ok hi0 (by omega) (by omega) (by omega) | omega | exact RSm_0 u0 (j := 0) (by omega) (by omega) (by omega) (by omega), gSI, gSIK⟩)
  · replace hp5_0 := hp5_0.resolve_left (by omega)
    refine lv_aload_n hx hb dX12_restore_14 rfl (lv_at hl 0 rfl) ?_
    refine fg_12_46 (k := 387) hx hb hts in_X12_restore_12 hown hK hP (by decide) (by decide) (hts _ lk_X12_restore_84) dX12_restore_15 ?_
    refine lv_iload_n hx hb dX12_restore_18 rfl (lv_at hl 1 rfl) ?_
    obtain ⟨j8, ej8⟩ : ∃ j : Nat, a1.toInt = (j : Int) := ⟨_, ti_nat (by omega)⟩
    refine ad_mareKept (k := 405) (j := j8) hx hb hK hP (by decide) (by decide) ej8 (by omega) dX12_restore_19 ?_
    refine r_if_ne (tgt := 25) hx hb dX12_restore_20 (by decide) (fun c9 => ?_) (fun c9 => ?_)
    · refine r_iconst hx hb dX12_restore_25 (by decide) (fun z10 ez10 => ?_)
      refine lv_istore_n (lv' := [(2, .int z10), (0, .ref (ad 387)), (1, .int a1)]) hx hb dX12_restore_26 rfl hl (by decide) rfl (fun ls hl => ?_)
      exact K27 σ2 τ5 H5 locs5 z10 ls hR hF hP hS (by omega) (by omega) (by first | exact (fun i j _ hj => absurd hj (by omega)) | exact R1st hi0 us vs (by omega) (by omega) (by omega) (by omega) (by omega)) (by first | exact (fun i hi => by rw [us 405 i (by omega)]; exact hi1 i hi) | exact (fun i hi => by have ej : i = j8 := (by omega); subst ej; omega)) (by first | exact hi2 | exact (fun i hi => by have ej : i = j8 := (by omega); subst ej; rw [← u0 405 _ (by omega)]; omega)) gSIK (lv_sub hl [1, 2, 0] rfl) (by omega)
    · refine r_iconst hx hb dX12_restore_23 (by decide) (fun z11 ez11 => ?_)
      exact r_zret hx hb hr hK hP hS hk (by omega) dX12_restore_24 (show P_X12_restore σ0 a1 z11 σ2 from ⟨hR, hF, by omega, by first | exact RSm_ok hi0 (by omega) (by omega) (by omega) | omega | exact RSm_0 u0 (j := j8) (by omega) (by omega) (by omega) (by omega), gSI, gSIK⟩)
theorem in_X12_count_12 : ∀ w ∈ u_ws RX12 TX12 47, w ∈ wsX12_count := by decide +kernel
theorem lk_X12_count_1 : Cond.fieldLink RX12 1 "CuckooSharesModel" "thrown" "I" ∈ wsX12_count := by decide +kernel
theorem lk_X12_count_33 : Cond.fieldLink RX12 33 "CuckooSharesModel" "s" "[I" ∈ wsX12_count := by decide +kernel
theorem lk_X12_count_7 : Cond.fieldLink RX12 7 "CuckooSharesModel" "length" "I" ∈ wsX12_count := by decide +kernel
abbrev L_X12_count : List Rc := [(387, 387, 0, 0)]
def P_X12_count (σ0 : Nat → Nat → Int32) (a1 : Int32) (r : Int32) (σ : Nat → Nat → Int32) : Prop := Rg σ ∧ Fr L_X12_count σ0 σ
set_option maxHeartbeats 4000000 in
theorem c_X12_count (l : Launch) (D : va_G) (cA : Nat → ClassId) (ad : Nat → Nat) (hI : Inj ad) (σ0 : Nat → Nat → Int32) (τ0 : Nat → Nat → Int64) (hR : Rg σ0) (a1 : Int32) (gSI0 : SI σ0) : Met l yX12_count wsX12_count ({ frames := 1, cells := 0, slots := 0, locals := 22 } : Room) (WQc D cA ad [.ref (ad 387), .int a1] σ0 τ0) (va_Qi (fun (r : Int32) (u : SS) => P_X12_count σ0 a1 r u.1) (WB D cA ad) (AA ad)) 0 0 (AA ad) := by
  refine Met.ofW (cc := cX12_count) (maxL := 2) (ret := (some .int)) (by decide) rfl ?_
  intro p e s m args below meth c s₁ B hml hv
  obtain ⟨rfl, hP, hK, hN⟩ := hv
  have C : Cy p s m _ meth c cX12_count 2 wsX12_count RX12 D cA ad (some .int) := ⟨B.exec, B.bytes, hml, findClass_of_methodNamed B.named, atoms_spec (ws := wsX12_count) B.pre, hK, B.notSynchronized, B.returns, hI, hN⟩
  have hl := lv_entry ([.ref (ad 387), .int a1]) (n := 2) (Nat.le_of_ble_eq_true rfl)
  rw [lg_entry_eq]
  generalize (lg_sl ([.ref (ad 387), .int a1]) ++ List.replicate (2 - (lg_sl ([.ref (ad 387), .int a1])).length) Slot.unset).toArray = ls at hl ⊢
  have hl : lv_has ls 2 [(0, .ref (ad 387)), (1, .int a1)] := hl
  have hS : va_S (AA ad) s.heap s.heap [] := va_S.rf
  have hF : Fr L_X12_count σ0 σ0 := Fr.rf
  have gSI := gSI0
  obtain ⟨hx, hb, _, hown, hts, _, hk, hr, _, _⟩ := C
  refine lv_aload_n hx hb dX12_count_0 rfl (lv_at hl 0 rfl) ?_
  refine r_iconst hx hb dX12_count_1 (by decide) (fun z1 ez1 => ?_)
  refine fp_12_0 (k := 387) hx hb hts in_X12_count_12 hown hK hP (by decide) (by decide) (hts _ lk_X12_count_1) hI hR hS (by omega) dX12_count_2 (fun σ2 H2 locs2 u2 v2 hR hP hS => ?_)
  have hF := hF.puts u2 0 rfl (by decide) (by decide) (by decide) (by decide)
  have gSI := SI.put gSI hR u2 (by decide)
  refine lv_iload_n hx hb dX12_count_5 rfl (lv_at hl 1 rfl) ?_
  by_cases c3 : a1.toInt = 3
  · refine lv_tableIn (off := 26) (tgt := 32) hx hb dX12_count_6 (by omega) (by omega) (by rw [c3]; rfl) (by decide) ?_
    refine lv_aload_n hx hb dX12_count_32 rfl (lv_at hl 0 rfl) ?_
    refine r_cVi (k := 387) (As := []) (rest := []) ⟨hx, hb, hml, hown, hts⟩ hK hP hN hS (c_X12_chances l D cA ad hI σ2 τ0 hR gSI) (cwV 0 hts gX12_count_X12_chances rfl rfl rfl (by decide +kernel) ⟨by decide, by decide⟩) (rv_M hK hP (by decide) (by decide)) rfl hl.1 rfl (Nat.le_of_ble_eq_true rfl) dX12_count_33 (Nat.zero_le _) (Nat.zero_le _) (fun r4 u4 H4 locs4 hp4 hP hS => ?_)
    obtain ⟨σ4, τ4⟩ := u4
    obtain ⟨hR, f4, hq4, hp4_0, hp4_1⟩ : P_X12_chances σ2 r4 σ4 := hp4
    have hP : va_P D vwCl (gw cA ad σ4 τ4) H4 := hP
    obtain rfl := Fr.nil f4
    exact r_iret hx hb hr hK hP hS hk dX12_count_36 (show P_X12_count σ0 a1 r4 σ2 from ⟨hR, hF⟩)
  by_cases c5 : a1.toInt = 4
  · refine lv_tableIn (off := 31) (tgt := 37) hx hb dX12_count_6 (by omega) (by omega) (by rw [c5]; rfl) (by decide) ?_
    refine lv_aload_n hx hb dX12_count_37 rfl (lv_at hl 0 rfl) ?_
    refine fg_12_6 (k := 387) hx hb hts in_X12_count_12 hown hK hP (by decide) (by decide) (hts _ lk_X12_count_33) dX12_count_38 ?_
    refine r_iconst hx hb dX12_count_41 (by decide) (fun z6 ez6 => ?_)
    refine ad_ms (k := 389) (j := 4) hx hb hK hP (by decide) (by decide) (by omega) (by omega) dX12_count_42 ?_
    exact r_iret hx hb hr hK hP hS hk dX12_count_43 (show P_X12_count σ0 a1 (σ2 389 4) σ2 from ⟨hR, hF⟩)
  by_cases c7 : a1.toInt = 5
  · refine lv_tableIn (off := 38) (tgt := 44) hx hb dX12_count_6 (by omega) (by omega) (by rw [c7]; rfl) (by decide) ?_
    refine lv_aload_n hx hb dX12_count_44 rfl (lv_at hl 0 rfl) ?_
    refine fg_12_2 (k := 387) hx hb hts in_X12_count_12 hown hK hP (by decide) (by decide) (hts _ lk_X12_count_7) dX12_count_45 ?_
    have hr8 := rg_12_2 hR (k := 387) (by decide) (by decide)
    exact r_iret hx hb hr hK hP hS hk dX12_count_48 (show P_X12_count σ0 a1 (σ2 387 2) σ2 from ⟨hR, hF⟩)
  refine lv_tableOut (tgt := 49) hx hb dX12_count_6 (by omega) (by decide) ?_
  refine lv_iload_n hx hb dX12_count_49 rfl (lv_at hl 1 rfl) ?_
  refine r_iconst hx hb dX12_count_50 (by decide) (fun z9 ez9 => ?_)
  refine r_iconst hx hb dX12_count_51 (by decide) (fun z10 ez10 => ?_)
  refine r_cSi (As := [.int a1, .int z9, .int z10]) (rest := []) ⟨hx, hb, hml, hown, hts⟩ hK hP hN hS (c_X12_isIn l D cA ad hI σ2 τ0 hR a1 z9 z10) (va_cwS 3 hts gX12_count_X12_isIn rfl rfl rfl (by decide +kernel) ⟨by decide, by decide⟩) rfl hl.1 rfl (Nat.le_of_ble_eq_true rfl) dX12_count_52 (Nat.zero_le _) (Nat.zero_le _) (fun r11 u11 H11 locs11 hp11 hP hS => ?_)
  obtain ⟨σ11, τ11⟩ := u11
  obtain ⟨hR, f11, hq11, hp11_0, hp11_1⟩ : P_X12_isIn σ2 a1 z9 z10 r11 σ11 := hp11
  have hP : va_P D vwCl (gw cA ad σ11 τ11) H11 := hP
  obtain rfl := Fr.nil f11
  refine r_if_eq (tgt := 67) hx hb dX12_count_55 (by decide) (fun c12 => ?_) (fun c12 => ?_)
  · clear hp11_0
    refine r_iconst hx hb dX12_count_67 (by decide) (fun z13 ez13 => ?_)
    exact r_iret hx hb hr hK hP hS hk dX12_count_68 (show P_X12_count σ0 a1 z13 σ2 from ⟨hR, hF⟩)
  · replace hp11_0 := hp11_0.resolve_left (by omega)
    refine lv_aload_n hx hb dX12_count_58 rfl (lv_at hl 0 rfl) ?_
    refine fg_12_6 (k := 387) hx hb hts in_X12_count_12 hown hK hP (by decide) (by decide) (hts _ lk_X12_count_33) dX12_count_59 ?_
    refine lv_iload_n hx hb dX12_count_62 rfl (lv_at hl 1 rfl) ?_
    obtain ⟨j14, ej14⟩ : ∃ j : Nat, a1.toInt = (j : Int) := ⟨_, ti_nat (by omega)⟩
    refine ad_ms (k := 389) (j := j14) hx hb hK hP (by decide) (by decide) ej14 (by omega) dX12_count_63 ?_
    refine lv_goto (tgt := 68) hx hb dX12_count_64 (by decide) ?_
    exact r_iret hx hb hr hK hP hS hk dX12_count_68 (show P_X12_count σ0 a1 (σ2 389 j14) σ2 from ⟨hR, hF⟩)
