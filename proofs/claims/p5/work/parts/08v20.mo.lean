theorem in_X12_sentence_12 : ∀ w ∈ u_ws RX12 TX12 47, w ∈ wsX12_sentence := by decide +kernel
theorem lk_X12_sentence_1 : Cond.fieldLink RX12 1 "CuckooSharesModel" "thrown" "I" ∈ wsX12_sentence := by decide +kernel
theorem lk_X12_sentence_159 : Cond.fieldLink RX12 159 "CuckooSharesModel" "token" "I" ∈ wsX12_sentence := by decide +kernel
theorem lk_X12_sentence_176 : Cond.fieldLink RX12 176 "CuckooSharesModel" "fault" "I" ∈ wsX12_sentence := by decide +kernel
theorem lk_X12_sentence_179 : Cond.fieldLink RX12 179 "CuckooSharesModel" "faultAt" "I" ∈ wsX12_sentence := by decide +kernel
theorem lk_X12_sentence_33 : Cond.fieldLink RX12 33 "CuckooSharesModel" "s" "[I" ∈ wsX12_sentence := by decide +kernel
theorem lk_X12_sentence_40 : Cond.fieldLink RX12 40 "CuckooSharesModel" "read" "[I" ∈ wsX12_sentence := by decide +kernel
theorem lk_X12_sentence_431 : Cond.fieldLink RX12 431 "CuckooSharesModel" "codes" "I" ∈ wsX12_sentence := by decide +kernel
theorem lk_X12_sentence_434 : Cond.fieldLink RX12 434 "CuckooSharesModel" "top" "I" ∈ wsX12_sentence := by decide +kernel
theorem lk_X12_sentence_440 : Cond.fieldLink RX12 440 "CuckooSharesModel" "deep" "I" ∈ wsX12_sentence := by decide +kernel
theorem lk_X12_sentence_446 : Cond.fieldLink RX12 446 "CuckooSharesModel" "ones" "I" ∈ wsX12_sentence := by decide +kernel
theorem lk_X12_sentence_449 : Cond.fieldLink RX12 449 "CuckooSharesModel" "isWhole" "Z" ∈ wsX12_sentence := by decide +kernel
abbrev L_X12_sentence : List Rc := [(387, 387, 0, 0), (387, 387, 2, 5), (387, 387, 38, 42), (387, 387, 11, 16), (401, 401, 0, 40), (391, 391, 0, 119), (387, 387, 18, 18), (389, 389, 246, 366)]
abbrev LL_X12_sentence : List Rc := [(387, 387, 17, 17)]
def P_X12_sentence (σ0 : Nat → Nat → Int32) (τ0 : Nat → Nat → Int64) (b : Nat → Int) (N : Nat) (nm : Nat → Int) (hc : Nat) (r : Int32) (σ : Nat → Nat → Int32) (τ : Nat → Nat → Int64) : Prop := Rg σ ∧ Fr L_X12_sentence σ0 σ ∧ FrL LL_X12_sentence τ0 τ ∧ ((σ 387 2).toInt = 0) ∧ (r.toInt = senA b N nm hc) ∧ ((σ 387 15).toInt = kndP (senP b N 200 nm hc)) ∧ SI σ ∧ RV τ  ∧ WJ σ τ nm hc
def J_X12_sentence_48 (p : Program) (l : Launch) (e : Env) (s : State) (m : MethodId) (args : Array Value) (below : List Frame) (meth : Method) (c : Code) (D : va_G) (cA : Nat → ClassId) (ad : Nat → Nat) (σ0 : Nat → Nat → Int32) (τ0 : Nat → Nat → Int64) (b : Nat → Int) (N : Nat) (nm : Nat → Int) (hc : Nat) (n : Nat) : Prop := ∀ (σ : Nat → Nat → Int32) (τ : Nat → Nat → Int64) (H : Heap) (locs : List Loc) (x1 : Int32) (wh : Bool) (q : Nat) (nn : Nat) (K : List Bool) (ls : Array Slot), Rg σ → Fr L_X12_sentence σ0 σ → FrL LL_X12_sentence τ0 τ → va_P D vwCl (gw cA ad σ τ) H → va_S (AA ad) s.heap H locs → (0 ≤ x1.toInt ∧ x1.toInt ≤ 1) → (0 ≤ (σ 387 2).toInt ∧ (σ 387 2).toInt ≤ 0) → (0 ≤ (σ 387 38).toInt ∧ (σ 387 38).toInt ≤ 40) → (0 ≤ (σ 387 39).toInt ∧ (σ 387 39).toInt ≤ 20) → (0 ≤ (σ 387 40).toInt ∧ (σ 387 40).toInt ≤ 40) → (0 ≤ (σ 387 42).toInt ∧ (σ 387 42).toInt ≤ 1) → (0 ≤ (σ 387 4).toInt ∧ (σ 387 4).toInt ≤ 940) → ((σ 387 38).toInt + (σ 387 40).toInt + (σ 387 42).toInt ≤ 2 * (σ 387 39).toInt) → ((x1.toInt = 1 ∧ RnS b N 200 nm hc (wh, q, nn, K) (senP b N 200 nm hc)) ∨ (x1.toInt = 0 ∧ senP b N 200 nm hc = .inr nn)) → ((σ 387 39).toInt = (nn : Int)) → ((σ 387 42).toInt = if wh = true then 1 else 0) → ((σ 387 15).toInt = 0) → (SI σ) → (RV τ ) → (WJ σ τ nm hc) → (PV σ) → (MT σ b N 200) → (MK σ τ b N 200 q) → (SN σ K) → lv_has ls 3 [(0, .ref (ad 387)), (1, .int x1)] → 259 * (100 * (20 - (σ 387 39).toInt) + 2 * (σ 387 40).toInt + 3 * (σ 387 42).toInt + x1.toInt) + 258 < (n : Int) → W p l e ({ frames := 3, cells := 0, slots := 0, locals := 69 } : Room) s m args below meth c H locs 0 0 (MQ below (va_Qi (fun (r : Int32) (u : SS) => P_X12_sentence σ0 τ0 b N nm hc r u.1 u.2) (WB D cA ad) (AA ad)) args s 0 0 (AA ad)) (F0 m 48 ls [])
def J_X12_sentence_146 (p : Program) (l : Launch) (e : Env) (s : State) (m : MethodId) (args : Array Value) (below : List Frame) (meth : Method) (c : Code) (D : va_G) (cA : Nat → ClassId) (ad : Nat → Nat) (σ0 : Nat → Nat → Int32) (τ0 : Nat → Nat → Int64) (b : Nat → Int) (N : Nat) (nm : Nat → Int) (hc : Nat) (n : Nat) : Prop := ∀ (σ : Nat → Nat → Int32) (τ : Nat → Nat → Int64) (H : Heap) (locs : List Loc) (x1 : Int32) (x2 : Int32) (ls : Array Slot), Rg σ → Fr L_X12_sentence σ0 σ → FrL LL_X12_sentence τ0 τ → va_P D vwCl (gw cA ad σ τ) H → va_S (AA ad) s.heap H locs → (0 ≤ x1.toInt ∧ x1.toInt ≤ 0) → (0 ≤ x2.toInt ∧ x2.toInt ≤ 127) → (0 ≤ (σ 387 2).toInt ∧ (σ 387 2).toInt ≤ 0) → (0 ≤ (σ 387 38).toInt ∧ (σ 387 38).toInt ≤ 40) → (0 ≤ (σ 387 39).toInt ∧ (σ 387 39).toInt ≤ 20) → (0 ≤ (σ 387 40).toInt ∧ (σ 387 40).toInt ≤ 40) → (0 ≤ (σ 387 42).toInt ∧ (σ 387 42).toInt ≤ 1) → (0 ≤ (σ 387 4).toInt ∧ (σ 387 4).toInt ≤ 940) → (0 ≤ (σ 389 246).toInt ∧ (σ 389 246).toInt ≤ 40) → ((σ 389 246).toInt = (σ 387 38).toInt) → (∀ i : Nat, (i : Int) < x2.toInt → σ 389 (247 + i) = σ 391 i) → ((σ 387 39).toInt = senA b N nm hc) → ((σ 387 15).toInt = 0) → (kndP (senP b N 200 nm hc) = 0) → (RV τ ) → (WJ σ τ nm hc) → (PV σ) → lv_has ls 3 [(0, .ref (ad 387)), (1, .int x1), (2, .int x2)] → 2 * (127 - x2.toInt) + 1 < (n : Int) → W p l e ({ frames := 3, cells := 0, slots := 0, locals := 69 } : Room) s m args below meth c H locs 0 0 (MQ below (va_Qi (fun (r : Int32) (u : SS) => P_X12_sentence σ0 τ0 b N nm hc r u.1 u.2) (WB D cA ad) (AA ad)) args s 0 0 (AA ad)) (F0 m 146 ls [])
set_option maxHeartbeats 4000000 in
theorem B_X12_sentence_48 (p : Program) (l : Launch) (e : Env) (s : State) (m : MethodId) (args : Array Value) (below : List Frame) (meth : Method) (c : Code) (D : va_G) (cA : Nat → ClassId) (ad : Nat → Nat) (σ0 : Nat → Nat → Int32) (τ0 : Nat → Nat → Int64) (b : Nat → Int) (N : Nat) (nm : Nat → Int) (hc : Nat) (n : Nat) (C : Cy p s m args meth c cX12_sentence 3 wsX12_sentence RX12 D cA ad (some .int)) (hpre0 : (σ0 387 2).toInt = (N : Int) ∧ N ≤ 940 ∧ ∀ j : Nat, j < N → bM σ0 j = b j) (gSI0 : SI σ0) (gRV0 : RV τ0 ) (gWJ0 : WJ σ0 τ0 nm hc) (K48 : J_X12_sentence_48 p l e s m args below meth c D cA ad σ0 τ0 b N nm hc n) (K146 : J_X12_sentence_146 p l e s m args below meth c D cA ad σ0 τ0 b N nm hc n) : J_X12_sentence_48 p l e s m args below meth c D cA ad σ0 τ0 b N nm hc (n + 1) := by
  obtain ⟨hx, hb, hml, hown, hts, hK, hk, hr, hI, hN⟩ := C
  intro σ τ H locs x1 wh q nn K ls hR hF hFL hP hS hc0 hc1 hc2 hc3 hc4 hc5 hc6 hi0 irn ion iwh iz15 gSI gRV gWJ gPV gMT gMK gSN hl hm
  refine lv_iload_n hx hb dX12_sentence_48 rfl (lv_at hl 1 rfl) ?_
  refine r_if_eq (tgt := 132) hx hb dX12_sentence_49 (by decide) (fun c1 => ?_) (fun c1 => ?_)
  · have hsn := (irn.resolve_left (fun c => by omega)).2
    have hsa : senA b N nm hc = (nn : Int) := senA_r hsn
    refine lv_aload_n hx hb dX12_sentence_132 rfl (lv_at hl 0 rfl) ?_
    refine fg_12_6 (k := 387) hx hb hts in_X12_sentence_12 hown hK hP (by decide) (by decide) (hts _ lk_X12_sentence_33) dX12_sentence_133 ?_
    refine r_sipush hx hb dX12_sentence_136 (by decide) (fun z2 ez2 => ?_)
    refine lv_aload_n hx hb dX12_sentence_139 rfl (lv_at hl 0 rfl) ?_
    refine fg_12_38 (k := 387) hx hb hts in_X12_sentence_12 hown hK hP (by decide) (by decide) (hts _ lk_X12_sentence_431) dX12_sentence_140 ?_
    refine as_ms (k := 389) (j := 246) hx hb hK hP hI hR hS (by decide) (by decide) (by omega) (by omega) (rw_ms_8 (by decide) (by decide) (by decide) (by decide) (by omega)) dX12_sentence_143 (fun σ3 H3 locs3 u3 v3 hR hP hS => ?_)
    have hF := hF.puts u3 7 rfl (by decide) (by decide) (by decide) (by decide)
    have gMK := gMK.ag (Agr.put u3 (by decide))
    have gMT := gMT.ag (Agr.put u3 (by decide))
    have gPV := PV.put gPV hR u3 (by decide)
    have gSN := gSN.ag (Agr.put u3 (by decide))
    have gWJ := gWJ.ag (Agr.put u3 (by decide))
    have t4 : (σ3 387 2).toInt = (σ 387 2).toInt := congrArg Int32.toInt (u3 387 2 (by omega))
    have t5 : (σ3 387 15).toInt = (σ 387 15).toInt := congrArg Int32.toInt (u3 387 15 (by omega))
    have t6 : (σ3 387 38).toInt = (σ 387 38).toInt := congrArg Int32.toInt (u3 387 38 (by omega))
    have t7 : (σ3 387 39).toInt = (σ 387 39).toInt := congrArg Int32.toInt (u3 387 39 (by omega))
    have t8 : (σ3 387 40).toInt = (σ 387 40).toInt := congrArg Int32.toInt (u3 387 40 (by omega))
    have t9 : (σ3 387 42).toInt = (σ 387 42).toInt := congrArg Int32.toInt (u3 387 42 (by omega))
    have t10 : (σ3 387 11).toInt = (σ 387 11).toInt := congrArg Int32.toInt (u3 387 11 (by omega))
    have t11 : (σ3 387 4).toInt = (σ 387 4).toInt := congrArg Int32.toInt (u3 387 4 (by omega))
    refine r_iconst hx hb dX12_sentence_144 (by decide) (fun z12 ez12 => ?_)
    refine lv_istore_n (lv' := [(2, .int z12), (0, .ref (ad 387)), (1, .int x1)]) hx hb dX12_sentence_145 rfl hl (by decide) rfl (fun ls hl => ?_)
    exact K146 σ3 τ H3 locs3 x1 z12 ls hR hF hFL hP hS (by omega) (by omega) (by omega) (by omega) (by omega) (by omega) (by omega) (by omega) (by omega) (by omega) (by first | exact (fun i hi => absurd hi (by omega)) | exact (fun i hi => CPs uz vz (by omega) (fun k hk => hi1 k (by omega)) i (by omega))) (by omega) (by omega) (by first | exact isk | exact kndP_r hsn) gRV gWJ gPV (lv_sub hl [1, 2, 0] rfl) (by omega)
  · have hrn := (irn.resolve_right (fun c => by omega)).2
    have hkd := gMK.kd
    refine lv_aload_n hx hb dX12_sentence_52 rfl (lv_at hl 0 rfl) ?_
    refine fg_12_42 (k := 387) hx hb hts in_X12_sentence_12 hown hK hP (by decide) (by decide) (hts _ lk_X12_sentence_449) dX12_sentence_53 ?_
    refine r_if_eq (tgt := 101) hx hb dX12_sentence_56 (by decide) (fun c13 => ?_) (fun c13 => ?_)
    · refine lv_aload_n hx hb dX12_sentence_101 rfl (lv_at hl 0 rfl) ?_
      refine fg_12_42 (k := 387) hx hb hts in_X12_sentence_12 hown hK hP (by decide) (by decide) (hts _ lk_X12_sentence_449) dX12_sentence_102 ?_
      refine r_if_eq (tgt := 118) hx hb dX12_sentence_105 (by decide) (fun c14 => ?_) (fun c14 => ?_)
      · have hrf : RnS b N 200 nm hc (false, q, nn, K) (senP b N 200 nm hc) := by rw [← wh_f iwh (by omega)]; exact hrn
        refine lv_aload_n hx hb dX12_sentence_118 rfl (lv_at hl 0 rfl) ?_
        refine r_cVi (k := 387) (As := []) (rest := []) ⟨hx, hb, hml, hown, hts⟩ hK hP hN hS (c_X12_operand l D cA ad hI σ τ hR b N 200 q nn K nm hc (by omega) (by omega) (by omega) gPV gMT gMK gRV gSN gWJ) (cwV 0 hts gX12_sentence_X12_operand rfl rfl rfl (by decide +kernel) ⟨by decide, by decide⟩) (rv_M hK hP (by decide) (by decide)) rfl hl.1 rfl (Nat.le_of_ble_eq_true rfl) dX12_sentence_119 (Nat.zero_le _) (Nat.zero_le _) (fun r15 u15 H15 locs15 hp15 hP hS => ?_)
        obtain ⟨σ15, τ15⟩ := u15
        obtain ⟨hR, f15, fL15, hq15, hp15_0, hp15_1, hp15_2, hp15_3, hp15_4, gnMT, gnRV, gnWJ⟩ : P_X12_operand σ τ b N 200 q nn K nm hc r15 σ15 τ15 := hp15
        have pvo := hp15_0
        have o1 := hp15_3
        have hP : va_P D vwCl (gw cA ad σ15 τ15) H15 := hP
        have hFL := hFL.step fL15 (by decide)
        have gRV := gRV.agL (AgrL.fr fL15 (by decide))
        have gWJ := gWJ.agL (AgrL.fr fL15 (by decide))
        have hF := hF.step f15 (by decide)
        have gMT := gMT.ag (Agr.fr f15 (by decide))
        have gSI := SI.fr gSI hR f15 (by decide)
        have gWJ := gWJ.ag (Agr.fr f15 (by decide))
        have t16 : (σ15 387 2).toInt = (σ 387 2).toInt := congrArg Int32.toInt (f15.at 387 2 (by decide))
        have hr17 := rg_12_38 hR (k := 387) (by decide) (by decide)
        have hr18 := rg_12_39 hR (k := 387) (by decide) (by decide)
        have hr19 := rg_12_40 hR (k := 387) (by decide) (by decide)
        have hr20 := rg_12_42 hR (k := 387) (by decide) (by decide)
        have hr21 := rg_12_4 hR (k := 387) (by decide) (by decide)
        refine r_if_ne (tgt := 48) hx hb dX12_sentence_122 (by decide) (fun c22 => ?_) (fun c22 => ?_)
        · replace hp15_0 := hp15_0.resolve_left (by omega)
          replace hp15_1 := hp15_1.resolve_left (by omega)
          replace hp15_2 := hp15_2.resolve_left (by omega)
          replace hp15_4 := hp15_4.resolve_left (by omega)
          have gPV : PV σ15 := by first | exact gPV | exact pvo.resolve_left (by omega)
          first | (have hq9 := hfi; obtain ⟨zw, zq, zn, zK, hfz, gMK, hon, gSN, hwz⟩ : ∃ (zw : Bool) (zq zn : Nat) (zK : List Bool), (senP b N 200 nm hc = .inr zn) ∧ MK σ15 τ15 b N 200 zq ∧ (σ15 387 39).toInt = (zn : Int) ∧ SN σ15 zK ∧ (σ15 387 42).toInt = if zw = true then 1 else 0 := ⟨wh, q, nn, pnt K, hfi, gMK, by omega, gSN, by rw [show (σ15 387 42).toInt = (σ 387 42).toInt by omega]; exact iwh⟩) | (obtain ⟨zw, zq, zn, zK, hrz, gMK, hon, gSN, hwz⟩ : ∃ (zw : Bool) (zq zn : Nat) (zK : List Bool), (RnS b N 200 nm hc (zw, zq, zn, zK) (senP b N 200 nm hc)) ∧ MK σ15 τ15 b N 200 zq ∧ (σ15 387 39).toInt = (zn : Int) ∧ SN σ15 zK ∧ (σ15 387 42).toInt = if zw = true then 1 else 0 := by first | exact ⟨false, _, 0, [], sen_run, gMK, by show _ = (0 : Int); omega, gSN, by show _ = (0 : Int); omega⟩ | (obtain ⟨z, ez, h1, h2, h3, h4⟩ := o2.ye (by omega); exact ⟨z.1, z.2.1, z.2.2.1, z.2.2.2, hrt.beg (by omega) ez, h1, h2, h3, h4⟩) | (obtain ⟨z, ez, h1, h2, h3, h4⟩ := o1.ye (by omega); exact ⟨z.1, z.2.1, z.2.2.1, z.2.2.2, hrf.opg ez, h1, h2, h3, h4⟩))
          exact K48 σ15 τ15 H15 locs15 x1 zw zq zn zK ls hR hF hFL hP hS (by omega) (by omega) (by omega) (by omega) (by omega) (by omega) (by omega) (by omega) (by first | exact Or.inl ⟨by omega, hrz⟩ | exact Or.inr ⟨by omega, hfz⟩) (by exact hon) (by exact hwz) (by omega) gSI gRV gWJ gPV gMT gMK gSN (lv_sub hl [0, 1] rfl) (by omega)
        · clear hp15_0 hp15_1 hp15_2 hp15_4
          refine r_iconst hx hb dX12_sentence_125 (by decide) (fun z23 ez23 => ?_)
          refine lv_aload_n hx hb dX12_sentence_126 rfl (lv_at hl 0 rfl) ?_
          refine fg_12_16 (k := 387) hx hb hts in_X12_sentence_12 hown hK hP (by decide) (by decide) (hts _ lk_X12_sentence_179) dX12_sentence_127 ?_
          have b25 := And.intro (ti_lo (σ15 387 16)) (ti_hi (σ15 387 16))
          refine r_isub hx hb dX12_sentence_130 (by omega) (fun z24 ez24 => ?_)
          exact r_iret hx hb hr hK hP hS hk dX12_sentence_131 (show P_X12_sentence σ0 τ0 b N nm hc z24 σ15 τ15 from ⟨hR, hF, hFL, by omega, by first | omega | (rw [senA_l (hrt.fi1 (by omega) hne)]; show _ = -1 - ((q : Nat) : Int); omega) | (obtain ⟨f, ef, x1, x2⟩ := o2.no (by omega); rw [senA_l (hrt.bef (by omega) ef)]; omega) | (obtain ⟨f, ef, x1, x2⟩ := o1.no (by omega); rw [senA_l (hrf.opf ef)]; omega), by first | omega | (rw [kndP_l (hrt.fi1 (by omega) hne)]; omega) | (obtain ⟨f, ef, x1, x2⟩ := o2.no (by omega); rw [kndP_l (hrt.bef (by omega) ef)]; omega) | (obtain ⟨f, ef, x1, x2⟩ := o1.no (by omega); rw [kndP_l (hrf.opf ef)]; omega), gSI, gRV, gWJ⟩)
      · exfalso; omega
    · refine lv_aload_n hx hb dX12_sentence_59 rfl (lv_at hl 0 rfl) ?_
      refine fg_12_11 (k := 387) hx hb hts in_X12_sentence_12 hown hK hP (by decide) (by decide) (hts _ lk_X12_sentence_159) dX12_sentence_60 ?_
      refine r_if_ne (tgt := 101) hx hb dX12_sentence_63 (by decide) (fun c26 => ?_) (fun c26 => ?_)
      · refine lv_aload_n hx hb dX12_sentence_101 rfl (lv_at hl 0 rfl) ?_
        refine fg_12_42 (k := 387) hx hb hts in_X12_sentence_12 hown hK hP (by decide) (by decide) (hts _ lk_X12_sentence_449) dX12_sentence_102 ?_
        refine r_if_eq (tgt := 118) hx hb dX12_sentence_105 (by decide) (fun c27 => ?_) (fun c27 => ?_)
        · exfalso; omega
        · have hrt : RnS b N 200 nm hc (true, q, nn, K) (senP b N 200 nm hc) := by rw [← wh_t iwh (by omega)]; exact hrn
          refine lv_aload_n hx hb dX12_sentence_108 rfl (lv_at hl 0 rfl) ?_
          refine r_cVi (k := 387) (As := []) (rest := []) ⟨hx, hb, hml, hown, hts⟩ hK hP hN hS (c_X12_behind l D cA ad hI σ τ hR b N 200 q nn K (by omega) (by omega) (by omega) (by omega) gPV gMT gMK gRV gSN) (cwV 0 hts gX12_sentence_X12_behind rfl rfl rfl (by decide +kernel) ⟨by decide, by decide⟩) (rv_M hK hP (by decide) (by decide)) rfl hl.1 rfl (Nat.le_of_ble_eq_true rfl) dX12_sentence_109 (Nat.zero_le _) (Nat.zero_le _) (fun r28 u28 H28 locs28 hp28 hP hS => ?_)
          obtain ⟨σ28, τ28⟩ := u28
          obtain ⟨hR, f28, fL28, hq28, hp28_0, hp28_1, hp28_2, hp28_3, hp28_4, gnMT, gnRV⟩ : P_X12_behind σ τ b N 200 q nn K r28 σ28 τ28 := hp28
          have pvo := hp28_0
          have o2 := hp28_3
          have hP : va_P D vwCl (gw cA ad σ28 τ28) H28 := hP
          have hFL := hFL.step fL28 (by decide)
          have gRV := gRV.agL (AgrL.fr fL28 (by decide))
          have gWJ := gWJ.agL (AgrL.fr fL28 (by decide))
          have hF := hF.step f28 (by decide)
          have gMT := gMT.ag (Agr.fr f28 (by decide))
          have gSI := SI.fr gSI hR f28 (by decide)
          have gWJ := gWJ.ag (Agr.fr f28 (by decide))
          have t29 : (σ28 387 2).toInt = (σ 387 2).toInt := congrArg Int32.toInt (f28.at 387 2 (by decide))
          have t30 : (σ28 387 39).toInt = (σ 387 39).toInt := congrArg Int32.toInt (f28.at 387 39 (by decide))
          have hr31 := rg_12_38 hR (k := 387) (by decide) (by decide)
          have hr32 := rg_12_40 hR (k := 387) (by decide) (by decide)
          have hr33 := rg_12_42 hR (k := 387) (by decide) (by decide)
          have hr34 := rg_12_4 hR (k := 387) (by decide) (by decide)
          refine r_if_ne (tgt := 48) hx hb dX12_sentence_112 (by decide) (fun c35 => ?_) (fun c35 => ?_)
          · replace hp28_0 := hp28_0.resolve_left (by omega)
            replace hp28_1 := hp28_1.resolve_left (by omega)
            replace hp28_2 := hp28_2.resolve_left (by omega)
            replace hp28_4 := hp28_4.resolve_left (by omega)
            have gPV : PV σ28 := by first | exact gPV | exact pvo.resolve_left (by omega)
            first | (have hq9 := hfi; obtain ⟨zw, zq, zn, zK, hfz, gMK, hon, gSN, hwz⟩ : ∃ (zw : Bool) (zq zn : Nat) (zK : List Bool), (senP b N 200 nm hc = .inr zn) ∧ MK σ28 τ28 b N 200 zq ∧ (σ28 387 39).toInt = (zn : Int) ∧ SN σ28 zK ∧ (σ28 387 42).toInt = if zw = true then 1 else 0 := ⟨wh, q, nn, pnt K, hfi, gMK, by omega, gSN, by rw [show (σ28 387 42).toInt = (σ 387 42).toInt by omega]; exact iwh⟩) | (obtain ⟨zw, zq, zn, zK, hrz, gMK, hon, gSN, hwz⟩ : ∃ (zw : Bool) (zq zn : Nat) (zK : List Bool), (RnS b N 200 nm hc (zw, zq, zn, zK) (senP b N 200 nm hc)) ∧ MK σ28 τ28 b N 200 zq ∧ (σ28 387 39).toInt = (zn : Int) ∧ SN σ28 zK ∧ (σ28 387 42).toInt = if zw = true then 1 else 0 := by first | exact ⟨false, _, 0, [], sen_run, gMK, by show _ = (0 : Int); omega, gSN, by show _ = (0 : Int); omega⟩ | (obtain ⟨z, ez, h1, h2, h3, h4⟩ := o2.ye (by omega); exact ⟨z.1, z.2.1, z.2.2.1, z.2.2.2, hrt.beg (by omega) ez, h1, h2, h3, h4⟩) | (obtain ⟨z, ez, h1, h2, h3, h4⟩ := o1.ye (by omega); exact ⟨z.1, z.2.1, z.2.2.1, z.2.2.2, hrf.opg ez, h1, h2, h3, h4⟩))
            exact K48 σ28 τ28 H28 locs28 x1 zw zq zn zK ls hR hF hFL hP hS (by omega) (by omega) (by omega) (by omega) (by omega) (by omega) (by omega) (by omega) (by first | exact Or.inl ⟨by omega, hrz⟩ | exact Or.inr ⟨by omega, hfz⟩) (by exact hon) (by exact hwz) (by omega) gSI gRV gWJ gPV gMT gMK gSN (lv_sub hl [0, 1] rfl) (by omega)
          · clear hp28_0 hp28_1 hp28_2 hp28_4
            refine lv_goto (tgt := 125) hx hb dX12_sentence_115 (by decide) ?_
            refine r_iconst hx hb dX12_sentence_125 (by decide) (fun z36 ez36 => ?_)
            refine lv_aload_n hx hb dX12_sentence_126 rfl (lv_at hl 0 rfl) ?_
            refine fg_12_16 (k := 387) hx hb hts in_X12_sentence_12 hown hK hP (by decide) (by decide) (hts _ lk_X12_sentence_179) dX12_sentence_127 ?_
            have b38 := And.intro (ti_lo (σ28 387 16)) (ti_hi (σ28 387 16))
            refine r_isub hx hb dX12_sentence_130 (by omega) (fun z37 ez37 => ?_)
            exact r_iret hx hb hr hK hP hS hk dX12_sentence_131 (show P_X12_sentence σ0 τ0 b N nm hc z37 σ28 τ28 from ⟨hR, hF, hFL, by omega, by first | omega | (rw [senA_l (hrt.fi1 (by omega) hne)]; show _ = -1 - ((q : Nat) : Int); omega) | (obtain ⟨f, ef, x1, x2⟩ := o2.no (by omega); rw [senA_l (hrt.bef (by omega) ef)]; omega) | (obtain ⟨f, ef, x1, x2⟩ := o1.no (by omega); rw [senA_l (hrf.opf ef)]; omega), by first | omega | (rw [kndP_l (hrt.fi1 (by omega) hne)]; omega) | (obtain ⟨f, ef, x1, x2⟩ := o2.no (by omega); rw [kndP_l (hrt.bef (by omega) ef)]; omega) | (obtain ⟨f, ef, x1, x2⟩ := o1.no (by omega); rw [kndP_l (hrf.opf ef)]; omega), gSI, gRV, gWJ⟩)
      · have hrt : RnS b N 200 nm hc (true, q, nn, K) (senP b N 200 nm hc) := by rw [← wh_t iwh (by omega)]; exact hrn
        refine lv_aload_n hx hb dX12_sentence_66 rfl (lv_at hl 0 rfl) ?_
        refine r_cVv (k := 387) (As := []) (rest := []) ⟨hx, hb, hml, hown, hts⟩ hK hP hN hS (c_X12_nots l D cA ad hI σ τ hR K (by omega) (by omega) gPV gSN) (cwV 0 hts gX12_sentence_X12_nots rfl rfl rfl (by decide +kernel) ⟨by decide, by decide⟩) (rv_M hK hP (by decide) (by decide)) rfl hl.1 rfl (Nat.le_of_ble_eq_true rfl) dX12_sentence_67 (Nat.zero_le _) (Nat.zero_le _) (fun u39 H39 locs39 hp39 hP hS => ?_)
        obtain ⟨σ39, τ39⟩ := u39
        obtain ⟨hR, f39, fL39, hp39_0, hp39_1, hp39_2, hp39_3, gnPV⟩ : P_X12_nots σ τ K σ39 τ39 := hp39
        have hP : va_P D vwCl (gw cA ad σ39 τ39) H39 := hP
        obtain rfl := FrL.nil fL39
        have hF := hF.step f39 (by decide)
        have gMK := gMK.ag (Agr.fr f39 (by decide))
        have gMT := gMT.ag (Agr.fr f39 (by decide))
        have gSI := SI.fr gSI hR f39 (by decide)
        have gWJ := gWJ.ag (Agr.fr f39 (by decide))
        have t40 : (σ39 387 2).toInt = (σ 387 2).toInt := congrArg Int32.toInt (f39.at 387 2 (by decide))
        have t41 : (σ39 387 15).toInt = (σ 387 15).toInt := congrArg Int32.toInt (f39.at 387 15 (by decide))
        have t42 : (σ39 387 39).toInt = (σ 387 39).toInt := congrArg Int32.toInt (f39.at 387 39 (by decide))
        have t43 : (σ39 387 42).toInt = (σ 387 42).toInt := congrArg Int32.toInt (f39.at 387 42 (by decide))
        have t44 : (σ39 387 11).toInt = (σ 387 11).toInt := congrArg Int32.toInt (f39.at 387 11 (by decide))
        have t45 : (σ39 387 4).toInt = (σ 387 4).toInt := congrArg Int32.toInt (f39.at 387 4 (by decide))
        have hr46 := rg_12_38 hR (k := 387) (by decide) (by decide)
        have hr47 := rg_12_40 hR (k := 387) (by decide) (by decide)
        have gPV := gnPV
        have gSN := hp39_2
        refine lv_aload_n hx hb dX12_sentence_70 rfl (lv_at hl 0 rfl) ?_
        refine r_bipush hx hb dX12_sentence_71 (by decide) (fun z48 ez48 => ?_)
        refine r_cVv (k := 387) (As := [.int z48]) (rest := []) ⟨hx, hb, hml, hown, hts⟩ hK hP hN hS (c_X12_joins l D cA ad hI σ39 τ hR z48 (pnt K) (by omega) (by omega) (by omega) (pnt_pn K) gPV gSN) (cwV 1 hts gX12_sentence_X12_joins rfl rfl rfl (by decide +kernel) ⟨by decide, by decide⟩) (rv_M hK hP (by decide) (by decide)) rfl hl.1 rfl (Nat.le_of_ble_eq_true rfl) dX12_sentence_73 (Nat.zero_le _) (Nat.zero_le _) (fun u49 H49 locs49 hp49 hP hS => ?_)
        obtain ⟨σ49, τ49⟩ := u49
        obtain ⟨hR, f49, fL49, hp49_0, hp49_1, hp49_2, hp49_3, gnPV, gnSN⟩ : P_X12_joins σ39 τ z48 (pnt K) σ49 τ49 := hp49
        have nb2 := hp49_2
        have hP : va_P D vwCl (gw cA ad σ49 τ49) H49 := hP
        obtain rfl := FrL.nil fL49
        have hF := hF.step f49 (by decide)
        have gMK := gMK.ag (Agr.fr f49 (by decide))
        have gMT := gMT.ag (Agr.fr f49 (by decide))
        have gSI := SI.fr gSI hR f49 (by decide)
        have gWJ := gWJ.ag (Agr.fr f49 (by decide))
        have t50 : (σ49 387 2).toInt = (σ39 387 2).toInt := congrArg Int32.toInt (f49.at 387 2 (by decide))
        have t51 : (σ49 387 15).toInt = (σ39 387 15).toInt := congrArg Int32.toInt (f49.at 387 15 (by decide))
        have t52 : (σ49 387 39).toInt = (σ39 387 39).toInt := congrArg Int32.toInt (f49.at 387 39 (by decide))
        have t53 : (σ49 387 42).toInt = (σ39 387 42).toInt := congrArg Int32.toInt (f49.at 387 42 (by decide))
        have t54 : (σ49 387 11).toInt = (σ39 387 11).toInt := congrArg Int32.toInt (f49.at 387 11 (by decide))
        have t55 : (σ49 387 4).toInt = (σ39 387 4).toInt := congrArg Int32.toInt (f49.at 387 4 (by decide))
        have hr56 := rg_12_38 hR (k := 387) (by decide) (by decide)
        have hr57 := rg_12_40 hR (k := 387) (by decide) (by decide)
        have gPV := gnPV
        have gSN := gnSN
        refine lv_aload_n hx hb dX12_sentence_76 rfl (lv_at hl 0 rfl) ?_
        refine fg_12_40 (k := 387) hx hb hts in_X12_sentence_12 hown hK hP (by decide) (by decide) (hts _ lk_X12_sentence_434) dX12_sentence_77 ?_
        refine r_if_le (tgt := 96) hx hb dX12_sentence_80 (by decide) (fun c58 => ?_) (fun c58 => ?_)
        · have hfi := hrt.fi0 (by omega) (gSN.emp (by omega))
          refine r_iconst hx hb dX12_sentence_96 (by decide) (fun z59 ez59 => ?_)
          refine lv_istore_n (lv' := [(1, .int z59), (0, .ref (ad 387))]) hx hb dX12_sentence_97 rfl hl (by decide) rfl (fun ls hl => ?_)
          refine lv_goto (tgt := 48) hx hb dX12_sentence_98 (by decide) ?_
          have gPV : PV σ49 := by first | exact gPV | exact pvo.resolve_left (by omega)
          first | (have hq9 := hfi; obtain ⟨zw, zq, zn, zK, hfz, gMK, hon, gSN, hwz⟩ : ∃ (zw : Bool) (zq zn : Nat) (zK : List Bool), (senP b N 200 nm hc = .inr zn) ∧ MK σ49 τ b N 200 zq ∧ (σ49 387 39).toInt = (zn : Int) ∧ SN σ49 zK ∧ (σ49 387 42).toInt = if zw = true then 1 else 0 := ⟨wh, q, nn, pnt K, hfi, gMK, by omega, gSN, by rw [show (σ49 387 42).toInt = (σ 387 42).toInt by omega]; exact iwh⟩) | (obtain ⟨zw, zq, zn, zK, hrz, gMK, hon, gSN, hwz⟩ : ∃ (zw : Bool) (zq zn : Nat) (zK : List Bool), (RnS b N 200 nm hc (zw, zq, zn, zK) (senP b N 200 nm hc)) ∧ MK σ49 τ b N 200 zq ∧ (σ49 387 39).toInt = (zn : Int) ∧ SN σ49 zK ∧ (σ49 387 42).toInt = if zw = true then 1 else 0 := by first | exact ⟨false, _, 0, [], sen_run, gMK, by show _ = (0 : Int); omega, gSN, by show _ = (0 : Int); omega⟩ | (obtain ⟨z, ez, h1, h2, h3, h4⟩ := o2.ye (by omega); exact ⟨z.1, z.2.1, z.2.2.1, z.2.2.2, hrt.beg (by omega) ez, h1, h2, h3, h4⟩) | (obtain ⟨z, ez, h1, h2, h3, h4⟩ := o1.ye (by omega); exact ⟨z.1, z.2.1, z.2.2.1, z.2.2.2, hrf.opg ez, h1, h2, h3, h4⟩))
          exact K48 σ49 τ H49 locs49 z59 zw zq zn zK ls hR hF hFL hP hS (by omega) (by omega) (by omega) (by omega) (by omega) (by omega) (by omega) (by omega) (by first | exact Or.inl ⟨by omega, hrz⟩ | exact Or.inr ⟨by omega, hfz⟩) (by exact hon) (by exact hwz) (by omega) gSI gRV gWJ gPV gMT gMK gSN (lv_sub hl [1, 0] rfl) (by omega)
        · have hne : pnt K ≠ [] := SN.ne (t := ((σ49 387 40).toInt - 1).toNat) gSN (pnt_pn K) (by omega) (nb2 ((σ49 387 40).toInt - 1).toNat (by omega) (by omega))
          refine lv_aload_n hx hb dX12_sentence_83 rfl (lv_at hl 0 rfl) ?_
          refine r_iconst hx hb dX12_sentence_84 (by decide) (fun z60 ez60 => ?_)
          refine r_cVi (k := 387) (As := [.int z60]) (rest := []) ⟨hx, hb, hml, hown, hts⟩ hK hP hN hS (c_X12_bad_v l D cA ad hI σ49 τ hR z60 _ _ _ _ (by omega) gMK) (cwV 1 hts gX12_sentence_X12_bad rfl rfl rfl (by decide +kernel) ⟨by decide, by decide⟩) (rv_M hK hP (by decide) (by decide)) rfl hl.1 rfl (Nat.le_of_ble_eq_true rfl) dX12_sentence_85 (Nat.zero_le _) (Nat.zero_le _) (fun r61 u61 H61 locs61 hp61 hP hS => ?_)
          obtain ⟨σ61, τ61⟩ := u61
          obtain ⟨hR, f61, fL61, hq61, hp61_0, hp61_1, hp61_2, gnMK⟩ : P_X12_bad_v σ49 τ z60 _ _ _ _ r61 σ61 τ61 := hp61
          have hP : va_P D vwCl (gw cA ad σ61 τ61) H61 := hP
          obtain rfl := FrL.nil fL61
          have hF := hF.step f61 (by decide)
          have gMK := gMK.ag (Agr.fr f61 (by decide))
          have gMT := gMT.ag (Agr.fr f61 (by decide))
          have gPV := PV.fr gPV hR f61 (by decide)
          have gSI := SI.fr gSI hR f61 (by decide)
          have gSN := gSN.ag (Agr.fr f61 (by decide))
          have gWJ := gWJ.ag (Agr.fr f61 (by decide))
          have t62 : (σ61 387 2).toInt = (σ49 387 2).toInt := congrArg Int32.toInt (f61.at 387 2 (by decide))
          have t63 : (σ61 387 39).toInt = (σ49 387 39).toInt := congrArg Int32.toInt (f61.at 387 39 (by decide))
          have t64 : (σ61 387 42).toInt = (σ49 387 42).toInt := congrArg Int32.toInt (f61.at 387 42 (by decide))
          have t65 : (σ61 387 11).toInt = (σ49 387 11).toInt := congrArg Int32.toInt (f61.at 387 11 (by decide))
          have t66 : (σ61 387 4).toInt = (σ49 387 4).toInt := congrArg Int32.toInt (f61.at 387 4 (by decide))
          have t67 : (σ61 387 38).toInt = (σ49 387 38).toInt := congrArg Int32.toInt (f61.at 387 38 (by decide))
          have t68 : (σ61 387 40).toInt = (σ49 387 40).toInt := congrArg Int32.toInt (f61.at 387 40 (by decide))
          refine lv_pop hx hb dX12_sentence_88 rfl ?_
          refine r_iconst hx hb dX12_sentence_89 (by decide) (fun z69 ez69 => ?_)
          refine lv_aload_n hx hb dX12_sentence_90 rfl (lv_at hl 0 rfl) ?_
          refine fg_12_16 (k := 387) hx hb hts in_X12_sentence_12 hown hK hP (by decide) (by decide) (hts _ lk_X12_sentence_179) dX12_sentence_91 ?_
          have b71 := And.intro (ti_lo (σ61 387 16)) (ti_hi (σ61 387 16))
          refine r_isub hx hb dX12_sentence_94 (by omega) (fun z70 ez70 => ?_)
          exact r_iret hx hb hr hK hP hS hk dX12_sentence_95 (show P_X12_sentence σ0 τ0 b N nm hc z70 σ61 τ from ⟨hR, hF, hFL, by omega, by first | omega | (rw [senA_l (hrt.fi1 (by omega) hne)]; show _ = -1 - ((q : Nat) : Int); omega) | (obtain ⟨f, ef, x1, x2⟩ := o2.no (by omega); rw [senA_l (hrt.bef (by omega) ef)]; omega) | (obtain ⟨f, ef, x1, x2⟩ := o1.no (by omega); rw [senA_l (hrf.opf ef)]; omega), by first | omega | (rw [kndP_l (hrt.fi1 (by omega) hne)]; omega) | (obtain ⟨f, ef, x1, x2⟩ := o2.no (by omega); rw [kndP_l (hrt.bef (by omega) ef)]; omega) | (obtain ⟨f, ef, x1, x2⟩ := o1.no (by omega); rw [kndP_l (hrf.opf ef)]; omega), gSI, gRV, gWJ⟩)
set_option maxHeartbeats 4000000 in
theorem B_X12_sentence_146 (p : Program) (l : Launch) (e : Env) (s : State) (m : MethodId) (args : Array Value) (below : List Frame) (meth : Method) (c : Code) (D : va_G) (cA : Nat → ClassId) (ad : Nat → Nat) (σ0 : Nat → Nat → Int32) (τ0 : Nat → Nat → Int64) (b : Nat → Int) (N : Nat) (nm : Nat → Int) (hc : Nat) (n : Nat) (C : Cy p s m args meth c cX12_sentence 3 wsX12_sentence RX12 D cA ad (some .int)) (hpre0 : (σ0 387 2).toInt = (N : Int) ∧ N ≤ 940 ∧ ∀ j : Nat, j < N → bM σ0 j = b j) (gSI0 : SI σ0) (gRV0 : RV τ0 ) (gWJ0 : WJ σ0 τ0 nm hc) (K48 : J_X12_sentence_48 p l e s m args below meth c D cA ad σ0 τ0 b N nm hc n) (K146 : J_X12_sentence_146 p l e s m args below meth c D cA ad σ0 τ0 b N nm hc n) : J_X12_sentence_146 p l e s m args below meth c D cA ad σ0 τ0 b N nm hc (n + 1) := by
  obtain ⟨hx, hb, hml, hown, hts, hK, hk, hr, hI, hN⟩ := C
  intro σ τ H locs x1 x2 ls hR hF hFL hP hS hc0 hc1 hc2 hc3 hc4 hc5 hc6 hc7 hc8 hi0 hi1 isa iz15 isk gRV gWJ gPV hl hm
  refine lv_iload_n hx hb dX12_sentence_146 rfl (lv_at hl 2 rfl) ?_
  refine r_iconst hx hb dX12_sentence_147 (by decide) (fun z1 ez1 => ?_)
  refine lv_aload_n hx hb dX12_sentence_148 rfl (lv_at hl 0 rfl) ?_
  refine fg_12_38 (k := 387) hx hb hts in_X12_sentence_12 hown hK hP (by decide) (by decide) (hts _ lk_X12_sentence_431) dX12_sentence_149 ?_
  refine r_imulL (n := 3) hx hb dX12_sentence_152 (by omega) (by omega) (fun z2 ez2 => ?_)
  refine r_icmp_ge (tgt := 178) hx hb dX12_sentence_153 (by decide) (fun c3 => ?_) (fun c3 => ?_)
  · refine lv_aload_n hx hb dX12_sentence_178 rfl (lv_at hl 0 rfl) ?_
    refine fg_12_39 (k := 387) hx hb hts in_X12_sentence_12 hown hK hP (by decide) (by decide) (hts _ lk_X12_sentence_446) dX12_sentence_179 ?_
    exact r_iret hx hb hr hK hP hS hk dX12_sentence_182 (show P_X12_sentence σ0 τ0 b N nm hc (σ 387 39) σ τ from ⟨hR, hF, hFL, by omega, by first | omega | (rw [senA_l (hrt.fi1 (by omega) hne)]; show _ = -1 - ((q : Nat) : Int); omega) | (obtain ⟨f, ef, x1, x2⟩ := o2.no (by omega); rw [senA_l (hrt.bef (by omega) ef)]; omega) | (obtain ⟨f, ef, x1, x2⟩ := o1.no (by omega); rw [senA_l (hrf.opf ef)]; omega), by first | omega | (rw [kndP_l (hrt.fi1 (by omega) hne)]; omega) | (obtain ⟨f, ef, x1, x2⟩ := o2.no (by omega); rw [kndP_l (hrt.bef (by omega) ef)]; omega) | (obtain ⟨f, ef, x1, x2⟩ := o1.no (by omega); rw [kndP_l (hrf.opf ef)]; omega), SI.sent gSI0 hF (by decide) hR gPV (by omega) (fun i hi => hi1 i (by omega)), gRV, gWJ⟩)
  · refine lv_aload_n hx hb dX12_sentence_156 rfl (lv_at hl 0 rfl) ?_
    refine fg_12_6 (k := 387) hx hb hts in_X12_sentence_12 hown hK hP (by decide) (by decide) (hts _ lk_X12_sentence_33) dX12_sentence_157 ?_
    refine r_sipush hx hb dX12_sentence_160 (by decide) (fun z4 ez4 => ?_)
    refine lv_iload_n hx hb dX12_sentence_163 rfl (lv_at hl 2 rfl) ?_
    refine r_iadd hx hb dX12_sentence_164 (by omega) (fun z5 ez5 => ?_)
    refine lv_aload_n hx hb dX12_sentence_165 rfl (lv_at hl 0 rfl) ?_
    refine fg_12_8 (k := 387) hx hb hts in_X12_sentence_12 hown hK hP (by decide) (by decide) (hts _ lk_X12_sentence_40) dX12_sentence_166 ?_
    refine lv_iload_n hx hb dX12_sentence_169 rfl (lv_at hl 2 rfl) ?_
    obtain ⟨j6, ej6⟩ : ∃ j : Nat, x2.toInt = (j : Int) := ⟨_, ti_nat (by omega)⟩
    refine ad_mread (k := 391) (j := j6) hx hb hK hP (by decide) (by decide) ej6 (by omega) dX12_sentence_170 ?_
    obtain ⟨j7, ej7⟩ : ∃ j : Nat, z5.toInt = (j : Int) := ⟨_, ti_nat (by omega)⟩
    refine as_ms (k := 389) (j := j7) hx hb hK hP hI hR hS (by decide) (by decide) ej7 (by omega) (rx_ms_247 (by decide) (by decide) (by omega) (by omega)) dX12_sentence_171 (fun σ8 H8 locs8 u8 v8 hR hP hS => ?_)
    have uz := u8
    have vz := v8
    have hF := hF.puts u8 7 rfl (by decide) (by decide) (by omega) (by omega)
    have gPV := PV.putV gPV hR u8 (by intro q hq; simp only [Gd_PV, List.mem_cons, List.not_mem_nil, or_false] at hq; rcases hq with rfl | rfl | rfl | rfl | rfl <;> dsimp only [inRc] <;> omega)
    have gWJ := gWJ.ag (Agr.putV u8 (by intro q hq; simp only [Gd_WJ, List.mem_cons, List.not_mem_nil, or_false] at hq; rcases hq with rfl <;> dsimp only [inRc] <;> omega))
    have t9 : (σ8 387 2).toInt = (σ 387 2).toInt := congrArg Int32.toInt (u8 387 2 (by omega))
    have t10 : (σ8 387 15).toInt = (σ 387 15).toInt := congrArg Int32.toInt (u8 387 15 (by omega))
    have t11 : (σ8 387 38).toInt = (σ 387 38).toInt := congrArg Int32.toInt (u8 387 38 (by omega))
    have t12 : (σ8 387 39).toInt = (σ 387 39).toInt := congrArg Int32.toInt (u8 387 39 (by omega))
    have t13 : (σ8 387 40).toInt = (σ 387 40).toInt := congrArg Int32.toInt (u8 387 40 (by omega))
    have t14 : (σ8 387 42).toInt = (σ 387 42).toInt := congrArg Int32.toInt (u8 387 42 (by omega))
    have t15 : (σ8 387 11).toInt = (σ 387 11).toInt := congrArg Int32.toInt (u8 387 11 (by omega))
    have t16 : (σ8 387 4).toInt = (σ 387 4).toInt := congrArg Int32.toInt (u8 387 4 (by omega))
    have t17 : (σ8 389 246).toInt = (σ 389 246).toInt := congrArg Int32.toInt (u8 389 246 (by omega))
    have t18 : (σ8 391 j6).toInt = (σ 391 j6).toInt := congrArg Int32.toInt (u8 391 j6 (by omega))
    refine r_iinc (k := 2) (lv1 := fun z19 => [(2, .int z19), (0, .ref (ad 387)), (1, .int x1)]) hx hb dX12_sentence_172 hl rfl (by decide) (fun _ => rfl) (by decide) (by omega) (fun z19 ls ez19 hl => ?_)
    refine lv_goto (tgt := 146) hx hb dX12_sentence_175 (by decide) ?_
    exact K146 σ8 τ H8 locs8 x1 z19 ls hR hF hFL hP hS (by omega) (by omega) (by omega) (by omega) (by omega) (by omega) (by omega) (by omega) (by omega) (by omega) (by first | exact (fun i hi => absurd hi (by omega)) | exact (fun i hi => CPs uz vz (by omega) (fun k hk => hi1 k (by omega)) i (by omega))) (by omega) (by omega) (by first | exact isk | exact kndP_r hsn) gRV gWJ gPV (lv_sub hl [1, 2, 0] rfl) (by omega)
theorem A_X12_sentence (p : Program) (l : Launch) (e : Env) (s : State) (m : MethodId) (args : Array Value) (below : List Frame) (meth : Method) (c : Code) (D : va_G) (cA : Nat → ClassId) (ad : Nat → Nat) (σ0 : Nat → Nat → Int32) (τ0 : Nat → Nat → Int64) (b : Nat → Int) (N : Nat) (nm : Nat → Int) (hc : Nat) (C : Cy p s m args meth c cX12_sentence 3 wsX12_sentence RX12 D cA ad (some .int)) (hpre0 : (σ0 387 2).toInt = (N : Int) ∧ N ≤ 940 ∧ ∀ j : Nat, j < N → bM σ0 j = b j) (gSI0 : SI σ0) (gRV0 : RV τ0 ) (gWJ0 : WJ σ0 τ0 nm hc) : ∀ n : Nat, J_X12_sentence_48 p l e s m args below meth c D cA ad σ0 τ0 b N nm hc n ∧ J_X12_sentence_146 p l e s m args below meth c D cA ad σ0 τ0 b N nm hc n := by
  intro n
  induction n with
  | zero =>
    exact ⟨(by intro σ τ H locs x1 wh q nn K ls hR hF hFL hP hS hc0 hc1 hc2 hc3 hc4 hc5 hc6 hi0 irn ion iwh iz15 gSI gRV gWJ gPV gMT gMK gSN hl hm; exfalso; omega), (by intro σ τ H locs x1 x2 ls hR hF hFL hP hS hc0 hc1 hc2 hc3 hc4 hc5 hc6 hc7 hc8 hi0 hi1 isa iz15 isk gRV gWJ gPV hl hm; exfalso; omega)⟩
  | succ n ih =>
    exact ⟨B_X12_sentence_48 p l e s m args below meth c D cA ad σ0 τ0 b N nm hc n C hpre0 gSI0 gRV0 gWJ0 ih.1 ih.2, B_X12_sentence_146 p l e s m args below meth c D cA ad σ0 τ0 b N nm hc n C hpre0 gSI0 gRV0 gWJ0 ih.1 ih.2⟩
set_option maxHeartbeats 4000000 in
theorem c_X12_sentence (l : Launch) (D : va_G) (cA : Nat → ClassId) (ad : Nat → Nat) (hI : Inj ad) (σ0 : Nat → Nat → Int32) (τ0 : Nat → Nat → Int64) (hR : Rg σ0) (b : Nat → Int) (N : Nat) (nm : Nat → Int) (hc : Nat) (hpre0 : (σ0 387 2).toInt = (N : Int) ∧ N ≤ 940 ∧ ∀ j : Nat, j < N → bM σ0 j = b j) (gSI0 : SI σ0) (gRV0 : RV τ0 ) (gWJ0 : WJ σ0 τ0 nm hc) : Met l yX12_sentence wsX12_sentence ({ frames := 3, cells := 0, slots := 0, locals := 69 } : Room) (WQc D cA ad [.ref (ad 387)] σ0 τ0) (va_Qi (fun (r : Int32) (u : SS) => P_X12_sentence σ0 τ0 b N nm hc r u.1 u.2) (WB D cA ad) (AA ad)) 0 0 (AA ad) := by
  refine Met.ofW (cc := cX12_sentence) (maxL := 3) (ret := (some .int)) (by decide) rfl ?_
  intro p e s m args below meth c s₁ B hml hv
  obtain ⟨rfl, hP, hK, hN⟩ := hv
  have C : Cy p s m _ meth c cX12_sentence 3 wsX12_sentence RX12 D cA ad (some .int) := ⟨B.exec, B.bytes, hml, findClass_of_methodNamed B.named, atoms_spec (ws := wsX12_sentence) B.pre, hK, B.notSynchronized, B.returns, hI, hN⟩
  have hl := lv_entry ([.ref (ad 387)]) (n := 3) (Nat.le_of_ble_eq_true rfl)
  rw [lg_entry_eq]
  generalize (lg_sl ([.ref (ad 387)]) ++ List.replicate (3 - (lg_sl ([.ref (ad 387)])).length) Slot.unset).toArray = ls at hl ⊢
  have hl : lv_has ls 3 [(0, .ref (ad 387))] := hl
  have hS : va_S (AA ad) s.heap s.heap [] := va_S.rf
  have hF : Fr L_X12_sentence σ0 σ0 := Fr.rf
  have hFL : FrL LL_X12_sentence τ0 τ0 := FrL.rf
  have gSI := gSI0
  have gRV := gRV0
  have gWJ := gWJ0
  have hA := A_X12_sentence p l e s m _ below meth c D cA ad σ0 τ0 b N nm hc C hpre0 gSI0 gRV0 gWJ0 1192437
  have K48 := hA.1
  have K146 := hA.2
  clear hA
  obtain ⟨hx, hb, _, hown, hts, _, hk, hr, _, _⟩ := C
  have hrt38 := rg_12_38 hR (k := 387) (by decide) (by decide)
  have hrt39 := rg_12_39 hR (k := 387) (by decide) (by decide)
  have hrt40 := rg_12_40 hR (k := 387) (by decide) (by decide)
  have hrt42 := rg_12_42 hR (k := 387) (by decide) (by decide)
  have hrt2 := rg_12_2 hR (k := 387) (by decide) (by decide)
  have hrt4 := rg_12_4 hR (k := 387) (by decide) (by decide)
  refine lv_aload_n hx hb dX12_sentence_0 rfl (lv_at hl 0 rfl) ?_
  refine r_iconst hx hb dX12_sentence_1 (by decide) (fun z1 ez1 => ?_)
  refine fp_12_0 (k := 387) hx hb hts in_X12_sentence_12 hown hK hP (by decide) (by decide) (hts _ lk_X12_sentence_1) hI hR hS (by omega) dX12_sentence_2 (fun σ2 H2 locs2 u2 v2 hR hP hS => ?_)
  have uq2 := u2
  have vq2 := v2
  have hF := hF.puts u2 0 rfl (by decide) (by decide) (by decide) (by decide)
  have gSI := SI.put gSI hR u2 (by decide)
  have gWJ := gWJ.ag (Agr.put u2 (by decide))
  have t3 : (σ2 387 38).toInt = (σ0 387 38).toInt := congrArg Int32.toInt (u2 387 38 (by omega))
  have t4 : (σ2 387 39).toInt = (σ0 387 39).toInt := congrArg Int32.toInt (u2 387 39 (by omega))
  have t5 : (σ2 387 40).toInt = (σ0 387 40).toInt := congrArg Int32.toInt (u2 387 40 (by omega))
  have t6 : (σ2 387 42).toInt = (σ0 387 42).toInt := congrArg Int32.toInt (u2 387 42 (by omega))
  have t7 : (σ2 387 11).toInt = (σ0 387 11).toInt := congrArg Int32.toInt (u2 387 11 (by omega))
  have t8 : (σ2 387 2).toInt = (σ0 387 2).toInt := congrArg Int32.toInt (u2 387 2 (by omega))
  have t9 : (σ2 387 4).toInt = (σ0 387 4).toInt := congrArg Int32.toInt (u2 387 4 (by omega))
  have t10 : (σ2 387 15).toInt = (σ0 387 15).toInt := congrArg Int32.toInt (u2 387 15 (by omega))
  refine lv_aload_n hx hb dX12_sentence_5 rfl (lv_at hl 0 rfl) ?_
  refine r_sipush hx hb dX12_sentence_6 (by decide) (fun z11 ez11 => ?_)
  refine r_cVv (k := 387) (As := [.int z11]) (rest := []) ⟨hx, hb, hml, hown, hts⟩ hK hP hN hS (c_X12_taken l D cA ad hI σ2 τ0 hR z11 (by omega)) (cwV 1 hts gX12_sentence_X12_taken rfl rfl rfl (by decide +kernel) ⟨by decide, by decide⟩) (rv_M hK hP (by decide) (by decide)) rfl hl.1 rfl (Nat.le_of_ble_eq_true rfl) dX12_sentence_9 (Nat.zero_le _) (Nat.zero_le _) (fun u12 H12 locs12 hp12 hP hS => ?_)
  obtain ⟨σ12, τ12⟩ := u12
  obtain ⟨hR, f12, fL12, hp12_0, hp12_1, hp12_2, hp12_3⟩ : P_X12_taken σ2 τ0 z11 σ12 τ12 := hp12
  have fq9 := f12
  have hP : va_P D vwCl (gw cA ad σ12 τ12) H12 := hP
  obtain rfl := FrL.nil fL12
  have hF := hF.step f12 (by decide)
  have gSI := SI.fr gSI hR f12 (by decide)
  have gWJ := gWJ.ag (Agr.fr f12 (by decide))
  have t13 : (σ12 387 38).toInt = (σ2 387 38).toInt := congrArg Int32.toInt (f12.at 387 38 (by decide))
  have t14 : (σ12 387 39).toInt = (σ2 387 39).toInt := congrArg Int32.toInt (f12.at 387 39 (by decide))
  have t15 : (σ12 387 40).toInt = (σ2 387 40).toInt := congrArg Int32.toInt (f12.at 387 40 (by decide))
  have t16 : (σ12 387 42).toInt = (σ2 387 42).toInt := congrArg Int32.toInt (f12.at 387 42 (by decide))
  have t17 : (σ12 387 11).toInt = (σ2 387 11).toInt := congrArg Int32.toInt (f12.at 387 11 (by decide))
  have t18 : (σ12 387 15).toInt = (σ2 387 15).toInt := congrArg Int32.toInt (f12.at 387 15 (by decide))
  have hr19 := rg_12_2 hR (k := 387) (by decide) (by decide)
  have hr20 := rg_12_4 hR (k := 387) (by decide) (by decide)
  have gMT : MT σ12 b N 200 := MT.of uq2 fq9 (by decide) (by decide) (by omega) (by omega) hpre0.2.1 hpre0.2.2
  refine lv_aload_n hx hb dX12_sentence_12 rfl (lv_at hl 0 rfl) ?_
  refine r_iconst hx hb dX12_sentence_13 (by decide) (fun z21 ez21 => ?_)
  refine fp_12_15 (k := 387) hx hb hts in_X12_sentence_12 hown hK hP (by decide) (by decide) (hts _ lk_X12_sentence_176) hI hR hS dX12_sentence_14 (fun σ22 H22 locs22 u22 v22 hR hP hS => ?_)
  have hF := hF.puts u22 3 rfl (by decide) (by decide) (by decide) (by decide)
  have gMT := gMT.ag (Agr.put u22 (by decide))
  have gSI := SI.put gSI hR u22 (by decide)
  have gWJ := gWJ.ag (Agr.put u22 (by decide))
  have t23 : (σ22 387 38).toInt = (σ12 387 38).toInt := congrArg Int32.toInt (u22 387 38 (by omega))
  have t24 : (σ22 387 39).toInt = (σ12 387 39).toInt := congrArg Int32.toInt (u22 387 39 (by omega))
  have t25 : (σ22 387 40).toInt = (σ12 387 40).toInt := congrArg Int32.toInt (u22 387 40 (by omega))
  have t26 : (σ22 387 42).toInt = (σ12 387 42).toInt := congrArg Int32.toInt (u22 387 42 (by omega))
  have t27 : (σ22 387 11).toInt = (σ12 387 11).toInt := congrArg Int32.toInt (u22 387 11 (by omega))
  have t28 : (σ22 387 2).toInt = (σ12 387 2).toInt := congrArg Int32.toInt (u22 387 2 (by omega))
  have t29 : (σ22 387 4).toInt = (σ12 387 4).toInt := congrArg Int32.toInt (u22 387 4 (by omega))
  refine lv_aload_n hx hb dX12_sentence_17 rfl (lv_at hl 0 rfl) ?_
  refine r_iconst hx hb dX12_sentence_18 (by decide) (fun z30 ez30 => ?_)
  refine fp_12_38 (k := 387) hx hb hts in_X12_sentence_12 hown hK hP (by decide) (by decide) (hts _ lk_X12_sentence_431) hI hR hS (by omega) dX12_sentence_19 (fun σ31 H31 locs31 u31 v31 hR hP hS => ?_)
  have hF := hF.puts u31 2 rfl (by decide) (by decide) (by decide) (by decide)
  have gMT := gMT.ag (Agr.put u31 (by decide))
  have gSI := SI.put gSI hR u31 (by decide)
  have gWJ := gWJ.ag (Agr.put u31 (by decide))
  have t32 : (σ31 387 39).toInt = (σ22 387 39).toInt := congrArg Int32.toInt (u31 387 39 (by omega))
  have t33 : (σ31 387 40).toInt = (σ22 387 40).toInt := congrArg Int32.toInt (u31 387 40 (by omega))
  have t34 : (σ31 387 42).toInt = (σ22 387 42).toInt := congrArg Int32.toInt (u31 387 42 (by omega))
  have t35 : (σ31 387 11).toInt = (σ22 387 11).toInt := congrArg Int32.toInt (u31 387 11 (by omega))
  have t36 : (σ31 387 2).toInt = (σ22 387 2).toInt := congrArg Int32.toInt (u31 387 2 (by omega))
  have t37 : (σ31 387 4).toInt = (σ22 387 4).toInt := congrArg Int32.toInt (u31 387 4 (by omega))
  have t38 : (σ31 387 15).toInt = (σ22 387 15).toInt := congrArg Int32.toInt (u31 387 15 (by omega))
  refine lv_aload_n hx hb dX12_sentence_22 rfl (lv_at hl 0 rfl) ?_
  refine r_iconst hx hb dX12_sentence_23 (by decide) (fun z39 ez39 => ?_)
  refine fp_12_39 (k := 387) hx hb hts in_X12_sentence_12 hown hK hP (by decide) (by decide) (hts _ lk_X12_sentence_446) hI hR hS (by omega) dX12_sentence_24 (fun σ40 H40 locs40 u40 v40 hR hP hS => ?_)
  have hF := hF.puts u40 2 rfl (by decide) (by decide) (by decide) (by decide)
  have gMT := gMT.ag (Agr.put u40 (by decide))
  have gSI := SI.put gSI hR u40 (by decide)
  have gWJ := gWJ.ag (Agr.put u40 (by decide))
  have t41 : (σ40 387 40).toInt = (σ31 387 40).toInt := congrArg Int32.toInt (u40 387 40 (by omega))
  have t42 : (σ40 387 42).toInt = (σ31 387 42).toInt := congrArg Int32.toInt (u40 387 42 (by omega))
  have t43 : (σ40 387 11).toInt = (σ31 387 11).toInt := congrArg Int32.toInt (u40 387 11 (by omega))
  have t44 : (σ40 387 2).toInt = (σ31 387 2).toInt := congrArg Int32.toInt (u40 387 2 (by omega))
  have t45 : (σ40 387 4).toInt = (σ31 387 4).toInt := congrArg Int32.toInt (u40 387 4 (by omega))
  have t46 : (σ40 387 15).toInt = (σ31 387 15).toInt := congrArg Int32.toInt (u40 387 15 (by omega))
  have t47 : (σ40 387 38).toInt = (σ31 387 38).toInt := congrArg Int32.toInt (u40 387 38 (by omega))
  refine lv_aload_n hx hb dX12_sentence_27 rfl (lv_at hl 0 rfl) ?_
  refine r_iconst hx hb dX12_sentence_28 (by decide) (fun z48 ez48 => ?_)
  refine fp_12_40 (k := 387) hx hb hts in_X12_sentence_12 hown hK hP (by decide) (by decide) (hts _ lk_X12_sentence_434) hI hR hS (by omega) dX12_sentence_29 (fun σ49 H49 locs49 u49 v49 hR hP hS => ?_)
  have hF := hF.puts u49 2 rfl (by decide) (by decide) (by decide) (by decide)
  have gMT := gMT.ag (Agr.put u49 (by decide))
  have gSI := SI.put gSI hR u49 (by decide)
  have gWJ := gWJ.ag (Agr.put u49 (by decide))
  have t50 : (σ49 387 42).toInt = (σ40 387 42).toInt := congrArg Int32.toInt (u49 387 42 (by omega))
  have t51 : (σ49 387 11).toInt = (σ40 387 11).toInt := congrArg Int32.toInt (u49 387 11 (by omega))
  have t52 : (σ49 387 2).toInt = (σ40 387 2).toInt := congrArg Int32.toInt (u49 387 2 (by omega))
  have t53 : (σ49 387 4).toInt = (σ40 387 4).toInt := congrArg Int32.toInt (u49 387 4 (by omega))
  have t54 : (σ49 387 15).toInt = (σ40 387 15).toInt := congrArg Int32.toInt (u49 387 15 (by omega))
  have t55 : (σ49 387 38).toInt = (σ40 387 38).toInt := congrArg Int32.toInt (u49 387 38 (by omega))
  have t56 : (σ49 387 39).toInt = (σ40 387 39).toInt := congrArg Int32.toInt (u49 387 39 (by omega))
  refine lv_aload_n hx hb dX12_sentence_32 rfl (lv_at hl 0 rfl) ?_
  refine r_iconst hx hb dX12_sentence_33 (by decide) (fun z57 ez57 => ?_)
  refine fp_12_41 (k := 387) hx hb hts in_X12_sentence_12 hown hK hP (by decide) (by decide) (hts _ lk_X12_sentence_440) hI hR hS dX12_sentence_34 (fun σ58 H58 locs58 u58 v58 hR hP hS => ?_)
  have u41 := u58
  have v41 := v58
  have hF := hF.puts u58 2 rfl (by decide) (by decide) (by decide) (by decide)
  have gMT := gMT.ag (Agr.put u58 (by decide))
  have gSI := SI.put gSI hR u58 (by decide)
  have gWJ := gWJ.ag (Agr.put u58 (by decide))
  have t59 : (σ58 387 42).toInt = (σ49 387 42).toInt := congrArg Int32.toInt (u58 387 42 (by omega))
  have t60 : (σ58 387 11).toInt = (σ49 387 11).toInt := congrArg Int32.toInt (u58 387 11 (by omega))
  have t61 : (σ58 387 2).toInt = (σ49 387 2).toInt := congrArg Int32.toInt (u58 387 2 (by omega))
  have t62 : (σ58 387 4).toInt = (σ49 387 4).toInt := congrArg Int32.toInt (u58 387 4 (by omega))
  have t63 : (σ58 387 15).toInt = (σ49 387 15).toInt := congrArg Int32.toInt (u58 387 15 (by omega))
  have t64 : (σ58 387 38).toInt = (σ49 387 38).toInt := congrArg Int32.toInt (u58 387 38 (by omega))
  have t65 : (σ58 387 39).toInt = (σ49 387 39).toInt := congrArg Int32.toInt (u58 387 39 (by omega))
  have t66 : (σ58 387 40).toInt = (σ49 387 40).toInt := congrArg Int32.toInt (u58 387 40 (by omega))
  refine lv_aload_n hx hb dX12_sentence_37 rfl (lv_at hl 0 rfl) ?_
  refine r_iconst hx hb dX12_sentence_38 (by decide) (fun z67 ez67 => ?_)
  refine fp_12_42 (k := 387) hx hb hts in_X12_sentence_12 hown hK hP (by decide) (by decide) (hts _ lk_X12_sentence_449) hI hR hS (by omega) dX12_sentence_39 (fun σ68 H68 locs68 u68 v68 hR hP hS => ?_)
  have u42 := u68
  have v42 := v68
  have hF := hF.puts u68 2 rfl (by decide) (by decide) (by decide) (by decide)
  have gMT := gMT.ag (Agr.put u68 (by decide))
  have gSI := SI.put gSI hR u68 (by decide)
  have gWJ := gWJ.ag (Agr.put u68 (by decide))
  have t69 : (σ68 387 11).toInt = (σ58 387 11).toInt := congrArg Int32.toInt (u68 387 11 (by omega))
  have t70 : (σ68 387 2).toInt = (σ58 387 2).toInt := congrArg Int32.toInt (u68 387 2 (by omega))
  have t71 : (σ68 387 4).toInt = (σ58 387 4).toInt := congrArg Int32.toInt (u68 387 4 (by omega))
  have t72 : (σ68 387 15).toInt = (σ58 387 15).toInt := congrArg Int32.toInt (u68 387 15 (by omega))
  have t73 : (σ68 387 38).toInt = (σ58 387 38).toInt := congrArg Int32.toInt (u68 387 38 (by omega))
  have t74 : (σ68 387 39).toInt = (σ58 387 39).toInt := congrArg Int32.toInt (u68 387 39 (by omega))
  have t75 : (σ68 387 40).toInt = (σ58 387 40).toInt := congrArg Int32.toInt (u68 387 40 (by omega))
  have gPV := PV.start (σ := σ68) (by omega) (by omega) (by omega)
  have h41 := congrArg Int32.toInt (u42 387 41 (by omega))
  have gSN := SN.zero (σ := σ68) (by omega) (by omega)
  have gMP : MP σ68 b N 200 (posq b N 200 0) := ⟨0, by omega, Nat.zero_le _, rfl⟩
  refine lv_aload_n hx hb dX12_sentence_42 rfl (lv_at hl 0 rfl) ?_
  refine r_cVv (k := 387) (As := []) (rest := []) ⟨hx, hb, hml, hown, hts⟩ hK hP hN hS (c_X12_next_v l D cA ad hI σ68 τ0 hR b N 200 _ gMP gMT) (cwV 0 hts gX12_sentence_X12_next rfl rfl rfl (by decide +kernel) ⟨by decide, by decide⟩) (rv_M hK hP (by decide) (by decide)) rfl hl.1 rfl (Nat.le_of_ble_eq_true rfl) dX12_sentence_43 (Nat.zero_le _) (Nat.zero_le _) (fun u76 H76 locs76 hp76 hP hS => ?_)
  obtain ⟨σ76, τ76⟩ := u76
  obtain ⟨hR, f76, fL76, hp76_0, hp76_1, hp76_2, hp76_3, gnMT⟩ : P_X12_next_v σ68 τ0 b N 200 _ σ76 τ76 := hp76
  have hP : va_P D vwCl (gw cA ad σ76 τ76) H76 := hP
  have hFL := hFL.step fL76 (by decide)
  have gRV := gRV.agL (AgrL.fr fL76 (by decide))
  have gWJ := gWJ.agL (AgrL.fr fL76 (by decide))
  have hF := hF.step f76 (by decide)
  have gMT := gMT.ag (Agr.fr f76 (by decide))
  have gPV := PV.fr gPV hR f76 (by decide)
  have gSI := SI.fr gSI hR f76 (by decide)
  have gSN := gSN.ag (Agr.fr f76 (by decide))
  have gWJ := gWJ.ag (Agr.fr f76 (by decide))
  have t77 : (σ76 387 2).toInt = (σ68 387 2).toInt := congrArg Int32.toInt (f76.at 387 2 (by decide))
  have t78 : (σ76 387 15).toInt = (σ68 387 15).toInt := congrArg Int32.toInt (f76.at 387 15 (by decide))
  have t79 : (σ76 387 38).toInt = (σ68 387 38).toInt := congrArg Int32.toInt (f76.at 387 38 (by decide))
  have t80 : (σ76 387 39).toInt = (σ68 387 39).toInt := congrArg Int32.toInt (f76.at 387 39 (by decide))
  have t81 : (σ76 387 40).toInt = (σ68 387 40).toInt := congrArg Int32.toInt (f76.at 387 40 (by decide))
  have t82 : (σ76 387 42).toInt = (σ68 387 42).toInt := congrArg Int32.toInt (f76.at 387 42 (by decide))
  have hr83 := rg_12_4 hR (k := 387) (by decide) (by decide)
  have gMK := hp76_3
  refine r_iconst hx hb dX12_sentence_46 (by decide) (fun z84 ez84 => ?_)
  refine lv_istore_n (lv' := [(1, .int z84), (0, .ref (ad 387))]) hx hb dX12_sentence_47 rfl hl (by decide) rfl (fun ls hl => ?_)
  have gPV : PV σ76 := by first | exact gPV | exact pvo.resolve_left (by omega)
  first | (have hq9 := hfi; obtain ⟨zw, zq, zn, zK, hfz, gMK, hon, gSN, hwz⟩ : ∃ (zw : Bool) (zq zn : Nat) (zK : List Bool), (senP b N 200 nm hc = .inr zn) ∧ MK σ76 τ76 b N 200 zq ∧ (σ76 387 39).toInt = (zn : Int) ∧ SN σ76 zK ∧ (σ76 387 42).toInt = if zw = true then 1 else 0 := ⟨wh, q, nn, pnt K, hfi, gMK, by omega, gSN, by rw [show (σ76 387 42).toInt = (σ 387 42).toInt by omega]; exact iwh⟩) | (obtain ⟨zw, zq, zn, zK, hrz, gMK, hon, gSN, hwz⟩ : ∃ (zw : Bool) (zq zn : Nat) (zK : List Bool), (RnS b N 200 nm hc (zw, zq, zn, zK) (senP b N 200 nm hc)) ∧ MK σ76 τ76 b N 200 zq ∧ (σ76 387 39).toInt = (zn : Int) ∧ SN σ76 zK ∧ (σ76 387 42).toInt = if zw = true then 1 else 0 := by first | exact ⟨false, _, 0, [], sen_run, gMK, by show _ = (0 : Int); omega, gSN, by show _ = (0 : Int); omega⟩ | (obtain ⟨z, ez, h1, h2, h3, h4⟩ := o2.ye (by omega); exact ⟨z.1, z.2.1, z.2.2.1, z.2.2.2, hrt.beg (by omega) ez, h1, h2, h3, h4⟩) | (obtain ⟨z, ez, h1, h2, h3, h4⟩ := o1.ye (by omega); exact ⟨z.1, z.2.1, z.2.2.1, z.2.2.2, hrf.opg ez, h1, h2, h3, h4⟩))
  exact K48 σ76 τ76 H76 locs76 z84 zw zq zn zK ls hR hF hFL hP hS (by omega) (by omega) (by omega) (by omega) (by omega) (by omega) (by omega) (by omega) (by first | exact Or.inl ⟨by omega, hrz⟩ | exact Or.inr ⟨by omega, hfz⟩) (by exact hon) (by exact hwz) (by omega) gSI gRV gWJ gPV gMT gMK gSN (lv_sub hl [1, 0] rfl) (by omega)
theorem in_X12_hasHeard_12 : ∀ w ∈ u_ws RX12 TX12 47, w ∈ wsX12_hasHeard := by decide +kernel
theorem lk_X12_hasHeard_33 : Cond.fieldLink RX12 33 "CuckooSharesModel" "s" "[I" ∈ wsX12_hasHeard := by decide +kernel
abbrev L_X12_hasHeard : List Rc := [(394, 394, 0, 7), (395, 395, 0, 7), (396, 396, 0, 7)]
abbrev LL_X12_hasHeard : List Rc := []
def P_X12_hasHeard (σ0 : Nat → Nat → Int32) (τ0 : Nat → Nat → Int64) (a1 : Int32) (r : Int32) (σ : Nat → Nat → Int32) (τ : Nat → Nat → Int64) : Prop := Rg σ ∧ Fr L_X12_hasHeard σ0 σ ∧ FrL LL_X12_hasHeard τ0 τ ∧ (0 ≤ r.toInt ∧ r.toInt ≤ 1)
def J_X12_hasHeard_11 (p : Program) (l : Launch) (e : Env) (s : State) (m : MethodId) (args : Array Value) (below : List Frame) (meth : Method) (c : Code) (D : va_G) (cA : Nat → ClassId) (ad : Nat → Nat) (σ0 : Nat → Nat → Int32) (τ0 : Nat → Nat → Int64) (a1 : Int32) (n : Nat) : Prop := ∀ (σ : Nat → Nat → Int32) (τ : Nat → Nat → Int64) (H : Heap) (locs : List Loc) (x2 : Int32) (x3 : Int32) (ls : Array Slot), Rg σ → Fr L_X12_hasHeard σ0 σ → FrL LL_X12_hasHeard τ0 τ → va_P D vwCl (gw cA ad σ τ) H → va_S (AA ad) s.heap H locs → (0 ≤ x2.toInt ∧ x2.toInt ≤ 10) → (0 ≤ x3.toInt ∧ x3.toInt ≤ 10) → lv_has ls 4 [(0, .ref (ad 387)), (1, .int a1), (2, .int x2), (3, .int x3)] → 2 * (10 - x3.toInt) + 1 < (n : Int) → W p l e ({ frames := 3, cells := 0, slots := 0, locals := 69 } : Room) s m args below meth c H locs 0 0 (MQ below (va_Qi (fun (r : Int32) (u : SS) => P_X12_hasHeard σ0 τ0 a1 r u.1 u.2) (WB D cA ad) (AA ad)) args s 0 0 (AA ad)) (F0 m 11 ls [])
set_option maxHeartbeats 4000000 in
theorem B_X12_hasHeard_11 (p : Program) (l : Launch) (e : Env) (s : State) (m : MethodId) (args : Array Value) (below : List Frame) (meth : Method) (c : Code) (D : va_G) (cA : Nat → ClassId) (ad : Nat → Nat) (σ0 : Nat → Nat → Int32) (τ0 : Nat → Nat → Int64) (a1 : Int32) (n : Nat) (C : Cy p s m args meth c cX12_hasHeard 4 wsX12_hasHeard RX12 D cA ad (some .boolean)) (ha1 : 0 ≤ a1.toInt ∧ a1.toInt ≤ 7) (K11 : J_X12_hasHeard_11 p l e s m args below meth c D cA ad σ0 τ0 a1 n) : J_X12_hasHeard_11 p l e s m args below meth c D cA ad σ0 τ0 a1 (n + 1) := by
  obtain ⟨hx, hb, hml, hown, hts, hK, hk, hr, hI, hN⟩ := C
  intro σ τ H locs x2 x3 ls hR hF hFL hP hS hc0 hc1 hl hm
  obtain rfl := FrL.nil hFL
  refine lv_iload_n hx hb dX12_hasHeard_11 rfl (lv_at hl 3 rfl) ?_
  refine lv_iload_n hx hb dX12_hasHeard_12 rfl (lv_at hl 2 rfl) ?_
  refine r_icmp_ge (tgt := 43) hx hb dX12_hasHeard_13 (by decide) (fun c1 => ?_) (fun c1 => ?_)
  · refine r_iconst hx hb dX12_hasHeard_43 (by decide) (fun z2 ez2 => ?_)
    exact r_zret hx hb hr hK hP hS hk (by omega) dX12_hasHeard_44 (show P_X12_hasHeard σ0 τ0 a1 z2 σ τ0 from ⟨hR, hF, hFL, by omega⟩)
  · refine lv_aload_n hx hb dX12_hasHeard_16 rfl (lv_at hl 0 rfl) ?_
    refine lv_iload_n hx hb dX12_hasHeard_17 rfl (lv_at hl 1 rfl) ?_
    refine lv_aload_n hx hb dX12_hasHeard_18 rfl (lv_at hl 0 rfl) ?_
    refine fg_12_6 (k := 387) hx hb hts in_X12_hasHeard_12 hown hK hP (by decide) (by decide) (hts _ lk_X12_hasHeard_33) dX12_hasHeard_19 ?_
    refine r_sipush hx hb dX12_hasHeard_22 (by decide) (fun z3 ez3 => ?_)
    refine ad_ms (k := 389) (j := 212) hx hb hK hP (by decide) (by decide) (by omega) (by omega) dX12_hasHeard_25 ?_
    have hr4 := ra_ms_5 hR (k := 389) (j := 212) (by decide) (by decide) (by decide) (by decide)
    refine r_iconst hx hb dX12_hasHeard_26 (by decide) (fun z5 ez5 => ?_)
    refine r_isub hx hb dX12_hasHeard_27 (by omega) (fun z6 ez6 => ?_)
    refine lv_iload_n hx hb dX12_hasHeard_28 rfl (lv_at hl 3 rfl) ?_
    refine r_cVi (k := 387) (As := [.int a1, .int z6, .int x3]) (rest := []) ⟨hx, hb, hml, hown, hts⟩ hK hP hN hS (c_X12_canHear l D cA ad hI σ τ0 hR a1 z6 x3 (by omega) (by omega) (by omega)) (cwV 3 hts gX12_hasHeard_X12_canHear rfl rfl rfl (by decide +kernel) ⟨by decide, by decide⟩) (rv_M hK hP (by decide) (by decide)) rfl hl.1 rfl (Nat.le_of_ble_eq_true rfl) dX12_hasHeard_29 (Nat.zero_le _) (Nat.zero_le _) (fun r7 u7 H7 locs7 hp7 hP hS => ?_)
    obtain ⟨σ7, τ7⟩ := u7
    obtain ⟨hR, f7, fL7, hq7⟩ : P_X12_canHear σ τ0 a1 z6 x3 r7 σ7 τ7 := hp7
    have hP : va_P D vwCl (gw cA ad σ7 τ7) H7 := hP
    obtain rfl := FrL.nil fL7
    obtain rfl := Fr.nil f7
    refine r_if_eq (tgt := 37) hx hb dX12_hasHeard_32 (by decide) (fun c8 => ?_) (fun c8 => ?_)
    · refine r_iinc (k := 3) (lv1 := fun z9 => [(3, .int z9), (0, .ref (ad 387)), (1, .int a1), (2, .int x2)]) hx hb dX12_hasHeard_37 hl rfl (by decide) (fun _ => rfl) (by decide) (by omega) (fun z9 ls ez9 hl => ?_)
      refine lv_goto (tgt := 11) hx hb dX12_hasHeard_40 (by decide) ?_
      exact K11 σ τ0 H7 locs7 x2 z9 ls hR hF hFL hP hS (by omega) (by omega) (lv_sub hl [1, 2, 3, 0] rfl) (by omega)
    · refine r_iconst hx hb dX12_hasHeard_35 (by decide) (fun z10 ez10 => ?_)
      exact r_zret hx hb hr hK hP hS hk (by omega) dX12_hasHeard_36 (show P_X12_hasHeard σ0 τ0 a1 z10 σ τ0 from ⟨hR, hF, hFL, by omega⟩)
theorem A_X12_hasHeard (p : Program) (l : Launch) (e : Env) (s : State) (m : MethodId) (args : Array Value) (below : List Frame) (meth : Method) (c : Code) (D : va_G) (cA : Nat → ClassId) (ad : Nat → Nat) (σ0 : Nat → Nat → Int32) (τ0 : Nat → Nat → Int64) (a1 : Int32) (C : Cy p s m args meth c cX12_hasHeard 4 wsX12_hasHeard RX12 D cA ad (some .boolean)) (ha1 : 0 ≤ a1.toInt ∧ a1.toInt ≤ 7) : ∀ n : Nat, J_X12_hasHeard_11 p l e s m args below meth c D cA ad σ0 τ0 a1 n := by
  intro n
  induction n with
  | zero =>
    exact (by intro σ τ H locs x2 x3 ls hR hF hFL hP hS hc0 hc1 hl hm; exfalso; omega)
  | succ n ih =>
    exact B_X12_hasHeard_11 p l e s m args below meth c D cA ad σ0 τ0 a1 n C ha1 ih
set_option maxHeartbeats 4000000 in
theorem c_X12_hasHeard (l : Launch) (D : va_G) (cA : Nat → ClassId) (ad : Nat → Nat) (hI : Inj ad) (σ0 : Nat → Nat → Int32) (τ0 : Nat → Nat → Int64) (hR : Rg σ0) (a1 : Int32) (ha1 : 0 ≤ a1.toInt ∧ a1.toInt ≤ 7) : Met l yX12_hasHeard wsX12_hasHeard ({ frames := 3, cells := 0, slots := 0, locals := 69 } : Room) (WQc D cA ad [.ref (ad 387), .int a1] σ0 τ0) (va_Qi (fun (r : Int32) (u : SS) => P_X12_hasHeard σ0 τ0 a1 r u.1 u.2) (WB D cA ad) (AA ad)) 0 0 (AA ad) := by
  refine Met.ofW (cc := cX12_hasHeard) (maxL := 4) (ret := (some .boolean)) (by decide) rfl ?_
  intro p e s m args below meth c s₁ B hml hv
  obtain ⟨rfl, hP, hK, hN⟩ := hv
  have C : Cy p s m _ meth c cX12_hasHeard 4 wsX12_hasHeard RX12 D cA ad (some .boolean) := ⟨B.exec, B.bytes, hml, findClass_of_methodNamed B.named, atoms_spec (ws := wsX12_hasHeard) B.pre, hK, B.notSynchronized, B.returns, hI, hN⟩
  have hl := lv_entry ([.ref (ad 387), .int a1]) (n := 4) (Nat.le_of_ble_eq_true rfl)
  rw [lg_entry_eq]
  generalize (lg_sl ([.ref (ad 387), .int a1]) ++ List.replicate (4 - (lg_sl ([.ref (ad 387), .int a1])).length) Slot.unset).toArray = ls at hl ⊢
  have hl : lv_has ls 4 [(0, .ref (ad 387)), (1, .int a1)] := hl
  have hS : va_S (AA ad) s.heap s.heap [] := va_S.rf
  have hF : Fr L_X12_hasHeard σ0 σ0 := Fr.rf
  have hFL : FrL LL_X12_hasHeard τ0 τ0 := FrL.rf
  have hA := A_X12_hasHeard p l e s m _ below meth c D cA ad σ0 τ0 a1 C ha1 50
  have K11 := hA
  clear hA
  obtain ⟨hx, hb, _, hown, hts, _, hk, hr, _, _⟩ := C
  refine lv_aload_n hx hb dX12_hasHeard_0 rfl (lv_at hl 0 rfl) ?_
  refine r_cVv (k := 387) (As := []) (rest := []) ⟨hx, hb, hml, hown, hts⟩ hK hP hN hS (c_X12_asNow l D cA ad hI σ0 τ0 hR) (cwV 0 hts gX12_hasHeard_X12_asNow rfl rfl rfl (by decide +kernel) ⟨by decide, by decide⟩) (rv_M hK hP (by decide) (by decide)) rfl hl.1 rfl (Nat.le_of_ble_eq_true rfl) dX12_hasHeard_1 (Nat.zero_le _) (Nat.zero_le _) (fun u1 H1 locs1 hp1 hP hS => ?_)
  obtain ⟨σ1, τ1⟩ := u1
  obtain ⟨hR, f1, fL1⟩ : P_X12_asNow σ0 τ0 σ1 τ1 := hp1
  have hP : va_P D vwCl (gw cA ad σ1 τ1) H1 := hP
  obtain rfl := FrL.nil fL1
  have hF := hF.step f1 (by decide)
  refine lv_aload_n hx hb dX12_hasHeard_4 rfl (lv_at hl 0 rfl) ?_
  refine r_cVi (k := 387) (As := []) (rest := []) ⟨hx, hb, hml, hown, hts⟩ hK hP hN hS (c_X12_pastOf l D cA ad hI σ1 τ0 hR) (cwV 0 hts gX12_hasHeard_X12_pastOf rfl rfl rfl (by decide +kernel) ⟨by decide, by decide⟩) (rv_M hK hP (by decide) (by decide)) rfl hl.1 rfl (Nat.le_of_ble_eq_true rfl) dX12_hasHeard_5 (Nat.zero_le _) (Nat.zero_le _) (fun r2 u2 H2 locs2 hp2 hP hS => ?_)
  obtain ⟨σ2, τ2⟩ := u2
  obtain ⟨hR, f2, fL2, hq2⟩ : P_X12_pastOf σ1 τ0 r2 σ2 τ2 := hp2
  have hP : va_P D vwCl (gw cA ad σ2 τ2) H2 := hP
  obtain rfl := FrL.nil fL2
  obtain rfl := Fr.nil f2
  refine lv_istore_n (lv' := [(2, .int r2), (0, .ref (ad 387)), (1, .int a1)]) hx hb dX12_hasHeard_8 rfl hl (by decide) rfl (fun ls hl => ?_)
  refine r_iconst hx hb dX12_hasHeard_9 (by decide) (fun z3 ez3 => ?_)
  refine lv_istore_n (lv' := [(3, .int z3), (2, .int r2), (0, .ref (ad 387)), (1, .int a1)]) hx hb dX12_hasHeard_10 rfl hl (by decide) rfl (fun ls hl => ?_)
  exact K11 σ1 τ0 H2 locs2 r2 z3 ls hR hF hFL hP hS (by omega) (by omega) (lv_sub hl [2, 3, 1, 0] rfl) (by omega)
theorem in_X12_isLeaf_12 : ∀ w ∈ u_ws RX12 TX12 47, w ∈ wsX12_isLeaf := by decide +kernel
theorem lk_X12_isLeaf_33 : Cond.fieldLink RX12 33 "CuckooSharesModel" "s" "[I" ∈ wsX12_isLeaf := by decide +kernel
abbrev L_X12_isLeaf : List Rc := [(394, 394, 0, 7), (395, 395, 0, 7), (396, 396, 0, 7)]
abbrev LL_X12_isLeaf : List Rc := []
def P_X12_isLeaf (σ0 : Nat → Nat → Int32) (τ0 : Nat → Nat → Int64) (a1 : Int32) (a2 : Int32) (a3 : Int32) (a4 : Int32) (r : Int32) (σ : Nat → Nat → Int32) (τ : Nat → Nat → Int64) : Prop := Rg σ ∧ Fr L_X12_isLeaf σ0 σ ∧ FrL LL_X12_isLeaf τ0 τ ∧ (0 ≤ r.toInt ∧ r.toInt ≤ 1)
def J_X12_isLeaf_207 (p : Program) (l : Launch) (e : Env) (s : State) (m : MethodId) (args : Array Value) (below : List Frame) (meth : Method) (c : Code) (D : va_G) (cA : Nat → ClassId) (ad : Nat → Nat) (σ0 : Nat → Nat → Int32) (τ0 : Nat → Nat → Int64) (a1 : Int32) (a2 : Int32) (a3 : Int32) (a4 : Int32) (n : Nat) : Prop := ∀ (σ : Nat → Nat → Int32) (τ : Nat → Nat → Int64) (H : Heap) (locs : List Loc) (w0 : Int32) (ls : Array Slot), Rg σ → Fr L_X12_isLeaf σ0 σ → FrL LL_X12_isLeaf τ0 τ → va_P D vwCl (gw cA ad σ τ) H → va_S (AA ad) s.heap H locs → lv_has ls 6 [(0, .ref (ad 387)), (1, .int a1), (2, .int a2), (3, .int a3), (4, .int a4)] → 1 < (n : Int) → W p l e ({ frames := 4, cells := 0, slots := 0, locals := 92 } : Room) s m args below meth c H locs 0 0 (MQ below (va_Qi (fun (r : Int32) (u : SS) => P_X12_isLeaf σ0 τ0 a1 a2 a3 a4 r u.1 u.2) (WB D cA ad) (AA ad)) args s 0 0 (AA ad)) (F0 m 207 ls [.int w0])
set_option maxHeartbeats 4000000 in
theorem B_X12_isLeaf_207 (p : Program) (l : Launch) (e : Env) (s : State) (m : MethodId) (args : Array Value) (below : List Frame) (meth : Method) (c : Code) (D : va_G) (cA : Nat → ClassId) (ad : Nat → Nat) (σ0 : Nat → Nat → Int32) (τ0 : Nat → Nat → Int64) (a1 : Int32) (a2 : Int32) (a3 : Int32) (a4 : Int32) (n : Nat) (C : Cy p s m args meth c cX12_isLeaf 6 wsX12_isLeaf RX12 D cA ad (some .boolean)) (ha1 : 0 ≤ a1.toInt ∧ a1.toInt ≤ 7) (K207 : J_X12_isLeaf_207 p l e s m args below meth c D cA ad σ0 τ0 a1 a2 a3 a4 n) : J_X12_isLeaf_207 p l e s m args below meth c D cA ad σ0 τ0 a1 a2 a3 a4 (n + 1) := by
  obtain ⟨hx, hb, hml, hown, hts, hK, hk, hr, hI, hN⟩ := C
  intro σ τ H locs w0 ls hR hF hFL hP hS hl hm
  obtain rfl := FrL.nil hFL
  refine lv_istore (lv' := [(5, .int w0), (0, .ref (ad 387)), (1, .int a1), (2, .int a2), (3, .int a3), (4, .int a4)]) hx hb dX12_isLeaf_207 hl (by decide) rfl (fun ls hl => ?_)
  refine lv_iload_n hx hb dX12_isLeaf_209 rfl (lv_at hl 4 rfl) ?_
  refine r_bipush hx hb dX12_isLeaf_210 (by decide) (fun z1 ez1 => ?_)
  refine r_icmp_ne (tgt := 230) hx hb dX12_isLeaf_212 (by decide) (fun c2 => ?_) (fun c2 => ?_)
  · refine lv_iload_n hx hb dX12_isLeaf_230 rfl (lv_at hl 4 rfl) ?_
    refine r_bipush hx hb dX12_isLeaf_231 (by decide) (fun z3 ez3 => ?_)
    refine r_icmp_ne (tgt := 251) hx hb dX12_isLeaf_233 (by decide) (fun c4 => ?_) (fun c4 => ?_)
    · refine lv_iload hx hb dX12_isLeaf_251 (lv_at hl 0 rfl) ?_
      refine lv_iload hx hb dX12_isLeaf_253 (lv_at hl 5 rfl) ?_
      refine r_icmp_le (tgt := 262) hx hb dX12_isLeaf_255 (by decide) (fun c5 => ?_) (fun c5 => ?_)
      · refine r_iconst hx hb dX12_isLeaf_262 (by decide) (fun z6 ez6 => ?_)
        exact r_zret hx hb hr hK hP hS hk (by omega) dX12_isLeaf_263 (show P_X12_isLeaf σ0 τ0 a1 a2 a3 a4 z6 σ τ0 from ⟨hR, hF, hFL, by omega⟩)
      · refine r_iconst hx hb dX12_isLeaf_258 (by decide) (fun z7 ez7 => ?_)
        refine lv_goto (tgt := 263) hx hb dX12_isLeaf_259 (by decide) ?_
        exact r_zret hx hb hr hK hP hS hk (by omega) dX12_isLeaf_263 (show P_X12_isLeaf σ0 τ0 a1 a2 a3 a4 z7 σ τ0 from ⟨hR, hF, hFL, by omega⟩)
    · refine lv_iload hx hb dX12_isLeaf_236 (lv_at hl 0 rfl) ?_
      refine lv_iload hx hb dX12_isLeaf_238 (lv_at hl 5 rfl) ?_
      refine r_icmp_ne (tgt := 247) hx hb dX12_isLeaf_240 (by decide) (fun c8 => ?_) (fun c8 => ?_)
      · refine r_iconst hx hb dX12_isLeaf_247 (by decide) (fun z9 ez9 => ?_)
        refine lv_goto (tgt := 263) hx hb dX12_isLeaf_248 (by decide) ?_
        exact r_zret hx hb hr hK hP hS hk (by omega) dX12_isLeaf_263 (show P_X12_isLeaf σ0 τ0 a1 a2 a3 a4 z9 σ τ0 from ⟨hR, hF, hFL, by omega⟩)
      · refine r_iconst hx hb dX12_isLeaf_243 (by decide) (fun z10 ez10 => ?_)
        refine lv_goto (tgt := 263) hx hb dX12_isLeaf_244 (by decide) ?_
        exact r_zret hx hb hr hK hP hS hk (by omega) dX12_isLeaf_263 (show P_X12_isLeaf σ0 τ0 a1 a2 a3 a4 z10 σ τ0 from ⟨hR, hF, hFL, by omega⟩)
  · refine lv_iload hx hb dX12_isLeaf_215 (lv_at hl 0 rfl) ?_
    refine lv_iload hx hb dX12_isLeaf_217 (lv_at hl 5 rfl) ?_
    refine r_icmp_ge (tgt := 226) hx hb dX12_isLeaf_219 (by decide) (fun c11 => ?_) (fun c11 => ?_)
    · refine r_iconst hx hb dX12_isLeaf_226 (by decide) (fun z12 ez12 => ?_)
      refine lv_goto (tgt := 263) hx hb dX12_isLeaf_227 (by decide) ?_
      exact r_zret hx hb hr hK hP hS hk (by omega) dX12_isLeaf_263 (show P_X12_isLeaf σ0 τ0 a1 a2 a3 a4 z12 σ τ0 from ⟨hR, hF, hFL, by omega⟩)
    · refine r_iconst hx hb dX12_isLeaf_222 (by decide) (fun z13 ez13 => ?_)
      refine lv_goto (tgt := 263) hx hb dX12_isLeaf_223 (by decide) ?_
      exact r_zret hx hb hr hK hP hS hk (by omega) dX12_isLeaf_263 (show P_X12_isLeaf σ0 τ0 a1 a2 a3 a4 z13 σ τ0 from ⟨hR, hF, hFL, by omega⟩)
theorem A_X12_isLeaf (p : Program) (l : Launch) (e : Env) (s : State) (m : MethodId) (args : Array Value) (below : List Frame) (meth : Method) (c : Code) (D : va_G) (cA : Nat → ClassId) (ad : Nat → Nat) (σ0 : Nat → Nat → Int32) (τ0 : Nat → Nat → Int64) (a1 : Int32) (a2 : Int32) (a3 : Int32) (a4 : Int32) (C : Cy p s m args meth c cX12_isLeaf 6 wsX12_isLeaf RX12 D cA ad (some .boolean)) (ha1 : 0 ≤ a1.toInt ∧ a1.toInt ≤ 7) : ∀ n : Nat, J_X12_isLeaf_207 p l e s m args below meth c D cA ad σ0 τ0 a1 a2 a3 a4 n := by
  intro n
  induction n with
  | zero =>
    exact (by intro σ τ H locs w0 ls hR hF hFL hP hS hl hm; exfalso; omega)
  | succ n ih =>
    exact B_X12_isLeaf_207 p l e s m args below meth c D cA ad σ0 τ0 a1 a2 a3 a4 n C ha1 ih
set_option maxHeartbeats 4000000 in
theorem c_X12_isLeaf (l : Launch) (D : va_G) (cA : Nat → ClassId) (ad : Nat → Nat) (hI : Inj ad) (σ0 : Nat → Nat → Int32) (τ0 : Nat → Nat → Int64) (hR : Rg σ0) (a1 : Int32) (a2 : Int32) (a3 : Int32) (a4 : Int32) (ha1 : 0 ≤ a1.toInt ∧ a1.toInt ≤ 7) : Met l yX12_isLeaf wsX12_isLeaf ({ frames := 4, cells := 0, slots := 0, locals := 92 } : Room) (WQc D cA ad [.ref (ad 387), .int a1, .int a2, .int a3, .int a4] σ0 τ0) (va_Qi (fun (r : Int32) (u : SS) => P_X12_isLeaf σ0 τ0 a1 a2 a3 a4 r u.1 u.2) (WB D cA ad) (AA ad)) 0 0 (AA ad) := by
  refine Met.ofW (cc := cX12_isLeaf) (maxL := 6) (ret := (some .boolean)) (by decide) rfl ?_
  intro p e s m args below meth c s₁ B hml hv
  obtain ⟨rfl, hP, hK, hN⟩ := hv
  have C : Cy p s m _ meth c cX12_isLeaf 6 wsX12_isLeaf RX12 D cA ad (some .boolean) := ⟨B.exec, B.bytes, hml, findClass_of_methodNamed B.named, atoms_spec (ws := wsX12_isLeaf) B.pre, hK, B.notSynchronized, B.returns, hI, hN⟩
  have hl := lv_entry ([.ref (ad 387), .int a1, .int a2, .int a3, .int a4]) (n := 6) (Nat.le_of_ble_eq_true rfl)
  rw [lg_entry_eq]
  generalize (lg_sl ([.ref (ad 387), .int a1, .int a2, .int a3, .int a4]) ++ List.replicate (6 - (lg_sl ([.ref (ad 387), .int a1, .int a2, .int a3, .int a4])).length) Slot.unset).toArray = ls at hl ⊢
  have hl : lv_has ls 6 [(0, .ref (ad 387)), (1, .int a1), (2, .int a2), (3, .int a3), (4, .int a4)] := hl
  have hS : va_S (AA ad) s.heap s.heap [] := va_S.rf
  have hF : Fr L_X12_isLeaf σ0 σ0 := Fr.rf
  have hFL : FrL LL_X12_isLeaf τ0 τ0 := FrL.rf
  have hA := A_X12_isLeaf p l e s m _ below meth c D cA ad σ0 τ0 a1 a2 a3 a4 C ha1 6
  have K207 := hA
  clear hA
  obtain ⟨hx, hb, _, hown, hts, _, hk, hr, _, _⟩ := C
  refine lv_iload_n hx hb dX12_isLeaf_0 rfl (lv_at hl 2 rfl) ?_
  by_cases c1 : a2.toInt = 0
  · refine lv_tableIn (off := 39) (tgt := 40) hx hb dX12_isLeaf_1 (by omega) (by omega) (by rw [c1]; rfl) (by decide) ?_
    refine lv_aload_n hx hb dX12_isLeaf_40 rfl (lv_at hl 0 rfl) ?_
    refine fg_12_6 (k := 387) hx hb hts in_X12_isLeaf_12 hown hK hP (by decide) (by decide) (hts _ lk_X12_isLeaf_33) dX12_isLeaf_41 ?_
    refine r_bipush hx hb dX12_isLeaf_44 (by decide) (fun z2 ez2 => ?_)
    refine lv_iload_n hx hb dX12_isLeaf_46 rfl (lv_at hl 1 rfl) ?_
    refine r_iadd hx hb dX12_isLeaf_47 (by omega) (fun z3 ez3 => ?_)
    obtain ⟨j4, ej4⟩ : ∃ j : Nat, z3.toInt = (j : Int) := ⟨_, ti_nat (by omega)⟩
    refine ad_ms (k := 389) (j := j4) hx hb hK hP (by decide) (by decide) ej4 (by omega) dX12_isLeaf_48 ?_
    refine r_iconst hx hb dX12_isLeaf_49 (by decide) (fun z5 ez5 => ?_)
    refine r_icmp_ne (tgt := 57) hx hb dX12_isLeaf_50 (by decide) (fun c6 => ?_) (fun c6 => ?_)
    · refine r_iconst hx hb dX12_isLeaf_57 (by decide) (fun z7 ez7 => ?_)
      exact r_zret hx hb hr hK hP hS hk (by omega) dX12_isLeaf_58 (show P_X12_isLeaf σ0 τ0 a1 a2 a3 a4 z7 σ0 τ0 from ⟨hR, hF, hFL, by omega⟩)
    · refine r_iconst hx hb dX12_isLeaf_53 (by decide) (fun z8 ez8 => ?_)
      refine lv_goto (tgt := 58) hx hb dX12_isLeaf_54 (by decide) ?_
      exact r_zret hx hb hr hK hP hS hk (by omega) dX12_isLeaf_58 (show P_X12_isLeaf σ0 τ0 a1 a2 a3 a4 z8 σ0 τ0 from ⟨hR, hF, hFL, by omega⟩)
  by_cases c9 : a2.toInt = 1
  · refine lv_tableIn (off := 58) (tgt := 59) hx hb dX12_isLeaf_1 (by omega) (by omega) (by rw [c9]; rfl) (by decide) ?_
    refine lv_aload_n hx hb dX12_isLeaf_59 rfl (lv_at hl 0 rfl) ?_
    refine fg_12_6 (k := 387) hx hb hts in_X12_isLeaf_12 hown hK hP (by decide) (by decide) (hts _ lk_X12_isLeaf_33) dX12_isLeaf_60 ?_
    refine r_bipush hx hb dX12_isLeaf_63 (by decide) (fun z10 ez10 => ?_)
    refine lv_iload_n hx hb dX12_isLeaf_65 rfl (lv_at hl 1 rfl) ?_
    refine r_iadd hx hb dX12_isLeaf_66 (by omega) (fun z11 ez11 => ?_)
    obtain ⟨j12, ej12⟩ : ∃ j : Nat, z11.toInt = (j : Int) := ⟨_, ti_nat (by omega)⟩
    refine ad_ms (k := 389) (j := j12) hx hb hK hP (by decide) (by decide) ej12 (by omega) dX12_isLeaf_67 ?_
    have hr13 := ra_ms_3 hR (k := 389) (j := j12) (by decide) (by decide) (by omega) (by omega)
    refine r_if_le (tgt := 75) hx hb dX12_isLeaf_68 (by decide) (fun c14 => ?_) (fun c14 => ?_)
    · refine r_iconst hx hb dX12_isLeaf_75 (by decide) (fun z15 ez15 => ?_)
      exact r_zret hx hb hr hK hP hS hk (by omega) dX12_isLeaf_76 (show P_X12_isLeaf σ0 τ0 a1 a2 a3 a4 z15 σ0 τ0 from ⟨hR, hF, hFL, by omega⟩)
    · refine r_iconst hx hb dX12_isLeaf_71 (by decide) (fun z16 ez16 => ?_)
      refine lv_goto (tgt := 76) hx hb dX12_isLeaf_72 (by decide) ?_
      exact r_zret hx hb hr hK hP hS hk (by omega) dX12_isLeaf_76 (show P_X12_isLeaf σ0 τ0 a1 a2 a3 a4 z16 σ0 τ0 from ⟨hR, hF, hFL, by omega⟩)
  by_cases c17 : a2.toInt = 2
  · refine lv_tableIn (off := 76) (tgt := 77) hx hb dX12_isLeaf_1 (by omega) (by omega) (by rw [c17]; rfl) (by decide) ?_
    refine lv_aload_n hx hb dX12_isLeaf_77 rfl (lv_at hl 0 rfl) ?_
    refine fg_12_6 (k := 387) hx hb hts in_X12_isLeaf_12 hown hK hP (by decide) (by decide) (hts _ lk_X12_isLeaf_33) dX12_isLeaf_78 ?_
    refine r_sipush hx hb dX12_isLeaf_81 (by decide) (fun z18 ez18 => ?_)
    refine lv_iload_n hx hb dX12_isLeaf_84 rfl (lv_at hl 1 rfl) ?_
    refine r_iadd hx hb dX12_isLeaf_85 (by omega) (fun z19 ez19 => ?_)
    obtain ⟨j20, ej20⟩ : ∃ j : Nat, z19.toInt = (j : Int) := ⟨_, ti_nat (by omega)⟩
    refine ad_ms (k := 389) (j := j20) hx hb hK hP (by decide) (by decide) ej20 (by omega) dX12_isLeaf_86 ?_
    have hr21 := ra_ms_7 hR (k := 389) (j := j20) (by decide) (by decide) (by omega) (by omega)
    refine r_if_le (tgt := 94) hx hb dX12_isLeaf_87 (by decide) (fun c22 => ?_) (fun c22 => ?_)
    · refine r_iconst hx hb dX12_isLeaf_94 (by decide) (fun z23 ez23 => ?_)
      exact r_zret hx hb hr hK hP hS hk (by omega) dX12_isLeaf_95 (show P_X12_isLeaf σ0 τ0 a1 a2 a3 a4 z23 σ0 τ0 from ⟨hR, hF, hFL, by omega⟩)
    · refine r_iconst hx hb dX12_isLeaf_90 (by decide) (fun z24 ez24 => ?_)
      refine lv_goto (tgt := 95) hx hb dX12_isLeaf_91 (by decide) ?_
      exact r_zret hx hb hr hK hP hS hk (by omega) dX12_isLeaf_95 (show P_X12_isLeaf σ0 τ0 a1 a2 a3 a4 z24 σ0 τ0 from ⟨hR, hF, hFL, by omega⟩)
  by_cases c25 : a2.toInt = 3
  · refine lv_tableIn (off := 95) (tgt := 96) hx hb dX12_isLeaf_1 (by omega) (by omega) (by rw [c25]; rfl) (by decide) ?_
    refine lv_aload_n hx hb dX12_isLeaf_96 rfl (lv_at hl 0 rfl) ?_
    refine fg_12_6 (k := 387) hx hb hts in_X12_isLeaf_12 hown hK hP (by decide) (by decide) (hts _ lk_X12_isLeaf_33) dX12_isLeaf_97 ?_
    refine r_sipush hx hb dX12_isLeaf_100 (by decide) (fun z26 ez26 => ?_)
    refine lv_iload_n hx hb dX12_isLeaf_103 rfl (lv_at hl 1 rfl) ?_
    refine r_iadd hx hb dX12_isLeaf_104 (by omega) (fun z27 ez27 => ?_)
    obtain ⟨j28, ej28⟩ : ∃ j : Nat, z27.toInt = (j : Int) := ⟨_, ti_nat (by omega)⟩
    refine ad_ms (k := 389) (j := j28) hx hb hK hP (by decide) (by decide) ej28 (by omega) dX12_isLeaf_105 ?_
    have hr29 := ra_ms_7 hR (k := 389) (j := j28) (by decide) (by decide) (by omega) (by omega)
    refine r_if_le (tgt := 121) hx hb dX12_isLeaf_106 (by decide) (fun c30 => ?_) (fun c30 => ?_)
    · refine r_iconst hx hb dX12_isLeaf_121 (by decide) (fun z31 ez31 => ?_)
      exact r_zret hx hb hr hK hP hS hk (by omega) dX12_isLeaf_122 (show P_X12_isLeaf σ0 τ0 a1 a2 a3 a4 z31 σ0 τ0 from ⟨hR, hF, hFL, by omega⟩)
    · refine lv_aload_n hx hb dX12_isLeaf_109 rfl (lv_at hl 0 rfl) ?_
      refine lv_iload_n hx hb dX12_isLeaf_110 rfl (lv_at hl 1 rfl) ?_
      refine r_cVi (k := 387) (As := [.int a1]) (rest := []) ⟨hx, hb, hml, hown, hts⟩ hK hP hN hS (c_X12_isTrue l D cA ad hI σ0 τ0 hR a1 (by omega)) (cwV 1 hts gX12_isLeaf_X12_isTrue rfl rfl rfl (by decide +kernel) ⟨by decide, by decide⟩) (rv_M hK hP (by decide) (by decide)) rfl hl.1 rfl (Nat.le_of_ble_eq_true rfl) dX12_isLeaf_111 (Nat.zero_le _) (Nat.zero_le _) (fun r32 u32 H32 locs32 hp32 hP hS => ?_)
      obtain ⟨σ32, τ32⟩ := u32
      obtain ⟨hR, f32, fL32, hq32⟩ : P_X12_isTrue σ0 τ0 a1 r32 σ32 τ32 := hp32
      have hP : va_P D vwCl (gw cA ad σ32 τ32) H32 := hP
      obtain rfl := FrL.nil fL32
      have hF := hF.step f32 (by decide)
      refine r_if_ne (tgt := 121) hx hb dX12_isLeaf_114 (by decide) (fun c33 => ?_) (fun c33 => ?_)
      · refine r_iconst hx hb dX12_isLeaf_121 (by decide) (fun z34 ez34 => ?_)
        exact r_zret hx hb hr hK hP hS hk (by omega) dX12_isLeaf_122 (show P_X12_isLeaf σ0 τ0 a1 a2 a3 a4 z34 σ32 τ0 from ⟨hR, hF, hFL, by omega⟩)
      · refine r_iconst hx hb dX12_isLeaf_117 (by decide) (fun z35 ez35 => ?_)
        refine lv_goto (tgt := 122) hx hb dX12_isLeaf_118 (by decide) ?_
        exact r_zret hx hb hr hK hP hS hk (by omega) dX12_isLeaf_122 (show P_X12_isLeaf σ0 τ0 a1 a2 a3 a4 z35 σ32 τ0 from ⟨hR, hF, hFL, by omega⟩)
  by_cases c36 : a2.toInt = 4
  · refine lv_tableIn (off := 122) (tgt := 123) hx hb dX12_isLeaf_1 (by omega) (by omega) (by rw [c36]; rfl) (by decide) ?_
    refine lv_aload_n hx hb dX12_isLeaf_123 rfl (lv_at hl 0 rfl) ?_
    refine lv_iload_n hx hb dX12_isLeaf_124 rfl (lv_at hl 1 rfl) ?_
    refine r_cVi (k := 387) (As := [.int a1]) (rest := []) ⟨hx, hb, hml, hown, hts⟩ hK hP hN hS (c_X12_hasHeard l D cA ad hI σ0 τ0 hR a1 (by omega)) (cwV 1 hts gX12_isLeaf_X12_hasHeard rfl rfl rfl (by decide +kernel) ⟨by decide, by decide⟩) (rv_M hK hP (by decide) (by decide)) rfl hl.1 rfl (Nat.le_of_ble_eq_true rfl) dX12_isLeaf_125 (Nat.zero_le _) (Nat.zero_le _) (fun r37 u37 H37 locs37 hp37 hP hS => ?_)
    obtain ⟨σ37, τ37⟩ := u37
    obtain ⟨hR, f37, fL37, hq37⟩ : P_X12_hasHeard σ0 τ0 a1 r37 σ37 τ37 := hp37
    have hP : va_P D vwCl (gw cA ad σ37 τ37) H37 := hP
    obtain rfl := FrL.nil fL37
    have hF := hF.step f37 (by decide)
    exact r_zret hx hb hr hK hP hS hk (by omega) dX12_isLeaf_128 (show P_X12_isLeaf σ0 τ0 a1 a2 a3 a4 r37 σ37 τ0 from ⟨hR, hF, hFL, by omega⟩)
  by_cases c38 : a2.toInt = 5
  · refine lv_tableIn (off := 128) (tgt := 129) hx hb dX12_isLeaf_1 (by omega) (by omega) (by rw [c38]; rfl) (by decide) ?_
    refine lv_aload_n hx hb dX12_isLeaf_129 rfl (lv_at hl 0 rfl) ?_
    refine fg_12_6 (k := 387) hx hb hts in_X12_isLeaf_12 hown hK hP (by decide) (by decide) (hts _ lk_X12_isLeaf_33) dX12_isLeaf_130 ?_
    refine r_sipush hx hb dX12_isLeaf_133 (by decide) (fun z39 ez39 => ?_)
    refine lv_iload_n hx hb dX12_isLeaf_136 rfl (lv_at hl 1 rfl) ?_
    refine r_iadd hx hb dX12_isLeaf_137 (by omega) (fun z40 ez40 => ?_)
    obtain ⟨j41, ej41⟩ : ∃ j : Nat, z40.toInt = (j : Int) := ⟨_, ti_nat (by omega)⟩
    refine ad_ms (k := 389) (j := j41) hx hb hK hP (by decide) (by decide) ej41 (by omega) dX12_isLeaf_138 ?_
    have hr42 := ra_ms_6 hR (k := 389) (j := j41) (by decide) (by decide) (by omega) (by omega)
    refine lv_iload hx hb dX12_isLeaf_139 (lv_at hl 4 rfl) ?_
    refine r_icmp_ne (tgt := 148) hx hb dX12_isLeaf_141 (by decide) (fun c43 => ?_) (fun c43 => ?_)
    · refine r_iconst hx hb dX12_isLeaf_148 (by decide) (fun z44 ez44 => ?_)
      exact r_zret hx hb hr hK hP hS hk (by omega) dX12_isLeaf_149 (show P_X12_isLeaf σ0 τ0 a1 a2 a3 a4 z44 σ0 τ0 from ⟨hR, hF, hFL, by omega⟩)
    · refine r_iconst hx hb dX12_isLeaf_144 (by decide) (fun z45 ez45 => ?_)
      refine lv_goto (tgt := 149) hx hb dX12_isLeaf_145 (by decide) ?_
      exact r_zret hx hb hr hK hP hS hk (by omega) dX12_isLeaf_149 (show P_X12_isLeaf σ0 τ0 a1 a2 a3 a4 z45 σ0 τ0 from ⟨hR, hF, hFL, by omega⟩)
  refine lv_tableOut (tgt := 150) hx hb dX12_isLeaf_1 (by omega) (by decide) ?_
  refine lv_iload_n hx hb dX12_isLeaf_150 rfl (lv_at hl 2 rfl) ?_
  refine r_bipush hx hb dX12_isLeaf_151 (by decide) (fun z46 ez46 => ?_)
  refine r_icmp_ne (tgt := 169) hx hb dX12_isLeaf_153 (by decide) (fun c47 => ?_) (fun c47 => ?_)
  · refine lv_iload_n hx hb dX12_isLeaf_169 rfl (lv_at hl 2 rfl) ?_
    refine r_bipush hx hb dX12_isLeaf_170 (by decide) (fun z48 ez48 => ?_)
    refine r_icmp_ne (tgt := 188) hx hb dX12_isLeaf_172 (by decide) (fun c49 => ?_) (fun c49 => ?_)
    · refine lv_iload_n hx hb dX12_isLeaf_188 rfl (lv_at hl 2 rfl) ?_
      refine r_bipush hx hb dX12_isLeaf_189 (by decide) (fun z50 ez50 => ?_)
      refine r_icmp_ne (tgt := 206) hx hb dX12_isLeaf_191 (by decide) (fun c51 => ?_) (fun c51 => ?_)
      · refine lv_iload_n hx hb dX12_isLeaf_206 rfl (lv_at hl 1 rfl) ?_
        exact K207 σ0 τ0 s.heap [] a1 ls hR hF hFL hP hS  (lv_sub hl [0, 1, 2, 3, 4] rfl) (by omega)
      · refine lv_aload_n hx hb dX12_isLeaf_194 rfl (lv_at hl 0 rfl) ?_
        refine fg_12_6 (k := 387) hx hb hts in_X12_isLeaf_12 hown hK hP (by decide) (by decide) (hts _ lk_X12_isLeaf_33) dX12_isLeaf_195 ?_
        refine r_bipush hx hb dX12_isLeaf_198 (by decide) (fun z52 ez52 => ?_)
        refine lv_iload_n hx hb dX12_isLeaf_200 rfl (lv_at hl 1 rfl) ?_
        refine r_iadd hx hb dX12_isLeaf_201 (by omega) (fun z53 ez53 => ?_)
        obtain ⟨j54, ej54⟩ : ∃ j : Nat, z53.toInt = (j : Int) := ⟨_, ti_nat (by omega)⟩
        refine ad_ms (k := 389) (j := j54) hx hb hK hP (by decide) (by decide) ej54 (by omega) dX12_isLeaf_202 ?_
        refine lv_goto (tgt := 207) hx hb dX12_isLeaf_203 (by decide) ?_
        exact K207 σ0 τ0 s.heap [] (σ0 389 j54) ls hR hF hFL hP hS  (lv_sub hl [0, 1, 2, 3, 4] rfl) (by omega)
    · refine lv_aload_n hx hb dX12_isLeaf_175 rfl (lv_at hl 0 rfl) ?_
      refine fg_12_6 (k := 387) hx hb hts in_X12_isLeaf_12 hown hK hP (by decide) (by decide) (hts _ lk_X12_isLeaf_33) dX12_isLeaf_176 ?_
      refine r_sipush hx hb dX12_isLeaf_179 (by decide) (fun z55 ez55 => ?_)
      refine lv_iload_n hx hb dX12_isLeaf_182 rfl (lv_at hl 1 rfl) ?_
      refine r_iadd hx hb dX12_isLeaf_183 (by omega) (fun z56 ez56 => ?_)
      obtain ⟨j57, ej57⟩ : ∃ j : Nat, z56.toInt = (j : Int) := ⟨_, ti_nat (by omega)⟩
      refine ad_ms (k := 389) (j := j57) hx hb hK hP (by decide) (by decide) ej57 (by omega) dX12_isLeaf_184 ?_
      refine lv_goto (tgt := 207) hx hb dX12_isLeaf_185 (by decide) ?_
      exact K207 σ0 τ0 s.heap [] (σ0 389 j57) ls hR hF hFL hP hS  (lv_sub hl [0, 1, 2, 3, 4] rfl) (by omega)
  · refine lv_aload_n hx hb dX12_isLeaf_156 rfl (lv_at hl 0 rfl) ?_
    refine fg_12_6 (k := 387) hx hb hts in_X12_isLeaf_12 hown hK hP (by decide) (by decide) (hts _ lk_X12_isLeaf_33) dX12_isLeaf_157 ?_
    refine r_sipush hx hb dX12_isLeaf_160 (by decide) (fun z58 ez58 => ?_)
    refine lv_iload_n hx hb dX12_isLeaf_163 rfl (lv_at hl 1 rfl) ?_
    refine r_iadd hx hb dX12_isLeaf_164 (by omega) (fun z59 ez59 => ?_)
    obtain ⟨j60, ej60⟩ : ∃ j : Nat, z59.toInt = (j : Int) := ⟨_, ti_nat (by omega)⟩
    refine ad_ms (k := 389) (j := j60) hx hb hK hP (by decide) (by decide) ej60 (by omega) dX12_isLeaf_165 ?_
    refine lv_goto (tgt := 207) hx hb dX12_isLeaf_166 (by decide) ?_
    exact K207 σ0 τ0 s.heap [] (σ0 389 j60) ls hR hF hFL hP hS  (lv_sub hl [0, 1, 2, 3, 4] rfl) (by omega)
