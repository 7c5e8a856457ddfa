theorem in_X12_isSaid_12 : ∀ w ∈ u_ws RX12 TX12 47, w ∈ wsX12_isSaid := by decide +kernel
theorem lk_X12_isSaid_33 : Cond.fieldLink RX12 33 "CuckooSharesModel" "s" "[I" ∈ wsX12_isSaid := by decide +kernel
theorem lk_X12_isSaid_74 : Cond.fieldLink RX12 74 "CuckooSharesModel" "truths" "[Z" ∈ wsX12_isSaid := by decide +kernel
abbrev L_X12_isSaid : List Rc := [(402, 402, 0, 39), (394, 394, 0, 7), (395, 395, 0, 7), (396, 396, 0, 7)]
abbrev LL_X12_isSaid : List Rc := []
def P_X12_isSaid (σ0 : Nat → Nat → Int32) (τ0 : Nat → Nat → Int64) (a1 : Int32) (r : Int32) (σ : Nat → Nat → Int32) (τ : Nat → Nat → Int64) : Prop := Rg σ ∧ Fr L_X12_isSaid σ0 σ ∧ FrL LL_X12_isSaid τ0 τ ∧ (0 ≤ r.toInt ∧ r.toInt ≤ 1)
def J_X12_isSaid_4 (p : Program) (l : Launch) (e : Env) (s : State) (m : MethodId) (args : Array Value) (below : List Frame) (meth : Method) (c : Code) (D : va_G) (cA : Nat → ClassId) (ad : Nat → Nat) (σ0 : Nat → Nat → Int32) (τ0 : Nat → Nat → Int64) (a1 : Int32) (n : Nat) : Prop := ∀ (σ : Nat → Nat → Int32) (τ : Nat → Nat → Int64) (H : Heap) (locs : List Loc) (x2 : Int32) (x3 : Int32) (ls : Array Slot), Rg σ → Fr L_X12_isSaid σ0 σ → FrL LL_X12_isSaid τ0 τ → va_P D vwCl (gw cA ad σ τ) H → va_S (AA ad) s.heap H locs → (0 ≤ x2.toInt ∧ x2.toInt ≤ 40) → (0 ≤ x3.toInt ∧ x3.toInt ≤ 40) → (x2.toInt = DP (fun i => σ0 389 (247 + 3 * i)) x3.toInt.toNat) → (0 ≤ x2.toInt) → (x3.toInt = 0 ∨ 1 ≤ x2.toInt) → (∀ i : Nat, (i : Int) < x2.toInt → 0 ≤ (σ 402 i).toInt ∧ (σ 402 i).toInt ≤ 1) → (SI σ) → lv_has ls 5 [(0, .ref (ad 387)), (1, .int a1), (2, .int x2), (3, .int x3)] → 2 * (40 - x3.toInt) + 1 < (n : Int) → W p l e ({ frames := 5, cells := 0, slots := 0, locals := 117 } : Room) s m args below meth c H locs 0 0 (MQ below (va_Qi (fun (r : Int32) (u : SS) => P_X12_isSaid σ0 τ0 a1 r u.1 u.2) (WB D cA ad) (AA ad)) args s 0 0 (AA ad)) (F0 m 4 ls [])
set_option maxHeartbeats 4000000 in
theorem B_X12_isSaid_4 (p : Program) (l : Launch) (e : Env) (s : State) (m : MethodId) (args : Array Value) (below : List Frame) (meth : Method) (c : Code) (D : va_G) (cA : Nat → ClassId) (ad : Nat → Nat) (σ0 : Nat → Nat → Int32) (τ0 : Nat → Nat → Int64) (a1 : Int32) (n : Nat) (C : Cy p s m args meth c cX12_isSaid 5 wsX12_isSaid RX12 D cA ad (some .boolean)) (ha1 : 0 ≤ a1.toInt ∧ a1.toInt ≤ 7) (hpre0 : 1 ≤ (σ0 389 246).toInt) (gSI0 : SI σ0) (K4 : J_X12_isSaid_4 p l e s m args below meth c D cA ad σ0 τ0 a1 n) : J_X12_isSaid_4 p l e s m args below meth c D cA ad σ0 τ0 a1 (n + 1) := by
  obtain ⟨hx, hb, hml, hown, hts, hK, hk, hr, hI, hN⟩ := C
  intro σ τ H locs x2 x3 ls hR hF hFL hP hS hc0 hc1 hi0 hi1 hi2 hi3 gSI hl hm
  obtain rfl := FrL.nil hFL
  refine lv_iload_n hx hb dX12_isSaid_4 rfl (lv_at hl 3 rfl) ?_
  refine lv_aload_n hx hb dX12_isSaid_5 rfl (lv_at hl 0 rfl) ?_
  refine fg_12_6 (k := 387) hx hb hts in_X12_isSaid_12 hown hK hP (by decide) (by decide) (hts _ lk_X12_isSaid_33) dX12_isSaid_6 ?_
  refine r_sipush hx hb dX12_isSaid_9 (by decide) (fun z1 ez1 => ?_)
  refine ad_ms (k := 389) (j := 246) hx hb hK hP (by decide) (by decide) (by omega) (by omega) dX12_isSaid_12 ?_
  have hr2 := ra_ms_8 hR (k := 389) (j := 246) (by decide) (by decide) (by decide) (by decide)
  refine r_icmp_ge (tgt := 212) hx hb dX12_isSaid_13 (by decide) (fun c3 => ?_) (fun c3 => ?_)
  · refine lv_aload_n hx hb dX12_isSaid_212 rfl (lv_at hl 0 rfl) ?_
    have h2e := congrArg Int32.toInt (hF.at 389 246 (by decide))
    have hq0 := hi3 0 (by omega)
    refine fg_12_43 (k := 387) hx hb hts in_X12_isSaid_12 hown hK hP (by decide) (by decide) (hts _ lk_X12_isSaid_74) dX12_isSaid_213 ?_
    refine r_iconst hx hb dX12_isSaid_216 (by decide) (fun z4 ez4 => ?_)
    refine ad_mtruths (k := 402) (j := 0) hx hb hK hP (by decide) (by decide) (by omega) (by omega) dX12_isSaid_217 ?_
    exact r_zret hx hb hr hK hP hS hk (by omega) dX12_isSaid_218 (show P_X12_isSaid σ0 τ0 a1 (σ 402 0) σ τ0 from ⟨hR, hF, hFL, by omega⟩)
  · refine r_sipush hx hb dX12_isSaid_16 (by decide) (fun z5 ez5 => ?_)
    refine r_iconst hx hb dX12_isSaid_19 (by decide) (fun z6 ez6 => ?_)
    refine lv_iload_n hx hb dX12_isSaid_20 rfl (lv_at hl 3 rfl) ?_
    refine r_imulL (n := 3) hx hb dX12_isSaid_21 (by omega) (by omega) (fun z7 ez7 => ?_)
    refine r_iadd hx hb dX12_isSaid_22 (by omega) (fun z8 ez8 => ?_)
    refine lv_istore (lv' := [(4, .int z8), (0, .ref (ad 387)), (1, .int a1), (2, .int x2), (3, .int x3)]) hx hb dX12_isSaid_23 hl (by decide) rfl (fun ls hl => ?_)
    refine lv_aload_n hx hb dX12_isSaid_25 rfl (lv_at hl 1 rfl) ?_
    refine fg_12_6 (k := 387) hx hb hts in_X12_isSaid_12 hown hK hP (by decide) (by decide) (hts _ lk_X12_isSaid_33) dX12_isSaid_26 ?_
    refine lv_iload hx hb dX12_isSaid_29 (lv_at hl 0 rfl) ?_
    obtain ⟨j9, ej9⟩ : ∃ j : Nat, z8.toInt = (j : Int) := ⟨_, ti_nat (by omega)⟩
    refine ad_ms (k := 389) (j := j9) hx hb hK hP (by decide) (by decide) ej9 (by omega) dX12_isSaid_31 ?_
    have hz := SI.code (x := x3) (y := x2) (j := j9) gSI0 hF (by decide) hR (by omega) (by omega) (by omega) hi0
    refine r_bipush hx hb dX12_isSaid_32 (by decide) (fun z10 ez10 => ?_)
    refine r_icmp_ne (tgt := 64) hx hb dX12_isSaid_34 (by decide) (fun c11 => ?_) (fun c11 => ?_)
    · refine lv_aload_n hx hb dX12_isSaid_64 rfl (lv_at hl 1 rfl) ?_
      refine fg_12_6 (k := 387) hx hb hts in_X12_isSaid_12 hown hK hP (by decide) (by decide) (hts _ lk_X12_isSaid_33) dX12_isSaid_65 ?_
      refine lv_iload hx hb dX12_isSaid_68 (lv_at hl 0 rfl) ?_
      refine ad_ms (k := 389) (j := j9) hx hb hK hP (by decide) (by decide) ej9 (by omega) dX12_isSaid_70 ?_
      refine r_bipush hx hb dX12_isSaid_71 (by decide) (fun z12 ez12 => ?_)
      refine r_icmp_eq (tgt := 88) hx hb dX12_isSaid_73 (by decide) (fun c13 => ?_) (fun c13 => ?_)
      · refine r_iinc (k := 3) (lv1 := fun z14 => [(2, .int z14), (4, .int z8), (0, .ref (ad 387)), (1, .int a1), (3, .int x3)]) hx hb dX12_isSaid_88 hl rfl (by decide) (fun _ => rfl) (by decide) (by omega) (fun z14 ls ez14 hl => ?_)
        refine lv_aload_n hx hb dX12_isSaid_91 rfl (lv_at hl 2 rfl) ?_
        refine fg_12_43 (k := 387) hx hb hts in_X12_isSaid_12 hown hK hP (by decide) (by decide) (hts _ lk_X12_isSaid_74) dX12_isSaid_92 ?_
        refine lv_iload_n hx hb dX12_isSaid_95 rfl (lv_at hl 0 rfl) ?_
        refine r_iconst hx hb dX12_isSaid_96 (by decide) (fun z15 ez15 => ?_)
        refine r_isub hx hb dX12_isSaid_97 (by omega) (fun z16 ez16 => ?_)
        refine lv_aload_n hx hb dX12_isSaid_98 rfl (lv_at hl 2 rfl) ?_
        refine fg_12_6 (k := 387) hx hb hts in_X12_isSaid_12 hown hK hP (by decide) (by decide) (hts _ lk_X12_isSaid_33) dX12_isSaid_99 ?_
        refine lv_iload hx hb dX12_isSaid_102 (lv_at hl 1 rfl) ?_
        refine ad_ms (k := 389) (j := j9) hx hb hK hP (by decide) (by decide) ej9 (by omega) dX12_isSaid_104 ?_
        refine r_bipush hx hb dX12_isSaid_105 (by decide) (fun z17 ez17 => ?_)
        refine r_icmp_ne (tgt := 138) hx hb dX12_isSaid_107 (by decide) (fun c18 => ?_) (fun c18 => ?_)
        · exfalso; omega
        · refine lv_aload_n hx hb dX12_isSaid_110 rfl (lv_at hl 2 rfl) ?_
          refine fg_12_43 (k := 387) hx hb hts in_X12_isSaid_12 hown hK hP (by decide) (by decide) (hts _ lk_X12_isSaid_74) dX12_isSaid_111 ?_
          refine lv_iload_n hx hb dX12_isSaid_114 rfl (lv_at hl 0 rfl) ?_
          refine r_iconst hx hb dX12_isSaid_115 (by decide) (fun z19 ez19 => ?_)
          refine r_isub hx hb dX12_isSaid_116 (by omega) (fun z20 ez20 => ?_)
          obtain ⟨j21, ej21⟩ : ∃ j : Nat, z20.toInt = (j : Int) := ⟨_, ti_nat (by omega)⟩
          refine ad_mtruths (k := 402) (j := j21) hx hb hK hP (by decide) (by decide) ej21 (by omega) dX12_isSaid_117 ?_
          refine r_if_eq (tgt := 134) hx hb dX12_isSaid_118 (by decide) (fun c22 => ?_) (fun c22 => ?_)
          · refine r_iconst hx hb dX12_isSaid_134 (by decide) (fun z23 ez23 => ?_)
            refine lv_goto (tgt := 163) hx hb dX12_isSaid_135 (by decide) ?_
            refine as_mtruths (k := 402) (j := j21) hx hb hK hP hI hR hS (by decide) (by decide) (by omega) (by omega) (by omega) dX12_isSaid_163 (fun σ24 H24 locs24 u24 v24 hR hP hS => ?_)
            have ut := u24
            have vt := v24
            have hF := hF.puts u24 0 rfl (by decide) (by decide) (by omega) (by omega)
            have gSI := SI.putV gSI hR u24 (by intro q hq; simp only [Gd_SI, List.mem_cons, List.not_mem_nil, or_false] at hq; rcases hq with rfl | rfl | rfl <;> dsimp only [inRc] <;> omega)
            refine lv_goto (tgt := 206) hx hb dX12_isSaid_164 (by decide) ?_
            refine r_iinc (k := 4) (lv1 := fun z25 => [(3, .int z25), (2, .int z14), (4, .int z8), (0, .ref (ad 387)), (1, .int a1)]) hx hb dX12_isSaid_206 hl rfl (by decide) (fun _ => rfl) (by decide) (by omega) (fun z25 ls ez25 hl => ?_)
            refine lv_goto (tgt := 4) hx hb dX12_isSaid_209 (by decide) ?_
            exact K4 σ24 τ0 H24 locs24 z14 z25 ls hR hF hFL hP hS (by omega) (by omega) (by first | (have e1 : z25.toInt.toNat = (x3.toInt + 1).toNat := (by omega); rw [e1]; omega) | (have e0 : z25.toInt.toNat = 0 := (by omega); rw [e0]; show z14.toInt = 0; omega)) (by omega) (by omega) (by first | exact (fun i hi => absurd hi (by omega)) | exact QTst hi3 ut (by omega) (by omega) | exact QTst (QTfr hi3 fl (by decide) (by omega)) ut (by omega) (by omega)) gSI (lv_sub hl [3, 4, 1, 0] rfl) (by omega)
          · refine lv_aload_n hx hb dX12_isSaid_121 rfl (lv_at hl 2 rfl) ?_
            refine fg_12_43 (k := 387) hx hb hts in_X12_isSaid_12 hown hK hP (by decide) (by decide) (hts _ lk_X12_isSaid_74) dX12_isSaid_122 ?_
            refine lv_iload_n hx hb dX12_isSaid_125 rfl (lv_at hl 0 rfl) ?_
            obtain ⟨j26, ej26⟩ : ∃ j : Nat, z14.toInt = (j : Int) := ⟨_, ti_nat (by omega)⟩
            refine ad_mtruths (k := 402) (j := j26) hx hb hK hP (by decide) (by decide) ej26 (by omega) dX12_isSaid_126 ?_
            refine r_if_eq (tgt := 134) hx hb dX12_isSaid_127 (by decide) (fun c27 => ?_) (fun c27 => ?_)
            · refine r_iconst hx hb dX12_isSaid_134 (by decide) (fun z28 ez28 => ?_)
              refine lv_goto (tgt := 163) hx hb dX12_isSaid_135 (by decide) ?_
              refine as_mtruths (k := 402) (j := j21) hx hb hK hP hI hR hS (by decide) (by decide) (by omega) (by omega) (by omega) dX12_isSaid_163 (fun σ29 H29 locs29 u29 v29 hR hP hS => ?_)
              have ut := u29
              have vt := v29
              have hF := hF.puts u29 0 rfl (by decide) (by decide) (by omega) (by omega)
              have gSI := SI.putV gSI hR u29 (by intro q hq; simp only [Gd_SI, List.mem_cons, List.not_mem_nil, or_false] at hq; rcases hq with rfl | rfl | rfl <;> dsimp only [inRc] <;> omega)
              refine lv_goto (tgt := 206) hx hb dX12_isSaid_164 (by decide) ?_
              refine r_iinc (k := 4) (lv1 := fun z30 => [(3, .int z30), (2, .int z14), (4, .int z8), (0, .ref (ad 387)), (1, .int a1)]) hx hb dX12_isSaid_206 hl rfl (by decide) (fun _ => rfl) (by decide) (by omega) (fun z30 ls ez30 hl => ?_)
              refine lv_goto (tgt := 4) hx hb dX12_isSaid_209 (by decide) ?_
              exact K4 σ29 τ0 H29 locs29 z14 z30 ls hR hF hFL hP hS (by omega) (by omega) (by first | (have e1 : z30.toInt.toNat = (x3.toInt + 1).toNat := (by omega); rw [e1]; omega) | (have e0 : z30.toInt.toNat = 0 := (by omega); rw [e0]; show z14.toInt = 0; omega)) (by omega) (by omega) (by first | exact (fun i hi => absurd hi (by omega)) | exact QTst hi3 ut (by omega) (by omega) | exact QTst (QTfr hi3 fl (by decide) (by omega)) ut (by omega) (by omega)) gSI (lv_sub hl [3, 4, 1, 0] rfl) (by omega)
            · refine r_iconst hx hb dX12_isSaid_130 (by decide) (fun z31 ez31 => ?_)
              refine lv_goto (tgt := 163) hx hb dX12_isSaid_131 (by decide) ?_
              refine as_mtruths (k := 402) (j := j21) hx hb hK hP hI hR hS (by decide) (by decide) (by omega) (by omega) (by omega) dX12_isSaid_163 (fun σ32 H32 locs32 u32 v32 hR hP hS => ?_)
              have ut := u32
              have vt := v32
              have hF := hF.puts u32 0 rfl (by decide) (by decide) (by omega) (by omega)
              have gSI := SI.putV gSI hR u32 (by intro q hq; simp only [Gd_SI, List.mem_cons, List.not_mem_nil, or_false] at hq; rcases hq with rfl | rfl | rfl <;> dsimp only [inRc] <;> omega)
              refine lv_goto (tgt := 206) hx hb dX12_isSaid_164 (by decide) ?_
              refine r_iinc (k := 4) (lv1 := fun z33 => [(3, .int z33), (2, .int z14), (4, .int z8), (0, .ref (ad 387)), (1, .int a1)]) hx hb dX12_isSaid_206 hl rfl (by decide) (fun _ => rfl) (by decide) (by omega) (fun z33 ls ez33 hl => ?_)
              refine lv_goto (tgt := 4) hx hb dX12_isSaid_209 (by decide) ?_
              exact K4 σ32 τ0 H32 locs32 z14 z33 ls hR hF hFL hP hS (by omega) (by omega) (by first | (have e1 : z33.toInt.toNat = (x3.toInt + 1).toNat := (by omega); rw [e1]; omega) | (have e0 : z33.toInt.toNat = 0 := (by omega); rw [e0]; show z14.toInt = 0; omega)) (by omega) (by omega) (by first | exact (fun i hi => absurd hi (by omega)) | exact QTst hi3 ut (by omega) (by omega) | exact QTst (QTfr hi3 fl (by decide) (by omega)) ut (by omega) (by omega)) gSI (lv_sub hl [3, 4, 1, 0] rfl) (by omega)
      · refine lv_aload_n hx hb dX12_isSaid_76 rfl (lv_at hl 1 rfl) ?_
        refine fg_12_6 (k := 387) hx hb hts in_X12_isSaid_12 hown hK hP (by decide) (by decide) (hts _ lk_X12_isSaid_33) dX12_isSaid_77 ?_
        refine lv_iload hx hb dX12_isSaid_80 (lv_at hl 0 rfl) ?_
        refine ad_ms (k := 389) (j := j9) hx hb hK hP (by decide) (by decide) ej9 (by omega) dX12_isSaid_82 ?_
        refine r_bipush hx hb dX12_isSaid_83 (by decide) (fun z34 ez34 => ?_)
        refine r_icmp_ne (tgt := 167) hx hb dX12_isSaid_85 (by decide) (fun c35 => ?_) (fun c35 => ?_)
        · refine lv_aload_n hx hb dX12_isSaid_167 rfl (lv_at hl 1 rfl) ?_
          refine fg_12_43 (k := 387) hx hb hts in_X12_isSaid_12 hown hK hP (by decide) (by decide) (hts _ lk_X12_isSaid_74) dX12_isSaid_168 ?_
          refine lv_iload_n hx hb dX12_isSaid_171 rfl (lv_at hl 3 rfl) ?_
          refine lv_aload_n hx hb dX12_isSaid_172 rfl (lv_at hl 1 rfl) ?_
          refine lv_iload_n hx hb dX12_isSaid_173 rfl (lv_at hl 2 rfl) ?_
          refine lv_aload_n hx hb dX12_isSaid_174 rfl (lv_at hl 1 rfl) ?_
          refine fg_12_6 (k := 387) hx hb hts in_X12_isSaid_12 hown hK hP (by decide) (by decide) (hts _ lk_X12_isSaid_33) dX12_isSaid_175 ?_
          refine lv_iload hx hb dX12_isSaid_178 (lv_at hl 0 rfl) ?_
          refine ad_ms (k := 389) (j := j9) hx hb hK hP (by decide) (by decide) ej9 (by omega) dX12_isSaid_180 ?_
          refine lv_aload_n hx hb dX12_isSaid_181 rfl (lv_at hl 1 rfl) ?_
          refine fg_12_6 (k := 387) hx hb hts in_X12_isSaid_12 hown hK hP (by decide) (by decide) (hts _ lk_X12_isSaid_33) dX12_isSaid_182 ?_
          refine lv_iload hx hb dX12_isSaid_185 (lv_at hl 0 rfl) ?_
          refine r_iconst hx hb dX12_isSaid_187 (by decide) (fun z36 ez36 => ?_)
          refine r_iadd hx hb dX12_isSaid_188 (by omega) (fun z37 ez37 => ?_)
          obtain ⟨j38, ej38⟩ : ∃ j : Nat, z37.toInt = (j : Int) := ⟨_, ti_nat (by omega)⟩
          refine ad_ms (k := 389) (j := j38) hx hb hK hP (by decide) (by decide) ej38 (by omega) dX12_isSaid_189 ?_
          refine lv_aload_n hx hb dX12_isSaid_190 rfl (lv_at hl 1 rfl) ?_
          refine fg_12_6 (k := 387) hx hb hts in_X12_isSaid_12 hown hK hP (by decide) (by decide) (hts _ lk_X12_isSaid_33) dX12_isSaid_191 ?_
          refine lv_iload hx hb dX12_isSaid_194 (lv_at hl 0 rfl) ?_
          refine r_iconst hx hb dX12_isSaid_196 (by decide) (fun z39 ez39 => ?_)
          refine r_iadd hx hb dX12_isSaid_197 (by omega) (fun z40 ez40 => ?_)
          obtain ⟨j41, ej41⟩ : ∃ j : Nat, z40.toInt = (j : Int) := ⟨_, ti_nat (by omega)⟩
          refine ad_ms (k := 389) (j := j41) hx hb hK hP (by decide) (by decide) ej41 (by omega) dX12_isSaid_198 ?_
          refine r_cVi (k := 387) (As := [.int a1, .int (σ 389 j9), .int (σ 389 j38), .int (σ 389 j41)]) (rest := [.int x2, .ref (ad 402)]) ⟨hx, hb, hml, hown, hts⟩ hK hP hN hS (c_X12_isLeaf l D cA ad hI σ τ0 hR a1 (σ 389 j9) (σ 389 j38) (σ 389 j41) (by omega)) (cwV 4 hts gX12_isSaid_X12_isLeaf rfl rfl rfl (by decide +kernel) ⟨by decide, by decide⟩) (rv_M hK hP (by decide) (by decide)) rfl hl.1 rfl (Nat.le_of_ble_eq_true rfl) dX12_isSaid_199 (Nat.zero_le _) (Nat.zero_le _) (fun r42 u42 H42 locs42 hp42 hP hS => ?_)
          obtain ⟨σ42, τ42⟩ := u42
          obtain ⟨hR, f42, fL42, hq42⟩ : P_X12_isLeaf σ τ0 a1 (σ 389 j9) (σ 389 j38) (σ 389 j41) r42 σ42 τ42 := hp42
          have fl := f42
          have hP : va_P D vwCl (gw cA ad σ42 τ42) H42 := hP
          obtain rfl := FrL.nil fL42
          have hF := hF.step f42 (by decide)
          have gSI := SI.fr gSI hR f42 (by decide)
          obtain ⟨j43, ej43⟩ : ∃ j : Nat, x2.toInt = (j : Int) := ⟨_, ti_nat (by omega)⟩
          refine as_mtruths (k := 402) (j := j43) hx hb hK hP hI hR hS (by decide) (by decide) ej43 (by omega) (by omega) dX12_isSaid_202 (fun σ44 H44 locs44 u44 v44 hR hP hS => ?_)
          have ut := u44
          have vt := v44
          have hF := hF.puts u44 0 rfl (by decide) (by decide) (by omega) (by omega)
          have gSI := SI.putV gSI hR u44 (by intro q hq; simp only [Gd_SI, List.mem_cons, List.not_mem_nil, or_false] at hq; rcases hq with rfl | rfl | rfl <;> dsimp only [inRc] <;> omega)
          refine r_iinc (k := 3) (lv1 := fun z45 => [(2, .int z45), (4, .int z8), (0, .ref (ad 387)), (1, .int a1), (3, .int x3)]) hx hb dX12_isSaid_203 hl rfl (by decide) (fun _ => rfl) (by decide) (by omega) (fun z45 ls ez45 hl => ?_)
          refine r_iinc (k := 4) (lv1 := fun z46 => [(3, .int z46), (2, .int z45), (4, .int z8), (0, .ref (ad 387)), (1, .int a1)]) hx hb dX12_isSaid_206 hl rfl (by decide) (fun _ => rfl) (by decide) (by omega) (fun z46 ls ez46 hl => ?_)
          refine lv_goto (tgt := 4) hx hb dX12_isSaid_209 (by decide) ?_
          exact K4 σ44 τ0 H44 locs44 z45 z46 ls hR hF hFL hP hS (by omega) (by omega) (by first | (have e1 : z46.toInt.toNat = (x3.toInt + 1).toNat := (by omega); rw [e1]; omega) | (have e0 : z46.toInt.toNat = 0 := (by omega); rw [e0]; show z45.toInt = 0; omega)) (by omega) (by omega) (by first | exact (fun i hi => absurd hi (by omega)) | exact QTst hi3 ut (by omega) (by omega) | exact QTst (QTfr hi3 fl (by decide) (by omega)) ut (by omega) (by omega)) gSI (lv_sub hl [3, 4, 1, 0] rfl) (by omega)
        · refine r_iinc (k := 3) (lv1 := fun z47 => [(2, .int z47), (4, .int z8), (0, .ref (ad 387)), (1, .int a1), (3, .int x3)]) hx hb dX12_isSaid_88 hl rfl (by decide) (fun _ => rfl) (by decide) (by omega) (fun z47 ls ez47 hl => ?_)
          refine lv_aload_n hx hb dX12_isSaid_91 rfl (lv_at hl 2 rfl) ?_
          refine fg_12_43 (k := 387) hx hb hts in_X12_isSaid_12 hown hK hP (by decide) (by decide) (hts _ lk_X12_isSaid_74) dX12_isSaid_92 ?_
          refine lv_iload_n hx hb dX12_isSaid_95 rfl (lv_at hl 0 rfl) ?_
          refine r_iconst hx hb dX12_isSaid_96 (by decide) (fun z48 ez48 => ?_)
          refine r_isub hx hb dX12_isSaid_97 (by omega) (fun z49 ez49 => ?_)
          refine lv_aload_n hx hb dX12_isSaid_98 rfl (lv_at hl 2 rfl) ?_
          refine fg_12_6 (k := 387) hx hb hts in_X12_isSaid_12 hown hK hP (by decide) (by decide) (hts _ lk_X12_isSaid_33) dX12_isSaid_99 ?_
          refine lv_iload hx hb dX12_isSaid_102 (lv_at hl 1 rfl) ?_
          refine ad_ms (k := 389) (j := j9) hx hb hK hP (by decide) (by decide) ej9 (by omega) dX12_isSaid_104 ?_
          refine r_bipush hx hb dX12_isSaid_105 (by decide) (fun z50 ez50 => ?_)
          refine r_icmp_ne (tgt := 138) hx hb dX12_isSaid_107 (by decide) (fun c51 => ?_) (fun c51 => ?_)
          · refine lv_aload_n hx hb dX12_isSaid_138 rfl (lv_at hl 2 rfl) ?_
            refine fg_12_43 (k := 387) hx hb hts in_X12_isSaid_12 hown hK hP (by decide) (by decide) (hts _ lk_X12_isSaid_74) dX12_isSaid_139 ?_
            refine lv_iload_n hx hb dX12_isSaid_142 rfl (lv_at hl 0 rfl) ?_
            refine r_iconst hx hb dX12_isSaid_143 (by decide) (fun z52 ez52 => ?_)
            refine r_isub hx hb dX12_isSaid_144 (by omega) (fun z53 ez53 => ?_)
            obtain ⟨j54, ej54⟩ : ∃ j : Nat, z53.toInt = (j : Int) := ⟨_, ti_nat (by omega)⟩
            refine ad_mtruths (k := 402) (j := j54) hx hb hK hP (by decide) (by decide) ej54 (by omega) dX12_isSaid_145 ?_
            refine r_if_ne (tgt := 158) hx hb dX12_isSaid_146 (by decide) (fun c55 => ?_) (fun c55 => ?_)
            · refine r_iconst hx hb dX12_isSaid_158 (by decide) (fun z56 ez56 => ?_)
              refine lv_goto (tgt := 163) hx hb dX12_isSaid_159 (by decide) ?_
              refine as_mtruths (k := 402) (j := j54) hx hb hK hP hI hR hS (by decide) (by decide) (by omega) (by omega) (by omega) dX12_isSaid_163 (fun σ57 H57 locs57 u57 v57 hR hP hS => ?_)
              have ut := u57
              have vt := v57
              have hF := hF.puts u57 0 rfl (by decide) (by decide) (by omega) (by omega)
              have gSI := SI.putV gSI hR u57 (by intro q hq; simp only [Gd_SI, List.mem_cons, List.not_mem_nil, or_false] at hq; rcases hq with rfl | rfl | rfl <;> dsimp only [inRc] <;> omega)
              refine lv_goto (tgt := 206) hx hb dX12_isSaid_164 (by decide) ?_
              refine r_iinc (k := 4) (lv1 := fun z58 => [(3, .int z58), (2, .int z47), (4, .int z8), (0, .ref (ad 387)), (1, .int a1)]) hx hb dX12_isSaid_206 hl rfl (by decide) (fun _ => rfl) (by decide) (by omega) (fun z58 ls ez58 hl => ?_)
              refine lv_goto (tgt := 4) hx hb dX12_isSaid_209 (by decide) ?_
              exact K4 σ57 τ0 H57 locs57 z47 z58 ls hR hF hFL hP hS (by omega) (by omega) (by first | (have e1 : z58.toInt.toNat = (x3.toInt + 1).toNat := (by omega); rw [e1]; omega) | (have e0 : z58.toInt.toNat = 0 := (by omega); rw [e0]; show z47.toInt = 0; omega)) (by omega) (by omega) (by first | exact (fun i hi => absurd hi (by omega)) | exact QTst hi3 ut (by omega) (by omega) | exact QTst (QTfr hi3 fl (by decide) (by omega)) ut (by omega) (by omega)) gSI (lv_sub hl [3, 4, 1, 0] rfl) (by omega)
            · refine lv_aload_n hx hb dX12_isSaid_149 rfl (lv_at hl 2 rfl) ?_
              refine fg_12_43 (k := 387) hx hb hts in_X12_isSaid_12 hown hK hP (by decide) (by decide) (hts _ lk_X12_isSaid_74) dX12_isSaid_150 ?_
              refine lv_iload_n hx hb dX12_isSaid_153 rfl (lv_at hl 0 rfl) ?_
              obtain ⟨j59, ej59⟩ : ∃ j : Nat, z47.toInt = (j : Int) := ⟨_, ti_nat (by omega)⟩
              refine ad_mtruths (k := 402) (j := j59) hx hb hK hP (by decide) (by decide) ej59 (by omega) dX12_isSaid_154 ?_
              refine r_if_eq (tgt := 162) hx hb dX12_isSaid_155 (by decide) (fun c60 => ?_) (fun c60 => ?_)
              · refine r_iconst hx hb dX12_isSaid_162 (by decide) (fun z61 ez61 => ?_)
                refine as_mtruths (k := 402) (j := j54) hx hb hK hP hI hR hS (by decide) (by decide) (by omega) (by omega) (by omega) dX12_isSaid_163 (fun σ62 H62 locs62 u62 v62 hR hP hS => ?_)
                have ut := u62
                have vt := v62
                have hF := hF.puts u62 0 rfl (by decide) (by decide) (by omega) (by omega)
                have gSI := SI.putV gSI hR u62 (by intro q hq; simp only [Gd_SI, List.mem_cons, List.not_mem_nil, or_false] at hq; rcases hq with rfl | rfl | rfl <;> dsimp only [inRc] <;> omega)
                refine lv_goto (tgt := 206) hx hb dX12_isSaid_164 (by decide) ?_
                refine r_iinc (k := 4) (lv1 := fun z63 => [(3, .int z63), (2, .int z47), (4, .int z8), (0, .ref (ad 387)), (1, .int a1)]) hx hb dX12_isSaid_206 hl rfl (by decide) (fun _ => rfl) (by decide) (by omega) (fun z63 ls ez63 hl => ?_)
                refine lv_goto (tgt := 4) hx hb dX12_isSaid_209 (by decide) ?_
                exact K4 σ62 τ0 H62 locs62 z47 z63 ls hR hF hFL hP hS (by omega) (by omega) (by first | (have e1 : z63.toInt.toNat = (x3.toInt + 1).toNat := (by omega); rw [e1]; omega) | (have e0 : z63.toInt.toNat = 0 := (by omega); rw [e0]; show z47.toInt = 0; omega)) (by omega) (by omega) (by first | exact (fun i hi => absurd hi (by omega)) | exact QTst hi3 ut (by omega) (by omega) | exact QTst (QTfr hi3 fl (by decide) (by omega)) ut (by omega) (by omega)) gSI (lv_sub hl [3, 4, 1, 0] rfl) (by omega)
              · refine r_iconst hx hb dX12_isSaid_158 (by decide) (fun z64 ez64 => ?_)
                refine lv_goto (tgt := 163) hx hb dX12_isSaid_159 (by decide) ?_
                refine as_mtruths (k := 402) (j := j54) hx hb hK hP hI hR hS (by decide) (by decide) (by omega) (by omega) (by omega) dX12_isSaid_163 (fun σ65 H65 locs65 u65 v65 hR hP hS => ?_)
                have ut := u65
                have vt := v65
                have hF := hF.puts u65 0 rfl (by decide) (by decide) (by omega) (by omega)
                have gSI := SI.putV gSI hR u65 (by intro q hq; simp only [Gd_SI, List.mem_cons, List.not_mem_nil, or_false] at hq; rcases hq with rfl | rfl | rfl <;> dsimp only [inRc] <;> omega)
                refine lv_goto (tgt := 206) hx hb dX12_isSaid_164 (by decide) ?_
                refine r_iinc (k := 4) (lv1 := fun z66 => [(3, .int z66), (2, .int z47), (4, .int z8), (0, .ref (ad 387)), (1, .int a1)]) hx hb dX12_isSaid_206 hl rfl (by decide) (fun _ => rfl) (by decide) (by omega) (fun z66 ls ez66 hl => ?_)
                refine lv_goto (tgt := 4) hx hb dX12_isSaid_209 (by decide) ?_
                exact K4 σ65 τ0 H65 locs65 z47 z66 ls hR hF hFL hP hS (by omega) (by omega) (by first | (have e1 : z66.toInt.toNat = (x3.toInt + 1).toNat := (by omega); rw [e1]; omega) | (have e0 : z66.toInt.toNat = 0 := (by omega); rw [e0]; show z47.toInt = 0; omega)) (by omega) (by omega) (by first | exact (fun i hi => absurd hi (by omega)) | exact QTst hi3 ut (by omega) (by omega) | exact QTst (QTfr hi3 fl (by decide) (by omega)) ut (by omega) (by omega)) gSI (lv_sub hl [3, 4, 1, 0] rfl) (by omega)
          · exfalso; omega
    · refine lv_aload_n hx hb dX12_isSaid_37 rfl (lv_at hl 1 rfl) ?_
      refine fg_12_43 (k := 387) hx hb hts in_X12_isSaid_12 hown hK hP (by decide) (by decide) (hts _ lk_X12_isSaid_74) dX12_isSaid_38 ?_
      refine lv_iload_n hx hb dX12_isSaid_41 rfl (lv_at hl 3 rfl) ?_
      refine r_iconst hx hb dX12_isSaid_42 (by decide) (fun z67 ez67 => ?_)
      refine r_isub hx hb dX12_isSaid_43 (by omega) (fun z68 ez68 => ?_)
      refine lv_aload_n hx hb dX12_isSaid_44 rfl (lv_at hl 1 rfl) ?_
      refine fg_12_43 (k := 387) hx hb hts in_X12_isSaid_12 hown hK hP (by decide) (by decide) (hts _ lk_X12_isSaid_74) dX12_isSaid_45 ?_
      refine lv_iload_n hx hb dX12_isSaid_48 rfl (lv_at hl 3 rfl) ?_
      refine r_iconst hx hb dX12_isSaid_49 (by decide) (fun z69 ez69 => ?_)
      refine r_isub hx hb dX12_isSaid_50 (by omega) (fun z70 ez70 => ?_)
      obtain ⟨j71, ej71⟩ : ∃ j : Nat, z70.toInt = (j : Int) := ⟨_, ti_nat (by omega)⟩
      refine ad_mtruths (k := 402) (j := j71) hx hb hK hP (by decide) (by decide) ej71 (by omega) dX12_isSaid_51 ?_
      refine r_if_ne (tgt := 59) hx hb dX12_isSaid_52 (by decide) (fun c72 => ?_) (fun c72 => ?_)
      · refine r_iconst hx hb dX12_isSaid_59 (by decide) (fun z73 ez73 => ?_)
        refine as_mtruths (k := 402) (j := j71) hx hb hK hP hI hR hS (by decide) (by decide) (by omega) (by omega) (by omega) dX12_isSaid_60 (fun σ74 H74 locs74 u74 v74 hR hP hS => ?_)
        have ut := u74
        have vt := v74
        have hF := hF.puts u74 0 rfl (by decide) (by decide) (by omega) (by omega)
        have gSI := SI.putV gSI hR u74 (by intro q hq; simp only [Gd_SI, List.mem_cons, List.not_mem_nil, or_false] at hq; rcases hq with rfl | rfl | rfl <;> dsimp only [inRc] <;> omega)
        refine lv_goto (tgt := 206) hx hb dX12_isSaid_61 (by decide) ?_
        refine r_iinc (k := 4) (lv1 := fun z75 => [(3, .int z75), (4, .int z8), (0, .ref (ad 387)), (1, .int a1), (2, .int x2)]) hx hb dX12_isSaid_206 hl rfl (by decide) (fun _ => rfl) (by decide) (by omega) (fun z75 ls ez75 hl => ?_)
        refine lv_goto (tgt := 4) hx hb dX12_isSaid_209 (by decide) ?_
        exact K4 σ74 τ0 H74 locs74 x2 z75 ls hR hF hFL hP hS (by omega) (by omega) (by first | (have e1 : z75.toInt.toNat = (x3.toInt + 1).toNat := (by omega); rw [e1]; omega) | (have e0 : z75.toInt.toNat = 0 := (by omega); rw [e0]; show x2.toInt = 0; omega)) (by omega) (by omega) (by first | exact (fun i hi => absurd hi (by omega)) | exact QTst hi3 ut (by omega) (by omega) | exact QTst (QTfr hi3 fl (by decide) (by omega)) ut (by omega) (by omega)) gSI (lv_sub hl [2, 3, 4, 0] rfl) (by omega)
      · refine r_iconst hx hb dX12_isSaid_55 (by decide) (fun z76 ez76 => ?_)
        refine lv_goto (tgt := 60) hx hb dX12_isSaid_56 (by decide) ?_
        refine as_mtruths (k := 402) (j := j71) hx hb hK hP hI hR hS (by decide) (by decide) (by omega) (by omega) (by omega) dX12_isSaid_60 (fun σ77 H77 locs77 u77 v77 hR hP hS => ?_)
        have ut := u77
        have vt := v77
        have hF := hF.puts u77 0 rfl (by decide) (by decide) (by omega) (by omega)
        have gSI := SI.putV gSI hR u77 (by intro q hq; simp only [Gd_SI, List.mem_cons, List.not_mem_nil, or_false] at hq; rcases hq with rfl | rfl | rfl <;> dsimp only [inRc] <;> omega)
        refine lv_goto (tgt := 206) hx hb dX12_isSaid_61 (by decide) ?_
        refine r_iinc (k := 4) (lv1 := fun z78 => [(3, .int z78), (4, .int z8), (0, .ref (ad 387)), (1, .int a1), (2, .int x2)]) hx hb dX12_isSaid_206 hl rfl (by decide) (fun _ => rfl) (by decide) (by omega) (fun z78 ls ez78 hl => ?_)
        refine lv_goto (tgt := 4) hx hb dX12_isSaid_209 (by decide) ?_
        exact K4 σ77 τ0 H77 locs77 x2 z78 ls hR hF hFL hP hS (by omega) (by omega) (by first | (have e1 : z78.toInt.toNat = (x3.toInt + 1).toNat := (by omega); rw [e1]; omega) | (have e0 : z78.toInt.toNat = 0 := (by omega); rw [e0]; show x2.toInt = 0; omega)) (by omega) (by omega) (by first | exact (fun i hi => absurd hi (by omega)) | exact QTst hi3 ut (by omega) (by omega) | exact QTst (QTfr hi3 fl (by decide) (by omega)) ut (by omega) (by omega)) gSI (lv_sub hl [2, 3, 4, 0] rfl) (by omega)
theorem A_X12_isSaid (p : Program) (l : Launch) (e : Env) (s : State) (m : MethodId) (args : Array Value) (below : List Frame) (meth : Method) (c : Code) (D : va_G) (cA : Nat → ClassId) (ad : Nat → Nat) (σ0 : Nat → Nat → Int32) (τ0 : Nat → Nat → Int64) (a1 : Int32) (C : Cy p s m args meth c cX12_isSaid 5 wsX12_isSaid RX12 D cA ad (some .boolean)) (ha1 : 0 ≤ a1.toInt ∧ a1.toInt ≤ 7) (hpre0 : 1 ≤ (σ0 389 246).toInt) (gSI0 : SI σ0) : ∀ n : Nat, J_X12_isSaid_4 p l e s m args below meth c D cA ad σ0 τ0 a1 n := by
  intro n
  induction n with
  | zero =>
    exact (by intro σ τ H locs x2 x3 ls hR hF hFL hP hS hc0 hc1 hi0 hi1 hi2 hi3 gSI hl hm; exfalso; omega)
  | succ n ih =>
    exact B_X12_isSaid_4 p l e s m args below meth c D cA ad σ0 τ0 a1 n C ha1 hpre0 gSI0 ih
set_option maxHeartbeats 4000000 in
theorem c_X12_isSaid (l : Launch) (D : va_G) (cA : Nat → ClassId) (ad : Nat → Nat) (hI : Inj ad) (σ0 : Nat → Nat → Int32) (τ0 : Nat → Nat → Int64) (hR : Rg σ0) (a1 : Int32) (ha1 : 0 ≤ a1.toInt ∧ a1.toInt ≤ 7) (hpre0 : 1 ≤ (σ0 389 246).toInt) (gSI0 : SI σ0) : Met l yX12_isSaid wsX12_isSaid ({ frames := 5, cells := 0, slots := 0, locals := 117 } : Room) (WQc D cA ad [.ref (ad 387), .int a1] σ0 τ0) (va_Qi (fun (r : Int32) (u : SS) => P_X12_isSaid σ0 τ0 a1 r u.1 u.2) (WB D cA ad) (AA ad)) 0 0 (AA ad) := by
  refine Met.ofW (cc := cX12_isSaid) (maxL := 5) (ret := (some .boolean)) (by decide) rfl ?_
  intro p e s m args below meth c s₁ B hml hv
  obtain ⟨rfl, hP, hK, hN⟩ := hv
  have C : Cy p s m _ meth c cX12_isSaid 5 wsX12_isSaid RX12 D cA ad (some .boolean) := ⟨B.exec, B.bytes, hml, findClass_of_methodNamed B.named, atoms_spec (ws := wsX12_isSaid) B.pre, hK, B.notSynchronized, B.returns, hI, hN⟩
  have hl := lv_entry ([.ref (ad 387), .int a1]) (n := 5) (Nat.le_of_ble_eq_true rfl)
  rw [lg_entry_eq]
  generalize (lg_sl ([.ref (ad 387), .int a1]) ++ List.replicate (5 - (lg_sl ([.ref (ad 387), .int a1])).length) Slot.unset).toArray = ls at hl ⊢
  have hl : lv_has ls 5 [(0, .ref (ad 387)), (1, .int a1)] := hl
  have hS : va_S (AA ad) s.heap s.heap [] := va_S.rf
  have hF : Fr L_X12_isSaid σ0 σ0 := Fr.rf
  have hFL : FrL LL_X12_isSaid τ0 τ0 := FrL.rf
  have gSI := gSI0
  have hA := A_X12_isSaid p l e s m _ below meth c D cA ad σ0 τ0 a1 C ha1 hpre0 gSI0 170
  have K4 := hA
  clear hA
  obtain ⟨hx, hb, _, hown, hts, _, hk, hr, _, _⟩ := C
  refine r_iconst hx hb dX12_isSaid_0 (by decide) (fun z1 ez1 => ?_)
  refine lv_istore_n (lv' := [(2, .int z1), (0, .ref (ad 387)), (1, .int a1)]) hx hb dX12_isSaid_1 rfl hl (by decide) rfl (fun ls hl => ?_)
  refine r_iconst hx hb dX12_isSaid_2 (by decide) (fun z2 ez2 => ?_)
  refine lv_istore_n (lv' := [(3, .int z2), (2, .int z1), (0, .ref (ad 387)), (1, .int a1)]) hx hb dX12_isSaid_3 rfl hl (by decide) rfl (fun ls hl => ?_)
  exact K4 σ0 τ0 s.heap [] z1 z2 ls hR hF hFL hP hS (by omega) (by omega) (by first | (have e1 : z2.toInt.toNat = (x3.toInt + 1).toNat := (by omega); rw [e1]; omega) | (have e0 : z2.toInt.toNat = 0 := (by omega); rw [e0]; show z1.toInt = 0; omega)) (by omega) (by omega) (by first | exact (fun i hi => absurd hi (by omega)) | exact QTst hi3 ut (by omega) (by omega) | exact QTst (QTfr hi3 fl (by decide) (by omega)) ut (by omega) (by omega)) gSI (lv_sub hl [2, 3, 1, 0] rfl) (by omega)
theorem in_X12_said_12 : ∀ w ∈ u_ws RX12 TX12 47, w ∈ wsX12_said := by decide +kernel
theorem lk_X12_said_1 : Cond.fieldLink RX12 1 "CuckooSharesModel" "thrown" "I" ∈ wsX12_said := by decide +kernel
theorem lk_X12_said_33 : Cond.fieldLink RX12 33 "CuckooSharesModel" "s" "[I" ∈ wsX12_said := by decide +kernel
abbrev L_X12_said : List Rc := [(387, 387, 0, 0), (402, 402, 0, 39), (394, 394, 0, 7), (395, 395, 0, 7), (396, 396, 0, 7)]
abbrev LL_X12_said : List Rc := []
def P_X12_said (σ0 : Nat → Nat → Int32) (τ0 : Nat → Nat → Int64) (a1 : Int32) (r : Int32) (σ : Nat → Nat → Int32) (τ : Nat → Nat → Int64) : Prop := Rg σ ∧ Fr L_X12_said σ0 σ ∧ FrL LL_X12_said τ0 τ
def J_X12_said_27 (p : Program) (l : Launch) (e : Env) (s : State) (m : MethodId) (args : Array Value) (below : List Frame) (meth : Method) (c : Code) (D : va_G) (cA : Nat → ClassId) (ad : Nat → Nat) (σ0 : Nat → Nat → Int32) (τ0 : Nat → Nat → Int64) (a1 : Int32) (n : Nat) : Prop := ∀ (σ : Nat → Nat → Int32) (τ : Nat → Nat → Int64) (H : Heap) (locs : List Loc) (x2 : Int32) (x3 : Int32) (ls : Array Slot), Rg σ → Fr L_X12_said σ0 σ → FrL LL_X12_said τ0 τ → va_P D vwCl (gw cA ad σ τ) H → va_S (AA ad) s.heap H locs → (-1 ≤ a1.toInt) → (0 ≤ x3.toInt ∧ x3.toInt ≤ 8) → (1 ≤ (σ 389 246).toInt ∧ (σ 389 246).toInt ≤ 40) → (1 ≤ (σ 389 246).toInt) → (SI σ) → lv_has ls 4 [(0, .ref (ad 387)), (1, .int a1), (2, .int x2), (3, .int x3)] → 2 * (8 - x3.toInt) + 1 < (n : Int) → W p l e ({ frames := 6, cells := 0, slots := 0, locals := 141 } : Room) s m args below meth c H locs 0 0 (MQ below (va_Qi (fun (r : Int32) (u : SS) => P_X12_said σ0 τ0 a1 r u.1 u.2) (WB D cA ad) (AA ad)) args s 0 0 (AA ad)) (F0 m 27 ls [])
set_option maxHeartbeats 4000000 in
theorem B_X12_said_27 (p : Program) (l : Launch) (e : Env) (s : State) (m : MethodId) (args : Array Value) (below : List Frame) (meth : Method) (c : Code) (D : va_G) (cA : Nat → ClassId) (ad : Nat → Nat) (σ0 : Nat → Nat → Int32) (τ0 : Nat → Nat → Int64) (a1 : Int32) (n : Nat) (C : Cy p s m args meth c cX12_said 4 wsX12_said RX12 D cA ad (some .int)) (gSI0 : SI σ0) (K27 : J_X12_said_27 p l e s m args below meth c D cA ad σ0 τ0 a1 n) : J_X12_said_27 p l e s m args below meth c D cA ad σ0 τ0 a1 (n + 1) := by
  obtain ⟨hx, hb, hml, hown, hts, hK, hk, hr, hI, hN⟩ := C
  intro σ τ H locs x2 x3 ls hR hF hFL hP hS hc0 hc1 hc2 hi0 gSI hl hm
  obtain rfl := FrL.nil hFL
  refine lv_iload_n hx hb dX12_said_27 rfl (lv_at hl 3 rfl) ?_
  refine lv_aload_n hx hb dX12_said_28 rfl (lv_at hl 0 rfl) ?_
  refine fg_12_6 (k := 387) hx hb hts in_X12_said_12 hown hK hP (by decide) (by decide) (hts _ lk_X12_said_33) dX12_said_29 ?_
  refine r_iconst hx hb dX12_said_32 (by decide) (fun z1 ez1 => ?_)
  refine ad_ms (k := 389) (j := 1) hx hb hK hP (by decide) (by decide) (by omega) (by omega) dX12_said_33 ?_
  have hr2 := ra_ms_0 hR (k := 389) (j := 1) (by decide) (by decide) (by decide) (by decide)
  refine r_icmp_ge (tgt := 64) hx hb dX12_said_34 (by decide) (fun c3 => ?_) (fun c3 => ?_)
  · refine lv_iload_n hx hb dX12_said_64 rfl (lv_at hl 1 rfl) ?_
    refine r_iconst hx hb dX12_said_65 (by decide) (fun z4 ez4 => ?_)
    refine r_icmp_ne (tgt := 73) hx hb dX12_said_66 (by decide) (fun c5 => ?_) (fun c5 => ?_)
    · refine r_iconst hx hb dX12_said_73 (by decide) (fun z6 ez6 => ?_)
      exact r_iret hx hb hr hK hP hS hk dX12_said_74 (show P_X12_said σ0 τ0 a1 z6 σ τ0 from ⟨hR, hF, hFL⟩)
    · refine lv_iload_n hx hb dX12_said_69 rfl (lv_at hl 2 rfl) ?_
      refine lv_goto (tgt := 74) hx hb dX12_said_70 (by decide) ?_
      exact r_iret hx hb hr hK hP hS hk dX12_said_74 (show P_X12_said σ0 τ0 a1 x2 σ τ0 from ⟨hR, hF, hFL⟩)
  · refine lv_aload_n hx hb dX12_said_37 rfl (lv_at hl 0 rfl) ?_
    refine lv_iload_n hx hb dX12_said_38 rfl (lv_at hl 3 rfl) ?_
    refine r_cVi (k := 387) (As := [.int x3]) (rest := []) ⟨hx, hb, hml, hown, hts⟩ hK hP hN hS (c_X12_isSaid l D cA ad hI σ τ0 hR x3 (by omega) (by omega) gSI) (cwV 1 hts gX12_said_X12_isSaid rfl rfl rfl (by decide +kernel) ⟨by decide, by decide⟩) (rv_M hK hP (by decide) (by decide)) rfl hl.1 rfl (Nat.le_of_ble_eq_true rfl) dX12_said_39 (Nat.zero_le _) (Nat.zero_le _) (fun r7 u7 H7 locs7 hp7 hP hS => ?_)
    obtain ⟨σ7, τ7⟩ := u7
    obtain ⟨hR, f7, fL7, hq7⟩ : P_X12_isSaid σ τ0 x3 r7 σ7 τ7 := hp7
    have hP : va_P D vwCl (gw cA ad σ7 τ7) H7 := hP
    obtain rfl := FrL.nil fL7
    have hF := hF.step f7 (by decide)
    have gSI := SI.fr gSI hR f7 (by decide)
    have t8 : (σ7 389 246).toInt = (σ 389 246).toInt := congrArg Int32.toInt (f7.at 389 246 (by decide))
    have t9 : (σ7 389 1).toInt = (σ 389 1).toInt := congrArg Int32.toInt (f7.at 389 1 (by decide))
    refine r_if_ne (tgt := 48) hx hb dX12_said_42 (by decide) (fun c10 => ?_) (fun c10 => ?_)
    · refine lv_iload_n hx hb dX12_said_48 rfl (lv_at hl 2 rfl) ?_
      refine lv_iload_n hx hb dX12_said_49 rfl (lv_at hl 1 rfl) ?_
      refine r_icmp_ne (tgt := 55) hx hb dX12_said_50 (by decide) (fun c11 => ?_) (fun c11 => ?_)
      · refine r_iincU (k := 2) (lv1 := fun z12 => [(2, .int z12), (0, .ref (ad 387)), (1, .int a1), (3, .int x3)]) hx hb dX12_said_55 hl rfl (by decide) (fun _ => rfl) (fun z12 ls hl => ?_)
        refine r_iinc (k := 3) (lv1 := fun z13 => [(3, .int z13), (2, .int z12), (0, .ref (ad 387)), (1, .int a1)]) hx hb dX12_said_58 hl rfl (by decide) (fun _ => rfl) (by decide) (by omega) (fun z13 ls ez13 hl => ?_)
        refine lv_goto (tgt := 27) hx hb dX12_said_61 (by decide) ?_
        exact K27 σ7 τ0 H7 locs7 z12 z13 ls hR hF hFL hP hS (by omega) (by omega) (by omega) (by omega) gSI (lv_sub hl [2, 3, 1, 0] rfl) (by omega)
      · refine lv_iload_n hx hb dX12_said_53 rfl (lv_at hl 3 rfl) ?_
        exact r_iret hx hb hr hK hP hS hk dX12_said_54 (show P_X12_said σ0 τ0 a1 x3 σ7 τ0 from ⟨hR, hF, hFL⟩)
    · refine lv_goto (tgt := 58) hx hb dX12_said_45 (by decide) ?_
      refine r_iinc (k := 3) (lv1 := fun z14 => [(3, .int z14), (0, .ref (ad 387)), (1, .int a1), (2, .int x2)]) hx hb dX12_said_58 hl rfl (by decide) (fun _ => rfl) (by decide) (by omega) (fun z14 ls ez14 hl => ?_)
      refine lv_goto (tgt := 27) hx hb dX12_said_61 (by decide) ?_
      exact K27 σ7 τ0 H7 locs7 x2 z14 ls hR hF hFL hP hS (by omega) (by omega) (by omega) (by omega) gSI (lv_sub hl [1, 2, 3, 0] rfl) (by omega)
theorem A_X12_said (p : Program) (l : Launch) (e : Env) (s : State) (m : MethodId) (args : Array Value) (below : List Frame) (meth : Method) (c : Code) (D : va_G) (cA : Nat → ClassId) (ad : Nat → Nat) (σ0 : Nat → Nat → Int32) (τ0 : Nat → Nat → Int64) (a1 : Int32) (C : Cy p s m args meth c cX12_said 4 wsX12_said RX12 D cA ad (some .int)) (gSI0 : SI σ0) : ∀ n : Nat, J_X12_said_27 p l e s m args below meth c D cA ad σ0 τ0 a1 n := by
  intro n
  induction n with
  | zero =>
    exact (by intro σ τ H locs x2 x3 ls hR hF hFL hP hS hc0 hc1 hc2 hi0 gSI hl hm; exfalso; omega)
  | succ n ih =>
    exact B_X12_said_27 p l e s m args below meth c D cA ad σ0 τ0 a1 n C gSI0 ih
set_option maxHeartbeats 4000000 in
theorem c_X12_said (l : Launch) (D : va_G) (cA : Nat → ClassId) (ad : Nat → Nat) (hI : Inj ad) (σ0 : Nat → Nat → Int32) (τ0 : Nat → Nat → Int64) (hR : Rg σ0) (a1 : Int32) (gSI0 : SI σ0) : Met l yX12_said wsX12_said ({ frames := 6, cells := 0, slots := 0, locals := 141 } : Room) (WQc D cA ad [.ref (ad 387), .int a1] σ0 τ0) (va_Qi (fun (r : Int32) (u : SS) => P_X12_said σ0 τ0 a1 r u.1 u.2) (WB D cA ad) (AA ad)) 0 0 (AA ad) := by
  refine Met.ofW (cc := cX12_said) (maxL := 4) (ret := (some .int)) (by decide) rfl ?_
  intro p e s m args below meth c s₁ B hml hv
  obtain ⟨rfl, hP, hK, hN⟩ := hv
  have C : Cy p s m _ meth c cX12_said 4 wsX12_said RX12 D cA ad (some .int) := ⟨B.exec, B.bytes, hml, findClass_of_methodNamed B.named, atoms_spec (ws := wsX12_said) B.pre, hK, B.notSynchronized, B.returns, hI, hN⟩
  have hl := lv_entry ([.ref (ad 387), .int a1]) (n := 4) (Nat.le_of_ble_eq_true rfl)
  rw [lg_entry_eq]
  generalize (lg_sl ([.ref (ad 387), .int a1]) ++ List.replicate (4 - (lg_sl ([.ref (ad 387), .int a1])).length) Slot.unset).toArray = ls at hl ⊢
  have hl : lv_has ls 4 [(0, .ref (ad 387)), (1, .int a1)] := hl
  have hS : va_S (AA ad) s.heap s.heap [] := va_S.rf
  have hF : Fr L_X12_said σ0 σ0 := Fr.rf
  have hFL : FrL LL_X12_said τ0 τ0 := FrL.rf
  have gSI := gSI0
  have hA := A_X12_said p l e s m _ below meth c D cA ad σ0 τ0 a1 C gSI0 42
  have K27 := hA
  clear hA
  obtain ⟨hx, hb, _, hown, hts, _, hk, hr, _, _⟩ := C
  refine lv_aload_n hx hb dX12_said_0 rfl (lv_at hl 0 rfl) ?_
  refine r_iconst hx hb dX12_said_1 (by decide) (fun z1 ez1 => ?_)
  refine fp_12_0 (k := 387) hx hb hts in_X12_said_12 hown hK hP (by decide) (by decide) (hts _ lk_X12_said_1) hI hR hS (by omega) dX12_said_2 (fun σ2 H2 locs2 u2 v2 hR hP hS => ?_)
  have hF := hF.puts u2 0 rfl (by decide) (by decide) (by decide) (by decide)
  have gSI := SI.put gSI hR u2 (by decide)
  refine lv_aload_n hx hb dX12_said_5 rfl (lv_at hl 0 rfl) ?_
  refine fg_12_6 (k := 387) hx hb hts in_X12_said_12 hown hK hP (by decide) (by decide) (hts _ lk_X12_said_33) dX12_said_6 ?_
  refine r_sipush hx hb dX12_said_9 (by decide) (fun z3 ez3 => ?_)
  refine ad_ms (k := 389) (j := 246) hx hb hK hP (by decide) (by decide) (by omega) (by omega) dX12_said_12 ?_
  have hr4 := ra_ms_8 hR (k := 389) (j := 246) (by decide) (by decide) (by decide) (by decide)
  refine r_if_eq (tgt := 21) hx hb dX12_said_13 (by decide) (fun c5 => ?_) (fun c5 => ?_)
  · refine r_iconst hx hb dX12_said_21 (by decide) (fun z6 ez6 => ?_)
    exact r_iret hx hb hr hK hP hS hk dX12_said_22 (show P_X12_said σ0 τ0 a1 z6 σ2 τ0 from ⟨hR, hF, hFL⟩)
  · refine lv_iload_n hx hb dX12_said_16 rfl (lv_at hl 1 rfl) ?_
    refine r_iconst hx hb dX12_said_17 (by decide) (fun z7 ez7 => ?_)
    refine r_icmp_ge (tgt := 23) hx hb dX12_said_18 (by decide) (fun c8 => ?_) (fun c8 => ?_)
    · refine r_iconst hx hb dX12_said_23 (by decide) (fun z9 ez9 => ?_)
      refine lv_istore_n (lv' := [(2, .int z9), (0, .ref (ad 387)), (1, .int a1)]) hx hb dX12_said_24 rfl hl (by decide) rfl (fun ls hl => ?_)
      refine r_iconst hx hb dX12_said_25 (by decide) (fun z10 ez10 => ?_)
      refine lv_istore_n (lv' := [(3, .int z10), (2, .int z9), (0, .ref (ad 387)), (1, .int a1)]) hx hb dX12_said_26 rfl hl (by decide) rfl (fun ls hl => ?_)
      exact K27 σ2 τ0 H2 locs2 z9 z10 ls hR hF hFL hP hS (by omega) (by omega) (by omega) (by omega) gSI (lv_sub hl [2, 3, 1, 0] rfl) (by omega)
    · refine r_iconst hx hb dX12_said_21 (by decide) (fun z11 ez11 => ?_)
      exact r_iret hx hb hr hK hP hS hk dX12_said_22 (show P_X12_said σ0 τ0 a1 z11 σ2 τ0 from ⟨hR, hF, hFL⟩)
theorem in_X12_image_12 : ∀ w ∈ u_ws RX12 TX12 47, w ∈ wsX12_image := by decide +kernel
theorem lk_X12_image_1 : Cond.fieldLink RX12 1 "CuckooSharesModel" "thrown" "I" ∈ wsX12_image := by decide +kernel
theorem lk_X12_image_33 : Cond.fieldLink RX12 33 "CuckooSharesModel" "s" "[I" ∈ wsX12_image := by decide +kernel
theorem lk_X12_image_43 : Cond.fieldLink RX12 43 "CuckooSharesModel" "names" "[J" ∈ wsX12_image := by decide +kernel
theorem lk_X12_image_78 : Cond.fieldLink RX12 78 "CuckooSharesModel" "kept" "[I" ∈ wsX12_image := by decide +kernel
theorem lk_X12_image_81 : Cond.fieldLink RX12 81 "CuckooSharesModel" "namesKept" "[J" ∈ wsX12_image := by decide +kernel
theorem lk_X12_image_84 : Cond.fieldLink RX12 84 "CuckooSharesModel" "areKept" "[Z" ∈ wsX12_image := by decide +kernel
abbrev L_X12_image : List Rc := [(387, 387, 0, 0), (403, 403, 0, 853), (405, 405, 0, 1)]
abbrev LL_X12_image : List Rc := [(404, 404, 0, 31)]
def P_X12_image (σ0 : Nat → Nat → Int32) (τ0 : Nat → Nat → Int64) (a1 : Int32) (r : Int32) (σ : Nat → Nat → Int32) (τ : Nat → Nat → Int64) : Prop := Rg σ ∧ Fr L_X12_image σ0 σ ∧ FrL LL_X12_image τ0 τ ∧ (0 ≤ r.toInt ∧ r.toInt ≤ 1) ∧ (IMm σ0 σ a1) ∧ (INm τ0 τ a1) ∧ SI σ ∧ SIK σ
def J_X12_image_18 (p : Program) (l : Launch) (e : Env) (s : State) (m : MethodId) (args : Array Value) (below : List Frame) (meth : Method) (c : Code) (D : va_G) (cA : Nat → ClassId) (ad : Nat → Nat) (σ0 : Nat → Nat → Int32) (τ0 : Nat → Nat → Int64) (a1 : Int32) (n : Nat) : Prop := ∀ (σ : Nat → Nat → Int32) (τ : Nat → Nat → Int64) (H : Heap) (locs : List Loc) (x2 : Int32) (ls : Array Slot), Rg σ → Fr L_X12_image σ0 σ → FrL LL_X12_image τ0 τ → va_P D vwCl (gw cA ad σ τ) H → va_S (AA ad) s.heap H locs → (0 ≤ a1.toInt ∧ a1.toInt ≤ 1) → (0 ≤ x2.toInt ∧ x2.toInt ≤ 441) → (∀ i j : Nat, a1.toInt = (i : Int) → (j : Int) < x2.toInt → σ 403 (427 * i + j) = σ 389 j) → (∀ k j : Nat, k < 2 → j < 427 → a1.toInt ≠ (k : Int) → σ 403 (427 * k + j) = σ0 403 (427 * k + j)) → (∀ k : Nat, k < 2 → σ 405 k = σ0 405 k) → (∀ k j : Nat, τ k j = τ0 k j) → (SI σ) → lv_has ls 3 [(0, .ref (ad 387)), (1, .int a1), (2, .int x2)] → 43 * (441 - x2.toInt) + 42 < (n : Int) → W p l e ({ frames := 1, cells := 0, slots := 0, locals := 22 } : Room) s m args below meth c H locs 0 0 (MQ below (va_Qi (fun (r : Int32) (u : SS) => P_X12_image σ0 τ0 a1 r u.1 u.2) (WB D cA ad) (AA ad)) args s 0 0 (AA ad)) (F0 m 18 ls [])
def J_X12_image_51 (p : Program) (l : Launch) (e : Env) (s : State) (m : MethodId) (args : Array Value) (below : List Frame) (meth : Method) (c : Code) (D : va_G) (cA : Nat → ClassId) (ad : Nat → Nat) (σ0 : Nat → Nat → Int32) (τ0 : Nat → Nat → Int64) (a1 : Int32) (n : Nat) : Prop := ∀ (σ : Nat → Nat → Int32) (τ : Nat → Nat → Int64) (H : Heap) (locs : List Loc) (x2 : Int32) (ls : Array Slot), Rg σ → Fr L_X12_image σ0 σ → FrL LL_X12_image τ0 τ → va_P D vwCl (gw cA ad σ τ) H → va_S (AA ad) s.heap H locs → (0 ≤ a1.toInt ∧ a1.toInt ≤ 1) → (0 ≤ x2.toInt ∧ x2.toInt ≤ 19) → (∀ i j : Nat, a1.toInt = (i : Int) → j < 427 → σ 403 (427 * i + j) = σ 389 j) → (∀ k j : Nat, k < 2 → j < 427 → a1.toInt ≠ (k : Int) → σ 403 (427 * k + j) = σ0 403 (427 * k + j)) → (∀ k : Nat, k < 2 → σ 405 k = σ0 405 k) → (∀ i j : Nat, a1.toInt = (i : Int) → (j : Int) < x2.toInt → τ 404 (16 * i + j) = τ0 392 j) → (∀ k j : Nat, k < 2 → j < 16 → a1.toInt ≠ (k : Int) → τ 404 (16 * k + j) = τ0 404 (16 * k + j)) → (∀ j : Nat, j < 16 → τ 392 j = τ0 392 j) → (SI σ) → lv_has ls 3 [(0, .ref (ad 387)), (1, .int a1), (2, .int x2)] → 2 * (19 - x2.toInt) + 1 < (n : Int) → W p l e ({ frames := 1, cells := 0, slots := 0, locals := 22 } : Room) s m args below meth c H locs 0 0 (MQ below (va_Qi (fun (r : Int32) (u : SS) => P_X12_image σ0 τ0 a1 r u.1 u.2) (WB D cA ad) (AA ad)) args s 0 0 (AA ad)) (F0 m 51 ls [])
set_option maxHeartbeats 4000000 in
theorem B_X12_image_18 (p : Program) (l : Launch) (e : Env) (s : State) (m : MethodId) (args : Array Value) (below : List Frame) (meth : Method) (c : Code) (D : va_G) (cA : Nat → ClassId) (ad : Nat → Nat) (σ0 : Nat → Nat → Int32) (τ0 : Nat → Nat → Int64) (a1 : Int32) (n : Nat) (C : Cy p s m args meth c cX12_image 3 wsX12_image RX12 D cA ad (some .boolean)) (gSI0 : SI σ0) (gSIK0 : SIK σ0) (K18 : J_X12_image_18 p l e s m args below meth c D cA ad σ0 τ0 a1 n) (K51 : J_X12_image_51 p l e s m args below meth c D cA ad σ0 τ0 a1 n) : J_X12_image_18 p l e s m args below meth c D cA ad σ0 τ0 a1 (n + 1) := by
  obtain ⟨hx, hb, hml, hown, hts, hK, hk, hr, hI, hN⟩ := C
  intro σ τ H locs x2 ls hR hF hFL hP hS hc0 hc1 hi0 hi1 hi2 hi3 gSI hl hm
  refine lv_iload_n hx hb dX12_image_18 rfl (lv_at hl 2 rfl) ?_
  refine r_sipush hx hb dX12_image_19 (by decide) (fun z1 ez1 => ?_)
  refine r_icmp_ge (tgt := 49) hx hb dX12_image_22 (by decide) (fun c2 => ?_) (fun c2 => ?_)
  · refine r_iconst hx hb dX12_image_49 (by decide) (fun z3 ez3 => ?_)
    refine lv_istore_n (lv' := [(2, .int z3), (0, .ref (ad 387)), (1, .int a1)]) hx hb dX12_image_50 rfl hl (by decide) rfl (fun ls hl => ?_)
    exact K51 σ τ H locs z3 ls hR hF hFL hP hS (by omega) (by omega) (by first | exact hi0 | exact (fun i j h1 h2 => hi0 i j h1 (by omega))) (by exact hi1) (by exact hi2) (by first | exact (fun i j _ hj => absurd hj (by omega)) | exact In_s hi3 (hi5 _ (by omega)) unm vnm (by omega) (by omega) (by omega)) (by first | exact (fun k j _ _ _ => hi3 404 _) | exact In_o (x := x2.toInt) hi4 unm (by omega) (by omega) (by omega)) (by first | exact (fun j _ => hi3 392 j) | exact (fun j hj => (unm 392 j (by omega)).trans (hi5 j hj))) gSI (lv_sub hl [1, 2, 0] rfl) (by omega)
  · refine lv_aload_n hx hb dX12_image_25 rfl (lv_at hl 0 rfl) ?_
    refine fg_12_44 (k := 387) hx hb hts in_X12_image_12 hown hK hP (by decide) (by decide) (hts _ lk_X12_image_78) dX12_image_26 ?_
    refine r_sipush hx hb dX12_image_29 (by decide) (fun z4 ez4 => ?_)
    refine lv_iload_n hx hb dX12_image_32 rfl (lv_at hl 1 rfl) ?_
    refine r_imulL (n := 427) hx hb dX12_image_33 (by omega) (by omega) (fun z5 ez5 => ?_)
    refine lv_iload_n hx hb dX12_image_34 rfl (lv_at hl 2 rfl) ?_
    refine r_iadd hx hb dX12_image_35 (by omega) (fun z6 ez6 => ?_)
    refine lv_aload_n hx hb dX12_image_36 rfl (lv_at hl 0 rfl) ?_
    refine fg_12_6 (k := 387) hx hb hts in_X12_image_12 hown hK hP (by decide) (by decide) (hts _ lk_X12_image_33) dX12_image_37 ?_
    refine lv_iload_n hx hb dX12_image_40 rfl (lv_at hl 2 rfl) ?_
    obtain ⟨j7, ej7⟩ : ∃ j : Nat, x2.toInt = (j : Int) := ⟨_, ti_nat (by omega)⟩
    refine ad_ms (k := 389) (j := j7) hx hb hK hP (by decide) (by decide) ej7 (by omega) dX12_image_41 ?_
    obtain ⟨j8, ej8⟩ : ∃ j : Nat, z6.toInt = (j : Int) := ⟨_, ti_nat (by omega)⟩
    refine as_mkept (k := 403) (j := j8) hx hb hK hP hI hR hS (by decide) (by decide) ej8 (by omega) (mc_ks hR (a1.toInt.toNat) (by omega) (by omega) (by omega)) dX12_image_42 (fun σ9 H9 locs9 u9 v9 hR hP hS => ?_)
    have us := u9
    have vs := v9
    have hF := hF.puts u9 1 rfl (by decide) (by decide) (by omega) (by omega)
    have gSI := SI.putV gSI hR u9 (by intro q hq; simp only [Gd_SI, List.mem_cons, List.not_mem_nil, or_false] at hq; rcases hq with rfl | rfl | rfl <;> dsimp only [inRc] <;> omega)
    refine r_iinc (k := 2) (lv1 := fun z10 => [(2, .int z10), (0, .ref (ad 387)), (1, .int a1)]) hx hb dX12_image_43 hl rfl (by decide) (fun _ => rfl) (by decide) (by omega) (fun z10 ls ez10 hl => ?_)
    refine lv_goto (tgt := 18) hx hb dX12_image_46 (by decide) ?_
    exact K18 σ9 τ H9 locs9 z10 ls hR hF hFL hP hS (by omega) (by omega) (by first | exact (fun i j _ hj => absurd hj (by omega)) | exact I1st hi0 us vs (by omega) (by omega) (by omega) (by omega) (by omega)) (by first | exact (fun k j _ _ _ => u0 403 _ (by omega)) | exact I2st (x := x2.toInt) hi1 us (by omega) (by omega) (by omega)) (by first | exact (fun k _ => u0 405 k (by omega)) | exact (fun k hk => (us 405 k (by omega)).trans (hi2 k hk))) (by first | exact (fun _ _ => rfl) | exact hi3) gSI (lv_sub hl [1, 2, 0] rfl) (by omega)
set_option maxHeartbeats 4000000 in
theorem B_X12_image_51 (p : Program) (l : Launch) (e : Env) (s : State) (m : MethodId) (args : Array Value) (below : List Frame) (meth : Method) (c : Code) (D : va_G) (cA : Nat → ClassId) (ad : Nat → Nat) (σ0 : Nat → Nat → Int32) (τ0 : Nat → Nat → Int64) (a1 : Int32) (n : Nat) (C : Cy p s m args meth c cX12_image 3 wsX12_image RX12 D cA ad (some .boolean)) (gSI0 : SI σ0) (gSIK0 : SIK σ0) (K18 : J_X12_image_18 p l e s m args below meth c D cA ad σ0 τ0 a1 n) (K51 : J_X12_image_51 p l e s m args below meth c D cA ad σ0 τ0 a1 n) : J_X12_image_51 p l e s m args below meth c D cA ad σ0 τ0 a1 (n + 1) := by
  obtain ⟨hx, hb, hml, hown, hts, hK, hk, hr, hI, hN⟩ := C
  intro σ τ H locs x2 ls hR hF hFL hP hS hc0 hc1 hi0 hi1 hi2 hi3 hi4 hi5 gSI hl hm
  refine lv_iload_n hx hb dX12_image_51 rfl (lv_at hl 2 rfl) ?_
  refine r_bipush hx hb dX12_image_52 (by decide) (fun z1 ez1 => ?_)
  refine r_icmp_ge (tgt := 80) hx hb dX12_image_54 (by decide) (fun c2 => ?_) (fun c2 => ?_)
  · refine lv_aload_n hx hb dX12_image_80 rfl (lv_at hl 0 rfl) ?_
    refine fg_12_46 (k := 387) hx hb hts in_X12_image_12 hown hK hP (by decide) (by decide) (hts _ lk_X12_image_84) dX12_image_81 ?_
    refine lv_iload_n hx hb dX12_image_84 rfl (lv_at hl 1 rfl) ?_
    refine r_iconst hx hb dX12_image_85 (by decide) (fun z3 ez3 => ?_)
    obtain ⟨j4, ej4⟩ : ∃ j : Nat, a1.toInt = (j : Int) := ⟨_, ti_nat (by omega)⟩
    refine as_mareKept (k := 405) (j := j4) hx hb hK hP hI hR hS (by decide) (by decide) ej4 (by omega) (by omega) dX12_image_86 (fun σ5 H5 locs5 u5 v5 hR hP hS => ?_)
    have uk := u5
    have vk := v5
    have hF := hF.puts u5 2 rfl (by decide) (by decide) (by omega) (by omega)
    have gSI := SI.putV gSI hR u5 (by intro q hq; simp only [Gd_SI, List.mem_cons, List.not_mem_nil, or_false] at hq; rcases hq with rfl | rfl | rfl <;> dsimp only [inRc] <;> omega)
    refine r_iconst hx hb dX12_image_87 (by decide) (fun z6 ez6 => ?_)
    exact r_zret hx hb hr hK hP hS hk (by omega) dX12_image_88 (show P_X12_image σ0 τ0 a1 z6 σ5 τ from ⟨hR, hF, hFL, by omega, by first | exact IMm.no u0 (by omega) | exact IMm.of (i := j4) (by omega) (by omega) hF (by decide) hi0 hi1 hi2 uk (by omega), by first | exact Or.inl ⟨by omega, fun _ => rfl⟩ | exact INm.of (i := j4) (by omega) (by omega) (fun i j h1 h2 => hi3 i j h1 (by omega)) hi4, gSI, SIK.im gSIK0 gSI hR hi0 hi1 hi2 uk (by omega)⟩)
  · refine lv_aload_n hx hb dX12_image_57 rfl (lv_at hl 0 rfl) ?_
    refine fg_12_45 (k := 387) hx hb hts in_X12_image_12 hown hK hP (by decide) (by decide) (hts _ lk_X12_image_81) dX12_image_58 ?_
    refine r_bipush hx hb dX12_image_61 (by decide) (fun z7 ez7 => ?_)
    refine lv_iload_n hx hb dX12_image_63 rfl (lv_at hl 1 rfl) ?_
    refine r_imulL (n := 16) hx hb dX12_image_64 (by omega) (by omega) (fun z8 ez8 => ?_)
    refine lv_iload_n hx hb dX12_image_65 rfl (lv_at hl 2 rfl) ?_
    refine r_iadd hx hb dX12_image_66 (by omega) (fun z9 ez9 => ?_)
    refine lv_aload_n hx hb dX12_image_67 rfl (lv_at hl 0 rfl) ?_
    refine fg_12_9 (k := 387) hx hb hts in_X12_image_12 hown hK hP (by decide) (by decide) (hts _ lk_X12_image_43) dX12_image_68 ?_
    refine lv_iload_n hx hb dX12_image_71 rfl (lv_at hl 2 rfl) ?_
    obtain ⟨j10, ej10⟩ : ∃ j : Nat, x2.toInt = (j : Int) := ⟨_, ti_nat (by omega)⟩
    refine adL_mnames (k := 392) (j := j10) hx hb hK hP (by decide) (by decide) ej10 (by omega) dX12_image_72 ?_
    obtain ⟨j11, ej11⟩ : ∃ j : Nat, z9.toInt = (j : Int) := ⟨_, ti_nat (by omega)⟩
    refine asL_mnamesKept (k := 404) (j := j11) hx hb hK hP hI hS (by decide) (by decide) ej11 (by omega) dX12_image_73 (fun τ12 H12 locs12 uL12 vL12 hP hS => ?_)
    have unm := uL12
    have vnm := vL12
    have hFL := hFL.puts uL12 0 rfl (by decide) (by decide) (by omega) (by omega)
    refine r_iinc (k := 2) (lv1 := fun z13 => [(2, .int z13), (0, .ref (ad 387)), (1, .int a1)]) hx hb dX12_image_74 hl rfl (by decide) (fun _ => rfl) (by decide) (by omega) (fun z13 ls ez13 hl => ?_)
    refine lv_goto (tgt := 51) hx hb dX12_image_77 (by decide) ?_
    exact K51 σ τ12 H12 locs12 z13 ls hR hF hFL hP hS (by omega) (by omega) (by first | exact hi0 | exact (fun i j h1 h2 => hi0 i j h1 (by omega))) (by exact hi1) (by exact hi2) (by first | exact (fun i j _ hj => absurd hj (by omega)) | exact In_s hi3 (hi5 _ (by omega)) unm vnm (by omega) (by omega) (by omega)) (by first | exact (fun k j _ _ _ => hi3 404 _) | exact In_o (x := x2.toInt) hi4 unm (by omega) (by omega) (by omega)) (by first | exact (fun j _ => hi3 392 j) | exact (fun j hj => (unm 392 j (by omega)).trans (hi5 j hj))) gSI (lv_sub hl [1, 2, 0] rfl) (by omega)
theorem A_X12_image (p : Program) (l : Launch) (e : Env) (s : State) (m : MethodId) (args : Array Value) (below : List Frame) (meth : Method) (c : Code) (D : va_G) (cA : Nat → ClassId) (ad : Nat → Nat) (σ0 : Nat → Nat → Int32) (τ0 : Nat → Nat → Int64) (a1 : Int32) (C : Cy p s m args meth c cX12_image 3 wsX12_image RX12 D cA ad (some .boolean)) (gSI0 : SI σ0) (gSIK0 : SIK σ0) : ∀ n : Nat, J_X12_image_18 p l e s m args below meth c D cA ad σ0 τ0 a1 n ∧ J_X12_image_51 p l e s m args below meth c D cA ad σ0 τ0 a1 n := by
  intro n
  induction n with
  | zero =>
    exact ⟨(by intro σ τ H locs x2 ls hR hF hFL hP hS hc0 hc1 hi0 hi1 hi2 hi3 gSI hl hm; exfalso; omega), (by intro σ τ H locs x2 ls hR hF hFL hP hS hc0 hc1 hi0 hi1 hi2 hi3 hi4 hi5 gSI hl hm; exfalso; omega)⟩
  | succ n ih =>
    exact ⟨B_X12_image_18 p l e s m args below meth c D cA ad σ0 τ0 a1 n C gSI0 gSIK0 ih.1 ih.2, B_X12_image_51 p l e s m args below meth c D cA ad σ0 τ0 a1 n C gSI0 gSIK0 ih.1 ih.2⟩
set_option maxHeartbeats 4000000 in
theorem c_X12_image (l : Launch) (D : va_G) (cA : Nat → ClassId) (ad : Nat → Nat) (hI : Inj ad) (σ0 : Nat → Nat → Int32) (τ0 : Nat → Nat → Int64) (hR : Rg σ0) (a1 : Int32) (gSI0 : SI σ0) (gSIK0 : SIK σ0) : Met l yX12_image wsX12_image ({ frames := 1, cells := 0, slots := 0, locals := 22 } : Room) (WQc D cA ad [.ref (ad 387), .int a1] σ0 τ0) (va_Qi (fun (r : Int32) (u : SS) => P_X12_image σ0 τ0 a1 r u.1 u.2) (WB D cA ad) (AA ad)) 0 0 (AA ad) := by
  refine Met.ofW (cc := cX12_image) (maxL := 3) (ret := (some .boolean)) (by decide) rfl ?_
  intro p e s m args below meth c s₁ B hml hv
  obtain ⟨rfl, hP, hK, hN⟩ := hv
  have C : Cy p s m _ meth c cX12_image 3 wsX12_image RX12 D cA ad (some .boolean) := ⟨B.exec, B.bytes, hml, findClass_of_methodNamed B.named, atoms_spec (ws := wsX12_image) B.pre, hK, B.notSynchronized, B.returns, hI, hN⟩
  have hl := lv_entry ([.ref (ad 387), .int a1]) (n := 3) (Nat.le_of_ble_eq_true rfl)
  rw [lg_entry_eq]
  generalize (lg_sl ([.ref (ad 387), .int a1]) ++ List.replicate (3 - (lg_sl ([.ref (ad 387), .int a1])).length) Slot.unset).toArray = ls at hl ⊢
  have hl : lv_has ls 3 [(0, .ref (ad 387)), (1, .int a1)] := hl
  have hS : va_S (AA ad) s.heap s.heap [] := va_S.rf
  have hF : Fr L_X12_image σ0 σ0 := Fr.rf
  have hFL : FrL LL_X12_image τ0 τ0 := FrL.rf
  have gSI := gSI0
  have gSIK := gSIK0
  have hA := A_X12_image p l e s m _ below meth c D cA ad σ0 τ0 a1 C gSI0 gSIK0 38099
  have K18 := hA.1
  have K51 := hA.2
  clear hA
  obtain ⟨hx, hb, _, hown, hts, _, hk, hr, _, _⟩ := C
  refine lv_aload_n hx hb dX12_image_0 rfl (lv_at hl 0 rfl) ?_
  refine r_iconst hx hb dX12_image_1 (by decide) (fun z1 ez1 => ?_)
  refine fp_12_0 (k := 387) hx hb hts in_X12_image_12 hown hK hP (by decide) (by decide) (hts _ lk_X12_image_1) hI hR hS (by omega) dX12_image_2 (fun σ2 H2 locs2 u2 v2 hR hP hS => ?_)
  have u0 := u2
  have v0 := v2
  have hF := hF.puts u2 0 rfl (by decide) (by decide) (by decide) (by decide)
  have gSI := SI.put gSI hR u2 (by decide)
  have gSIK := SIK.put gSIK hR u2 (by decide)
  refine lv_iload_n hx hb dX12_image_5 rfl (lv_at hl 1 rfl) ?_
  refine r_iconst hx hb dX12_image_6 (by decide) (fun z3 ez3 => ?_)
  refine r_iconst hx hb dX12_image_7 (by decide) (fun z4 ez4 => ?_)
  refine r_cSi (As := [.int a1, .int z3, .int z4]) (rest := []) ⟨hx, hb, hml, hown, hts⟩ hK hP hN hS (c_X12_isIn l D cA ad hI σ2 τ0 hR a1 z3 z4) (va_cwS 3 hts gX12_image_X12_isIn rfl rfl rfl (by decide +kernel) ⟨by decide, by decide⟩) rfl hl.1 rfl (Nat.le_of_ble_eq_true rfl) dX12_image_8 (Nat.zero_le _) (Nat.zero_le _) (fun r5 u5 H5 locs5 hp5 hP hS => ?_)
  obtain ⟨σ5, τ5⟩ := u5
  obtain ⟨hR, f5, fL5, hq5, hp5_0, hp5_1⟩ : P_X12_isIn σ2 τ0 a1 z3 z4 r5 σ5 τ5 := hp5
  have hP : va_P D vwCl (gw cA ad σ5 τ5) H5 := hP
  obtain rfl := FrL.nil fL5
  obtain rfl := Fr.nil f5
  refine r_if_ne (tgt := 16) hx hb dX12_image_11 (by decide) (fun c6 => ?_) (fun c6 => ?_)
  · replace hp5_0 := hp5_0.resolve_left (by omega)
    refine r_iconst hx hb dX12_image_16 (by decide) (fun z7 ez7 => ?_)
    refine lv_istore_n (lv' := [(2, .int z7), (0, .ref (ad 387)), (1, .int a1)]) hx hb dX12_image_17 rfl hl (by decide) rfl (fun ls hl => ?_)
    exact K18 σ2 τ0 H5 locs5 z7 ls hR hF hFL hP hS (by omega) (by omega) (by first | exact (fun i j _ hj => absurd hj (by omega)) | exact I1st hi0 us vs (by omega) (by omega) (by omega) (by omega) (by omega)) (by first | exact (fun k j _ _ _ => u0 403 _ (by omega)) | exact I2st (x := x2.toInt) hi1 us (by omega) (by omega) (by omega)) (by first | exact (fun k _ => u0 405 k (by omega)) | exact (fun k hk => (us 405 k (by omega)).trans (hi2 k hk))) (by first | exact (fun _ _ => rfl) | exact hi3) gSI (lv_sub hl [1, 2, 0] rfl) (by omega)
  · clear hp5_0
    refine r_iconst hx hb dX12_image_14 (by decide) (fun z8 ez8 => ?_)
    exact r_zret hx hb hr hK hP hS hk (by omega) dX12_image_15 (show P_X12_image σ0 τ0 a1 z8 σ2 τ0 from ⟨hR, hF, hFL, by omega, by first | exact IMm.no u0 (by omega) | exact IMm.of (i := 0) (by omega) (by omega) hF (by decide) hi0 hi1 hi2 uk (by omega), by first | exact Or.inl ⟨by omega, fun _ => rfl⟩ | exact INm.of (i := 0) (by omega) (by omega) (fun i j h1 h2 => hi3 i j h1 (by omega)) hi4, gSI, gSIK⟩)
