theorem in_X12_restore_12 : ∀ w ∈ u_ws RX12 TX12 47, w ∈ wsX12_restore := by decide +kernel
theorem lk_X12_restore_1 : Cond.fieldLink RX12 1 "CuckooSharesModel" "thrown" "I" ∈ wsX12_restore := by decide +kernel
theorem lk_X12_restore_256 : Cond.fieldLink RX12 256 "CuckooSharesModel" "undoMany" "I" ∈ wsX12_restore := by decide +kernel
theorem lk_X12_restore_33 : Cond.fieldLink RX12 33 "CuckooSharesModel" "s" "[I" ∈ wsX12_restore := by decide +kernel
theorem lk_X12_restore_43 : Cond.fieldLink RX12 43 "CuckooSharesModel" "names" "[J" ∈ wsX12_restore := by decide +kernel
theorem lk_X12_restore_78 : Cond.fieldLink RX12 78 "CuckooSharesModel" "kept" "[I" ∈ wsX12_restore := by decide +kernel
theorem lk_X12_restore_81 : Cond.fieldLink RX12 81 "CuckooSharesModel" "namesKept" "[J" ∈ wsX12_restore := by decide +kernel
theorem lk_X12_restore_84 : Cond.fieldLink RX12 84 "CuckooSharesModel" "areKept" "[Z" ∈ wsX12_restore := by decide +kernel
abbrev L_X12_restore : List Rc := [(387, 387, 0, 0), (389, 389, 0, 426), (387, 387, 29, 29)]
abbrev LL_X12_restore : List Rc := [(392, 392, 0, 15)]
def P_X12_restore (σ0 : Nat → Nat → Int32) (τ0 : Nat → Nat → Int64) (a1 : Int32) (r : Int32) (σ : Nat → Nat → Int32) (τ : Nat → Nat → Int64) : Prop := Rg σ ∧ Fr L_X12_restore σ0 σ ∧ FrL LL_X12_restore τ0 τ ∧ (0 ≤ r.toInt ∧ r.toInt ≤ 1) ∧ (RSm σ0 σ a1) ∧ (RNm σ0 τ0 τ a1) ∧ SI σ ∧ SIK σ
def J_X12_restore_27 (p : Program) (l : Launch) (e : Env) (s : State) (m : MethodId) (args : Array Value) (below : List Frame) (meth : Method) (c : Code) (D : va_G) (cA : Nat → ClassId) (ad : Nat → Nat) (σ0 : Nat → Nat → Int32) (τ0 : Nat → Nat → Int64) (a1 : Int32) (n : Nat) : Prop := ∀ (σ : Nat → Nat → Int32) (τ : Nat → Nat → Int64) (H : Heap) (locs : List Loc) (x2 : Int32) (ls : Array Slot), Rg σ → Fr L_X12_restore σ0 σ → FrL LL_X12_restore τ0 τ → va_P D vwCl (gw cA ad σ τ) H → va_S (AA ad) s.heap H locs → (0 ≤ a1.toInt ∧ a1.toInt ≤ 1) → (0 ≤ x2.toInt ∧ x2.toInt ≤ 441) → (∀ i j : Nat, a1.toInt = (i : Int) → (j : Int) < x2.toInt → σ 389 j = σ 403 (427 * i + j)) → (∀ i : Nat, a1.toInt = (i : Int) → (σ 405 i).toInt ≠ 0) → (∀ k j : Nat, τ k j = τ0 k j) → (SIK σ) → lv_has ls 3 [(0, .ref (ad 387)), (1, .int a1), (2, .int x2)] → 43 * (441 - x2.toInt) + 42 < (n : Int) → W p l e ({ frames := 1, cells := 0, slots := 0, locals := 22 } : Room) s m args below meth c H locs 0 0 (MQ below (va_Qi (fun (r : Int32) (u : SS) => P_X12_restore σ0 τ0 a1 r u.1 u.2) (WB D cA ad) (AA ad)) args s 0 0 (AA ad)) (F0 m 27 ls [])
def J_X12_restore_60 (p : Program) (l : Launch) (e : Env) (s : State) (m : MethodId) (args : Array Value) (below : List Frame) (meth : Method) (c : Code) (D : va_G) (cA : Nat → ClassId) (ad : Nat → Nat) (σ0 : Nat → Nat → Int32) (τ0 : Nat → Nat → Int64) (a1 : Int32) (n : Nat) : Prop := ∀ (σ : Nat → Nat → Int32) (τ : Nat → Nat → Int64) (H : Heap) (locs : List Loc) (x2 : Int32) (ls : Array Slot), Rg σ → Fr L_X12_restore σ0 σ → FrL LL_X12_restore τ0 τ → va_P D vwCl (gw cA ad σ τ) H → va_S (AA ad) s.heap H locs → (0 ≤ a1.toInt ∧ a1.toInt ≤ 1) → (0 ≤ x2.toInt ∧ x2.toInt ≤ 19) → (∀ i j : Nat, a1.toInt = (i : Int) → (j : Int) < x2.toInt → τ 392 j = τ0 404 (16 * i + j)) → (∀ j : Nat, τ 404 j = τ0 404 j) → (SI σ) → (SIK σ) → (RT σ σ0 a1) → lv_has ls 3 [(0, .ref (ad 387)), (1, .int a1), (2, .int x2)] → 2 * (19 - x2.toInt) + 1 < (n : Int) → W p l e ({ frames := 1, cells := 0, slots := 0, locals := 22 } : Room) s m args below meth c H locs 0 0 (MQ below (va_Qi (fun (r : Int32) (u : SS) => P_X12_restore σ0 τ0 a1 r u.1 u.2) (WB D cA ad) (AA ad)) args s 0 0 (AA ad)) (F0 m 60 ls [])
set_option maxHeartbeats 4000000 in
theorem B_X12_restore_27 (p : Program) (l : Launch) (e : Env) (s : State) (m : MethodId) (args : Array Value) (below : List Frame) (meth : Method) (c : Code) (D : va_G) (cA : Nat → ClassId) (ad : Nat → Nat) (σ0 : Nat → Nat → Int32) (τ0 : Nat → Nat → Int64) (a1 : Int32) (n : Nat) (C : Cy p s m args meth c cX12_restore 3 wsX12_restore RX12 D cA ad (some .boolean)) (gSI0 : SI σ0) (gSIK0 : SIK σ0) (K27 : J_X12_restore_27 p l e s m args below meth c D cA ad σ0 τ0 a1 n) (K60 : J_X12_restore_60 p l e s m args below meth c D cA ad σ0 τ0 a1 n) : J_X12_restore_27 p l e s m args below meth c D cA ad σ0 τ0 a1 (n + 1) := by
  obtain ⟨hx, hb, hml, hown, hts, hK, hk, hr, hI, hN⟩ := C
  intro σ τ H locs x2 ls hR hF hFL hP hS hc0 hc1 hi0 hi1 hi2 gSIK hl hm
  refine lv_iload_n hx hb dX12_restore_27 rfl (lv_at hl 2 rfl) ?_
  refine r_sipush hx hb dX12_restore_28 (by decide) (fun z1 ez1 => ?_)
  refine r_icmp_ge (tgt := 58) hx hb dX12_restore_31 (by decide) (fun c2 => ?_) (fun c2 => ?_)
  · have gSI := SI.rest gSIK hR (fun i hi => hi1 i hi) (fun i j h1 h2 => hi0 i j h1 (by omega)) (by omega) (by omega)
    have gRT : RT σ σ0 a1 := RT.of hF (by decide) (by omega) (by omega) (fun i hi => hi1 i hi) (fun i j h1 h2 => hi0 i j h1 (by omega))
    refine r_iconst hx hb dX12_restore_58 (by decide) (fun z3 ez3 => ?_)
    refine lv_istore_n (lv' := [(2, .int z3), (0, .ref (ad 387)), (1, .int a1)]) hx hb dX12_restore_59 rfl hl (by decide) rfl (fun ls hl => ?_)
    exact K60 σ τ H locs z3 ls hR hF hFL hP hS (by omega) (by omega) (by first | exact (fun i j _ hj => absurd hj (by omega)) | exact Rn_s hi0 (hi1 _) unm vnm (by omega) (by omega) (by omega)) (by first | exact (fun j => hi2 404 j) | exact (fun j => (unm 404 j (by omega)).trans (hi1 j))) gSI gSIK gRT (lv_sub hl [1, 2, 0] rfl) (by omega)
  · refine lv_aload_n hx hb dX12_restore_34 rfl (lv_at hl 0 rfl) ?_
    refine fg_12_6 (k := 387) hx hb hts in_X12_restore_12 hown hK hP (by decide) (by decide) (hts _ lk_X12_restore_33) dX12_restore_35 ?_
    refine lv_iload_n hx hb dX12_restore_38 rfl (lv_at hl 2 rfl) ?_
    refine lv_aload_n hx hb dX12_restore_39 rfl (lv_at hl 0 rfl) ?_
    refine fg_12_44 (k := 387) hx hb hts in_X12_restore_12 hown hK hP (by decide) (by decide) (hts _ lk_X12_restore_78) dX12_restore_40 ?_
    refine r_sipush hx hb dX12_restore_43 (by decide) (fun z4 ez4 => ?_)
    refine lv_iload_n hx hb dX12_restore_46 rfl (lv_at hl 1 rfl) ?_
    refine r_imulL (n := 427) hx hb dX12_restore_47 (by omega) (by omega) (fun z5 ez5 => ?_)
    refine lv_iload_n hx hb dX12_restore_48 rfl (lv_at hl 2 rfl) ?_
    refine r_iadd hx hb dX12_restore_49 (by omega) (fun z6 ez6 => ?_)
    obtain ⟨j7, ej7⟩ : ∃ j : Nat, z6.toInt = (j : Int) := ⟨_, ti_nat (by omega)⟩
    refine ad_mkept (k := 403) (j := j7) hx hb hK hP (by decide) (by decide) ej7 (by omega) dX12_restore_50 ?_
    obtain ⟨j8, ej8⟩ : ∃ j : Nat, x2.toInt = (j : Int) := ⟨_, ti_nat (by omega)⟩
    refine as_ms (k := 389) (j := j8) hx hb hK hP hI hR hS (by decide) (by decide) ej8 (by omega) (mc_sk hR (a1.toInt.toNat) (by omega) (by omega) (by omega)) dX12_restore_51 (fun σ9 H9 locs9 u9 v9 hR hP hS => ?_)
    have us := u9
    have vs := v9
    have hF := hF.puts u9 1 rfl (by decide) (by decide) (by omega) (by omega)
    have gSIK := SIK.putV gSIK hR u9 (by intro q hq; simp only [Gd_SIK, List.mem_cons, List.not_mem_nil, or_false] at hq; rcases hq with rfl | rfl <;> dsimp only [inRc] <;> omega)
    have t10 : (σ9 403 j7).toInt = (σ 403 j7).toInt := congrArg Int32.toInt (u9 403 j7 (by omega))
    refine r_iinc (k := 2) (lv1 := fun z11 => [(2, .int z11), (0, .ref (ad 387)), (1, .int a1)]) hx hb dX12_restore_52 hl rfl (by decide) (fun _ => rfl) (by decide) (by omega) (fun z11 ls ez11 hl => ?_)
    refine lv_goto (tgt := 27) hx hb dX12_restore_55 (by decide) ?_
    exact K27 σ9 τ H9 locs9 z11 ls hR hF hFL hP hS (by omega) (by omega) (by first | exact (fun i j _ hj => absurd hj (by omega)) | exact R1st hi0 us vs (by omega) (by omega) (by omega) (by omega) (by omega)) (by first | exact (fun i hi => by rw [us 405 i (by omega)]; exact hi1 i hi) | exact (fun i hi => by have ej : i = 0 := (by omega); subst ej; omega)) (by first | exact (fun _ _ => rfl) | exact hi2) gSIK (lv_sub hl [1, 2, 0] rfl) (by omega)
set_option maxHeartbeats 4000000 in
theorem B_X12_restore_60 (p : Program) (l : Launch) (e : Env) (s : State) (m : MethodId) (args : Array Value) (below : List Frame) (meth : Method) (c : Code) (D : va_G) (cA : Nat → ClassId) (ad : Nat → Nat) (σ0 : Nat → Nat → Int32) (τ0 : Nat → Nat → Int64) (a1 : Int32) (n : Nat) (C : Cy p s m args meth c cX12_restore 3 wsX12_restore RX12 D cA ad (some .boolean)) (gSI0 : SI σ0) (gSIK0 : SIK σ0) (K27 : J_X12_restore_27 p l e s m args below meth c D cA ad σ0 τ0 a1 n) (K60 : J_X12_restore_60 p l e s m args below meth c D cA ad σ0 τ0 a1 n) : J_X12_restore_60 p l e s m args below meth c D cA ad σ0 τ0 a1 (n + 1) := by
  obtain ⟨hx, hb, hml, hown, hts, hK, hk, hr, hI, hN⟩ := C
  intro σ τ H locs x2 ls hR hF hFL hP hS hc0 hc1 hi0 hi1 gSI gSIK gRT hl hm
  refine lv_iload_n hx hb dX12_restore_60 rfl (lv_at hl 2 rfl) ?_
  refine r_bipush hx hb dX12_restore_61 (by decide) (fun z1 ez1 => ?_)
  refine r_icmp_ge (tgt := 89) hx hb dX12_restore_63 (by decide) (fun c2 => ?_) (fun c2 => ?_)
  · refine lv_aload_n hx hb dX12_restore_89 rfl (lv_at hl 0 rfl) ?_
    refine r_iconst hx hb dX12_restore_90 (by decide) (fun z3 ez3 => ?_)
    refine fp_12_29 (k := 387) hx hb hts in_X12_restore_12 hown hK hP (by decide) (by decide) (hts _ lk_X12_restore_256) hI hR hS (by omega) dX12_restore_91 (fun σ4 H4 locs4 u4 v4 hR hP hS => ?_)
    have hF := hF.puts u4 2 rfl (by decide) (by decide) (by decide) (by decide)
    have gRT := gRT.ag (Agr.put u4 (by decide))
    have gSI := SI.put gSI hR u4 (by decide)
    have gSIK := SIK.put gSIK hR u4 (by decide)
    refine r_iconst hx hb dX12_restore_94 (by decide) (fun z5 ez5 => ?_)
    exact r_zret hx hb hr hK hP hS hk (by omega) dX12_restore_95 (show P_X12_restore σ0 τ0 a1 z5 σ4 τ from ⟨hR, hF, hFL, by omega, by first | exact RSm.no u0 (by omega) | exact RSm.n0 (i := 0) u0 (by omega) (by omega) (by omega) | exact Or.inr ⟨by omega, by omega, gRT⟩, by first | exact RNm.no (σ := σ4) (by omega) | exact RNm.n0 (i := 0) u0 (by omega) (by omega) (by omega) | exact RNm.of gRT (by omega) (by omega) (fun i j h1 h2 => hi0 i j h1 (by omega)), gSI, gSIK⟩)
  · refine lv_aload_n hx hb dX12_restore_66 rfl (lv_at hl 0 rfl) ?_
    refine fg_12_9 (k := 387) hx hb hts in_X12_restore_12 hown hK hP (by decide) (by decide) (hts _ lk_X12_restore_43) dX12_restore_67 ?_
    refine lv_iload_n hx hb dX12_restore_70 rfl (lv_at hl 2 rfl) ?_
    refine lv_aload_n hx hb dX12_restore_71 rfl (lv_at hl 0 rfl) ?_
    refine fg_12_45 (k := 387) hx hb hts in_X12_restore_12 hown hK hP (by decide) (by decide) (hts _ lk_X12_restore_81) dX12_restore_72 ?_
    refine r_bipush hx hb dX12_restore_75 (by decide) (fun z6 ez6 => ?_)
    refine lv_iload_n hx hb dX12_restore_77 rfl (lv_at hl 1 rfl) ?_
    refine r_imulL (n := 16) hx hb dX12_restore_78 (by omega) (by omega) (fun z7 ez7 => ?_)
    refine lv_iload_n hx hb dX12_restore_79 rfl (lv_at hl 2 rfl) ?_
    refine r_iadd hx hb dX12_restore_80 (by omega) (fun z8 ez8 => ?_)
    obtain ⟨j9, ej9⟩ : ∃ j : Nat, z8.toInt = (j : Int) := ⟨_, ti_nat (by omega)⟩
    refine adL_mnamesKept (k := 404) (j := j9) hx hb hK hP (by decide) (by decide) ej9 (by omega) dX12_restore_81 ?_
    obtain ⟨j10, ej10⟩ : ∃ j : Nat, x2.toInt = (j : Int) := ⟨_, ti_nat (by omega)⟩
    refine asL_mnames (k := 392) (j := j10) hx hb hK hP hI hS (by decide) (by decide) ej10 (by omega) dX12_restore_82 (fun τ11 H11 locs11 uL11 vL11 hP hS => ?_)
    have unm := uL11
    have vnm := vL11
    have hFL := hFL.puts uL11 0 rfl (by decide) (by decide) (by omega) (by omega)
    refine r_iinc (k := 2) (lv1 := fun z12 => [(2, .int z12), (0, .ref (ad 387)), (1, .int a1)]) hx hb dX12_restore_83 hl rfl (by decide) (fun _ => rfl) (by decide) (by omega) (fun z12 ls ez12 hl => ?_)
    refine lv_goto (tgt := 60) hx hb dX12_restore_86 (by decide) ?_
    exact K60 σ τ11 H11 locs11 z12 ls hR hF hFL hP hS (by omega) (by omega) (by first | exact (fun i j _ hj => absurd hj (by omega)) | exact Rn_s hi0 (hi1 _) unm vnm (by omega) (by omega) (by omega)) (by first | exact (fun j => hi2 404 j) | exact (fun j => (unm 404 j (by omega)).trans (hi1 j))) gSI gSIK gRT (lv_sub hl [1, 2, 0] rfl) (by omega)
theorem A_X12_restore (p : Program) (l : Launch) (e : Env) (s : State) (m : MethodId) (args : Array Value) (below : List Frame) (meth : Method) (c : Code) (D : va_G) (cA : Nat → ClassId) (ad : Nat → Nat) (σ0 : Nat → Nat → Int32) (τ0 : Nat → Nat → Int64) (a1 : Int32) (C : Cy p s m args meth c cX12_restore 3 wsX12_restore RX12 D cA ad (some .boolean)) (gSI0 : SI σ0) (gSIK0 : SIK σ0) : ∀ n : Nat, J_X12_restore_27 p l e s m args below meth c D cA ad σ0 τ0 a1 n ∧ J_X12_restore_60 p l e s m args below meth c D cA ad σ0 τ0 a1 n := by
  intro n
  induction n with
  | zero =>
    exact ⟨(by intro σ τ H locs x2 ls hR hF hFL hP hS hc0 hc1 hi0 hi1 hi2 gSIK hl hm; exfalso; omega), (by intro σ τ H locs x2 ls hR hF hFL hP hS hc0 hc1 hi0 hi1 gSI gSIK gRT hl hm; exfalso; omega)⟩
  | succ n ih =>
    exact ⟨B_X12_restore_27 p l e s m args below meth c D cA ad σ0 τ0 a1 n C gSI0 gSIK0 ih.1 ih.2, B_X12_restore_60 p l e s m args below meth c D cA ad σ0 τ0 a1 n C gSI0 gSIK0 ih.1 ih.2⟩
set_option maxHeartbeats 4000000 in
theorem c_X12_restore (l : Launch) (D : va_G) (cA : Nat → ClassId) (ad : Nat → Nat) (hI : Inj ad) (σ0 : Nat → Nat → Int32) (τ0 : Nat → Nat → Int64) (hR : Rg σ0) (a1 : Int32) (gSI0 : SI σ0) (gSIK0 : SIK σ0) : Met l yX12_restore wsX12_restore ({ frames := 1, cells := 0, slots := 0, locals := 22 } : Room) (WQc D cA ad [.ref (ad 387), .int a1] σ0 τ0) (va_Qi (fun (r : Int32) (u : SS) => P_X12_restore σ0 τ0 a1 r u.1 u.2) (WB D cA ad) (AA ad)) 0 0 (AA ad) := by
  refine Met.ofW (cc := cX12_restore) (maxL := 3) (ret := (some .boolean)) (by decide) rfl ?_
  intro p e s m args below meth c s₁ B hml hv
  obtain ⟨rfl, hP, hK, hN⟩ := hv
  have C : Cy p s m _ meth c cX12_restore 3 wsX12_restore RX12 D cA ad (some .boolean) := ⟨B.exec, B.bytes, hml, findClass_of_methodNamed B.named, atoms_spec (ws := wsX12_restore) B.pre, hK, B.notSynchronized, B.returns, hI, hN⟩
  have hl := lv_entry ([.ref (ad 387), .int a1]) (n := 3) (Nat.le_of_ble_eq_true rfl)
  rw [lg_entry_eq]
  generalize (lg_sl ([.ref (ad 387), .int a1]) ++ List.replicate (3 - (lg_sl ([.ref (ad 387), .int a1])).length) Slot.unset).toArray = ls at hl ⊢
  have hl : lv_has ls 3 [(0, .ref (ad 387)), (1, .int a1)] := hl
  have hS : va_S (AA ad) s.heap s.heap [] := va_S.rf
  have hF : Fr L_X12_restore σ0 σ0 := Fr.rf
  have hFL : FrL LL_X12_restore τ0 τ0 := FrL.rf
  have gSI := gSI0
  have gSIK := gSIK0
  have hA := A_X12_restore p l e s m _ below meth c D cA ad σ0 τ0 a1 C gSI0 gSIK0 38099
  have K27 := hA.1
  have K60 := hA.2
  clear hA
  obtain ⟨hx, hb, _, hown, hts, _, hk, hr, _, _⟩ := C
  refine lv_aload_n hx hb dX12_restore_0 rfl (lv_at hl 0 rfl) ?_
  refine r_iconst hx hb dX12_restore_1 (by decide) (fun z1 ez1 => ?_)
  refine fp_12_0 (k := 387) hx hb hts in_X12_restore_12 hown hK hP (by decide) (by decide) (hts _ lk_X12_restore_1) hI hR hS (by omega) dX12_restore_2 (fun σ2 H2 locs2 u2 v2 hR hP hS => ?_)
  have u0 := u2
  have v0 := v2
  have hF := hF.puts u2 0 rfl (by decide) (by decide) (by decide) (by decide)
  have gSI := SI.put gSI hR u2 (by decide)
  have gSIK := SIK.put gSIK hR u2 (by decide)
  refine lv_iload_n hx hb dX12_restore_5 rfl (lv_at hl 1 rfl) ?_
  refine r_iconst hx hb dX12_restore_6 (by decide) (fun z3 ez3 => ?_)
  refine r_iconst hx hb dX12_restore_7 (by decide) (fun z4 ez4 => ?_)
  refine r_cSi (As := [.int a1, .int z3, .int z4]) (rest := []) ⟨hx, hb, hml, hown, hts⟩ hK hP hN hS (c_X12_isIn l D cA ad hI σ2 τ0 hR a1 z3 z4) (va_cwS 3 hts gX12_restore_X12_isIn rfl rfl rfl (by decide +kernel) ⟨by decide, by decide⟩) rfl hl.1 rfl (Nat.le_of_ble_eq_true rfl) dX12_restore_8 (Nat.zero_le _) (Nat.zero_le _) (fun r5 u5 H5 locs5 hp5 hP hS => ?_)
  obtain ⟨σ5, τ5⟩ := u5
  obtain ⟨hR, f5, fL5, hq5, hp5_0, hp5_1⟩ : P_X12_isIn σ2 τ0 a1 z3 z4 r5 σ5 τ5 := hp5
  have hP : va_P D vwCl (gw cA ad σ5 τ5) H5 := hP
  obtain rfl := FrL.nil fL5
  obtain rfl := Fr.nil f5
  refine r_if_eq (tgt := 23) hx hb dX12_restore_11 (by decide) (fun c6 => ?_) (fun c6 => ?_)
  · clear hp5_0
    refine r_iconst hx hb dX12_restore_23 (by decide) (fun z7 ez7 => ?_)
    exact r_zret hx hb hr hK hP hS hk (by omega) dX12_restore_24 (show P_X12_restore σ0 τ0 a1 z7 σ2 τ0 from ⟨hR, hF, hFL, by omega, by first | exact RSm.no u0 (by omega) | exact RSm.n0 (i := 0) u0 (by omega) (by omega) (by omega) | exact Or.inr ⟨by omega, by omega, gRT⟩, by first | exact RNm.no (σ := σ2) (by omega) | exact RNm.n0 (i := 0) u0 (by omega) (by omega) (by omega) | exact RNm.of gRT (by omega) (by omega) (fun i j h1 h2 => hi0 i j h1 (by omega)), gSI, gSIK⟩)
  · replace hp5_0 := hp5_0.resolve_left (by omega)
    refine lv_aload_n hx hb dX12_restore_14 rfl (lv_at hl 0 rfl) ?_
    refine fg_12_46 (k := 387) hx hb hts in_X12_restore_12 hown hK hP (by decide) (by decide) (hts _ lk_X12_restore_84) dX12_restore_15 ?_
    refine lv_iload_n hx hb dX12_restore_18 rfl (lv_at hl 1 rfl) ?_
    obtain ⟨j8, ej8⟩ : ∃ j : Nat, a1.toInt = (j : Int) := ⟨_, ti_nat (by omega)⟩
    refine ad_mareKept (k := 405) (j := j8) hx hb hK hP (by decide) (by decide) ej8 (by omega) dX12_restore_19 ?_
    refine r_if_ne (tgt := 25) hx hb dX12_restore_20 (by decide) (fun c9 => ?_) (fun c9 => ?_)
    · refine r_iconst hx hb dX12_restore_25 (by decide) (fun z10 ez10 => ?_)
      refine lv_istore_n (lv' := [(2, .int z10), (0, .ref (ad 387)), (1, .int a1)]) hx hb dX12_restore_26 rfl hl (by decide) rfl (fun ls hl => ?_)
      exact K27 σ2 τ0 H5 locs5 z10 ls hR hF hFL hP hS (by omega) (by omega) (by first | exact (fun i j _ hj => absurd hj (by omega)) | exact R1st hi0 us vs (by omega) (by omega) (by omega) (by omega) (by omega)) (by first | exact (fun i hi => by rw [us 405 i (by omega)]; exact hi1 i hi) | exact (fun i hi => by have ej : i = j8 := (by omega); subst ej; omega)) (by first | exact (fun _ _ => rfl) | exact hi2) gSIK (lv_sub hl [1, 2, 0] rfl) (by omega)
    · refine r_iconst hx hb dX12_restore_23 (by decide) (fun z11 ez11 => ?_)
      exact r_zret hx hb hr hK hP hS hk (by omega) dX12_restore_24 (show P_X12_restore σ0 τ0 a1 z11 σ2 τ0 from ⟨hR, hF, hFL, by omega, by first | exact RSm.no u0 (by omega) | exact RSm.n0 (i := j8) u0 (by omega) (by omega) (by omega) | exact Or.inr ⟨by omega, by omega, gRT⟩, by first | exact RNm.no (σ := σ2) (by omega) | exact RNm.n0 (i := j8) u0 (by omega) (by omega) (by omega) | exact RNm.of gRT (by omega) (by omega) (fun i j h1 h2 => hi0 i j h1 (by omega)), gSI, gSIK⟩)
theorem in_X12_count_12 : ∀ w ∈ u_ws RX12 TX12 47, w ∈ wsX12_count := by decide +kernel
theorem lk_X12_count_1 : Cond.fieldLink RX12 1 "CuckooSharesModel" "thrown" "I" ∈ wsX12_count := by decide +kernel
theorem lk_X12_count_33 : Cond.fieldLink RX12 33 "CuckooSharesModel" "s" "[I" ∈ wsX12_count := by decide +kernel
theorem lk_X12_count_7 : Cond.fieldLink RX12 7 "CuckooSharesModel" "length" "I" ∈ wsX12_count := by decide +kernel
abbrev L_X12_count : List Rc := [(387, 387, 0, 0)]
abbrev LL_X12_count : List Rc := []
def P_X12_count (σ0 : Nat → Nat → Int32) (τ0 : Nat → Nat → Int64) (a1 : Int32) (r : Int32) (σ : Nat → Nat → Int32) (τ : Nat → Nat → Int64) : Prop := Rg σ ∧ Fr L_X12_count σ0 σ ∧ FrL LL_X12_count τ0 τ ∧ (r.toInt = coH (fun j : Nat => (σ0 389 j).toInt) (σ0 387 2).toInt a1.toInt)
set_option maxHeartbeats 4000000 in
theorem c_X12_count (l : Launch) (D : va_G) (cA : Nat → ClassId) (ad : Nat → Nat) (hI : Inj ad) (σ0 : Nat → Nat → Int32) (τ0 : Nat → Nat → Int64) (hR : Rg σ0) (a1 : Int32) (gSI0 : SI σ0) : Met l yX12_count wsX12_count ({ frames := 1, cells := 0, slots := 0, locals := 22 } : Room) (WQc D cA ad [.ref (ad 387), .int a1] σ0 τ0) (va_Qi (fun (r : Int32) (u : SS) => P_X12_count σ0 τ0 a1 r u.1 u.2) (WB D cA ad) (AA ad)) 0 0 (AA ad) := by
  refine Met.ofW (cc := cX12_count) (maxL := 2) (ret := (some .int)) (by decide) rfl ?_
  intro p e s m args below meth c s₁ B hml hv
  obtain ⟨rfl, hP, hK, hN⟩ := hv
  have C : Cy p s m _ meth c cX12_count 2 wsX12_count RX12 D cA ad (some .int) := ⟨B.exec, B.bytes, hml, findClass_of_methodNamed B.named, atoms_spec (ws := wsX12_count) B.pre, hK, B.notSynchronized, B.returns, hI, hN⟩
  have hl := lv_entry ([.ref (ad 387), .int a1]) (n := 2) (Nat.le_of_ble_eq_true rfl)
  rw [lg_entry_eq]
  generalize (lg_sl ([.ref (ad 387), .int a1]) ++ List.replicate (2 - (lg_sl ([.ref (ad 387), .int a1])).length) Slot.unset).toArray = ls at hl ⊢
  have hl : lv_has ls 2 [(0, .ref (ad 387)), (1, .int a1)] := hl
  have hS : va_S (AA ad) s.heap s.heap [] := va_S.rf
  have hF : Fr L_X12_count σ0 σ0 := Fr.rf
  have hFL : FrL LL_X12_count τ0 τ0 := FrL.rf
  have gSI := gSI0
  obtain ⟨hx, hb, _, hown, hts, _, hk, hr, _, _⟩ := C
  refine lv_aload_n hx hb dX12_count_0 rfl (lv_at hl 0 rfl) ?_
  refine r_iconst hx hb dX12_count_1 (by decide) (fun z1 ez1 => ?_)
  refine fp_12_0 (k := 387) hx hb hts in_X12_count_12 hown hK hP (by decide) (by decide) (hts _ lk_X12_count_1) hI hR hS (by omega) dX12_count_2 (fun σ2 H2 locs2 u2 v2 hR hP hS => ?_)
  have u0 := u2
  have v0 := v2
  have hF := hF.puts u2 0 rfl (by decide) (by decide) (by decide) (by decide)
  have gSI := SI.put gSI hR u2 (by decide)
  refine lv_iload_n hx hb dX12_count_5 rfl (lv_at hl 1 rfl) ?_
  by_cases c3 : a1.toInt = 3
  · refine lv_tableIn (off := 26) (tgt := 32) hx hb dX12_count_6 (by omega) (by omega) (by rw [c3]; rfl) (by decide) ?_
    refine lv_aload_n hx hb dX12_count_32 rfl (lv_at hl 0 rfl) ?_
    refine r_cVi (k := 387) (As := []) (rest := []) ⟨hx, hb, hml, hown, hts⟩ hK hP hN hS (c_X12_chances l D cA ad hI σ2 τ0 hR gSI) (cwV 0 hts gX12_count_X12_chances rfl rfl rfl (by decide +kernel) ⟨by decide, by decide⟩) (rv_M hK hP (by decide) (by decide)) rfl hl.1 rfl (Nat.le_of_ble_eq_true rfl) dX12_count_33 (Nat.zero_le _) (Nat.zero_le _) (fun r4 u4 H4 locs4 hp4 hP hS => ?_)
    obtain ⟨σ4, τ4⟩ := u4
    obtain ⟨hR, f4, fL4, hq4, hp4_0, hp4_1⟩ : P_X12_chances σ2 τ0 r4 σ4 τ4 := hp4
    have hchz := hp4_0
    have hP : va_P D vwCl (gw cA ad σ4 τ4) H4 := hP
    obtain rfl := FrL.nil fL4
    obtain rfl := Fr.nil f4
    exact r_iret hx hb hr hK hP hS hk dX12_count_36 (show P_X12_count σ0 τ0 a1 r4 σ2 τ0 from ⟨hR, hF, hFL, by rw [← MS0 u0, ← (show (σ2 387 2).toInt = (σ0 387 2).toInt from congrArg Int32.toInt (u0 387 2 (by omega)))]; first | exact coH_of (by omega) | exact coH_of (Or.inr (Or.inr (Or.inr (Or.inl ⟨by omega, PF_ch hchz⟩)))) | exact coM (by omega) (by omega)⟩)
  by_cases c5 : a1.toInt = 4
  · refine lv_tableIn (off := 31) (tgt := 37) hx hb dX12_count_6 (by omega) (by omega) (by rw [c5]; rfl) (by decide) ?_
    refine lv_aload_n hx hb dX12_count_37 rfl (lv_at hl 0 rfl) ?_
    refine fg_12_6 (k := 387) hx hb hts in_X12_count_12 hown hK hP (by decide) (by decide) (hts _ lk_X12_count_33) dX12_count_38 ?_
    refine r_iconst hx hb dX12_count_41 (by decide) (fun z6 ez6 => ?_)
    refine ad_ms (k := 389) (j := 4) hx hb hK hP (by decide) (by decide) (by omega) (by omega) dX12_count_42 ?_
    exact r_iret hx hb hr hK hP hS hk dX12_count_43 (show P_X12_count σ0 τ0 a1 (σ2 389 4) σ2 τ0 from ⟨hR, hF, hFL, by rw [← MS0 u0, ← (show (σ2 387 2).toInt = (σ0 387 2).toInt from congrArg Int32.toInt (u0 387 2 (by omega)))]; first | exact coH_of (by omega) | exact coH_of (Or.inr (Or.inr (Or.inr (Or.inl ⟨by omega, PF_ch hchz⟩)))) | exact coM (by omega) (by omega)⟩)
  by_cases c7 : a1.toInt = 5
  · refine lv_tableIn (off := 38) (tgt := 44) hx hb dX12_count_6 (by omega) (by omega) (by rw [c7]; rfl) (by decide) ?_
    refine lv_aload_n hx hb dX12_count_44 rfl (lv_at hl 0 rfl) ?_
    refine fg_12_2 (k := 387) hx hb hts in_X12_count_12 hown hK hP (by decide) (by decide) (hts _ lk_X12_count_7) dX12_count_45 ?_
    have hr8 := rg_12_2 hR (k := 387) (by decide) (by decide)
    exact r_iret hx hb hr hK hP hS hk dX12_count_48 (show P_X12_count σ0 τ0 a1 (σ2 387 2) σ2 τ0 from ⟨hR, hF, hFL, by rw [← MS0 u0, ← (show (σ2 387 2).toInt = (σ0 387 2).toInt from congrArg Int32.toInt (u0 387 2 (by omega)))]; first | exact coH_of (by omega) | exact coH_of (Or.inr (Or.inr (Or.inr (Or.inl ⟨by omega, PF_ch hchz⟩)))) | exact coM (by omega) (by omega)⟩)
  refine lv_tableOut (tgt := 49) hx hb dX12_count_6 (by omega) (by decide) ?_
  refine lv_iload_n hx hb dX12_count_49 rfl (lv_at hl 1 rfl) ?_
  refine r_iconst hx hb dX12_count_50 (by decide) (fun z9 ez9 => ?_)
  refine r_iconst hx hb dX12_count_51 (by decide) (fun z10 ez10 => ?_)
  refine r_cSi (As := [.int a1, .int z9, .int z10]) (rest := []) ⟨hx, hb, hml, hown, hts⟩ hK hP hN hS (c_X12_isIn l D cA ad hI σ2 τ0 hR a1 z9 z10) (va_cwS 3 hts gX12_count_X12_isIn rfl rfl rfl (by decide +kernel) ⟨by decide, by decide⟩) rfl hl.1 rfl (Nat.le_of_ble_eq_true rfl) dX12_count_52 (Nat.zero_le _) (Nat.zero_le _) (fun r11 u11 H11 locs11 hp11 hP hS => ?_)
  obtain ⟨σ11, τ11⟩ := u11
  obtain ⟨hR, f11, fL11, hq11, hp11_0, hp11_1⟩ : P_X12_isIn σ2 τ0 a1 z9 z10 r11 σ11 τ11 := hp11
  have hP : va_P D vwCl (gw cA ad σ11 τ11) H11 := hP
  obtain rfl := FrL.nil fL11
  obtain rfl := Fr.nil f11
  refine r_if_eq (tgt := 67) hx hb dX12_count_55 (by decide) (fun c12 => ?_) (fun c12 => ?_)
  · clear hp11_0
    refine r_iconst hx hb dX12_count_67 (by decide) (fun z13 ez13 => ?_)
    exact r_iret hx hb hr hK hP hS hk dX12_count_68 (show P_X12_count σ0 τ0 a1 z13 σ2 τ0 from ⟨hR, hF, hFL, by rw [← MS0 u0, ← (show (σ2 387 2).toInt = (σ0 387 2).toInt from congrArg Int32.toInt (u0 387 2 (by omega)))]; first | exact coH_of (by omega) | exact coH_of (Or.inr (Or.inr (Or.inr (Or.inl ⟨by omega, PF_ch hchz⟩)))) | exact coM (by omega) (by omega)⟩)
  · replace hp11_0 := hp11_0.resolve_left (by omega)
    refine lv_aload_n hx hb dX12_count_58 rfl (lv_at hl 0 rfl) ?_
    refine fg_12_6 (k := 387) hx hb hts in_X12_count_12 hown hK hP (by decide) (by decide) (hts _ lk_X12_count_33) dX12_count_59 ?_
    refine lv_iload_n hx hb dX12_count_62 rfl (lv_at hl 1 rfl) ?_
    obtain ⟨j14, ej14⟩ : ∃ j : Nat, a1.toInt = (j : Int) := ⟨_, ti_nat (by omega)⟩
    refine ad_ms (k := 389) (j := j14) hx hb hK hP (by decide) (by decide) ej14 (by omega) dX12_count_63 ?_
    refine lv_goto (tgt := 68) hx hb dX12_count_64 (by decide) ?_
    exact r_iret hx hb hr hK hP hS hk dX12_count_68 (show P_X12_count σ0 τ0 a1 (σ2 389 j14) σ2 τ0 from ⟨hR, hF, hFL, by rw [← MS0 u0, ← (show (σ2 387 2).toInt = (σ0 387 2).toInt from congrArg Int32.toInt (u0 387 2 (by omega)))]; first | exact coH_of (by omega) | exact coH_of (Or.inr (Or.inr (Or.inr (Or.inl ⟨by omega, PF_ch hchz⟩)))) | exact coM (by omega) (by omega)⟩)
