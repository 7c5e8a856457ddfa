theorem in_X12_puts_12 : ∀ w ∈ u_ws RX12 TX12 47, w ∈ wsX12_puts := by decide +kernel
theorem lk_X12_puts_195 : Cond.fieldLink RX12 195 "CuckooSharesModel" "got" "I" ∈ wsX12_puts := by decide +kernel
theorem lk_X12_puts_37 : Cond.fieldLink RX12 37 "CuckooSharesModel" "h" "[I" ∈ wsX12_puts := by decide +kernel
abbrev L_X12_puts : List Rc := [(387, 387, 18, 18), (387, 387, 4, 4), (387, 387, 11, 16), (390, 390, 3, 210)]
def P_X12_puts (σ0 : Nat → Nat → Int32) (a1 : Int32) (a2 : Int32) (a3 : Int32) (r : Int32) (σ : Nat → Nat → Int32) : Prop := Rg σ ∧ Fr L_X12_puts σ0 σ ∧ (0 ≤ r.toInt ∧ r.toInt ≤ 1) ∧ ((σ0 387 4).toInt ≤ (σ 387 4).toInt) ∧ (r.toInt = 0 ∨ (σ 387 11).toInt ≠ 3 ∨ (σ0 387 4).toInt < (σ 387 4).toInt) ∧ (PT σ0 σ a1) ∧ (r.toInt = 0 ∨ (∀ j : Nat, (j : Int) = a1.toInt → a2.toInt ≤ (σ 390 j).toInt ∧ (σ 390 j).toInt ≤ a3.toInt)) ∧ HI σ
set_option maxHeartbeats 4000000 in
theorem c_X12_puts (l : Launch) (D : va_G) (cA : Nat → ClassId) (ad : Nat → Nat) (hI : Inj ad) (σ0 : Nat → Nat → Int32) (τ0 : Nat → Nat → Int64) (hR : Rg σ0) (a1 : Int32) (a2 : Int32) (a3 : Int32) (ha1 : 3 ≤ a1.toInt ∧ a1.toInt ≤ 210) (ha3 : 9 ≤ a3.toInt ∧ a3.toInt ≤ 999) (hq0 : a1.toInt ≤ 30 ∨ (39 ≤ a1.toInt ∧ a1.toInt ≤ 62) ∨ (71 ≤ a1.toInt ∧ a1.toInt ≤ 86) ∨ 91 ≤ a1.toInt) (hq1 : a1.toInt < 79 ∨ 82 < a1.toInt ∨ (1 ≤ a2.toInt ∧ a3.toInt ≤ 9)) (gHI0 : HI σ0) : Met l yX12_puts wsX12_puts ({ frames := 3, cells := 0, slots := 0, locals := 65 } : Room) (WQc D cA ad [.ref (ad 387), .int a1, .int a2, .int a3] σ0 τ0) (va_Qi (fun (r : Int32) (u : SS) => P_X12_puts σ0 a1 a2 a3 r u.1) (WB D cA ad) (AA ad)) 0 0 (AA ad) := by
  refine Met.ofW (cc := cX12_puts) (maxL := 4) (ret := (some .boolean)) (by decide) rfl ?_
  intro p e s m args below meth c s₁ B hml hv
  obtain ⟨rfl, hP, hK, hN⟩ := hv
  have C : Cy p s m _ meth c cX12_puts 4 wsX12_puts RX12 D cA ad (some .boolean) := ⟨B.exec, B.bytes, hml, findClass_of_methodNamed B.named, atoms_spec (ws := wsX12_puts) B.pre, hK, B.notSynchronized, B.returns, hI, hN⟩
  have hl := lv_entry ([.ref (ad 387), .int a1, .int a2, .int a3]) (n := 4) (Nat.le_of_ble_eq_true rfl)
  rw [lg_entry_eq]
  generalize (lg_sl ([.ref (ad 387), .int a1, .int a2, .int a3]) ++ List.replicate (4 - (lg_sl ([.ref (ad 387), .int a1, .int a2, .int a3])).length) Slot.unset).toArray = ls at hl ⊢
  have hl : lv_has ls 4 [(0, .ref (ad 387)), (1, .int a1), (2, .int a2), (3, .int a3)] := hl
  have hS : va_S (AA ad) s.heap s.heap [] := va_S.rf
  have hF : Fr L_X12_puts σ0 σ0 := Fr.rf
  have gHI := gHI0
  obtain ⟨hx, hb, _, hown, hts, _, hk, hr, _, _⟩ := C
  have hrt4 := rg_12_4 hR (k := 387) (by decide) (by decide)
  have hrt3 := rg_12_3 hR (k := 387) (by decide) (by decide)
  refine lv_aload_n hx hb dX12_puts_0 rfl (lv_at hl 0 rfl) ?_
  refine lv_iload_n hx hb dX12_puts_1 rfl (lv_at hl 2 rfl) ?_
  refine lv_iload_n hx hb dX12_puts_2 rfl (lv_at hl 3 rfl) ?_
  refine r_cVi (k := 387) (As := [.int a2, .int a3]) (rest := []) ⟨hx, hb, hml, hown, hts⟩ hK hP hN hS (c_X12_takes l D cA ad hI σ0 τ0 hR a2 a3 (by omega)) (cwV 2 hts gX12_puts_X12_takes rfl rfl rfl (by decide +kernel) ⟨by decide, by decide⟩) (rv_M hK hP (by decide) (by decide)) rfl hl.1 rfl (Nat.le_of_ble_eq_true rfl) dX12_puts_3 (Nat.zero_le _) (Nat.zero_le _) (fun r1 u1 H1 locs1 hp1 hP hS => ?_)
  obtain ⟨σ1, τ1⟩ := u1
  obtain ⟨hR, f1, hq1, hp1_0, hp1_1, hp1_2⟩ : P_X12_takes σ0 a2 a3 r1 σ1 := hp1
  have ft := f1
  have hP : va_P D vwCl (gw cA ad σ1 τ1) H1 := hP
  have hF := hF.step f1 (by decide)
  have gHI := HI.fr gHI f1 (by decide)
  have t2 : (σ1 387 3).toInt = (σ0 387 3).toInt := congrArg Int32.toInt (f1.at 387 3 (by decide))
  have hr3 := rg_12_4 hR (k := 387) (by decide) (by decide)
  refine r_if_ne (tgt := 11) hx hb dX12_puts_6 (by decide) (fun c4 => ?_) (fun c4 => ?_)
  · replace hp1_1 := hp1_1.resolve_left (by omega)
    replace hp1_2 := hp1_2.resolve_left (by omega)
    refine lv_aload_n hx hb dX12_puts_11 rfl (lv_at hl 0 rfl) ?_
    refine fg_12_7 (k := 387) hx hb hts in_X12_puts_12 hown hK hP (by decide) (by decide) (hts _ lk_X12_puts_37) dX12_puts_12 ?_
    refine lv_iload_n hx hb dX12_puts_15 rfl (lv_at hl 1 rfl) ?_
    refine lv_aload_n hx hb dX12_puts_16 rfl (lv_at hl 0 rfl) ?_
    refine fg_12_18 (k := 387) hx hb hts in_X12_puts_12 hown hK hP (by decide) (by decide) (hts _ lk_X12_puts_195) dX12_puts_17 ?_
    obtain ⟨j5, ej5⟩ : ∃ j : Nat, a1.toInt = (j : Int) := ⟨_, ti_nat (by omega)⟩
    refine as_mh (k := 390) (j := j5) hx hb hK hP hI hR hS (by decide) (by decide) ej5 (by omega) (mx_h (by omega) (by omega) (by omega)) dX12_puts_20 (fun σ6 H6 locs6 u6 v6 hR hP hS => ?_)
    have ut := u6
    have vt := v6
    have hF := hF.puts u6 3 rfl (by decide) (by decide) (by omega) (by omega)
    have t7 : (σ6 387 3).toInt = (σ1 387 3).toInt := congrArg Int32.toInt (u6 387 3 (by omega))
    have t8 : (σ6 387 4).toInt = (σ1 387 4).toInt := congrArg Int32.toInt (u6 387 4 (by omega))
    have t9 : (σ6 387 11).toInt = (σ1 387 11).toInt := congrArg Int32.toInt (u6 387 11 (by omega))
    refine r_iconst hx hb dX12_puts_21 (by decide) (fun z10 ez10 => ?_)
    exact r_zret hx hb hr hK hP hS hk (by omega) dX12_puts_22 (show P_X12_puts σ0 a1 a2 a3 z10 σ6 from ⟨hR, hF, by omega, by omega, by omega, by first | exact PT.yes ft (by decide) ut (by omega) | exact PT.no ft (by decide), by first | exact Or.inl (by omega) | exact Or.inr (fun j hj => by have ej : j = j5 := (by omega); subst ej; omega), HI.st gHI ut (by omega) (by omega)⟩)
  · clear hp1_1 hp1_2
    refine r_iconst hx hb dX12_puts_9 (by decide) (fun z11 ez11 => ?_)
    exact r_zret hx hb hr hK hP hS hk (by omega) dX12_puts_10 (show P_X12_puts σ0 a1 a2 a3 z11 σ1 from ⟨hR, hF, by omega, by omega, by omega, by first | exact PT.yes ft (by decide) ut (by omega) | exact PT.no ft (by decide), by first | exact Or.inl (by omega) | exact Or.inr (fun j hj => by have ej : j = 0 := (by omega); subst ej; omega), gHI⟩)
theorem in_X12_isSign_12 : ∀ w ∈ u_ws RX12 TX12 47, w ∈ wsX12_isSign := by decide +kernel
theorem lk_X12_isSign_159 : Cond.fieldLink RX12 159 "CuckooSharesModel" "token" "I" ∈ wsX12_isSign := by decide +kernel
theorem lk_X12_isSign_169 : Cond.fieldLink RX12 169 "CuckooSharesModel" "number" "I" ∈ wsX12_isSign := by decide +kernel
abbrev L_X12_isSign : List Rc := []
def P_X12_isSign (σ0 : Nat → Nat → Int32) (a1 : Int32) (r : Int32) (σ : Nat → Nat → Int32) : Prop := Rg σ ∧ Fr L_X12_isSign σ0 σ ∧ (0 ≤ r.toInt ∧ r.toInt ≤ 1) ∧ (r.toInt = 0 ∨ (σ0 387 11).toInt = 3)
set_option maxHeartbeats 4000000 in
theorem c_X12_isSign (l : Launch) (D : va_G) (cA : Nat → ClassId) (ad : Nat → Nat) (hI : Inj ad) (σ0 : Nat → Nat → Int32) (τ0 : Nat → Nat → Int64) (hR : Rg σ0) (a1 : Int32) (ha1 : 40 ≤ a1.toInt ∧ a1.toInt ≤ 59) : Met l yX12_isSign wsX12_isSign ({ frames := 0, cells := 0, slots := 0, locals := 0 } : Room) (WQc D cA ad [.ref (ad 387), .int a1] σ0 τ0) (va_Qi (fun (r : Int32) (u : SS) => P_X12_isSign σ0 a1 r u.1) (WB D cA ad) (AA ad)) 0 0 (AA ad) := by
  refine Met.ofW (cc := cX12_isSign) (maxL := 2) (ret := (some .boolean)) (by decide) rfl ?_
  intro p e s m args below meth c s₁ B hml hv
  obtain ⟨rfl, hP, hK, hN⟩ := hv
  have C : Cy p s m _ meth c cX12_isSign 2 wsX12_isSign RX12 D cA ad (some .boolean) := ⟨B.exec, B.bytes, hml, findClass_of_methodNamed B.named, atoms_spec (ws := wsX12_isSign) B.pre, hK, B.notSynchronized, B.returns, hI, hN⟩
  have hl := lv_entry ([.ref (ad 387), .int a1]) (n := 2) (Nat.le_of_ble_eq_true rfl)
  rw [lg_entry_eq]
  generalize (lg_sl ([.ref (ad 387), .int a1]) ++ List.replicate (2 - (lg_sl ([.ref (ad 387), .int a1])).length) Slot.unset).toArray = ls at hl ⊢
  have hl : lv_has ls 2 [(0, .ref (ad 387)), (1, .int a1)] := hl
  have hS : va_S (AA ad) s.heap s.heap [] := va_S.rf
  have hF : Fr L_X12_isSign σ0 σ0 := Fr.rf
  obtain ⟨hx, hb, _, hown, hts, _, hk, hr, _, _⟩ := C
  refine lv_aload_n hx hb dX12_isSign_0 rfl (lv_at hl 0 rfl) ?_
  refine fg_12_11 (k := 387) hx hb hts in_X12_isSign_12 hown hK hP (by decide) (by decide) (hts _ lk_X12_isSign_159) dX12_isSign_1 ?_
  refine r_iconst hx hb dX12_isSign_4 (by decide) (fun z1 ez1 => ?_)
  refine r_icmp_ne (tgt := 20) hx hb dX12_isSign_5 (by decide) (fun c2 => ?_) (fun c2 => ?_)
  · refine r_iconst hx hb dX12_isSign_20 (by decide) (fun z3 ez3 => ?_)
    exact r_zret hx hb hr hK hP hS hk (by omega) dX12_isSign_21 (show P_X12_isSign σ0 a1 z3 σ0 from ⟨hR, hF, by omega, by omega⟩)
  · refine lv_aload_n hx hb dX12_isSign_8 rfl (lv_at hl 0 rfl) ?_
    refine fg_12_14 (k := 387) hx hb hts in_X12_isSign_12 hown hK hP (by decide) (by decide) (hts _ lk_X12_isSign_169) dX12_isSign_9 ?_
    refine lv_iload_n hx hb dX12_isSign_12 rfl (lv_at hl 1 rfl) ?_
    refine r_icmp_ne (tgt := 20) hx hb dX12_isSign_13 (by decide) (fun c4 => ?_) (fun c4 => ?_)
    · refine r_iconst hx hb dX12_isSign_20 (by decide) (fun z5 ez5 => ?_)
      exact r_zret hx hb hr hK hP hS hk (by omega) dX12_isSign_21 (show P_X12_isSign σ0 a1 z5 σ0 from ⟨hR, hF, by omega, by omega⟩)
    · refine r_iconst hx hb dX12_isSign_16 (by decide) (fun z6 ez6 => ?_)
      refine lv_goto (tgt := 21) hx hb dX12_isSign_17 (by decide) ?_
      exact r_zret hx hb hr hK hP hS hk (by omega) dX12_isSign_21 (show P_X12_isSign σ0 a1 z6 σ0 from ⟨hR, hF, by omega, by omega⟩)
theorem in_X12_readFlight_12 : ∀ w ∈ u_ws RX12 TX12 47, w ∈ wsX12_readFlight := by decide +kernel
theorem lk_X12_readFlight_159 : Cond.fieldLink RX12 159 "CuckooSharesModel" "token" "I" ∈ wsX12_readFlight := by decide +kernel
theorem lk_X12_readFlight_195 : Cond.fieldLink RX12 195 "CuckooSharesModel" "got" "I" ∈ wsX12_readFlight := by decide +kernel
theorem lk_X12_readFlight_37 : Cond.fieldLink RX12 37 "CuckooSharesModel" "h" "[I" ∈ wsX12_readFlight := by decide +kernel
abbrev L_X12_readFlight : List Rc := [(387, 387, 4, 4), (387, 387, 11, 16), (387, 387, 18, 18), (390, 390, 2, 210)]
def P_X12_readFlight (σ0 : Nat → Nat → Int32)  (r : Int32) (σ : Nat → Nat → Int32) : Prop := Rg σ ∧ Fr L_X12_readFlight σ0 σ ∧ (0 ≤ r.toInt ∧ r.toInt ≤ 1) ∧ ((σ0 387 4).toInt ≤ (σ 387 4).toInt) ∧ (r.toInt = 0 ∨ (σ 387 11).toInt ≠ 3 ∨ (σ0 387 4).toInt < (σ 387 4).toInt) ∧ HI σ
def J_X12_readFlight_56 (p : Program) (l : Launch) (e : Env) (s : State) (m : MethodId) (args : Array Value) (below : List Frame) (meth : Method) (c : Code) (D : va_G) (cA : Nat → ClassId) (ad : Nat → Nat) (σ0 : Nat → Nat → Int32)  (n : Nat) : Prop := ∀ (σ : Nat → Nat → Int32) (τ : Nat → Nat → Int64) (H : Heap) (locs : List Loc) (x1 : Int32) (x2 : Int32) (x3 : Int32) (ls : Array Slot), Rg σ → Fr L_X12_readFlight σ0 σ → va_P D vwCl (gw cA ad σ τ) H → va_S (AA ad) s.heap H locs → (0 ≤ x1.toInt ∧ x1.toInt ≤ 3) → (0 ≤ x2.toInt ∧ x2.toInt ≤ 10) → (0 ≤ (σ 387 3).toInt ∧ (σ 387 3).toInt ≤ 940) → (0 ≤ (σ 390 2).toInt ∧ (σ 390 2).toInt ≤ 3) → (0 ≤ (σ 387 4).toInt ∧ (σ 387 4).toInt ≤ 940) → ((σ0 387 4).toInt ≤ (σ 387 4).toInt) → ((σ 387 11).toInt ≠ 3 ∨ (σ0 387 4).toInt < (σ 387 4).toInt) → (HI σ) → (HC σ) → lv_has ls 5 [(0, .ref (ad 387)), (1, .int x1), (2, .int x2), (3, .int x3)] → 2 * (10 - x2.toInt) + 1 < (n : Int) → W p l e ({ frames := 4, cells := 0, slots := 0, locals := 88 } : Room) s m args below meth c H locs 0 0 (MQ below (va_Qi (fun (r : Int32) (u : SS) => P_X12_readFlight σ0 r u.1) (WB D cA ad) (AA ad)) args s 0 0 (AA ad)) (F0 m 56 ls [])
set_option maxHeartbeats 4000000 in
theorem B_X12_readFlight_56 (p : Program) (l : Launch) (e : Env) (s : State) (m : MethodId) (args : Array Value) (below : List Frame) (meth : Method) (c : Code) (D : va_G) (cA : Nat → ClassId) (ad : Nat → Nat) (σ0 : Nat → Nat → Int32)  (n : Nat) (C : Cy p s m args meth c cX12_readFlight 5 wsX12_readFlight RX12 D cA ad (some .boolean)) (gHI0 : HI σ0) (K56 : J_X12_readFlight_56 p l e s m args below meth c D cA ad σ0 n) : J_X12_readFlight_56 p l e s m args below meth c D cA ad σ0 (n + 1) := by
  obtain ⟨hx, hb, hml, hown, hts, hK, hk, hr, hI, hN⟩ := C
  intro σ τ H locs x1 x2 x3 ls hR hF hP hS hc0 hc1 hc2 hc3 hc4 hi0 hi1 gHI gHC hl hm
  refine lv_aload_n hx hb dX12_readFlight_56 rfl (lv_at hl 0 rfl) ?_
  refine r_bipush hx hb dX12_readFlight_57 (by decide) (fun z1 ez1 => ?_)
  refine r_cVi (k := 387) (As := [.int z1]) (rest := []) ⟨hx, hb, hml, hown, hts⟩ hK hP hN hS (c_X12_isSign l D cA ad hI σ τ hR z1 (by omega)) (cwV 1 hts gX12_readFlight_X12_isSign rfl rfl rfl (by decide +kernel) ⟨by decide, by decide⟩) (rv_M hK hP (by decide) (by decide)) rfl hl.1 rfl (Nat.le_of_ble_eq_true rfl) dX12_readFlight_59 (Nat.zero_le _) (Nat.zero_le _) (fun r2 u2 H2 locs2 hp2 hP hS => ?_)
  obtain ⟨σ2, τ2⟩ := u2
  obtain ⟨hR, f2, hq2, hp2_0⟩ : P_X12_isSign σ z1 r2 σ2 := hp2
  have hP : va_P D vwCl (gw cA ad σ2 τ2) H2 := hP
  obtain rfl := Fr.nil f2
  refine r_if_ne (tgt := 163) hx hb dX12_readFlight_62 (by decide) (fun c3 => ?_) (fun c3 => ?_)
  · replace hp2_0 := hp2_0.resolve_left (by omega)
    refine lv_aload_n hx hb dX12_readFlight_163 rfl (lv_at hl 0 rfl) ?_
    refine fg_12_7 (k := 387) hx hb hts in_X12_readFlight_12 hown hK hP (by decide) (by decide) (hts _ lk_X12_readFlight_37) dX12_readFlight_164 ?_
    refine r_bipush hx hb dX12_readFlight_167 (by decide) (fun z4 ez4 => ?_)
    refine lv_iload_n hx hb dX12_readFlight_169 rfl (lv_at hl 1 rfl) ?_
    refine r_iadd hx hb dX12_readFlight_170 (by omega) (fun z5 ez5 => ?_)
    refine lv_iload_n hx hb dX12_readFlight_171 rfl (lv_at hl 2 rfl) ?_
    obtain ⟨j6, ej6⟩ : ∃ j : Nat, z5.toInt = (j : Int) := ⟨_, ti_nat (by omega)⟩
    refine as_mh (k := 390) (j := j6) hx hb hK hP hI hR hS (by decide) (by decide) ej6 (by omega) (rw_mh_4 (by decide) (by decide) (by omega) (by omega) (by omega)) dX12_readFlight_172 (fun σ7 H7 locs7 u7 v7 hR hP hS => ?_)
    have hF := hF.puts u7 3 rfl (by decide) (by decide) (by omega) (by omega)
    have gHC := HC.putV gHC u7 (by intro q hq; simp only [Gd_HC, List.mem_cons, List.not_mem_nil, or_false] at hq; rcases hq with rfl | rfl <;> dsimp only [inRc] <;> omega)
    have gHI := HI.putV gHI u7 (by intro q hq; simp only [Gd_HI, List.mem_cons, List.not_mem_nil, or_false] at hq; rcases hq with rfl | rfl <;> dsimp only [inRc] <;> omega)
    have t8 : (σ7 387 3).toInt = (σ 387 3).toInt := congrArg Int32.toInt (u7 387 3 (by omega))
    have t9 : (σ7 390 2).toInt = (σ 390 2).toInt := congrArg Int32.toInt (u7 390 2 (by omega))
    have t10 : (σ7 387 4).toInt = (σ 387 4).toInt := congrArg Int32.toInt (u7 387 4 (by omega))
    have t11 : (σ7 387 11).toInt = (σ 387 11).toInt := congrArg Int32.toInt (u7 387 11 (by omega))
    refine lv_aload_n hx hb dX12_readFlight_173 rfl (lv_at hl 0 rfl) ?_
    refine fg_12_7 (k := 387) hx hb hts in_X12_readFlight_12 hown hK hP (by decide) (by decide) (hts _ lk_X12_readFlight_37) dX12_readFlight_174 ?_
    refine r_iconst hx hb dX12_readFlight_177 (by decide) (fun z12 ez12 => ?_)
    refine lv_dup2_11 hx hb dX12_readFlight_178 rfl rfl ?_
    refine ad_mh (k := 390) (j := 2) hx hb hK hP (by decide) (by decide) (by omega) (by omega) dX12_readFlight_179 ?_
    have hr13 := ra_mh_1 hR (k := 390) (j := 2) (by decide) (by decide) (by decide) (by decide)
    refine r_iconst hx hb dX12_readFlight_180 (by decide) (fun z14 ez14 => ?_)
    refine r_iadd hx hb dX12_readFlight_181 (by omega) (fun z15 ez15 => ?_)
    refine as_mh (k := 390) (j := 2) hx hb hK hP hI hR hS (by decide) (by decide) (by omega) (by omega) (rw_mh_1 (by decide) (by decide) (by decide) (by decide) (by omega)) dX12_readFlight_182 (fun σ16 H16 locs16 u16 v16 hR hP hS => ?_)
    have uf := u16
    have vf := v16
    have hF := hF.puts u16 3 rfl (by decide) (by decide) (by decide) (by decide)
    have t17 : (σ16 387 3).toInt = (σ7 387 3).toInt := congrArg Int32.toInt (u16 387 3 (by omega))
    have t18 : (σ16 387 4).toInt = (σ7 387 4).toInt := congrArg Int32.toInt (u16 387 4 (by omega))
    have t19 : (σ16 387 11).toInt = (σ7 387 11).toInt := congrArg Int32.toInt (u16 387 11 (by omega))
    have t20 : (σ16 390 j6).toInt = (σ7 390 j6).toInt := congrArg Int32.toInt (u16 390 j6 (by omega))
    have gHI := HI.inc gHI gHC uf (by omega)
    refine r_iconst hx hb dX12_readFlight_183 (by decide) (fun z21 ez21 => ?_)
    exact r_zret hx hb hr hK hP hS hk (by omega) dX12_readFlight_184 (show P_X12_readFlight σ0 z21 σ16 from ⟨hR, hF, by omega, by omega, by omega, gHI⟩)
  · clear hp2_0
    refine lv_aload_n hx hb dX12_readFlight_65 rfl (lv_at hl 0 rfl) ?_
    refine fg_12_11 (k := 387) hx hb hts in_X12_readFlight_12 hown hK hP (by decide) (by decide) (hts _ lk_X12_readFlight_159) dX12_readFlight_66 ?_
    refine r_iconst hx hb dX12_readFlight_69 (by decide) (fun z22 ez22 => ?_)
    refine r_icmp_eq (tgt := 79) hx hb dX12_readFlight_70 (by decide) (fun c23 => ?_) (fun c23 => ?_)
    · refine lv_iload_n hx hb dX12_readFlight_79 rfl (lv_at hl 2 rfl) ?_
      refine r_bipush hx hb dX12_readFlight_80 (by decide) (fun z24 ez24 => ?_)
      refine r_icmp_ne (tgt := 91) hx hb dX12_readFlight_82 (by decide) (fun c25 => ?_) (fun c25 => ?_)
      · refine r_bipush hx hb dX12_readFlight_91 (by decide) (fun z26 ez26 => ?_)
        refine lv_iload_n hx hb dX12_readFlight_93 rfl (lv_at hl 1 rfl) ?_
        refine r_imulL (n := 10) hx hb dX12_readFlight_94 (by omega) (by omega) (fun z27 ez27 => ?_)
        refine lv_iload_n hx hb dX12_readFlight_95 rfl (lv_at hl 2 rfl) ?_
        refine r_iadd hx hb dX12_readFlight_96 (by omega) (fun z28 ez28 => ?_)
        refine lv_istore (lv' := [(4, .int z28), (0, .ref (ad 387)), (1, .int x1), (2, .int x2), (3, .int x3)]) hx hb dX12_readFlight_97 hl (by decide) rfl (fun ls hl => ?_)
        refine lv_aload_n hx hb dX12_readFlight_99 rfl (lv_at hl 1 rfl) ?_
        refine r_bipush hx hb dX12_readFlight_100 (by decide) (fun z29 ez29 => ?_)
        refine lv_iload hx hb dX12_readFlight_102 (lv_at hl 0 rfl) ?_
        refine r_iadd hx hb dX12_readFlight_104 (by omega) (fun z30 ez30 => ?_)
        refine lv_iload_n hx hb dX12_readFlight_105 rfl (lv_at hl 4 rfl) ?_
        refine r_iconst hx hb dX12_readFlight_106 (by decide) (fun z31 ez31 => ?_)
        refine r_iaddU hx hb dX12_readFlight_107 (fun z32 => ?_)
        refine r_bipush hx hb dX12_readFlight_108 (by decide) (fun z33 ez33 => ?_)
        refine r_cVi (k := 387) (As := [.int z30, .int z32, .int z33]) (rest := []) ⟨hx, hb, hml, hown, hts⟩ hK hP hN hS (c_X12_puts l D cA ad hI σ τ2 hR z30 z32 z33 (by omega) (by omega) (by omega) (by omega) gHI) (cwV 3 hts gX12_readFlight_X12_puts rfl rfl rfl (by decide +kernel) ⟨by decide, by decide⟩) (rv_M hK hP (by decide) (by decide)) rfl hl.1 rfl (Nat.le_of_ble_eq_true rfl) dX12_readFlight_110 (Nat.zero_le _) (Nat.zero_le _) (fun r34 u34 H34 locs34 hp34 hP hS => ?_)
        obtain ⟨σ34, τ34⟩ := u34
        obtain ⟨hR, f34, hq34, hp34_0, hp34_1, hp34_2, hp34_3, gnHI⟩ : P_X12_puts σ z30 z32 z33 r34 σ34 := hp34
        have pt1 := hp34_2
        have hP : va_P D vwCl (gw cA ad σ34 τ34) H34 := hP
        have hF := hF.step f34 (by decide)
        have t35 : (σ34 387 3).toInt = (σ 387 3).toInt := congrArg Int32.toInt (f34.at 387 3 (by decide))
        have t36 : (σ34 390 2).toInt = (σ 390 2).toInt := congrArg Int32.toInt (f34.at 390 2 (by decide))
        have hr37 := rg_12_4 hR (k := 387) (by decide) (by decide)
        have gHI := gnHI
        have gHC := HC.pt gHC pt1 (by omega) (by omega)
        refine r_if_ne (tgt := 118) hx hb dX12_readFlight_113 (by decide) (fun c38 => ?_) (fun c38 => ?_)
        · replace hp34_1 := hp34_1.resolve_left (by omega)
          replace hp34_3 := hp34_3.resolve_left (by omega)
          refine lv_aload_n hx hb dX12_readFlight_118 rfl (lv_at hl 1 rfl) ?_
          refine fg_12_18 (k := 387) hx hb hts in_X12_readFlight_12 hown hK hP (by decide) (by decide) (hts _ lk_X12_readFlight_195) dX12_readFlight_119 ?_
          refine lv_istore_n (lv' := [(3, .int (σ34 387 18)), (4, .int z28), (0, .ref (ad 387)), (1, .int x1), (2, .int x2)]) hx hb dX12_readFlight_122 rfl hl (by decide) rfl (fun ls hl => ?_)
          refine lv_aload_n hx hb dX12_readFlight_123 rfl (lv_at hl 2 rfl) ?_
          refine r_sipush hx hb dX12_readFlight_124 (by decide) (fun z39 ez39 => ?_)
          refine lv_iload hx hb dX12_readFlight_127 (lv_at hl 1 rfl) ?_
          refine r_iadd hx hb dX12_readFlight_129 (by omega) (fun z40 ez40 => ?_)
          refine r_iconst hx hb dX12_readFlight_130 (by decide) (fun z41 ez41 => ?_)
          refine r_bipush hx hb dX12_readFlight_131 (by decide) (fun z42 ez42 => ?_)
          refine r_cVi (k := 387) (As := [.int z40, .int z41, .int z42]) (rest := []) ⟨hx, hb, hml, hown, hts⟩ hK hP hN hS (c_X12_puts l D cA ad hI σ34 τ34 hR z40 z41 z42 (by omega) (by omega) (by omega) (by omega) gHI) (cwV 3 hts gX12_readFlight_X12_puts rfl rfl rfl (by decide +kernel) ⟨by decide, by decide⟩) (rv_M hK hP (by decide) (by decide)) rfl hl.1 rfl (Nat.le_of_ble_eq_true rfl) dX12_readFlight_133 (Nat.zero_le _) (Nat.zero_le _) (fun r43 u43 H43 locs43 hp43 hP hS => ?_)
          obtain ⟨σ43, τ43⟩ := u43
          obtain ⟨hR, f43, hq43, hp43_0, hp43_1, hp43_2, hp43_3, gnHI⟩ : P_X12_puts σ34 z40 z41 z42 r43 σ43 := hp43
          have pt1 := hp43_2
          have hP : va_P D vwCl (gw cA ad σ43 τ43) H43 := hP
          clear hp34_1
          have hF := hF.step f43 (by decide)
          have t44 : (σ43 387 3).toInt = (σ34 387 3).toInt := congrArg Int32.toInt (f43.at 387 3 (by decide))
          have t45 : (σ43 390 2).toInt = (σ34 390 2).toInt := congrArg Int32.toInt (f43.at 390 2 (by decide))
          have hr46 := rg_12_4 hR (k := 387) (by decide) (by decide)
          have gHI := gnHI
          have gHC := HC.pt gHC pt1 (by omega) (by omega)
          refine r_if_eq (tgt := 155) hx hb dX12_readFlight_136 (by decide) (fun c47 => ?_) (fun c47 => ?_)
          · clear hp43_1 hp43_3
            refine r_iconst hx hb dX12_readFlight_155 (by decide) (fun z48 ez48 => ?_)
            exact r_zret hx hb hr hK hP hS hk (by omega) dX12_readFlight_156 (show P_X12_readFlight σ0 z48 σ43 from ⟨hR, hF, by omega, by omega, by omega, gHI⟩)
          · replace hp43_1 := hp43_1.resolve_left (by omega)
            replace hp43_3 := hp43_3.resolve_left (by omega)
            refine lv_aload_n hx hb dX12_readFlight_139 rfl (lv_at hl 2 rfl) ?_
            refine r_sipush hx hb dX12_readFlight_140 (by decide) (fun z49 ez49 => ?_)
            refine lv_iload hx hb dX12_readFlight_143 (lv_at hl 1 rfl) ?_
            refine r_iadd hx hb dX12_readFlight_145 (by omega) (fun z50 ez50 => ?_)
            refine r_iconst hx hb dX12_readFlight_146 (by decide) (fun z51 ez51 => ?_)
            refine r_bipush hx hb dX12_readFlight_147 (by decide) (fun z52 ez52 => ?_)
            refine r_cVi (k := 387) (As := [.int z50, .int z51, .int z52]) (rest := []) ⟨hx, hb, hml, hown, hts⟩ hK hP hN hS (c_X12_puts l D cA ad hI σ43 τ43 hR z50 z51 z52 (by omega) (by omega) (by omega) (by omega) gHI) (cwV 3 hts gX12_readFlight_X12_puts rfl rfl rfl (by decide +kernel) ⟨by decide, by decide⟩) (rv_M hK hP (by decide) (by decide)) rfl hl.1 rfl (Nat.le_of_ble_eq_true rfl) dX12_readFlight_149 (Nat.zero_le _) (Nat.zero_le _) (fun r53 u53 H53 locs53 hp53 hP hS => ?_)
            obtain ⟨σ53, τ53⟩ := u53
            obtain ⟨hR, f53, hq53, hp53_0, hp53_1, hp53_2, hp53_3, gnHI⟩ : P_X12_puts σ43 z50 z51 z52 r53 σ53 := hp53
            have pt1 := hp53_2
            have hP : va_P D vwCl (gw cA ad σ53 τ53) H53 := hP
            clear hp43_1
            have hF := hF.step f53 (by decide)
            have t54 : (σ53 387 3).toInt = (σ43 387 3).toInt := congrArg Int32.toInt (f53.at 387 3 (by decide))
            have t55 : (σ53 390 2).toInt = (σ43 390 2).toInt := congrArg Int32.toInt (f53.at 390 2 (by decide))
            have hr56 := rg_12_4 hR (k := 387) (by decide) (by decide)
            have gHI := gnHI
            have gHC := HC.pt gHC pt1 (by omega) (by omega)
            refine r_if_ne (tgt := 157) hx hb dX12_readFlight_152 (by decide) (fun c57 => ?_) (fun c57 => ?_)
            · replace hp53_1 := hp53_1.resolve_left (by omega)
              replace hp53_3 := hp53_3.resolve_left (by omega)
              refine r_iinc (k := 4) (lv1 := fun z58 => [(2, .int z58), (3, .int (σ34 387 18)), (4, .int z28), (0, .ref (ad 387)), (1, .int x1)]) hx hb dX12_readFlight_157 hl rfl (by decide) (fun _ => rfl) (by decide) (by omega) (fun z58 ls ez58 hl => ?_)
              refine lv_goto (tgt := 56) hx hb dX12_readFlight_160 (by decide) ?_
              exact K56 σ53 τ53 H53 locs53 x1 z58 (σ34 387 18) ls hR hF hP hS (by omega) (by omega) (by omega) (by omega) (by omega) (by omega) (by omega) gHI gHC (lv_sub hl [3, 4, 0, 1] rfl) (by omega)
            · clear hp53_1 hp53_3
              refine r_iconst hx hb dX12_readFlight_155 (by decide) (fun z59 ez59 => ?_)
              exact r_zret hx hb hr hK hP hS hk (by omega) dX12_readFlight_156 (show P_X12_readFlight σ0 z59 σ53 from ⟨hR, hF, by omega, by omega, by omega, gHI⟩)
        · clear hp34_1 hp34_3
          refine r_iconst hx hb dX12_readFlight_116 (by decide) (fun z60 ez60 => ?_)
          exact r_zret hx hb hr hK hP hS hk (by omega) dX12_readFlight_117 (show P_X12_readFlight σ0 z60 σ34 from ⟨hR, hF, by omega, by omega, by omega, gHI⟩)
      · refine lv_aload_n hx hb dX12_readFlight_85 rfl (lv_at hl 0 rfl) ?_
        refine r_iconst hx hb dX12_readFlight_86 (by decide) (fun z61 ez61 => ?_)
        refine r_cVi (k := 387) (As := [.int z61]) (rest := []) ⟨hx, hb, hml, hown, hts⟩ hK hP hN hS (c_X12_bad l D cA ad hI σ τ2 hR z61 (by omega)) (cwV 1 hts gX12_readFlight_X12_bad rfl rfl rfl (by decide +kernel) ⟨by decide, by decide⟩) (rv_M hK hP (by decide) (by decide)) rfl hl.1 rfl (Nat.le_of_ble_eq_true rfl) dX12_readFlight_87 (Nat.zero_le _) (Nat.zero_le _) (fun r62 u62 H62 locs62 hp62 hP hS => ?_)
        obtain ⟨σ62, τ62⟩ := u62
        obtain ⟨hR, f62, hq62⟩ : P_X12_bad σ z61 r62 σ62 := hp62
        have hP : va_P D vwCl (gw cA ad σ62 τ62) H62 := hP
        have hF := hF.step f62 (by decide)
        have gHC := HC.fr gHC f62 (by decide)
        have gHI := HI.fr gHI f62 (by decide)
        have t63 : (σ62 387 3).toInt = (σ 387 3).toInt := congrArg Int32.toInt (f62.at 387 3 (by decide))
        have t64 : (σ62 390 2).toInt = (σ 390 2).toInt := congrArg Int32.toInt (f62.at 390 2 (by decide))
        have t65 : (σ62 387 4).toInt = (σ 387 4).toInt := congrArg Int32.toInt (f62.at 387 4 (by decide))
        have t66 : (σ62 387 11).toInt = (σ 387 11).toInt := congrArg Int32.toInt (f62.at 387 11 (by decide))
        exact r_zret hx hb hr hK hP hS hk (by omega) dX12_readFlight_90 (show P_X12_readFlight σ0 r62 σ62 from ⟨hR, hF, by omega, by omega, by omega, gHI⟩)
    · refine lv_aload_n hx hb dX12_readFlight_73 rfl (lv_at hl 0 rfl) ?_
      refine r_iconst hx hb dX12_readFlight_74 (by decide) (fun z67 ez67 => ?_)
      refine r_cVi (k := 387) (As := [.int z67]) (rest := []) ⟨hx, hb, hml, hown, hts⟩ hK hP hN hS (c_X12_bad l D cA ad hI σ τ2 hR z67 (by omega)) (cwV 1 hts gX12_readFlight_X12_bad rfl rfl rfl (by decide +kernel) ⟨by decide, by decide⟩) (rv_M hK hP (by decide) (by decide)) rfl hl.1 rfl (Nat.le_of_ble_eq_true rfl) dX12_readFlight_75 (Nat.zero_le _) (Nat.zero_le _) (fun r68 u68 H68 locs68 hp68 hP hS => ?_)
      obtain ⟨σ68, τ68⟩ := u68
      obtain ⟨hR, f68, hq68⟩ : P_X12_bad σ z67 r68 σ68 := hp68
      have hP : va_P D vwCl (gw cA ad σ68 τ68) H68 := hP
      have hF := hF.step f68 (by decide)
      have gHC := HC.fr gHC f68 (by decide)
      have gHI := HI.fr gHI f68 (by decide)
      have t69 : (σ68 387 3).toInt = (σ 387 3).toInt := congrArg Int32.toInt (f68.at 387 3 (by decide))
      have t70 : (σ68 390 2).toInt = (σ 390 2).toInt := congrArg Int32.toInt (f68.at 390 2 (by decide))
      have t71 : (σ68 387 4).toInt = (σ 387 4).toInt := congrArg Int32.toInt (f68.at 387 4 (by decide))
      have t72 : (σ68 387 11).toInt = (σ 387 11).toInt := congrArg Int32.toInt (f68.at 387 11 (by decide))
      exact r_zret hx hb hr hK hP hS hk (by omega) dX12_readFlight_78 (show P_X12_readFlight σ0 r68 σ68 from ⟨hR, hF, by omega, by omega, by omega, gHI⟩)
theorem A_X12_readFlight (p : Program) (l : Launch) (e : Env) (s : State) (m : MethodId) (args : Array Value) (below : List Frame) (meth : Method) (c : Code) (D : va_G) (cA : Nat → ClassId) (ad : Nat → Nat) (σ0 : Nat → Nat → Int32)  (C : Cy p s m args meth c cX12_readFlight 5 wsX12_readFlight RX12 D cA ad (some .boolean)) (gHI0 : HI σ0) : ∀ n : Nat, J_X12_readFlight_56 p l e s m args below meth c D cA ad σ0 n := by
  intro n
  induction n with
  | zero =>
    exact (by intro σ τ H locs x1 x2 x3 ls hR hF hP hS hc0 hc1 hc2 hc3 hc4 hi0 hi1 gHI gHC hl hm; exfalso; omega)
  | succ n ih =>
    exact B_X12_readFlight_56 p l e s m args below meth c D cA ad σ0 n C gHI0 ih
set_option maxHeartbeats 4000000 in
theorem c_X12_readFlight (l : Launch) (D : va_G) (cA : Nat → ClassId) (ad : Nat → Nat) (hI : Inj ad) (σ0 : Nat → Nat → Int32) (τ0 : Nat → Nat → Int64) (hR : Rg σ0)  (gHI0 : HI σ0) : Met l yX12_readFlight wsX12_readFlight ({ frames := 4, cells := 0, slots := 0, locals := 88 } : Room) (WQc D cA ad [.ref (ad 387)] σ0 τ0) (va_Qi (fun (r : Int32) (u : SS) => P_X12_readFlight σ0 r u.1) (WB D cA ad) (AA ad)) 0 0 (AA ad) := by
  refine Met.ofW (cc := cX12_readFlight) (maxL := 5) (ret := (some .boolean)) (by decide) rfl ?_
  intro p e s m args below meth c s₁ B hml hv
  obtain ⟨rfl, hP, hK, hN⟩ := hv
  have C : Cy p s m _ meth c cX12_readFlight 5 wsX12_readFlight RX12 D cA ad (some .boolean) := ⟨B.exec, B.bytes, hml, findClass_of_methodNamed B.named, atoms_spec (ws := wsX12_readFlight) B.pre, hK, B.notSynchronized, B.returns, hI, hN⟩
  have hl := lv_entry ([.ref (ad 387)]) (n := 5) (Nat.le_of_ble_eq_true rfl)
  rw [lg_entry_eq]
  generalize (lg_sl ([.ref (ad 387)]) ++ List.replicate (5 - (lg_sl ([.ref (ad 387)])).length) Slot.unset).toArray = ls at hl ⊢
  have hl : lv_has ls 5 [(0, .ref (ad 387))] := hl
  have hS : va_S (AA ad) s.heap s.heap [] := va_S.rf
  have hF : Fr L_X12_readFlight σ0 σ0 := Fr.rf
  have gHI := gHI0
  have hA := A_X12_readFlight p l e s m _ below meth c D cA ad σ0 C gHI0 50
  have K56 := hA
  clear hA
  obtain ⟨hx, hb, _, hown, hts, _, hk, hr, _, _⟩ := C
  have hrt4 := rg_12_4 hR (k := 387) (by decide) (by decide)
  have hrt3 := rg_12_3 hR (k := 387) (by decide) (by decide)
  refine lv_aload_n hx hb dX12_readFlight_0 rfl (lv_at hl 0 rfl) ?_
  refine fg_12_7 (k := 387) hx hb hts in_X12_readFlight_12 hown hK hP (by decide) (by decide) (hts _ lk_X12_readFlight_37) dX12_readFlight_1 ?_
  refine r_iconst hx hb dX12_readFlight_4 (by decide) (fun z1 ez1 => ?_)
  refine ad_mh (k := 390) (j := 2) hx hb hK hP (by decide) (by decide) (by omega) (by omega) dX12_readFlight_5 ?_
  have hr2 := ra_mh_1 hR (k := 390) (j := 2) (by decide) (by decide) (by decide) (by decide)
  refine lv_istore_n (lv' := [(1, .int (σ0 390 2)), (0, .ref (ad 387))]) hx hb dX12_readFlight_6 rfl hl (by decide) rfl (fun ls hl => ?_)
  refine lv_iload_n hx hb dX12_readFlight_7 rfl (lv_at hl 0 rfl) ?_
  refine r_iconst hx hb dX12_readFlight_8 (by decide) (fun z3 ez3 => ?_)
  refine r_icmp_ne (tgt := 18) hx hb dX12_readFlight_9 (by decide) (fun c4 => ?_) (fun c4 => ?_)
  · refine lv_aload_n hx hb dX12_readFlight_18 rfl (lv_at hl 1 rfl) ?_
    refine r_cVv (k := 387) (As := []) (rest := []) ⟨hx, hb, hml, hown, hts⟩ hK hP hN hS (c_X12_next l D cA ad hI σ0 τ0 hR) (cwV 0 hts gX12_readFlight_X12_next rfl rfl rfl (by decide +kernel) ⟨by decide, by decide⟩) (rv_M hK hP (by decide) (by decide)) rfl hl.1 rfl (Nat.le_of_ble_eq_true rfl) dX12_readFlight_19 (Nat.zero_le _) (Nat.zero_le _) (fun u5 H5 locs5 hp5 hP hS => ?_)
    obtain ⟨σ5, τ5⟩ := u5
    obtain ⟨hR, f5, hp5_0, hp5_1, hp5_2⟩ : P_X12_next σ0 σ5 := hp5
    have hP : va_P D vwCl (gw cA ad σ5 τ5) H5 := hP
    have hF := hF.step f5 (by decide)
    have gHI := HI.fr gHI f5 (by decide)
    have t6 : (σ5 387 3).toInt = (σ0 387 3).toInt := congrArg Int32.toInt (f5.at 387 3 (by decide))
    have t7 : (σ5 390 2).toInt = (σ0 390 2).toInt := congrArg Int32.toInt (f5.at 390 2 (by decide))
    have hr8 := rg_12_4 hR (k := 387) (by decide) (by decide)
    refine lv_aload_n hx hb dX12_readFlight_22 rfl (lv_at hl 1 rfl) ?_
    refine r_bipush hx hb dX12_readFlight_23 (by decide) (fun z9 ez9 => ?_)
    refine lv_iload_n hx hb dX12_readFlight_25 rfl (lv_at hl 0 rfl) ?_
    refine r_iadd hx hb dX12_readFlight_26 (by omega) (fun z10 ez10 => ?_)
    refine r_iconst hx hb dX12_readFlight_27 (by decide) (fun z11 ez11 => ?_)
    refine r_bipush hx hb dX12_readFlight_28 (by decide) (fun z12 ez12 => ?_)
    refine r_cVi (k := 387) (As := [.int z10, .int z11, .int z12]) (rest := []) ⟨hx, hb, hml, hown, hts⟩ hK hP hN hS (c_X12_puts l D cA ad hI σ5 τ5 hR z10 z11 z12 (by omega) (by omega) (by omega) (by omega) gHI) (cwV 3 hts gX12_readFlight_X12_puts rfl rfl rfl (by decide +kernel) ⟨by decide, by decide⟩) (rv_M hK hP (by decide) (by decide)) rfl hl.1 rfl (Nat.le_of_ble_eq_true rfl) dX12_readFlight_30 (Nat.zero_le _) (Nat.zero_le _) (fun r13 u13 H13 locs13 hp13 hP hS => ?_)
    obtain ⟨σ13, τ13⟩ := u13
    obtain ⟨hR, f13, hq13, hp13_0, hp13_1, hp13_2, hp13_3, gnHI⟩ : P_X12_puts σ5 z10 z11 z12 r13 σ13 := hp13
    have pv := hp13_3
    have hP : va_P D vwCl (gw cA ad σ13 τ13) H13 := hP
    clear hp5_1
    have hF := hF.step f13 (by decide)
    have t14 : (σ13 387 3).toInt = (σ5 387 3).toInt := congrArg Int32.toInt (f13.at 387 3 (by decide))
    have t15 : (σ13 390 2).toInt = (σ5 390 2).toInt := congrArg Int32.toInt (f13.at 390 2 (by decide))
    have hr16 := rg_12_4 hR (k := 387) (by decide) (by decide)
    have gHI := gnHI
    refine r_if_eq (tgt := 50) hx hb dX12_readFlight_33 (by decide) (fun c17 => ?_) (fun c17 => ?_)
    · clear hp13_1 hp13_3
      refine r_iconst hx hb dX12_readFlight_50 (by decide) (fun z18 ez18 => ?_)
      exact r_zret hx hb hr hK hP hS hk (by omega) dX12_readFlight_51 (show P_X12_readFlight σ0 z18 σ13 from ⟨hR, hF, by omega, by omega, by omega, gHI⟩)
    · replace hp13_1 := hp13_1.resolve_left (by omega)
      replace hp13_3 := hp13_3.resolve_left (by omega)
      have gHC := HC.of (σ := σ13) (pv.resolve_left (by omega)) (by omega) (by omega) (by omega) (by omega)
      clear pv
      refine lv_aload_n hx hb dX12_readFlight_36 rfl (lv_at hl 1 rfl) ?_
      refine r_bipush hx hb dX12_readFlight_37 (by decide) (fun z19 ez19 => ?_)
      refine lv_iload_n hx hb dX12_readFlight_39 rfl (lv_at hl 0 rfl) ?_
      refine r_iadd hx hb dX12_readFlight_40 (by omega) (fun z20 ez20 => ?_)
      refine r_iconst hx hb dX12_readFlight_41 (by decide) (fun z21 ez21 => ?_)
      refine r_bipush hx hb dX12_readFlight_42 (by decide) (fun z22 ez22 => ?_)
      refine r_cVi (k := 387) (As := [.int z20, .int z21, .int z22]) (rest := []) ⟨hx, hb, hml, hown, hts⟩ hK hP hN hS (c_X12_puts l D cA ad hI σ13 τ13 hR z20 z21 z22 (by omega) (by omega) (by omega) (by omega) gHI) (cwV 3 hts gX12_readFlight_X12_puts rfl rfl rfl (by decide +kernel) ⟨by decide, by decide⟩) (rv_M hK hP (by decide) (by decide)) rfl hl.1 rfl (Nat.le_of_ble_eq_true rfl) dX12_readFlight_44 (Nat.zero_le _) (Nat.zero_le _) (fun r23 u23 H23 locs23 hp23 hP hS => ?_)
      obtain ⟨σ23, τ23⟩ := u23
      obtain ⟨hR, f23, hq23, hp23_0, hp23_1, hp23_2, hp23_3, gnHI⟩ : P_X12_puts σ13 z20 z21 z22 r23 σ23 := hp23
      have pt1 := hp23_2
      have hP : va_P D vwCl (gw cA ad σ23 τ23) H23 := hP
      clear hp13_1
      have hF := hF.step f23 (by decide)
      have t24 : (σ23 387 3).toInt = (σ13 387 3).toInt := congrArg Int32.toInt (f23.at 387 3 (by decide))
      have t25 : (σ23 390 2).toInt = (σ13 390 2).toInt := congrArg Int32.toInt (f23.at 390 2 (by decide))
      have hr26 := rg_12_4 hR (k := 387) (by decide) (by decide)
      have gHI := gnHI
      have gHC := HC.pt gHC pt1 (by omega) (by omega)
      refine r_if_ne (tgt := 52) hx hb dX12_readFlight_47 (by decide) (fun c27 => ?_) (fun c27 => ?_)
      · replace hp23_1 := hp23_1.resolve_left (by omega)
        replace hp23_3 := hp23_3.resolve_left (by omega)
        refine r_iconst hx hb dX12_readFlight_52 (by decide) (fun z28 ez28 => ?_)
        refine lv_istore_n (lv' := [(2, .int z28), (1, .int (σ0 390 2)), (0, .ref (ad 387))]) hx hb dX12_readFlight_53 rfl hl (by decide) rfl (fun ls hl => ?_)
        refine r_iconst hx hb dX12_readFlight_54 (by decide) (fun z29 ez29 => ?_)
        refine lv_istore_n (lv' := [(3, .int z29), (2, .int z28), (1, .int (σ0 390 2)), (0, .ref (ad 387))]) hx hb dX12_readFlight_55 rfl hl (by decide) rfl (fun ls hl => ?_)
        exact K56 σ23 τ23 H23 locs23 (σ0 390 2) z28 z29 ls hR hF hP hS (by omega) (by omega) (by omega) (by omega) (by omega) (by omega) (by omega) gHI gHC (lv_sub hl [3, 2, 1, 0] rfl) (by omega)
      · clear hp23_1 hp23_3
        refine r_iconst hx hb dX12_readFlight_50 (by decide) (fun z30 ez30 => ?_)
        exact r_zret hx hb hr hK hP hS hk (by omega) dX12_readFlight_51 (show P_X12_readFlight σ0 z30 σ23 from ⟨hR, hF, by omega, by omega, by omega, gHI⟩)
  · refine lv_aload_n hx hb dX12_readFlight_12 rfl (lv_at hl 1 rfl) ?_
    refine r_iconst hx hb dX12_readFlight_13 (by decide) (fun z31 ez31 => ?_)
    refine r_cVi (k := 387) (As := [.int z31]) (rest := []) ⟨hx, hb, hml, hown, hts⟩ hK hP hN hS (c_X12_bad l D cA ad hI σ0 τ0 hR z31 (by omega)) (cwV 1 hts gX12_readFlight_X12_bad rfl rfl rfl (by decide +kernel) ⟨by decide, by decide⟩) (rv_M hK hP (by decide) (by decide)) rfl hl.1 rfl (Nat.le_of_ble_eq_true rfl) dX12_readFlight_14 (Nat.zero_le _) (Nat.zero_le _) (fun r32 u32 H32 locs32 hp32 hP hS => ?_)
    obtain ⟨σ32, τ32⟩ := u32
    obtain ⟨hR, f32, hq32⟩ : P_X12_bad σ0 z31 r32 σ32 := hp32
    have hP : va_P D vwCl (gw cA ad σ32 τ32) H32 := hP
    have hF := hF.step f32 (by decide)
    have gHI := HI.fr gHI f32 (by decide)
    have t33 : (σ32 387 4).toInt = (σ0 387 4).toInt := congrArg Int32.toInt (f32.at 387 4 (by decide))
    have t34 : (σ32 387 3).toInt = (σ0 387 3).toInt := congrArg Int32.toInt (f32.at 387 3 (by decide))
    have t35 : (σ32 387 11).toInt = (σ0 387 11).toInt := congrArg Int32.toInt (f32.at 387 11 (by decide))
    have t36 : (σ32 390 2).toInt = (σ0 390 2).toInt := congrArg Int32.toInt (f32.at 390 2 (by decide))
    exact r_zret hx hb hr hK hP hS hk (by omega) dX12_readFlight_17 (show P_X12_readFlight σ0 r32 σ32 from ⟨hR, hF, by omega, by omega, by omega, gHI⟩)
abbrev L_X12_takesName : List Rc := [(387, 387, 18, 18), (387, 387, 4, 4), (387, 387, 11, 16)]
def P_X12_takesName (σ0 : Nat → Nat → Int32) (a1 : Int32) (a2 : Int32) (r : Int32) (σ : Nat → Nat → Int32) : Prop := Rg σ ∧ Fr L_X12_takesName σ0 σ ∧ (0 ≤ r.toInt ∧ r.toInt ≤ 1) ∧ ((σ0 387 4).toInt ≤ (σ 387 4).toInt) ∧ (r.toInt = 0 ∨ (σ 387 11).toInt ≠ 3 ∨ (σ0 387 4).toInt < (σ 387 4).toInt) ∧ (r.toInt = 0 ∨ (0 ≤ (σ 387 18).toInt ∧ (σ 387 18).toInt ≤ 7)) ∧ (r.toInt = 0 ∨ 1 ≤ a2.toInt)
set_option maxHeartbeats 4000000 in
theorem c_X12_takesName (l : Launch) (D : va_G) (cA : Nat → ClassId) (ad : Nat → Nat) (hI : Inj ad) (σ0 : Nat → Nat → Int32) (τ0 : Nat → Nat → Int64) (hR : Rg σ0) (a1 : Int32) (a2 : Int32) (ha1 : 0 ≤ a1.toInt ∧ a1.toInt ≤ 16) (ha2 : 0 ≤ a2.toInt ∧ a2.toInt ≤ 8) : Met l yX12_takesName wsX12_takesName ({ frames := 2, cells := 0, slots := 0, locals := 45 } : Room) (WQc D cA ad [.ref (ad 387), .int a1, .int a2] σ0 τ0) (va_Qi (fun (r : Int32) (u : SS) => P_X12_takesName σ0 a1 a2 r u.1) (WB D cA ad) (AA ad)) 0 0 (AA ad) := by
  refine Met.ofW (cc := cX12_takesName) (maxL := 3) (ret := (some .boolean)) (by decide) rfl ?_
  intro p e s m args below meth c s₁ B hml hv
  obtain ⟨rfl, hP, hK, hN⟩ := hv
  have C : Cy p s m _ meth c cX12_takesName 3 wsX12_takesName RX12 D cA ad (some .boolean) := ⟨B.exec, B.bytes, hml, findClass_of_methodNamed B.named, atoms_spec (ws := wsX12_takesName) B.pre, hK, B.notSynchronized, B.returns, hI, hN⟩
  have hl := lv_entry ([.ref (ad 387), .int a1, .int a2]) (n := 3) (Nat.le_of_ble_eq_true rfl)
  rw [lg_entry_eq]
  generalize (lg_sl ([.ref (ad 387), .int a1, .int a2]) ++ List.replicate (3 - (lg_sl ([.ref (ad 387), .int a1, .int a2])).length) Slot.unset).toArray = ls at hl ⊢
  have hl : lv_has ls 3 [(0, .ref (ad 387)), (1, .int a1), (2, .int a2)] := hl
  have hS : va_S (AA ad) s.heap s.heap [] := va_S.rf
  have hF : Fr L_X12_takesName σ0 σ0 := Fr.rf
  obtain ⟨hx, hb, _, hown, hts, _, hk, hr, _, _⟩ := C
  have hrt4 := rg_12_4 hR (k := 387) (by decide) (by decide)
  have hrt3 := rg_12_3 hR (k := 387) (by decide) (by decide)
  refine lv_aload_n hx hb dX12_takesName_0 rfl (lv_at hl 0 rfl) ?_
  refine lv_iload_n hx hb dX12_takesName_1 rfl (lv_at hl 1 rfl) ?_
  refine lv_iload_n hx hb dX12_takesName_2 rfl (lv_at hl 2 rfl) ?_
  refine r_cVi (k := 387) (As := [.int a1, .int a2]) (rest := []) ⟨hx, hb, hml, hown, hts⟩ hK hP hN hS (c_X12_looksAt l D cA ad hI σ0 τ0 hR a1 a2 (by omega) (by omega)) (cwV 2 hts gX12_takesName_X12_looksAt rfl rfl rfl (by decide +kernel) ⟨by decide, by decide⟩) (rv_M hK hP (by decide) (by decide)) rfl hl.1 rfl (Nat.le_of_ble_eq_true rfl) dX12_takesName_3 (Nat.zero_le _) (Nat.zero_le _) (fun r1 u1 H1 locs1 hp1 hP hS => ?_)
  obtain ⟨σ1, τ1⟩ := u1
  obtain ⟨hR, f1, hq1, hp1_0, hp1_1⟩ : P_X12_looksAt σ0 a1 a2 r1 σ1 := hp1
  have hP : va_P D vwCl (gw cA ad σ1 τ1) H1 := hP
  have hF := hF.step f1 (by decide)
  have t2 : (σ1 387 4).toInt = (σ0 387 4).toInt := congrArg Int32.toInt (f1.at 387 4 (by decide))
  have t3 : (σ1 387 3).toInt = (σ0 387 3).toInt := congrArg Int32.toInt (f1.at 387 3 (by decide))
  have t4 : (σ1 387 11).toInt = (σ0 387 11).toInt := congrArg Int32.toInt (f1.at 387 11 (by decide))
  refine r_if_ne (tgt := 11) hx hb dX12_takesName_6 (by decide) (fun c5 => ?_) (fun c5 => ?_)
  · replace hp1_0 := hp1_0.resolve_left (by omega)
    replace hp1_1 := hp1_1.resolve_left (by omega)
    refine lv_aload_n hx hb dX12_takesName_11 rfl (lv_at hl 0 rfl) ?_
    refine r_cVv (k := 387) (As := []) (rest := []) ⟨hx, hb, hml, hown, hts⟩ hK hP hN hS (c_X12_next l D cA ad hI σ1 τ1 hR) (cwV 0 hts gX12_takesName_X12_next rfl rfl rfl (by decide +kernel) ⟨by decide, by decide⟩) (rv_M hK hP (by decide) (by decide)) rfl hl.1 rfl (Nat.le_of_ble_eq_true rfl) dX12_takesName_12 (Nat.zero_le _) (Nat.zero_le _) (fun u6 H6 locs6 hp6 hP hS => ?_)
    obtain ⟨σ6, τ6⟩ := u6
    obtain ⟨hR, f6, hp6_0, hp6_1, hp6_2⟩ : P_X12_next σ1 σ6 := hp6
    have hP : va_P D vwCl (gw cA ad σ6 τ6) H6 := hP
    have hF := hF.step f6 (by decide)
    have t7 : (σ6 387 3).toInt = (σ1 387 3).toInt := congrArg Int32.toInt (f6.at 387 3 (by decide))
    have t8 : (σ6 387 18).toInt = (σ1 387 18).toInt := congrArg Int32.toInt (f6.at 387 18 (by decide))
    have hr9 := rg_12_4 hR (k := 387) (by decide) (by decide)
    refine r_iconst hx hb dX12_takesName_15 (by decide) (fun z10 ez10 => ?_)
    exact r_zret hx hb hr hK hP hS hk (by omega) dX12_takesName_16 (show P_X12_takesName σ0 a1 a2 z10 σ6 from ⟨hR, hF, by omega, by omega, by omega, by omega, by omega⟩)
  · clear hp1_0 hp1_1
    refine r_iconst hx hb dX12_takesName_9 (by decide) (fun z11 ez11 => ?_)
    exact r_zret hx hb hr hK hP hS hk (by omega) dX12_takesName_10 (show P_X12_takesName σ0 a1 a2 z11 σ1 from ⟨hR, hF, by omega, by omega, by omega, by omega, by omega⟩)
theorem in_X12_line_12 : ∀ w ∈ u_ws RX12 TX12 47, w ∈ wsX12_line := by decide +kernel
theorem lk_X12_line_101 : Cond.constantLong RX12 101 (1751739500) ∈ wsX12_line := by decide +kernel
theorem lk_X12_line_103 : Cond.constantLong RX12 103 (1717660780) ∈ wsX12_line := by decide +kernel
theorem lk_X12_line_105 : Cond.constantLong RX12 105 (7168366) ∈ wsX12_line := by decide +kernel
theorem lk_X12_line_113 : Cond.constantLong RX12 113 (112615810885748) ∈ wsX12_line := by decide +kernel
theorem lk_X12_line_195 : Cond.fieldLink RX12 195 "CuckooSharesModel" "got" "I" ∈ wsX12_line := by decide +kernel
theorem lk_X12_line_232 : Cond.fieldLink RX12 232 "CuckooSharesModel" "falls" "I" ∈ wsX12_line := by decide +kernel
theorem lk_X12_line_37 : Cond.fieldLink RX12 37 "CuckooSharesModel" "h" "[I" ∈ wsX12_line := by decide +kernel
theorem lk_X12_line_87 : Cond.constantLong RX12 87 (491394459493) ∈ wsX12_line := by decide +kernel
theorem lk_X12_line_89 : Cond.constantLong RX12 89 (512852582772) ∈ wsX12_line := by decide +kernel
theorem lk_X12_line_91 : Cond.constantLong RX12 91 (2003398244) ∈ wsX12_line := by decide +kernel
theorem lk_X12_line_93 : Cond.constantLong RX12 93 (474316174440) ∈ wsX12_line := by decide +kernel
theorem lk_X12_line_95 : Cond.constantLong RX12 95 (1700885364) ∈ wsX12_line := by decide +kernel
theorem lk_X12_line_97 : Cond.constantLong RX12 97 (495791207528) ∈ wsX12_line := by decide +kernel
theorem lk_X12_line_99 : Cond.constantLong RX12 99 (2003137396) ∈ wsX12_line := by decide +kernel
abbrev L_X12_line : List Rc := [(387, 387, 4, 4), (387, 387, 11, 16), (387, 387, 18, 18), (387, 387, 20, 21), (390, 390, 0, 210)]
def P_X12_line (σ0 : Nat → Nat → Int32)  (r : Int32) (σ : Nat → Nat → Int32) : Prop := Rg σ ∧ Fr L_X12_line σ0 σ ∧ (0 ≤ r.toInt ∧ r.toInt ≤ 1) ∧ ((σ0 387 4).toInt ≤ (σ 387 4).toInt) ∧ (r.toInt = 0 ∨ (σ 387 11).toInt ≠ 3 ∨ (σ0 387 4).toInt < (σ 387 4).toInt) ∧ HI σ
def J_X12_line_35 (p : Program) (l : Launch) (e : Env) (s : State) (m : MethodId) (args : Array Value) (below : List Frame) (meth : Method) (c : Code) (D : va_G) (cA : Nat → ClassId) (ad : Nat → Nat) (σ0 : Nat → Nat → Int32)  (n : Nat) : Prop := ∀ (σ : Nat → Nat → Int32) (τ : Nat → Nat → Int64) (H : Heap) (locs : List Loc)  (ls : Array Slot), Rg σ → Fr L_X12_line σ0 σ → va_P D vwCl (gw cA ad σ τ) H → va_S (AA ad) s.heap H locs → (0 ≤ (σ 387 4).toInt ∧ (σ 387 4).toInt ≤ 940) → (0 ≤ (σ 387 3).toInt ∧ (σ 387 3).toInt ≤ 940) → ((σ0 387 4).toInt ≤ (σ 387 4).toInt) → (HI σ) → lv_has ls 2 [(0, .ref (ad 387))] → 6 < (n : Int) → W p l e ({ frames := 5, cells := 0, slots := 0, locals := 112 } : Room) s m args below meth c H locs 0 0 (MQ below (va_Qi (fun (r : Int32) (u : SS) => P_X12_line σ0 r u.1) (WB D cA ad) (AA ad)) args s 0 0 (AA ad)) (F0 m 35 ls [])
def J_X12_line_71 (p : Program) (l : Launch) (e : Env) (s : State) (m : MethodId) (args : Array Value) (below : List Frame) (meth : Method) (c : Code) (D : va_G) (cA : Nat → ClassId) (ad : Nat → Nat) (σ0 : Nat → Nat → Int32)  (n : Nat) : Prop := ∀ (σ : Nat → Nat → Int32) (τ : Nat → Nat → Int64) (H : Heap) (locs : List Loc)  (ls : Array Slot), Rg σ → Fr L_X12_line σ0 σ → va_P D vwCl (gw cA ad σ τ) H → va_S (AA ad) s.heap H locs → (0 ≤ (σ 387 4).toInt ∧ (σ 387 4).toInt ≤ 940) → (0 ≤ (σ 387 3).toInt ∧ (σ 387 3).toInt ≤ 940) → ((σ0 387 4).toInt ≤ (σ 387 4).toInt) → (HI σ) → lv_has ls 2 [(0, .ref (ad 387))] → 5 < (n : Int) → W p l e ({ frames := 5, cells := 0, slots := 0, locals := 112 } : Room) s m args below meth c H locs 0 0 (MQ below (va_Qi (fun (r : Int32) (u : SS) => P_X12_line σ0 r u.1) (WB D cA ad) (AA ad)) args s 0 0 (AA ad)) (F0 m 71 ls [])
def J_X12_line_91 (p : Program) (l : Launch) (e : Env) (s : State) (m : MethodId) (args : Array Value) (below : List Frame) (meth : Method) (c : Code) (D : va_G) (cA : Nat → ClassId) (ad : Nat → Nat) (σ0 : Nat → Nat → Int32)  (n : Nat) : Prop := ∀ (σ : Nat → Nat → Int32) (τ : Nat → Nat → Int64) (H : Heap) (locs : List Loc)  (ls : Array Slot), Rg σ → Fr L_X12_line σ0 σ → va_P D vwCl (gw cA ad σ τ) H → va_S (AA ad) s.heap H locs → (0 ≤ (σ 387 3).toInt ∧ (σ 387 3).toInt ≤ 940) → (0 ≤ (σ 387 4).toInt ∧ (σ 387 4).toInt ≤ 940) → ((σ0 387 4).toInt ≤ (σ 387 4).toInt) → (HI σ) → lv_has ls 2 [(0, .ref (ad 387))] → 2 < (n : Int) → W p l e ({ frames := 5, cells := 0, slots := 0, locals := 112 } : Room) s m args below meth c H locs 0 0 (MQ below (va_Qi (fun (r : Int32) (u : SS) => P_X12_line σ0 r u.1) (WB D cA ad) (AA ad)) args s 0 0 (AA ad)) (F0 m 91 ls [])
def J_X12_line_148 (p : Program) (l : Launch) (e : Env) (s : State) (m : MethodId) (args : Array Value) (below : List Frame) (meth : Method) (c : Code) (D : va_G) (cA : Nat → ClassId) (ad : Nat → Nat) (σ0 : Nat → Nat → Int32)  (n : Nat) : Prop := ∀ (σ : Nat → Nat → Int32) (τ : Nat → Nat → Int64) (H : Heap) (locs : List Loc) (w0 : Int32) (ls : Array Slot), Rg σ → Fr L_X12_line σ0 σ → va_P D vwCl (gw cA ad σ τ) H → va_S (AA ad) s.heap H locs → (-1 ≤ w0.toInt ∧ w0.toInt ≤ 3) → (0 ≤ (σ 387 3).toInt ∧ (σ 387 3).toInt ≤ 940) → (0 ≤ (σ 387 4).toInt ∧ (σ 387 4).toInt ≤ 940) → ((σ0 387 4).toInt ≤ (σ 387 4).toInt) → (HI σ) → lv_has ls 2 [(0, .ref (ad 387))] → 1 < (n : Int) → W p l e ({ frames := 5, cells := 0, slots := 0, locals := 112 } : Room) s m args below meth c H locs 0 0 (MQ below (va_Qi (fun (r : Int32) (u : SS) => P_X12_line σ0 r u.1) (WB D cA ad) (AA ad)) args s 0 0 (AA ad)) (F0 m 148 ls [.int w0])
def J_X12_line_180 (p : Program) (l : Launch) (e : Env) (s : State) (m : MethodId) (args : Array Value) (below : List Frame) (meth : Method) (c : Code) (D : va_G) (cA : Nat → ClassId) (ad : Nat → Nat) (σ0 : Nat → Nat → Int32)  (n : Nat) : Prop := ∀ (σ : Nat → Nat → Int32) (τ : Nat → Nat → Int64) (H : Heap) (locs : List Loc)  (ls : Array Slot), Rg σ → Fr L_X12_line σ0 σ → va_P D vwCl (gw cA ad σ τ) H → va_S (AA ad) s.heap H locs → (0 ≤ (σ 387 4).toInt ∧ (σ 387 4).toInt ≤ 940) → (0 ≤ (σ 387 3).toInt ∧ (σ 387 3).toInt ≤ 940) → ((σ0 387 4).toInt ≤ (σ 387 4).toInt) → (HI σ) → lv_has ls 2 [(0, .ref (ad 387))] → 4 < (n : Int) → W p l e ({ frames := 5, cells := 0, slots := 0, locals := 112 } : Room) s m args below meth c H locs 0 0 (MQ below (va_Qi (fun (r : Int32) (u : SS) => P_X12_line σ0 r u.1) (WB D cA ad) (AA ad)) args s 0 0 (AA ad)) (F0 m 180 ls [])
def J_X12_line_266 (p : Program) (l : Launch) (e : Env) (s : State) (m : MethodId) (args : Array Value) (below : List Frame) (meth : Method) (c : Code) (D : va_G) (cA : Nat → ClassId) (ad : Nat → Nat) (σ0 : Nat → Nat → Int32)  (n : Nat) : Prop := ∀ (σ : Nat → Nat → Int32) (τ : Nat → Nat → Int64) (H : Heap) (locs : List Loc)  (ls : Array Slot), Rg σ → Fr L_X12_line σ0 σ → va_P D vwCl (gw cA ad σ τ) H → va_S (AA ad) s.heap H locs → (0 ≤ (σ 387 4).toInt ∧ (σ 387 4).toInt ≤ 940) → (0 ≤ (σ 387 3).toInt ∧ (σ 387 3).toInt ≤ 940) → ((σ0 387 4).toInt ≤ (σ 387 4).toInt) → (HI σ) → lv_has ls 2 [(0, .ref (ad 387))] → 3 < (n : Int) → W p l e ({ frames := 5, cells := 0, slots := 0, locals := 112 } : Room) s m args below meth c H locs 0 0 (MQ below (va_Qi (fun (r : Int32) (u : SS) => P_X12_line σ0 r u.1) (WB D cA ad) (AA ad)) args s 0 0 (AA ad)) (F0 m 266 ls [])
def J_X12_line_350 (p : Program) (l : Launch) (e : Env) (s : State) (m : MethodId) (args : Array Value) (below : List Frame) (meth : Method) (c : Code) (D : va_G) (cA : Nat → ClassId) (ad : Nat → Nat) (σ0 : Nat → Nat → Int32)  (n : Nat) : Prop := ∀ (σ : Nat → Nat → Int32) (τ : Nat → Nat → Int64) (H : Heap) (locs : List Loc)  (ls : Array Slot), Rg σ → Fr L_X12_line σ0 σ → va_P D vwCl (gw cA ad σ τ) H → va_S (AA ad) s.heap H locs → (0 ≤ (σ 387 4).toInt ∧ (σ 387 4).toInt ≤ 940) → (0 ≤ (σ 387 3).toInt ∧ (σ 387 3).toInt ≤ 940) → ((σ0 387 4).toInt ≤ (σ 387 4).toInt) → (HI σ) → lv_has ls 2 [(0, .ref (ad 387))] → 2 < (n : Int) → W p l e ({ frames := 5, cells := 0, slots := 0, locals := 112 } : Room) s m args below meth c H locs 0 0 (MQ below (va_Qi (fun (r : Int32) (u : SS) => P_X12_line σ0 r u.1) (WB D cA ad) (AA ad)) args s 0 0 (AA ad)) (F0 m 350 ls [])
def J_X12_line_466 (p : Program) (l : Launch) (e : Env) (s : State) (m : MethodId) (args : Array Value) (below : List Frame) (meth : Method) (c : Code) (D : va_G) (cA : Nat → ClassId) (ad : Nat → Nat) (σ0 : Nat → Nat → Int32)  (n : Nat) : Prop := ∀ (σ : Nat → Nat → Int32) (τ : Nat → Nat → Int64) (H : Heap) (locs : List Loc)  (ls : Array Slot), Rg σ → Fr L_X12_line σ0 σ → va_P D vwCl (gw cA ad σ τ) H → va_S (AA ad) s.heap H locs → (0 ≤ (σ 387 4).toInt ∧ (σ 387 4).toInt ≤ 940) → (0 ≤ (σ 387 3).toInt ∧ (σ 387 3).toInt ≤ 940) → ((σ0 387 4).toInt ≤ (σ 387 4).toInt) → (HI σ) → lv_has ls 2 [(0, .ref (ad 387))] → 1 < (n : Int) → W p l e ({ frames := 5, cells := 0, slots := 0, locals := 112 } : Room) s m args below meth c H locs 0 0 (MQ below (va_Qi (fun (r : Int32) (u : SS) => P_X12_line σ0 r u.1) (WB D cA ad) (AA ad)) args s 0 0 (AA ad)) (F0 m 466 ls [])
set_option maxHeartbeats 4000000 in
theorem B_X12_line_35 (p : Program) (l : Launch) (e : Env) (s : State) (m : MethodId) (args : Array Value) (below : List Frame) (meth : Method) (c : Code) (D : va_G) (cA : Nat → ClassId) (ad : Nat → Nat) (σ0 : Nat → Nat → Int32)  (n : Nat) (C : Cy p s m args meth c cX12_line 2 wsX12_line RX12 D cA ad (some .boolean)) (gHI0 : HI σ0) (K35 : J_X12_line_35 p l e s m args below meth c D cA ad σ0 n) (K71 : J_X12_line_71 p l e s m args below meth c D cA ad σ0 n) (K91 : J_X12_line_91 p l e s m args below meth c D cA ad σ0 n) (K148 : J_X12_line_148 p l e s m args below meth c D cA ad σ0 n) (K180 : J_X12_line_180 p l e s m args below meth c D cA ad σ0 n) (K266 : J_X12_line_266 p l e s m args below meth c D cA ad σ0 n) (K350 : J_X12_line_350 p l e s m args below meth c D cA ad σ0 n) (K466 : J_X12_line_466 p l e s m args below meth c D cA ad σ0 n) : J_X12_line_35 p l e s m args below meth c D cA ad σ0 (n + 1) := by
  obtain ⟨hx, hb, hml, hown, hts, hK, hk, hr, hI, hN⟩ := C
  intro σ τ H locs ls hR hF hP hS hc0 hc1 hi0 gHI hl hm
  refine lv_aload_n hx hb dX12_line_35 rfl (lv_at hl 0 rfl) ?_
  refine lv_ldc2 (v := 512852582772) hx hb hown (hts _ lk_X12_line_89) dX12_line_36 ?_
  refine r_cVi (k := 387) (As := [.long (512852582772)]) (rest := []) ⟨hx, hb, hml, hown, hts⟩ hK hP hN hS (c_X12_isWord l D cA ad hI σ τ hR (512852582772)) (cwV 1 hts gX12_line_X12_isWord rfl rfl rfl (by decide +kernel) ⟨by decide, by decide⟩) (rv_M hK hP (by decide) (by decide)) rfl hl.1 rfl (Nat.le_of_ble_eq_true rfl) dX12_line_39 (Nat.zero_le _) (Nat.zero_le _) (fun r1 u1 H1 locs1 hp1 hP hS => ?_)
  obtain ⟨σ1, τ1⟩ := u1
  obtain ⟨hR, f1, hq1, hp1_0⟩ : P_X12_isWord σ (512852582772) r1 σ1 := hp1
  have hP : va_P D vwCl (gw cA ad σ1 τ1) H1 := hP
  obtain rfl := Fr.nil f1
  refine r_if_eq (tgt := 71) hx hb dX12_line_42 (by decide) (fun c2 => ?_) (fun c2 => ?_)
  · clear hp1_0
    exact K71 σ τ1 H1 locs1  ls hR hF hP hS (by omega) (by omega) (by omega) gHI (lv_sub hl [0] rfl) (by omega)
  · replace hp1_0 := hp1_0.resolve_left (by omega)
    refine lv_aload_n hx hb dX12_line_45 rfl (lv_at hl 0 rfl) ?_
    refine r_iconst hx hb dX12_line_46 (by decide) (fun z3 ez3 => ?_)
    refine r_cVi (k := 387) (As := [.int z3]) (rest := []) ⟨hx, hb, hml, hown, hts⟩ hK hP hN hS (c_X12_isOnce l D cA ad hI σ τ1 hR z3 (by omega)) (cwV 1 hts gX12_line_X12_isOnce rfl rfl rfl (by decide +kernel) ⟨by decide, by decide⟩) (rv_M hK hP (by decide) (by decide)) rfl hl.1 rfl (Nat.le_of_ble_eq_true rfl) dX12_line_47 (Nat.zero_le _) (Nat.zero_le _) (fun r4 u4 H4 locs4 hp4 hP hS => ?_)
    obtain ⟨σ4, τ4⟩ := u4
    obtain ⟨hR, f4, hq4, hp4_0, hp4_1⟩ : P_X12_isOnce σ z3 r4 σ4 := hp4
    have hP : va_P D vwCl (gw cA ad σ4 τ4) H4 := hP
    have hF := hF.step f4 (by decide)
    have gHI := HI.fr gHI f4 (by decide)
    have t5 : (σ4 387 3).toInt = (σ 387 3).toInt := congrArg Int32.toInt (f4.at 387 3 (by decide))
    have hr6 := rg_12_4 hR (k := 387) (by decide) (by decide)
    refine r_if_eq (tgt := 69) hx hb dX12_line_50 (by decide) (fun c7 => ?_) (fun c7 => ?_)
    · clear hp4_1
      refine r_iconst hx hb dX12_line_69 (by decide) (fun z8 ez8 => ?_)
      exact r_zret hx hb hr hK hP hS hk (by omega) dX12_line_70 (show P_X12_line σ0 z8 σ4 from ⟨hR, hF, by omega, by omega, by omega, gHI⟩)
    · replace hp4_1 := hp4_1.resolve_left (by omega)
      refine lv_aload_n hx hb dX12_line_53 rfl (lv_at hl 0 rfl) ?_
      refine r_iconst hx hb dX12_line_54 (by decide) (fun z9 ez9 => ?_)
      refine r_iconst hx hb dX12_line_55 (by decide) (fun z10 ez10 => ?_)
      refine r_sipush hx hb dX12_line_56 (by decide) (fun z11 ez11 => ?_)
      refine r_cVi (k := 387) (As := [.int z9, .int z10, .int z11]) (rest := []) ⟨hx, hb, hml, hown, hts⟩ hK hP hN hS (c_X12_puts l D cA ad hI σ4 τ4 hR z9 z10 z11 (by omega) (by omega) (by omega) (by omega) gHI) (cwV 3 hts gX12_line_X12_puts rfl rfl rfl (by decide +kernel) ⟨by decide, by decide⟩) (rv_M hK hP (by decide) (by decide)) rfl hl.1 rfl (Nat.le_of_ble_eq_true rfl) dX12_line_59 (Nat.zero_le _) (Nat.zero_le _) (fun r12 u12 H12 locs12 hp12 hP hS => ?_)
      obtain ⟨σ12, τ12⟩ := u12
      obtain ⟨hR, f12, hq12, hp12_0, hp12_1, hp12_2, hp12_3, gnHI⟩ : P_X12_puts σ4 z9 z10 z11 r12 σ12 := hp12
      have hP : va_P D vwCl (gw cA ad σ12 τ12) H12 := hP
      clear hp4_1
      have hF := hF.step f12 (by decide)
      have t13 : (σ12 387 3).toInt = (σ4 387 3).toInt := congrArg Int32.toInt (f12.at 387 3 (by decide))
      have hr14 := rg_12_4 hR (k := 387) (by decide) (by decide)
      have gHI := gnHI
      refine r_if_eq (tgt := 69) hx hb dX12_line_62 (by decide) (fun c15 => ?_) (fun c15 => ?_)
      · clear hp12_1 hp12_3
        refine r_iconst hx hb dX12_line_69 (by decide) (fun z16 ez16 => ?_)
        exact r_zret hx hb hr hK hP hS hk (by omega) dX12_line_70 (show P_X12_line σ0 z16 σ12 from ⟨hR, hF, by omega, by omega, by omega, gHI⟩)
      · replace hp12_1 := hp12_1.resolve_left (by omega)
        replace hp12_3 := hp12_3.resolve_left (by omega)
        refine r_iconst hx hb dX12_line_65 (by decide) (fun z17 ez17 => ?_)
        refine lv_goto (tgt := 70) hx hb dX12_line_66 (by decide) ?_
        exact r_zret hx hb hr hK hP hS hk (by omega) dX12_line_70 (show P_X12_line σ0 z17 σ12 from ⟨hR, hF, by omega, by omega, by omega, gHI⟩)
set_option maxHeartbeats 4000000 in
theorem B_X12_line_71 (p : Program) (l : Launch) (e : Env) (s : State) (m : MethodId) (args : Array Value) (below : List Frame) (meth : Method) (c : Code) (D : va_G) (cA : Nat → ClassId) (ad : Nat → Nat) (σ0 : Nat → Nat → Int32)  (n : Nat) (C : Cy p s m args meth c cX12_line 2 wsX12_line RX12 D cA ad (some .boolean)) (gHI0 : HI σ0) (K35 : J_X12_line_35 p l e s m args below meth c D cA ad σ0 n) (K71 : J_X12_line_71 p l e s m args below meth c D cA ad σ0 n) (K91 : J_X12_line_91 p l e s m args below meth c D cA ad σ0 n) (K148 : J_X12_line_148 p l e s m args below meth c D cA ad σ0 n) (K180 : J_X12_line_180 p l e s m args below meth c D cA ad σ0 n) (K266 : J_X12_line_266 p l e s m args below meth c D cA ad σ0 n) (K350 : J_X12_line_350 p l e s m args below meth c D cA ad σ0 n) (K466 : J_X12_line_466 p l e s m args below meth c D cA ad σ0 n) : J_X12_line_71 p l e s m args below meth c D cA ad σ0 (n + 1) := by
  obtain ⟨hx, hb, hml, hown, hts, hK, hk, hr, hI, hN⟩ := C
  intro σ τ H locs ls hR hF hP hS hc0 hc1 hi0 gHI hl hm
  refine lv_aload_n hx hb dX12_line_71 rfl (lv_at hl 0 rfl) ?_
  refine lv_ldc2 (v := 2003398244) hx hb hown (hts _ lk_X12_line_91) dX12_line_72 ?_
  refine r_cVi (k := 387) (As := [.long (2003398244)]) (rest := []) ⟨hx, hb, hml, hown, hts⟩ hK hP hN hS (c_X12_isWord l D cA ad hI σ τ hR (2003398244)) (cwV 1 hts gX12_line_X12_isWord rfl rfl rfl (by decide +kernel) ⟨by decide, by decide⟩) (rv_M hK hP (by decide) (by decide)) rfl hl.1 rfl (Nat.le_of_ble_eq_true rfl) dX12_line_75 (Nat.zero_le _) (Nat.zero_le _) (fun r1 u1 H1 locs1 hp1 hP hS => ?_)
  obtain ⟨σ1, τ1⟩ := u1
  obtain ⟨hR, f1, hq1, hp1_0⟩ : P_X12_isWord σ (2003398244) r1 σ1 := hp1
  have hP : va_P D vwCl (gw cA ad σ1 τ1) H1 := hP
  obtain rfl := Fr.nil f1
  refine r_if_eq (tgt := 180) hx hb dX12_line_78 (by decide) (fun c2 => ?_) (fun c2 => ?_)
  · clear hp1_0
    exact K180 σ τ1 H1 locs1  ls hR hF hP hS (by omega) (by omega) (by omega) gHI (lv_sub hl [0] rfl) (by omega)
  · replace hp1_0 := hp1_0.resolve_left (by omega)
    refine lv_aload_n hx hb dX12_line_81 rfl (lv_at hl 0 rfl) ?_
    refine r_iconst hx hb dX12_line_82 (by decide) (fun z3 ez3 => ?_)
    refine r_cVi (k := 387) (As := [.int z3]) (rest := []) ⟨hx, hb, hml, hown, hts⟩ hK hP hN hS (c_X12_isOnce l D cA ad hI σ τ1 hR z3 (by omega)) (cwV 1 hts gX12_line_X12_isOnce rfl rfl rfl (by decide +kernel) ⟨by decide, by decide⟩) (rv_M hK hP (by decide) (by decide)) rfl hl.1 rfl (Nat.le_of_ble_eq_true rfl) dX12_line_83 (Nat.zero_le _) (Nat.zero_le _) (fun r4 u4 H4 locs4 hp4 hP hS => ?_)
    obtain ⟨σ4, τ4⟩ := u4
    obtain ⟨hR, f4, hq4, hp4_0, hp4_1⟩ : P_X12_isOnce σ z3 r4 σ4 := hp4
    have hP : va_P D vwCl (gw cA ad σ4 τ4) H4 := hP
    have hF := hF.step f4 (by decide)
    have gHI := HI.fr gHI f4 (by decide)
    have t5 : (σ4 387 3).toInt = (σ 387 3).toInt := congrArg Int32.toInt (f4.at 387 3 (by decide))
    have hr6 := rg_12_4 hR (k := 387) (by decide) (by decide)
    refine r_if_ne (tgt := 91) hx hb dX12_line_86 (by decide) (fun c7 => ?_) (fun c7 => ?_)
    · replace hp4_1 := hp4_1.resolve_left (by omega)
      exact K91 σ4 τ4 H4 locs4  ls hR hF hP hS (by omega) (by omega) (by omega) gHI (lv_sub hl [0] rfl) (by omega)
    · clear hp4_1
      refine r_iconst hx hb dX12_line_89 (by decide) (fun z8 ez8 => ?_)
      exact r_zret hx hb hr hK hP hS hk (by omega) dX12_line_90 (show P_X12_line σ0 z8 σ4 from ⟨hR, hF, by omega, by omega, by omega, gHI⟩)
set_option maxHeartbeats 4000000 in
theorem B_X12_line_91 (p : Program) (l : Launch) (e : Env) (s : State) (m : MethodId) (args : Array Value) (below : List Frame) (meth : Method) (c : Code) (D : va_G) (cA : Nat → ClassId) (ad : Nat → Nat) (σ0 : Nat → Nat → Int32)  (n : Nat) (C : Cy p s m args meth c cX12_line 2 wsX12_line RX12 D cA ad (some .boolean)) (gHI0 : HI σ0) (K35 : J_X12_line_35 p l e s m args below meth c D cA ad σ0 n) (K71 : J_X12_line_71 p l e s m args below meth c D cA ad σ0 n) (K91 : J_X12_line_91 p l e s m args below meth c D cA ad σ0 n) (K148 : J_X12_line_148 p l e s m args below meth c D cA ad σ0 n) (K180 : J_X12_line_180 p l e s m args below meth c D cA ad σ0 n) (K266 : J_X12_line_266 p l e s m args below meth c D cA ad σ0 n) (K350 : J_X12_line_350 p l e s m args below meth c D cA ad σ0 n) (K466 : J_X12_line_466 p l e s m args below meth c D cA ad σ0 n) : J_X12_line_91 p l e s m args below meth c D cA ad σ0 (n + 1) := by
  obtain ⟨hx, hb, hml, hown, hts, hK, hk, hr, hI, hN⟩ := C
  intro σ τ H locs ls hR hF hP hS hc0 hc1 hi0 gHI hl hm
  refine lv_aload_n hx hb dX12_line_91 rfl (lv_at hl 0 rfl) ?_
  refine lv_ldc2 (v := 474316174440) hx hb hown (hts _ lk_X12_line_93) dX12_line_92 ?_
  refine r_cVi (k := 387) (As := [.long (474316174440)]) (rest := []) ⟨hx, hb, hml, hown, hts⟩ hK hP hN hS (c_X12_isWord l D cA ad hI σ τ hR (474316174440)) (cwV 1 hts gX12_line_X12_isWord rfl rfl rfl (by decide +kernel) ⟨by decide, by decide⟩) (rv_M hK hP (by decide) (by decide)) rfl hl.1 rfl (Nat.le_of_ble_eq_true rfl) dX12_line_95 (Nat.zero_le _) (Nat.zero_le _) (fun r1 u1 H1 locs1 hp1 hP hS => ?_)
  obtain ⟨σ1, τ1⟩ := u1
  obtain ⟨hR, f1, hq1, hp1_0⟩ : P_X12_isWord σ (474316174440) r1 σ1 := hp1
  have hP : va_P D vwCl (gw cA ad σ1 τ1) H1 := hP
  obtain rfl := Fr.nil f1
  refine r_if_eq (tgt := 105) hx hb dX12_line_98 (by decide) (fun c2 => ?_) (fun c2 => ?_)
  · clear hp1_0
    refine lv_aload_n hx hb dX12_line_105 rfl (lv_at hl 0 rfl) ?_
    refine lv_ldc2 (v := 1700885364) hx hb hown (hts _ lk_X12_line_95) dX12_line_106 ?_
    refine r_cVi (k := 387) (As := [.long (1700885364)]) (rest := []) ⟨hx, hb, hml, hown, hts⟩ hK hP hN hS (c_X12_isWord l D cA ad hI σ τ1 hR (1700885364)) (cwV 1 hts gX12_line_X12_isWord rfl rfl rfl (by decide +kernel) ⟨by decide, by decide⟩) (rv_M hK hP (by decide) (by decide)) rfl hl.1 rfl (Nat.le_of_ble_eq_true rfl) dX12_line_109 (Nat.zero_le _) (Nat.zero_le _) (fun r3 u3 H3 locs3 hp3 hP hS => ?_)
    obtain ⟨σ3, τ3⟩ := u3
    obtain ⟨hR, f3, hq3, hp3_0⟩ : P_X12_isWord σ (1700885364) r3 σ3 := hp3
    have hP : va_P D vwCl (gw cA ad σ3 τ3) H3 := hP
    obtain rfl := Fr.nil f3
    refine r_if_eq (tgt := 119) hx hb dX12_line_112 (by decide) (fun c4 => ?_) (fun c4 => ?_)
    · clear hp3_0
      refine lv_aload_n hx hb dX12_line_119 rfl (lv_at hl 0 rfl) ?_
      refine lv_ldc2 (v := 495791207528) hx hb hown (hts _ lk_X12_line_97) dX12_line_120 ?_
      refine r_cVi (k := 387) (As := [.long (495791207528)]) (rest := []) ⟨hx, hb, hml, hown, hts⟩ hK hP hN hS (c_X12_isWord l D cA ad hI σ τ3 hR (495791207528)) (cwV 1 hts gX12_line_X12_isWord rfl rfl rfl (by decide +kernel) ⟨by decide, by decide⟩) (rv_M hK hP (by decide) (by decide)) rfl hl.1 rfl (Nat.le_of_ble_eq_true rfl) dX12_line_123 (Nat.zero_le _) (Nat.zero_le _) (fun r5 u5 H5 locs5 hp5 hP hS => ?_)
      obtain ⟨σ5, τ5⟩ := u5
      obtain ⟨hR, f5, hq5, hp5_0⟩ : P_X12_isWord σ (495791207528) r5 σ5 := hp5
      have hP : va_P D vwCl (gw cA ad σ5 τ5) H5 := hP
      obtain rfl := Fr.nil f5
      refine r_if_eq (tgt := 133) hx hb dX12_line_126 (by decide) (fun c6 => ?_) (fun c6 => ?_)
      · clear hp5_0
        refine lv_aload_n hx hb dX12_line_133 rfl (lv_at hl 0 rfl) ?_
        refine lv_ldc2 (v := 2003137396) hx hb hown (hts _ lk_X12_line_99) dX12_line_134 ?_
        refine r_cVi (k := 387) (As := [.long (2003137396)]) (rest := []) ⟨hx, hb, hml, hown, hts⟩ hK hP hN hS (c_X12_isWord l D cA ad hI σ τ5 hR (2003137396)) (cwV 1 hts gX12_line_X12_isWord rfl rfl rfl (by decide +kernel) ⟨by decide, by decide⟩) (rv_M hK hP (by decide) (by decide)) rfl hl.1 rfl (Nat.le_of_ble_eq_true rfl) dX12_line_137 (Nat.zero_le _) (Nat.zero_le _) (fun r7 u7 H7 locs7 hp7 hP hS => ?_)
        obtain ⟨σ7, τ7⟩ := u7
        obtain ⟨hR, f7, hq7, hp7_0⟩ : P_X12_isWord σ (2003137396) r7 σ7 := hp7
        have hP : va_P D vwCl (gw cA ad σ7 τ7) H7 := hP
        obtain rfl := Fr.nil f7
        refine r_if_eq (tgt := 147) hx hb dX12_line_140 (by decide) (fun c8 => ?_) (fun c8 => ?_)
        · clear hp7_0
          refine r_iconst hx hb dX12_line_147 (by decide) (fun z9 ez9 => ?_)
          exact K148 σ τ7 H7 locs7 z9 ls hR hF hP hS (by omega) (by omega) (by omega) (by omega) gHI (lv_sub hl [0] rfl) (by omega)
        · replace hp7_0 := hp7_0.resolve_left (by omega)
          refine r_iconst hx hb dX12_line_143 (by decide) (fun z10 ez10 => ?_)
          refine lv_goto (tgt := 148) hx hb dX12_line_144 (by decide) ?_
          exact K148 σ τ7 H7 locs7 z10 ls hR hF hP hS (by omega) (by omega) (by omega) (by omega) gHI (lv_sub hl [0] rfl) (by omega)
      · replace hp5_0 := hp5_0.resolve_left (by omega)
        refine r_iconst hx hb dX12_line_129 (by decide) (fun z11 ez11 => ?_)
        refine lv_goto (tgt := 148) hx hb dX12_line_130 (by decide) ?_
        exact K148 σ τ5 H5 locs5 z11 ls hR hF hP hS (by omega) (by omega) (by omega) (by omega) gHI (lv_sub hl [0] rfl) (by omega)
    · replace hp3_0 := hp3_0.resolve_left (by omega)
      refine r_iconst hx hb dX12_line_115 (by decide) (fun z12 ez12 => ?_)
      refine lv_goto (tgt := 148) hx hb dX12_line_116 (by decide) ?_
      exact K148 σ τ3 H3 locs3 z12 ls hR hF hP hS (by omega) (by omega) (by omega) (by omega) gHI (lv_sub hl [0] rfl) (by omega)
  · replace hp1_0 := hp1_0.resolve_left (by omega)
    refine r_iconst hx hb dX12_line_101 (by decide) (fun z13 ez13 => ?_)
    refine lv_goto (tgt := 148) hx hb dX12_line_102 (by decide) ?_
    exact K148 σ τ1 H1 locs1 z13 ls hR hF hP hS (by omega) (by omega) (by omega) (by omega) gHI (lv_sub hl [0] rfl) (by omega)
set_option maxHeartbeats 4000000 in
theorem B_X12_line_148 (p : Program) (l : Launch) (e : Env) (s : State) (m : MethodId) (args : Array Value) (below : List Frame) (meth : Method) (c : Code) (D : va_G) (cA : Nat → ClassId) (ad : Nat → Nat) (σ0 : Nat → Nat → Int32)  (n : Nat) (C : Cy p s m args meth c cX12_line 2 wsX12_line RX12 D cA ad (some .boolean)) (gHI0 : HI σ0) (K35 : J_X12_line_35 p l e s m args below meth c D cA ad σ0 n) (K71 : J_X12_line_71 p l e s m args below meth c D cA ad σ0 n) (K91 : J_X12_line_91 p l e s m args below meth c D cA ad σ0 n) (K148 : J_X12_line_148 p l e s m args below meth c D cA ad σ0 n) (K180 : J_X12_line_180 p l e s m args below meth c D cA ad σ0 n) (K266 : J_X12_line_266 p l e s m args below meth c D cA ad σ0 n) (K350 : J_X12_line_350 p l e s m args below meth c D cA ad σ0 n) (K466 : J_X12_line_466 p l e s m args below meth c D cA ad σ0 n) : J_X12_line_148 p l e s m args below meth c D cA ad σ0 (n + 1) := by
  obtain ⟨hx, hb, hml, hown, hts, hK, hk, hr, hI, hN⟩ := C
  intro σ τ H locs w0 ls hR hF hP hS hc0 hc1 hc2 hi0 gHI hl hm
  refine lv_istore_n (lv' := [(1, .int w0), (0, .ref (ad 387))]) hx hb dX12_line_148 rfl hl (by decide) rfl (fun ls hl => ?_)
  refine lv_iload_n hx hb dX12_line_149 rfl (lv_at hl 0 rfl) ?_
  refine r_if_ge (tgt := 159) hx hb dX12_line_150 (by decide) (fun c1 => ?_) (fun c1 => ?_)
  · refine lv_aload_n hx hb dX12_line_159 rfl (lv_at hl 1 rfl) ?_
    refine fg_12_7 (k := 387) hx hb hts in_X12_line_12 hown hK hP (by decide) (by decide) (hts _ lk_X12_line_37) dX12_line_160 ?_
    refine r_iconst hx hb dX12_line_163 (by decide) (fun z2 ez2 => ?_)
    refine lv_iload_n hx hb dX12_line_164 rfl (lv_at hl 0 rfl) ?_
    refine as_mh (k := 390) (j := 5) hx hb hK hP hI hR hS (by decide) (by decide) (by omega) (by omega) (rx_mh_3 (by decide) (by decide) (by decide) (by decide)) dX12_line_165 (fun σ3 H3 locs3 u3 v3 hR hP hS => ?_)
    have hF := hF.puts u3 4 rfl (by decide) (by decide) (by decide) (by decide)
    have gHI := HI.put gHI u3 (by decide)
    have t4 : (σ3 387 3).toInt = (σ 387 3).toInt := congrArg Int32.toInt (u3 387 3 (by omega))
    have t5 : (σ3 387 4).toInt = (σ 387 4).toInt := congrArg Int32.toInt (u3 387 4 (by omega))
    have t6 : (σ3 387 11).toInt = (σ 387 11).toInt := congrArg Int32.toInt (u3 387 11 (by omega))
    refine lv_aload_n hx hb dX12_line_166 rfl (lv_at hl 1 rfl) ?_
    refine r_cVv (k := 387) (As := []) (rest := []) ⟨hx, hb, hml, hown, hts⟩ hK hP hN hS (c_X12_next l D cA ad hI σ3 τ hR) (cwV 0 hts gX12_line_X12_next rfl rfl rfl (by decide +kernel) ⟨by decide, by decide⟩) (rv_M hK hP (by decide) (by decide)) rfl hl.1 rfl (Nat.le_of_ble_eq_true rfl) dX12_line_167 (Nat.zero_le _) (Nat.zero_le _) (fun u7 H7 locs7 hp7 hP hS => ?_)
    obtain ⟨σ7, τ7⟩ := u7
    obtain ⟨hR, f7, hp7_0, hp7_1, hp7_2⟩ : P_X12_next σ3 σ7 := hp7
    have hP : va_P D vwCl (gw cA ad σ7 τ7) H7 := hP
    have hF := hF.step f7 (by decide)
    have gHI := HI.fr gHI f7 (by decide)
    have t8 : (σ7 387 3).toInt = (σ3 387 3).toInt := congrArg Int32.toInt (f7.at 387 3 (by decide))
    have t9 : (σ7 390 5).toInt = (σ3 390 5).toInt := congrArg Int32.toInt (f7.at 390 5 (by decide))
    have hr10 := rg_12_4 hR (k := 387) (by decide) (by decide)
    refine lv_aload_n hx hb dX12_line_170 rfl (lv_at hl 1 rfl) ?_
    refine r_bipush hx hb dX12_line_171 (by decide) (fun z11 ez11 => ?_)
    refine r_iconst hx hb dX12_line_173 (by decide) (fun z12 ez12 => ?_)
    refine r_bipush hx hb dX12_line_174 (by decide) (fun z13 ez13 => ?_)
    refine r_cVi (k := 387) (As := [.int z11, .int z12, .int z13]) (rest := []) ⟨hx, hb, hml, hown, hts⟩ hK hP hN hS (c_X12_puts l D cA ad hI σ7 τ7 hR z11 z12 z13 (by omega) (by omega) (by omega) (by omega) gHI) (cwV 3 hts gX12_line_X12_puts rfl rfl rfl (by decide +kernel) ⟨by decide, by decide⟩) (rv_M hK hP (by decide) (by decide)) rfl hl.1 rfl (Nat.le_of_ble_eq_true rfl) dX12_line_176 (Nat.zero_le _) (Nat.zero_le _) (fun r14 u14 H14 locs14 hp14 hP hS => ?_)
    obtain ⟨σ14, τ14⟩ := u14
    obtain ⟨hR, f14, hq14, hp14_0, hp14_1, hp14_2, hp14_3, gnHI⟩ : P_X12_puts σ7 z11 z12 z13 r14 σ14 := hp14
    have hP : va_P D vwCl (gw cA ad σ14 τ14) H14 := hP
    clear hp7_1
    have hF := hF.step f14 (by decide)
    have t15 : (σ14 387 3).toInt = (σ7 387 3).toInt := congrArg Int32.toInt (f14.at 387 3 (by decide))
    have hr16 := rg_12_4 hR (k := 387) (by decide) (by decide)
    have gHI := gnHI
    exact r_zret hx hb hr hK hP hS hk (by omega) dX12_line_179 (show P_X12_line σ0 r14 σ14 from ⟨hR, hF, by omega, by omega, by omega, gHI⟩)
  · refine lv_aload_n hx hb dX12_line_153 rfl (lv_at hl 1 rfl) ?_
    refine r_iconst hx hb dX12_line_154 (by decide) (fun z17 ez17 => ?_)
    refine r_cVi (k := 387) (As := [.int z17]) (rest := []) ⟨hx, hb, hml, hown, hts⟩ hK hP hN hS (c_X12_bad l D cA ad hI σ τ hR z17 (by omega)) (cwV 1 hts gX12_line_X12_bad rfl rfl rfl (by decide +kernel) ⟨by decide, by decide⟩) (rv_M hK hP (by decide) (by decide)) rfl hl.1 rfl (Nat.le_of_ble_eq_true rfl) dX12_line_155 (Nat.zero_le _) (Nat.zero_le _) (fun r18 u18 H18 locs18 hp18 hP hS => ?_)
    obtain ⟨σ18, τ18⟩ := u18
    obtain ⟨hR, f18, hq18⟩ : P_X12_bad σ z17 r18 σ18 := hp18
    have hP : va_P D vwCl (gw cA ad σ18 τ18) H18 := hP
    have hF := hF.step f18 (by decide)
    have gHI := HI.fr gHI f18 (by decide)
    have t19 : (σ18 387 3).toInt = (σ 387 3).toInt := congrArg Int32.toInt (f18.at 387 3 (by decide))
    have t20 : (σ18 387 4).toInt = (σ 387 4).toInt := congrArg Int32.toInt (f18.at 387 4 (by decide))
    have t21 : (σ18 387 11).toInt = (σ 387 11).toInt := congrArg Int32.toInt (f18.at 387 11 (by decide))
    exact r_zret hx hb hr hK hP hS hk (by omega) dX12_line_158 (show P_X12_line σ0 r18 σ18 from ⟨hR, hF, by omega, by omega, by omega, gHI⟩)
set_option maxHeartbeats 4000000 in
theorem B_X12_line_180 (p : Program) (l : Launch) (e : Env) (s : State) (m : MethodId) (args : Array Value) (below : List Frame) (meth : Method) (c : Code) (D : va_G) (cA : Nat → ClassId) (ad : Nat → Nat) (σ0 : Nat → Nat → Int32)  (n : Nat) (C : Cy p s m args meth c cX12_line 2 wsX12_line RX12 D cA ad (some .boolean)) (gHI0 : HI σ0) (K35 : J_X12_line_35 p l e s m args below meth c D cA ad σ0 n) (K71 : J_X12_line_71 p l e s m args below meth c D cA ad σ0 n) (K91 : J_X12_line_91 p l e s m args below meth c D cA ad σ0 n) (K148 : J_X12_line_148 p l e s m args below meth c D cA ad σ0 n) (K180 : J_X12_line_180 p l e s m args below meth c D cA ad σ0 n) (K266 : J_X12_line_266 p l e s m args below meth c D cA ad σ0 n) (K350 : J_X12_line_350 p l e s m args below meth c D cA ad σ0 n) (K466 : J_X12_line_466 p l e s m args below meth c D cA ad σ0 n) : J_X12_line_180 p l e s m args below meth c D cA ad σ0 (n + 1) := by
  obtain ⟨hx, hb, hml, hown, hts, hK, hk, hr, hI, hN⟩ := C
  intro σ τ H locs ls hR hF hP hS hc0 hc1 hi0 gHI hl hm
  refine lv_aload_n hx hb dX12_line_180 rfl (lv_at hl 0 rfl) ?_
  refine lv_ldc2 (v := 1751739500) hx hb hown (hts _ lk_X12_line_101) dX12_line_181 ?_
  refine r_cVi (k := 387) (As := [.long (1751739500)]) (rest := []) ⟨hx, hb, hml, hown, hts⟩ hK hP hN hS (c_X12_isWord l D cA ad hI σ τ hR (1751739500)) (cwV 1 hts gX12_line_X12_isWord rfl rfl rfl (by decide +kernel) ⟨by decide, by decide⟩) (rv_M hK hP (by decide) (by decide)) rfl hl.1 rfl (Nat.le_of_ble_eq_true rfl) dX12_line_184 (Nat.zero_le _) (Nat.zero_le _) (fun r1 u1 H1 locs1 hp1 hP hS => ?_)
  obtain ⟨σ1, τ1⟩ := u1
  obtain ⟨hR, f1, hq1, hp1_0⟩ : P_X12_isWord σ (1751739500) r1 σ1 := hp1
  have hP : va_P D vwCl (gw cA ad σ1 τ1) H1 := hP
  obtain rfl := Fr.nil f1
  refine r_if_eq (tgt := 266) hx hb dX12_line_187 (by decide) (fun c2 => ?_) (fun c2 => ?_)
  · clear hp1_0
    exact K266 σ τ1 H1 locs1  ls hR hF hP hS (by omega) (by omega) (by omega) gHI (lv_sub hl [0] rfl) (by omega)
  · replace hp1_0 := hp1_0.resolve_left (by omega)
    refine lv_aload_n hx hb dX12_line_190 rfl (lv_at hl 0 rfl) ?_
    refine fg_12_7 (k := 387) hx hb hts in_X12_line_12 hown hK hP (by decide) (by decide) (hts _ lk_X12_line_37) dX12_line_191 ?_
    refine r_iconst hx hb dX12_line_194 (by decide) (fun z3 ez3 => ?_)
    refine ad_mh (k := 390) (j := 0) hx hb hK hP (by decide) (by decide) (by omega) (by omega) dX12_line_195 ?_
    have hr4 := ra_mh_0 hR (k := 390) (j := 0) (by decide) (by decide) (by decide) (by decide)
    refine lv_istore_n (lv' := [(1, .int (σ 390 0)), (0, .ref (ad 387))]) hx hb dX12_line_196 rfl hl (by decide) rfl (fun ls hl => ?_)
    refine lv_iload_n hx hb dX12_line_197 rfl (lv_at hl 0 rfl) ?_
    refine r_bipush hx hb dX12_line_198 (by decide) (fun z5 ez5 => ?_)
    refine r_icmp_ne (tgt := 209) hx hb dX12_line_200 (by decide) (fun c6 => ?_) (fun c6 => ?_)
    · refine lv_aload_n hx hb dX12_line_209 rfl (lv_at hl 1 rfl) ?_
      refine r_cVv (k := 387) (As := []) (rest := []) ⟨hx, hb, hml, hown, hts⟩ hK hP hN hS (c_X12_next l D cA ad hI σ τ1 hR) (cwV 0 hts gX12_line_X12_next rfl rfl rfl (by decide +kernel) ⟨by decide, by decide⟩) (rv_M hK hP (by decide) (by decide)) rfl hl.1 rfl (Nat.le_of_ble_eq_true rfl) dX12_line_210 (Nat.zero_le _) (Nat.zero_le _) (fun u7 H7 locs7 hp7 hP hS => ?_)
      obtain ⟨σ7, τ7⟩ := u7
      obtain ⟨hR, f7, hp7_0, hp7_1, hp7_2⟩ : P_X12_next σ σ7 := hp7
      have hP : va_P D vwCl (gw cA ad σ7 τ7) H7 := hP
      have hF := hF.step f7 (by decide)
      have gHI := HI.fr gHI f7 (by decide)
      have t8 : (σ7 387 3).toInt = (σ 387 3).toInt := congrArg Int32.toInt (f7.at 387 3 (by decide))
      have t9 : (σ7 390 0).toInt = (σ 390 0).toInt := congrArg Int32.toInt (f7.at 390 0 (by decide))
      have hr10 := rg_12_4 hR (k := 387) (by decide) (by decide)
      refine lv_aload_n hx hb dX12_line_213 rfl (lv_at hl 1 rfl) ?_
      refine r_bipush hx hb dX12_line_214 (by decide) (fun z11 ez11 => ?_)
      refine lv_iload_n hx hb dX12_line_216 rfl (lv_at hl 0 rfl) ?_
      refine r_iadd hx hb dX12_line_217 (by omega) (fun z12 ez12 => ?_)
      refine r_cVi (k := 387) (As := [.int z12]) (rest := []) ⟨hx, hb, hml, hown, hts⟩ hK hP hN hS (c_X12_fresh l D cA ad hI σ7 τ7 hR z12 (by omega)) (cwV 1 hts gX12_line_X12_fresh rfl rfl rfl (by decide +kernel) ⟨by decide, by decide⟩) (rv_M hK hP (by decide) (by decide)) rfl hl.1 rfl (Nat.le_of_ble_eq_true rfl) dX12_line_218 (Nat.zero_le _) (Nat.zero_le _) (fun r13 u13 H13 locs13 hp13 hP hS => ?_)
      obtain ⟨σ13, τ13⟩ := u13
      obtain ⟨hR, f13, hq13, hp13_0, hp13_1⟩ : P_X12_fresh σ7 z12 r13 σ13 := hp13
      have hP : va_P D vwCl (gw cA ad σ13 τ13) H13 := hP
      clear hp7_1
      have hF := hF.step f13 (by decide)
      have gHI := HI.fr gHI f13 (by decide)
      have t14 : (σ13 387 3).toInt = (σ7 387 3).toInt := congrArg Int32.toInt (f13.at 387 3 (by decide))
      have t15 : (σ13 390 0).toInt = (σ7 390 0).toInt := congrArg Int32.toInt (f13.at 390 0 (by decide))
      have hr16 := rg_12_4 hR (k := 387) (by decide) (by decide)
      refine r_if_eq (tgt := 252) hx hb dX12_line_221 (by decide) (fun c17 => ?_) (fun c17 => ?_)
      · clear hp13_1
        refine r_iconst hx hb dX12_line_252 (by decide) (fun z18 ez18 => ?_)
        exact r_zret hx hb hr hK hP hS hk (by omega) dX12_line_253 (show P_X12_line σ0 z18 σ13 from ⟨hR, hF, by omega, by omega, by omega, gHI⟩)
      · replace hp13_1 := hp13_1.resolve_left (by omega)
        refine lv_aload_n hx hb dX12_line_224 rfl (lv_at hl 1 rfl) ?_
        refine r_bipush hx hb dX12_line_225 (by decide) (fun z19 ez19 => ?_)
        refine lv_iload_n hx hb dX12_line_227 rfl (lv_at hl 0 rfl) ?_
        refine r_iadd hx hb dX12_line_228 (by omega) (fun z20 ez20 => ?_)
        refine r_iconst hx hb dX12_line_229 (by decide) (fun z21 ez21 => ?_)
        refine r_bipush hx hb dX12_line_230 (by decide) (fun z22 ez22 => ?_)
        refine r_cVi (k := 387) (As := [.int z20, .int z21, .int z22]) (rest := []) ⟨hx, hb, hml, hown, hts⟩ hK hP hN hS (c_X12_puts l D cA ad hI σ13 τ13 hR z20 z21 z22 (by omega) (by omega) (by omega) (by omega) gHI) (cwV 3 hts gX12_line_X12_puts rfl rfl rfl (by decide +kernel) ⟨by decide, by decide⟩) (rv_M hK hP (by decide) (by decide)) rfl hl.1 rfl (Nat.le_of_ble_eq_true rfl) dX12_line_232 (Nat.zero_le _) (Nat.zero_le _) (fun r23 u23 H23 locs23 hp23 hP hS => ?_)
        obtain ⟨σ23, τ23⟩ := u23
        obtain ⟨hR, f23, hq23, hp23_0, hp23_1, hp23_2, hp23_3, gnHI⟩ : P_X12_puts σ13 z20 z21 z22 r23 σ23 := hp23
        have hP : va_P D vwCl (gw cA ad σ23 τ23) H23 := hP
        clear hp13_1
        have hF := hF.step f23 (by decide)
        have t24 : (σ23 387 3).toInt = (σ13 387 3).toInt := congrArg Int32.toInt (f23.at 387 3 (by decide))
        have t25 : (σ23 390 0).toInt = (σ13 390 0).toInt := congrArg Int32.toInt (f23.at 390 0 (by decide))
        have hr26 := rg_12_4 hR (k := 387) (by decide) (by decide)
        have gHI := gnHI
        refine r_if_eq (tgt := 252) hx hb dX12_line_235 (by decide) (fun c27 => ?_) (fun c27 => ?_)
        · clear hp23_1 hp23_3
          refine r_iconst hx hb dX12_line_252 (by decide) (fun z28 ez28 => ?_)
          exact r_zret hx hb hr hK hP hS hk (by omega) dX12_line_253 (show P_X12_line σ0 z28 σ23 from ⟨hR, hF, by omega, by omega, by omega, gHI⟩)
        · replace hp23_1 := hp23_1.resolve_left (by omega)
          replace hp23_3 := hp23_3.resolve_left (by omega)
          refine lv_aload_n hx hb dX12_line_238 rfl (lv_at hl 1 rfl) ?_
          refine r_bipush hx hb dX12_line_239 (by decide) (fun z29 ez29 => ?_)
          refine lv_iload_n hx hb dX12_line_241 rfl (lv_at hl 0 rfl) ?_
          refine r_iadd hx hb dX12_line_242 (by omega) (fun z30 ez30 => ?_)
          refine r_iconst hx hb dX12_line_243 (by decide) (fun z31 ez31 => ?_)
          refine r_bipush hx hb dX12_line_244 (by decide) (fun z32 ez32 => ?_)
          refine r_cVi (k := 387) (As := [.int z30, .int z31, .int z32]) (rest := []) ⟨hx, hb, hml, hown, hts⟩ hK hP hN hS (c_X12_puts l D cA ad hI σ23 τ23 hR z30 z31 z32 (by omega) (by omega) (by omega) (by omega) gHI) (cwV 3 hts gX12_line_X12_puts rfl rfl rfl (by decide +kernel) ⟨by decide, by decide⟩) (rv_M hK hP (by decide) (by decide)) rfl hl.1 rfl (Nat.le_of_ble_eq_true rfl) dX12_line_246 (Nat.zero_le _) (Nat.zero_le _) (fun r33 u33 H33 locs33 hp33 hP hS => ?_)
          obtain ⟨σ33, τ33⟩ := u33
          obtain ⟨hR, f33, hq33, hp33_0, hp33_1, hp33_2, hp33_3, gnHI⟩ : P_X12_puts σ23 z30 z31 z32 r33 σ33 := hp33
          have hP : va_P D vwCl (gw cA ad σ33 τ33) H33 := hP
          clear hp23_1
          have hF := hF.step f33 (by decide)
          have t34 : (σ33 387 3).toInt = (σ23 387 3).toInt := congrArg Int32.toInt (f33.at 387 3 (by decide))
          have t35 : (σ33 390 0).toInt = (σ23 390 0).toInt := congrArg Int32.toInt (f33.at 390 0 (by decide))
          have hr36 := rg_12_4 hR (k := 387) (by decide) (by decide)
          have gHI := gnHI
          refine r_if_ne (tgt := 254) hx hb dX12_line_249 (by decide) (fun c37 => ?_) (fun c37 => ?_)
          · replace hp33_1 := hp33_1.resolve_left (by omega)
            replace hp33_3 := hp33_3.resolve_left (by omega)
            refine lv_aload_n hx hb dX12_line_254 rfl (lv_at hl 1 rfl) ?_
            refine fg_12_7 (k := 387) hx hb hts in_X12_line_12 hown hK hP (by decide) (by decide) (hts _ lk_X12_line_37) dX12_line_255 ?_
            refine r_iconst hx hb dX12_line_258 (by decide) (fun z38 ez38 => ?_)
            refine lv_dup2_11 hx hb dX12_line_259 rfl rfl ?_
            refine ad_mh (k := 390) (j := 0) hx hb hK hP (by decide) (by decide) (by omega) (by omega) dX12_line_260 ?_
            have hr39 := ra_mh_0 hR (k := 390) (j := 0) (by decide) (by decide) (by decide) (by decide)
            refine r_iconst hx hb dX12_line_261 (by decide) (fun z40 ez40 => ?_)
            refine r_iadd hx hb dX12_line_262 (by omega) (fun z41 ez41 => ?_)
            refine as_mh (k := 390) (j := 0) hx hb hK hP hI hR hS (by decide) (by decide) (by omega) (by omega) (rw_mh_0 (by decide) (by decide) (by decide) (by decide) (by omega)) dX12_line_263 (fun σ42 H42 locs42 u42 v42 hR hP hS => ?_)
            have uh := u42
            have vh := v42
            have hF := hF.puts u42 4 rfl (by decide) (by decide) (by decide) (by decide)
            have t43 : (σ42 387 3).toInt = (σ33 387 3).toInt := congrArg Int32.toInt (u42 387 3 (by omega))
            have t44 : (σ42 387 4).toInt = (σ33 387 4).toInt := congrArg Int32.toInt (u42 387 4 (by omega))
            have t45 : (σ42 387 11).toInt = (σ33 387 11).toInt := congrArg Int32.toInt (u42 387 11 (by omega))
            have gHI := HI.hills gHI uh (by omega)
            refine r_iconst hx hb dX12_line_264 (by decide) (fun z46 ez46 => ?_)
            exact r_zret hx hb hr hK hP hS hk (by omega) dX12_line_265 (show P_X12_line σ0 z46 σ42 from ⟨hR, hF, by omega, by omega, by omega, gHI⟩)
          · clear hp33_1 hp33_3
            refine r_iconst hx hb dX12_line_252 (by decide) (fun z47 ez47 => ?_)
            exact r_zret hx hb hr hK hP hS hk (by omega) dX12_line_253 (show P_X12_line σ0 z47 σ33 from ⟨hR, hF, by omega, by omega, by omega, gHI⟩)
    · refine lv_aload_n hx hb dX12_line_203 rfl (lv_at hl 1 rfl) ?_
      refine r_iconst hx hb dX12_line_204 (by decide) (fun z48 ez48 => ?_)
      refine r_cVi (k := 387) (As := [.int z48]) (rest := []) ⟨hx, hb, hml, hown, hts⟩ hK hP hN hS (c_X12_bad l D cA ad hI σ τ1 hR z48 (by omega)) (cwV 1 hts gX12_line_X12_bad rfl rfl rfl (by decide +kernel) ⟨by decide, by decide⟩) (rv_M hK hP (by decide) (by decide)) rfl hl.1 rfl (Nat.le_of_ble_eq_true rfl) dX12_line_205 (Nat.zero_le _) (Nat.zero_le _) (fun r49 u49 H49 locs49 hp49 hP hS => ?_)
      obtain ⟨σ49, τ49⟩ := u49
      obtain ⟨hR, f49, hq49⟩ : P_X12_bad σ z48 r49 σ49 := hp49
      have hP : va_P D vwCl (gw cA ad σ49 τ49) H49 := hP
      have hF := hF.step f49 (by decide)
      have gHI := HI.fr gHI f49 (by decide)
      have t50 : (σ49 387 4).toInt = (σ 387 4).toInt := congrArg Int32.toInt (f49.at 387 4 (by decide))
      have t51 : (σ49 387 3).toInt = (σ 387 3).toInt := congrArg Int32.toInt (f49.at 387 3 (by decide))
      have t52 : (σ49 387 11).toInt = (σ 387 11).toInt := congrArg Int32.toInt (f49.at 387 11 (by decide))
      have t53 : (σ49 390 0).toInt = (σ 390 0).toInt := congrArg Int32.toInt (f49.at 390 0 (by decide))
      exact r_zret hx hb hr hK hP hS hk (by omega) dX12_line_208 (show P_X12_line σ0 r49 σ49 from ⟨hR, hF, by omega, by omega, by omega, gHI⟩)
set_option maxHeartbeats 4000000 in
theorem B_X12_line_266 (p : Program) (l : Launch) (e : Env) (s : State) (m : MethodId) (args : Array Value) (below : List Frame) (meth : Method) (c : Code) (D : va_G) (cA : Nat → ClassId) (ad : Nat → Nat) (σ0 : Nat → Nat → Int32)  (n : Nat) (C : Cy p s m args meth c cX12_line 2 wsX12_line RX12 D cA ad (some .boolean)) (gHI0 : HI σ0) (K35 : J_X12_line_35 p l e s m args below meth c D cA ad σ0 n) (K71 : J_X12_line_71 p l e s m args below meth c D cA ad σ0 n) (K91 : J_X12_line_91 p l e s m args below meth c D cA ad σ0 n) (K148 : J_X12_line_148 p l e s m args below meth c D cA ad σ0 n) (K180 : J_X12_line_180 p l e s m args below meth c D cA ad σ0 n) (K266 : J_X12_line_266 p l e s m args below meth c D cA ad σ0 n) (K350 : J_X12_line_350 p l e s m args below meth c D cA ad σ0 n) (K466 : J_X12_line_466 p l e s m args below meth c D cA ad σ0 n) : J_X12_line_266 p l e s m args below meth c D cA ad σ0 (n + 1) := by
  obtain ⟨hx, hb, hml, hown, hts, hK, hk, hr, hI, hN⟩ := C
  intro σ τ H locs ls hR hF hP hS hc0 hc1 hi0 gHI hl hm
  refine lv_aload_n hx hb dX12_line_266 rfl (lv_at hl 0 rfl) ?_
  refine lv_ldc2 (v := 1717660780) hx hb hown (hts _ lk_X12_line_103) dX12_line_267 ?_
  refine r_cVi (k := 387) (As := [.long (1717660780)]) (rest := []) ⟨hx, hb, hml, hown, hts⟩ hK hP hN hS (c_X12_isWord l D cA ad hI σ τ hR (1717660780)) (cwV 1 hts gX12_line_X12_isWord rfl rfl rfl (by decide +kernel) ⟨by decide, by decide⟩) (rv_M hK hP (by decide) (by decide)) rfl hl.1 rfl (Nat.le_of_ble_eq_true rfl) dX12_line_270 (Nat.zero_le _) (Nat.zero_le _) (fun r1 u1 H1 locs1 hp1 hP hS => ?_)
  obtain ⟨σ1, τ1⟩ := u1
  obtain ⟨hR, f1, hq1, hp1_0⟩ : P_X12_isWord σ (1717660780) r1 σ1 := hp1
  have hP : va_P D vwCl (gw cA ad σ1 τ1) H1 := hP
  obtain rfl := Fr.nil f1
  refine r_if_eq (tgt := 350) hx hb dX12_line_273 (by decide) (fun c2 => ?_) (fun c2 => ?_)
  · clear hp1_0
    exact K350 σ τ1 H1 locs1  ls hR hF hP hS (by omega) (by omega) (by omega) gHI (lv_sub hl [0] rfl) (by omega)
  · replace hp1_0 := hp1_0.resolve_left (by omega)
    refine lv_aload_n hx hb dX12_line_276 rfl (lv_at hl 0 rfl) ?_
    refine r_cVv (k := 387) (As := []) (rest := []) ⟨hx, hb, hml, hown, hts⟩ hK hP hN hS (c_X12_next l D cA ad hI σ τ1 hR) (cwV 0 hts gX12_line_X12_next rfl rfl rfl (by decide +kernel) ⟨by decide, by decide⟩) (rv_M hK hP (by decide) (by decide)) rfl hl.1 rfl (Nat.le_of_ble_eq_true rfl) dX12_line_277 (Nat.zero_le _) (Nat.zero_le _) (fun u3 H3 locs3 hp3 hP hS => ?_)
    obtain ⟨σ3, τ3⟩ := u3
    obtain ⟨hR, f3, hp3_0, hp3_1, hp3_2⟩ : P_X12_next σ σ3 := hp3
    have hP : va_P D vwCl (gw cA ad σ3 τ3) H3 := hP
    have hF := hF.step f3 (by decide)
    have gHI := HI.fr gHI f3 (by decide)
    have t4 : (σ3 387 3).toInt = (σ 387 3).toInt := congrArg Int32.toInt (f3.at 387 3 (by decide))
    have hr5 := rg_12_4 hR (k := 387) (by decide) (by decide)
    refine lv_aload_n hx hb dX12_line_280 rfl (lv_at hl 0 rfl) ?_
    refine r_bipush hx hb dX12_line_281 (by decide) (fun z6 ez6 => ?_)
    refine lv_aload_n hx hb dX12_line_283 rfl (lv_at hl 0 rfl) ?_
    refine fg_12_7 (k := 387) hx hb hts in_X12_line_12 hown hK hP (by decide) (by decide) (hts _ lk_X12_line_37) dX12_line_284 ?_
    refine r_iconst hx hb dX12_line_287 (by decide) (fun z7 ez7 => ?_)
    refine ad_mh (k := 390) (j := 0) hx hb hK hP (by decide) (by decide) (by omega) (by omega) dX12_line_288 ?_
    have hr8 := ra_mh_0 hR (k := 390) (j := 0) (by decide) (by decide) (by decide) (by decide)
    refine r_cVi (k := 387) (As := [.int z6, .int (σ3 390 0)]) (rest := []) ⟨hx, hb, hml, hown, hts⟩ hK hP hN hS (c_X12_looksAt l D cA ad hI σ3 τ3 hR z6 (σ3 390 0) (by omega) (by omega)) (cwV 2 hts gX12_line_X12_looksAt rfl rfl rfl (by decide +kernel) ⟨by decide, by decide⟩) (rv_M hK hP (by decide) (by decide)) rfl hl.1 rfl (Nat.le_of_ble_eq_true rfl) dX12_line_289 (Nat.zero_le _) (Nat.zero_le _) (fun r9 u9 H9 locs9 hp9 hP hS => ?_)
    obtain ⟨σ9, τ9⟩ := u9
    obtain ⟨hR, f9, hq9, hp9_0, hp9_1⟩ : P_X12_looksAt σ3 z6 (σ3 390 0) r9 σ9 := hp9
    have hP : va_P D vwCl (gw cA ad σ9 τ9) H9 := hP
    have hF := hF.step f9 (by decide)
    have gHI := HI.fr gHI f9 (by decide)
    have t10 : (σ9 387 3).toInt = (σ3 387 3).toInt := congrArg Int32.toInt (f9.at 387 3 (by decide))
    have t11 : (σ9 387 4).toInt = (σ3 387 4).toInt := congrArg Int32.toInt (f9.at 387 4 (by decide))
    have t12 : (σ9 387 11).toInt = (σ3 387 11).toInt := congrArg Int32.toInt (f9.at 387 11 (by decide))
    have t13 : (σ9 390 0).toInt = (σ3 390 0).toInt := congrArg Int32.toInt (f9.at 390 0 (by decide))
    refine r_if_ne (tgt := 297) hx hb dX12_line_292 (by decide) (fun c14 => ?_) (fun c14 => ?_)
    · replace hp9_0 := hp9_0.resolve_left (by omega)
      replace hp9_1 := hp9_1.resolve_left (by omega)
      refine lv_aload_n hx hb dX12_line_297 rfl (lv_at hl 0 rfl) ?_
      refine fg_12_21 (k := 387) hx hb hts in_X12_line_12 hown hK hP (by decide) (by decide) (hts _ lk_X12_line_232) dX12_line_298 ?_
      refine lv_aload_n hx hb dX12_line_301 rfl (lv_at hl 0 rfl) ?_
      refine fg_12_18 (k := 387) hx hb hts in_X12_line_12 hown hK hP (by decide) (by decide) (hts _ lk_X12_line_195) dX12_line_302 ?_
      refine r_cSi (As := [.int (σ9 387 21), .int (σ9 387 18)]) (rest := []) ⟨hx, hb, hml, hown, hts⟩ hK hP hN hS (c_X12_bitOf l D cA ad hI σ9 τ9 hR (σ9 387 21) (σ9 387 18) (by omega)) (va_cwS 2 hts gX12_line_X12_bitOf rfl rfl rfl (by decide +kernel) ⟨by decide, by decide⟩) rfl hl.1 rfl (Nat.le_of_ble_eq_true rfl) dX12_line_305 (Nat.zero_le _) (Nat.zero_le _) (fun r15 u15 H15 locs15 hp15 hP hS => ?_)
      obtain ⟨σ15, τ15⟩ := u15
      obtain ⟨hR, f15, hq15, hp15_0⟩ : P_X12_bitOf σ9 (σ9 387 21) (σ9 387 18) r15 σ15 := hp15
      have hP : va_P D vwCl (gw cA ad σ15 τ15) H15 := hP
      obtain rfl := Fr.nil f15
      refine r_if_eq (tgt := 317) hx hb dX12_line_308 (by decide) (fun c16 => ?_) (fun c16 => ?_)
      · refine lv_aload_n hx hb dX12_line_317 rfl (lv_at hl 0 rfl) ?_
        refine fg_12_18 (k := 387) hx hb hts in_X12_line_12 hown hK hP (by decide) (by decide) (hts _ lk_X12_line_195) dX12_line_318 ?_
        refine lv_istore_n (lv' := [(1, .int (σ9 387 18)), (0, .ref (ad 387))]) hx hb dX12_line_321 rfl hl (by decide) rfl (fun ls hl => ?_)
        refine lv_aload_n hx hb dX12_line_322 rfl (lv_at hl 1 rfl) ?_
        refine lv_dup hx hb dX12_line_323 rfl ?_
        refine fg_12_21 (k := 387) hx hb hts in_X12_line_12 hown hK hP (by decide) (by decide) (hts _ lk_X12_line_232) dX12_line_324 ?_
        refine r_iconst hx hb dX12_line_327 (by decide) (fun z17 ez17 => ?_)
        refine lv_iload_n hx hb dX12_line_328 rfl (lv_at hl 0 rfl) ?_
        refine r_ishlU hx hb dX12_line_329 (fun z18 => ?_)
        refine r_iorU hx hb dX12_line_330 (fun z19 => ?_)
        refine fp_12_21 (k := 387) hx hb hts in_X12_line_12 hown hK hP (by decide) (by decide) (hts _ lk_X12_line_232) hI hR hS dX12_line_331 (fun σ20 H20 locs20 u20 v20 hR hP hS => ?_)
        have hF := hF.puts u20 3 rfl (by decide) (by decide) (by decide) (by decide)
        have gHI := HI.put gHI u20 (by decide)
        have t21 : (σ20 387 3).toInt = (σ9 387 3).toInt := congrArg Int32.toInt (u20 387 3 (by omega))
        have t22 : (σ20 387 4).toInt = (σ9 387 4).toInt := congrArg Int32.toInt (u20 387 4 (by omega))
        have t23 : (σ20 387 11).toInt = (σ9 387 11).toInt := congrArg Int32.toInt (u20 387 11 (by omega))
        have t24 : (σ20 390 0).toInt = (σ9 390 0).toInt := congrArg Int32.toInt (u20 390 0 (by omega))
        have t25 : (σ20 387 18).toInt = (σ9 387 18).toInt := congrArg Int32.toInt (u20 387 18 (by omega))
        refine lv_aload_n hx hb dX12_line_334 rfl (lv_at hl 1 rfl) ?_
        refine r_cVv (k := 387) (As := []) (rest := []) ⟨hx, hb, hml, hown, hts⟩ hK hP hN hS (c_X12_next l D cA ad hI σ20 τ15 hR) (cwV 0 hts gX12_line_X12_next rfl rfl rfl (by decide +kernel) ⟨by decide, by decide⟩) (rv_M hK hP (by decide) (by decide)) rfl hl.1 rfl (Nat.le_of_ble_eq_true rfl) dX12_line_335 (Nat.zero_le _) (Nat.zero_le _) (fun u26 H26 locs26 hp26 hP hS => ?_)
        obtain ⟨σ26, τ26⟩ := u26
        obtain ⟨hR, f26, hp26_0, hp26_1, hp26_2⟩ : P_X12_next σ20 σ26 := hp26
        have hP : va_P D vwCl (gw cA ad σ26 τ26) H26 := hP
        clear hp3_1
        have hF := hF.step f26 (by decide)
        have gHI := HI.fr gHI f26 (by decide)
        have t27 : (σ26 387 3).toInt = (σ20 387 3).toInt := congrArg Int32.toInt (f26.at 387 3 (by decide))
        have t28 : (σ26 390 0).toInt = (σ20 390 0).toInt := congrArg Int32.toInt (f26.at 390 0 (by decide))
        have t29 : (σ26 387 18).toInt = (σ20 387 18).toInt := congrArg Int32.toInt (f26.at 387 18 (by decide))
        have t30 : (σ26 387 21).toInt = (σ20 387 21).toInt := congrArg Int32.toInt (f26.at 387 21 (by decide))
        have hr31 := rg_12_4 hR (k := 387) (by decide) (by decide)
        refine lv_aload_n hx hb dX12_line_338 rfl (lv_at hl 1 rfl) ?_
        refine r_bipush hx hb dX12_line_339 (by decide) (fun z32 ez32 => ?_)
        refine lv_iload_n hx hb dX12_line_341 rfl (lv_at hl 0 rfl) ?_
        refine r_iadd hx hb dX12_line_342 (by omega) (fun z33 ez33 => ?_)
        refine r_iconst hx hb dX12_line_343 (by decide) (fun z34 ez34 => ?_)
        refine r_bipush hx hb dX12_line_344 (by decide) (fun z35 ez35 => ?_)
        refine r_cVi (k := 387) (As := [.int z33, .int z34, .int z35]) (rest := []) ⟨hx, hb, hml, hown, hts⟩ hK hP hN hS (c_X12_puts l D cA ad hI σ26 τ26 hR z33 z34 z35 (by omega) (by omega) (by omega) (by omega) gHI) (cwV 3 hts gX12_line_X12_puts rfl rfl rfl (by decide +kernel) ⟨by decide, by decide⟩) (rv_M hK hP (by decide) (by decide)) rfl hl.1 rfl (Nat.le_of_ble_eq_true rfl) dX12_line_346 (Nat.zero_le _) (Nat.zero_le _) (fun r36 u36 H36 locs36 hp36 hP hS => ?_)
        obtain ⟨σ36, τ36⟩ := u36
        obtain ⟨hR, f36, hq36, hp36_0, hp36_1, hp36_2, hp36_3, gnHI⟩ : P_X12_puts σ26 z33 z34 z35 r36 σ36 := hp36
        have hP : va_P D vwCl (gw cA ad σ36 τ36) H36 := hP
        clear hp26_1
        have hF := hF.step f36 (by decide)
        have t37 : (σ36 387 3).toInt = (σ26 387 3).toInt := congrArg Int32.toInt (f36.at 387 3 (by decide))
        have t38 : (σ36 390 0).toInt = (σ26 390 0).toInt := congrArg Int32.toInt (f36.at 390 0 (by decide))
        have t39 : (σ36 387 21).toInt = (σ26 387 21).toInt := congrArg Int32.toInt (f36.at 387 21 (by decide))
        have hr40 := rg_12_4 hR (k := 387) (by decide) (by decide)
        have gHI := gnHI
        exact r_zret hx hb hr hK hP hS hk (by omega) dX12_line_349 (show P_X12_line σ0 r36 σ36 from ⟨hR, hF, by omega, by omega, by omega, gHI⟩)
      · refine lv_aload_n hx hb dX12_line_311 rfl (lv_at hl 0 rfl) ?_
        refine r_iconst hx hb dX12_line_312 (by decide) (fun z41 ez41 => ?_)
        refine r_cVi (k := 387) (As := [.int z41]) (rest := []) ⟨hx, hb, hml, hown, hts⟩ hK hP hN hS (c_X12_bad l D cA ad hI σ9 τ15 hR z41 (by omega)) (cwV 1 hts gX12_line_X12_bad rfl rfl rfl (by decide +kernel) ⟨by decide, by decide⟩) (rv_M hK hP (by decide) (by decide)) rfl hl.1 rfl (Nat.le_of_ble_eq_true rfl) dX12_line_313 (Nat.zero_le _) (Nat.zero_le _) (fun r42 u42 H42 locs42 hp42 hP hS => ?_)
        obtain ⟨σ42, τ42⟩ := u42
        obtain ⟨hR, f42, hq42⟩ : P_X12_bad σ9 z41 r42 σ42 := hp42
        have hP : va_P D vwCl (gw cA ad σ42 τ42) H42 := hP
        have hF := hF.step f42 (by decide)
        have gHI := HI.fr gHI f42 (by decide)
        have t43 : (σ42 387 3).toInt = (σ9 387 3).toInt := congrArg Int32.toInt (f42.at 387 3 (by decide))
        have t44 : (σ42 387 4).toInt = (σ9 387 4).toInt := congrArg Int32.toInt (f42.at 387 4 (by decide))
        have t45 : (σ42 387 11).toInt = (σ9 387 11).toInt := congrArg Int32.toInt (f42.at 387 11 (by decide))
        have t46 : (σ42 390 0).toInt = (σ9 390 0).toInt := congrArg Int32.toInt (f42.at 390 0 (by decide))
        have t47 : (σ42 387 18).toInt = (σ9 387 18).toInt := congrArg Int32.toInt (f42.at 387 18 (by decide))
        have t48 : (σ42 387 21).toInt = (σ9 387 21).toInt := congrArg Int32.toInt (f42.at 387 21 (by decide))
        exact r_zret hx hb hr hK hP hS hk (by omega) dX12_line_316 (show P_X12_line σ0 r42 σ42 from ⟨hR, hF, by omega, by omega, by omega, gHI⟩)
    · clear hp9_0 hp9_1
      refine r_iconst hx hb dX12_line_295 (by decide) (fun z49 ez49 => ?_)
      exact r_zret hx hb hr hK hP hS hk (by omega) dX12_line_296 (show P_X12_line σ0 z49 σ9 from ⟨hR, hF, by omega, by omega, by omega, gHI⟩)
set_option maxHeartbeats 4000000 in
theorem B_X12_line_350 (p : Program) (l : Launch) (e : Env) (s : State) (m : MethodId) (args : Array Value) (below : List Frame) (meth : Method) (c : Code) (D : va_G) (cA : Nat → ClassId) (ad : Nat → Nat) (σ0 : Nat → Nat → Int32)  (n : Nat) (C : Cy p s m args meth c cX12_line 2 wsX12_line RX12 D cA ad (some .boolean)) (gHI0 : HI σ0) (K35 : J_X12_line_35 p l e s m args below meth c D cA ad σ0 n) (K71 : J_X12_line_71 p l e s m args below meth c D cA ad σ0 n) (K91 : J_X12_line_91 p l e s m args below meth c D cA ad σ0 n) (K148 : J_X12_line_148 p l e s m args below meth c D cA ad σ0 n) (K180 : J_X12_line_180 p l e s m args below meth c D cA ad σ0 n) (K266 : J_X12_line_266 p l e s m args below meth c D cA ad σ0 n) (K350 : J_X12_line_350 p l e s m args below meth c D cA ad σ0 n) (K466 : J_X12_line_466 p l e s m args below meth c D cA ad σ0 n) : J_X12_line_350 p l e s m args below meth c D cA ad σ0 (n + 1) := by
  obtain ⟨hx, hb, hml, hown, hts, hK, hk, hr, hI, hN⟩ := C
  intro σ τ H locs ls hR hF hP hS hc0 hc1 hi0 gHI hl hm
  refine lv_aload_n hx hb dX12_line_350 rfl (lv_at hl 0 rfl) ?_
  refine lv_ldc2 (v := 7168366) hx hb hown (hts _ lk_X12_line_105) dX12_line_351 ?_
  refine r_cVi (k := 387) (As := [.long (7168366)]) (rest := []) ⟨hx, hb, hml, hown, hts⟩ hK hP hN hS (c_X12_isWord l D cA ad hI σ τ hR (7168366)) (cwV 1 hts gX12_line_X12_isWord rfl rfl rfl (by decide +kernel) ⟨by decide, by decide⟩) (rv_M hK hP (by decide) (by decide)) rfl hl.1 rfl (Nat.le_of_ble_eq_true rfl) dX12_line_354 (Nat.zero_le _) (Nat.zero_le _) (fun r1 u1 H1 locs1 hp1 hP hS => ?_)
  obtain ⟨σ1, τ1⟩ := u1
  obtain ⟨hR, f1, hq1, hp1_0⟩ : P_X12_isWord σ (7168366) r1 σ1 := hp1
  have hP : va_P D vwCl (gw cA ad σ1 τ1) H1 := hP
  obtain rfl := Fr.nil f1
  refine r_if_eq (tgt := 466) hx hb dX12_line_357 (by decide) (fun c2 => ?_) (fun c2 => ?_)
  · clear hp1_0
    exact K466 σ τ1 H1 locs1  ls hR hF hP hS (by omega) (by omega) (by omega) gHI (lv_sub hl [0] rfl) (by omega)
  · replace hp1_0 := hp1_0.resolve_left (by omega)
    refine lv_aload_n hx hb dX12_line_360 rfl (lv_at hl 0 rfl) ?_
    refine fg_12_7 (k := 387) hx hb hts in_X12_line_12 hown hK hP (by decide) (by decide) (hts _ lk_X12_line_37) dX12_line_361 ?_
    refine r_iconst hx hb dX12_line_364 (by decide) (fun z3 ez3 => ?_)
    refine ad_mh (k := 390) (j := 1) hx hb hK hP (by decide) (by decide) (by omega) (by omega) dX12_line_365 ?_
    have hr4 := ra_mh_0 hR (k := 390) (j := 1) (by decide) (by decide) (by decide) (by decide)
    refine lv_istore_n (lv' := [(1, .int (σ 390 1)), (0, .ref (ad 387))]) hx hb dX12_line_366 rfl hl (by decide) rfl (fun ls hl => ?_)
    refine lv_iload_n hx hb dX12_line_367 rfl (lv_at hl 0 rfl) ?_
    refine r_bipush hx hb dX12_line_368 (by decide) (fun z5 ez5 => ?_)
    refine r_icmp_ne (tgt := 379) hx hb dX12_line_370 (by decide) (fun c6 => ?_) (fun c6 => ?_)
    · refine lv_aload_n hx hb dX12_line_379 rfl (lv_at hl 1 rfl) ?_
      refine r_cVv (k := 387) (As := []) (rest := []) ⟨hx, hb, hml, hown, hts⟩ hK hP hN hS (c_X12_next l D cA ad hI σ τ1 hR) (cwV 0 hts gX12_line_X12_next rfl rfl rfl (by decide +kernel) ⟨by decide, by decide⟩) (rv_M hK hP (by decide) (by decide)) rfl hl.1 rfl (Nat.le_of_ble_eq_true rfl) dX12_line_380 (Nat.zero_le _) (Nat.zero_le _) (fun u7 H7 locs7 hp7 hP hS => ?_)
      obtain ⟨σ7, τ7⟩ := u7
      obtain ⟨hR, f7, hp7_0, hp7_1, hp7_2⟩ : P_X12_next σ σ7 := hp7
      have hP : va_P D vwCl (gw cA ad σ7 τ7) H7 := hP
      have hF := hF.step f7 (by decide)
      have gHI := HI.fr gHI f7 (by decide)
      have t8 : (σ7 387 3).toInt = (σ 387 3).toInt := congrArg Int32.toInt (f7.at 387 3 (by decide))
      have t9 : (σ7 390 1).toInt = (σ 390 1).toInt := congrArg Int32.toInt (f7.at 390 1 (by decide))
      have hr10 := rg_12_4 hR (k := 387) (by decide) (by decide)
      refine lv_aload_n hx hb dX12_line_383 rfl (lv_at hl 1 rfl) ?_
      refine r_bipush hx hb dX12_line_384 (by decide) (fun z11 ez11 => ?_)
      refine lv_iload_n hx hb dX12_line_386 rfl (lv_at hl 0 rfl) ?_
      refine r_iadd hx hb dX12_line_387 (by omega) (fun z12 ez12 => ?_)
      refine r_cVi (k := 387) (As := [.int z12]) (rest := []) ⟨hx, hb, hml, hown, hts⟩ hK hP hN hS (c_X12_fresh l D cA ad hI σ7 τ7 hR z12 (by omega)) (cwV 1 hts gX12_line_X12_fresh rfl rfl rfl (by decide +kernel) ⟨by decide, by decide⟩) (rv_M hK hP (by decide) (by decide)) rfl hl.1 rfl (Nat.le_of_ble_eq_true rfl) dX12_line_388 (Nat.zero_le _) (Nat.zero_le _) (fun r13 u13 H13 locs13 hp13 hP hS => ?_)
      obtain ⟨σ13, τ13⟩ := u13
      obtain ⟨hR, f13, hq13, hp13_0, hp13_1⟩ : P_X12_fresh σ7 z12 r13 σ13 := hp13
      have hP : va_P D vwCl (gw cA ad σ13 τ13) H13 := hP
      clear hp7_1
      have hF := hF.step f13 (by decide)
      have gHI := HI.fr gHI f13 (by decide)
      have t14 : (σ13 387 3).toInt = (σ7 387 3).toInt := congrArg Int32.toInt (f13.at 387 3 (by decide))
      have t15 : (σ13 390 1).toInt = (σ7 390 1).toInt := congrArg Int32.toInt (f13.at 390 1 (by decide))
      have hr16 := rg_12_4 hR (k := 387) (by decide) (by decide)
      refine r_if_eq (tgt := 409) hx hb dX12_line_391 (by decide) (fun c17 => ?_) (fun c17 => ?_)
      · clear hp13_1
        refine r_iconst hx hb dX12_line_409 (by decide) (fun z18 ez18 => ?_)
        exact r_zret hx hb hr hK hP hS hk (by omega) dX12_line_410 (show P_X12_line σ0 z18 σ13 from ⟨hR, hF, by omega, by omega, by omega, gHI⟩)
      · replace hp13_1 := hp13_1.resolve_left (by omega)
        refine lv_aload_n hx hb dX12_line_394 rfl (lv_at hl 1 rfl) ?_
        refine r_bipush hx hb dX12_line_395 (by decide) (fun z19 ez19 => ?_)
        refine lv_aload_n hx hb dX12_line_397 rfl (lv_at hl 1 rfl) ?_
        refine fg_12_7 (k := 387) hx hb hts in_X12_line_12 hown hK hP (by decide) (by decide) (hts _ lk_X12_line_37) dX12_line_398 ?_
        refine r_iconst hx hb dX12_line_401 (by decide) (fun z20 ez20 => ?_)
        refine ad_mh (k := 390) (j := 0) hx hb hK hP (by decide) (by decide) (by omega) (by omega) dX12_line_402 ?_
        have hr21 := ra_mh_0 hR (k := 390) (j := 0) (by decide) (by decide) (by decide) (by decide)
        refine r_cVi (k := 387) (As := [.int z19, .int (σ13 390 0)]) (rest := []) ⟨hx, hb, hml, hown, hts⟩ hK hP hN hS (c_X12_takesName l D cA ad hI σ13 τ13 hR z19 (σ13 390 0) (by omega) (by omega)) (cwV 2 hts gX12_line_X12_takesName rfl rfl rfl (by decide +kernel) ⟨by decide, by decide⟩) (rv_M hK hP (by decide) (by decide)) rfl hl.1 rfl (Nat.le_of_ble_eq_true rfl) dX12_line_403 (Nat.zero_le _) (Nat.zero_le _) (fun r22 u22 H22 locs22 hp22 hP hS => ?_)
        obtain ⟨σ22, τ22⟩ := u22
        obtain ⟨hR, f22, hq22, hp22_0, hp22_1, hp22_2, hp22_3⟩ : P_X12_takesName σ13 z19 (σ13 390 0) r22 σ22 := hp22
        have hP : va_P D vwCl (gw cA ad σ22 τ22) H22 := hP
        clear hp13_1
        have hF := hF.step f22 (by decide)
        have gHI := HI.fr gHI f22 (by decide)
        have t23 : (σ22 387 3).toInt = (σ13 387 3).toInt := congrArg Int32.toInt (f22.at 387 3 (by decide))
        have t24 : (σ22 390 1).toInt = (σ13 390 1).toInt := congrArg Int32.toInt (f22.at 390 1 (by decide))
        have t25 : (σ22 390 0).toInt = (σ13 390 0).toInt := congrArg Int32.toInt (f22.at 390 0 (by decide))
        have hr26 := rg_12_4 hR (k := 387) (by decide) (by decide)
        refine r_if_ne (tgt := 411) hx hb dX12_line_406 (by decide) (fun c27 => ?_) (fun c27 => ?_)
        · replace hp22_1 := hp22_1.resolve_left (by omega)
          replace hp22_2 := hp22_2.resolve_left (by omega)
          replace hp22_3 := hp22_3.resolve_left (by omega)
          refine lv_aload_n hx hb dX12_line_411 rfl (lv_at hl 1 rfl) ?_
          refine fg_12_7 (k := 387) hx hb hts in_X12_line_12 hown hK hP (by decide) (by decide) (hts _ lk_X12_line_37) dX12_line_412 ?_
          refine r_bipush hx hb dX12_line_415 (by decide) (fun z28 ez28 => ?_)
          refine lv_iload_n hx hb dX12_line_417 rfl (lv_at hl 0 rfl) ?_
          refine r_iadd hx hb dX12_line_418 (by omega) (fun z29 ez29 => ?_)
          refine lv_aload_n hx hb dX12_line_419 rfl (lv_at hl 1 rfl) ?_
          refine fg_12_18 (k := 387) hx hb hts in_X12_line_12 hown hK hP (by decide) (by decide) (hts _ lk_X12_line_195) dX12_line_420 ?_
          obtain ⟨j30, ej30⟩ : ∃ j : Nat, z29.toInt = (j : Int) := ⟨_, ti_nat (by omega)⟩
          refine as_mh (k := 390) (j := j30) hx hb hK hP hI hR hS (by decide) (by decide) ej30 (by omega) (rw_mh_2 (by decide) (by decide) (by omega) (by omega) (by omega)) dX12_line_423 (fun σ31 H31 locs31 u31 v31 hR hP hS => ?_)
          have hF := hF.puts u31 4 rfl (by decide) (by decide) (by omega) (by omega)
          have gHI := HI.putV gHI u31 (by intro q hq; simp only [Gd_HI, List.mem_cons, List.not_mem_nil, or_false] at hq; rcases hq with rfl | rfl <;> dsimp only [inRc] <;> omega)
          have t32 : (σ31 387 3).toInt = (σ22 387 3).toInt := congrArg Int32.toInt (u31 387 3 (by omega))
          have t33 : (σ31 390 1).toInt = (σ22 390 1).toInt := congrArg Int32.toInt (u31 390 1 (by omega))
          have t34 : (σ31 390 0).toInt = (σ22 390 0).toInt := congrArg Int32.toInt (u31 390 0 (by omega))
          have t35 : (σ31 387 4).toInt = (σ22 387 4).toInt := congrArg Int32.toInt (u31 387 4 (by omega))
          have t36 : (σ31 387 11).toInt = (σ22 387 11).toInt := congrArg Int32.toInt (u31 387 11 (by omega))
          have t37 : (σ31 387 18).toInt = (σ22 387 18).toInt := congrArg Int32.toInt (u31 387 18 (by omega))
          refine lv_aload_n hx hb dX12_line_424 rfl (lv_at hl 1 rfl) ?_
          refine r_bipush hx hb dX12_line_425 (by decide) (fun z38 ez38 => ?_)
          refine lv_iload_n hx hb dX12_line_427 rfl (lv_at hl 0 rfl) ?_
          refine r_iadd hx hb dX12_line_428 (by omega) (fun z39 ez39 => ?_)
          refine r_iconst hx hb dX12_line_429 (by decide) (fun z40 ez40 => ?_)
          refine r_bipush hx hb dX12_line_430 (by decide) (fun z41 ez41 => ?_)
          refine r_cVi (k := 387) (As := [.int z39, .int z40, .int z41]) (rest := []) ⟨hx, hb, hml, hown, hts⟩ hK hP hN hS (c_X12_puts l D cA ad hI σ31 τ22 hR z39 z40 z41 (by omega) (by omega) (by omega) (by omega) gHI) (cwV 3 hts gX12_line_X12_puts rfl rfl rfl (by decide +kernel) ⟨by decide, by decide⟩) (rv_M hK hP (by decide) (by decide)) rfl hl.1 rfl (Nat.le_of_ble_eq_true rfl) dX12_line_432 (Nat.zero_le _) (Nat.zero_le _) (fun r42 u42 H42 locs42 hp42 hP hS => ?_)
          obtain ⟨σ42, τ42⟩ := u42
          obtain ⟨hR, f42, hq42, hp42_0, hp42_1, hp42_2, hp42_3, gnHI⟩ : P_X12_puts σ31 z39 z40 z41 r42 σ42 := hp42
          have hP : va_P D vwCl (gw cA ad σ42 τ42) H42 := hP
          clear hp22_1
          have hF := hF.step f42 (by decide)
          have t43 : (σ42 387 3).toInt = (σ31 387 3).toInt := congrArg Int32.toInt (f42.at 387 3 (by decide))
          have t44 : (σ42 390 1).toInt = (σ31 390 1).toInt := congrArg Int32.toInt (f42.at 390 1 (by decide))
          have t45 : (σ42 390 0).toInt = (σ31 390 0).toInt := congrArg Int32.toInt (f42.at 390 0 (by decide))
          have hr46 := rg_12_4 hR (k := 387) (by decide) (by decide)
          have gHI := gnHI
          refine r_if_eq (tgt := 452) hx hb dX12_line_435 (by decide) (fun c47 => ?_) (fun c47 => ?_)
          · clear hp42_1 hp42_3
            refine r_iconst hx hb dX12_line_452 (by decide) (fun z48 ez48 => ?_)
            exact r_zret hx hb hr hK hP hS hk (by omega) dX12_line_453 (show P_X12_line σ0 z48 σ42 from ⟨hR, hF, by omega, by omega, by omega, gHI⟩)
          · replace hp42_1 := hp42_1.resolve_left (by omega)
            replace hp42_3 := hp42_3.resolve_left (by omega)
            refine lv_aload_n hx hb dX12_line_438 rfl (lv_at hl 1 rfl) ?_
            refine r_bipush hx hb dX12_line_439 (by decide) (fun z49 ez49 => ?_)
            refine lv_iload_n hx hb dX12_line_441 rfl (lv_at hl 0 rfl) ?_
            refine r_iadd hx hb dX12_line_442 (by omega) (fun z50 ez50 => ?_)
            refine r_iconst hx hb dX12_line_443 (by decide) (fun z51 ez51 => ?_)
            refine r_bipush hx hb dX12_line_444 (by decide) (fun z52 ez52 => ?_)
            refine r_cVi (k := 387) (As := [.int z50, .int z51, .int z52]) (rest := []) ⟨hx, hb, hml, hown, hts⟩ hK hP hN hS (c_X12_puts l D cA ad hI σ42 τ42 hR z50 z51 z52 (by omega) (by omega) (by omega) (by omega) gHI) (cwV 3 hts gX12_line_X12_puts rfl rfl rfl (by decide +kernel) ⟨by decide, by decide⟩) (rv_M hK hP (by decide) (by decide)) rfl hl.1 rfl (Nat.le_of_ble_eq_true rfl) dX12_line_446 (Nat.zero_le _) (Nat.zero_le _) (fun r53 u53 H53 locs53 hp53 hP hS => ?_)
            obtain ⟨σ53, τ53⟩ := u53
            obtain ⟨hR, f53, hq53, hp53_0, hp53_1, hp53_2, hp53_3, gnHI⟩ : P_X12_puts σ42 z50 z51 z52 r53 σ53 := hp53
            have hP : va_P D vwCl (gw cA ad σ53 τ53) H53 := hP
            clear hp42_1
            have hF := hF.step f53 (by decide)
            have t54 : (σ53 387 3).toInt = (σ42 387 3).toInt := congrArg Int32.toInt (f53.at 387 3 (by decide))
            have t55 : (σ53 390 1).toInt = (σ42 390 1).toInt := congrArg Int32.toInt (f53.at 390 1 (by decide))
            have t56 : (σ53 390 0).toInt = (σ42 390 0).toInt := congrArg Int32.toInt (f53.at 390 0 (by decide))
            have hr57 := rg_12_4 hR (k := 387) (by decide) (by decide)
            have gHI := gnHI
            refine r_if_ne (tgt := 454) hx hb dX12_line_449 (by decide) (fun c58 => ?_) (fun c58 => ?_)
            · replace hp53_1 := hp53_1.resolve_left (by omega)
              replace hp53_3 := hp53_3.resolve_left (by omega)
              refine lv_aload_n hx hb dX12_line_454 rfl (lv_at hl 1 rfl) ?_
              refine fg_12_7 (k := 387) hx hb hts in_X12_line_12 hown hK hP (by decide) (by decide) (hts _ lk_X12_line_37) dX12_line_455 ?_
              refine r_iconst hx hb dX12_line_458 (by decide) (fun z59 ez59 => ?_)
              refine lv_dup2_11 hx hb dX12_line_459 rfl rfl ?_
              refine ad_mh (k := 390) (j := 1) hx hb hK hP (by decide) (by decide) (by omega) (by omega) dX12_line_460 ?_
              have hr60 := ra_mh_0 hR (k := 390) (j := 1) (by decide) (by decide) (by decide) (by decide)
              refine r_iconst hx hb dX12_line_461 (by decide) (fun z61 ez61 => ?_)
              refine r_iadd hx hb dX12_line_462 (by omega) (fun z62 ez62 => ?_)
              refine as_mh (k := 390) (j := 1) hx hb hK hP hI hR hS (by decide) (by decide) (by omega) (by omega) (rw_mh_0 (by decide) (by decide) (by decide) (by decide) (by omega)) dX12_line_463 (fun σ63 H63 locs63 u63 v63 hR hP hS => ?_)
              have um := u63
              have vm := v63
              have hF := hF.puts u63 4 rfl (by decide) (by decide) (by decide) (by decide)
              have t64 : (σ63 387 3).toInt = (σ53 387 3).toInt := congrArg Int32.toInt (u63 387 3 (by omega))
              have t65 : (σ63 390 0).toInt = (σ53 390 0).toInt := congrArg Int32.toInt (u63 390 0 (by omega))
              have t66 : (σ63 387 4).toInt = (σ53 387 4).toInt := congrArg Int32.toInt (u63 387 4 (by omega))
              have t67 : (σ63 387 11).toInt = (σ53 387 11).toInt := congrArg Int32.toInt (u63 387 11 (by omega))
              have gHI := HI.men gHI um (by omega)
              refine r_iconst hx hb dX12_line_464 (by decide) (fun z68 ez68 => ?_)
              exact r_zret hx hb hr hK hP hS hk (by omega) dX12_line_465 (show P_X12_line σ0 z68 σ63 from ⟨hR, hF, by omega, by omega, by omega, gHI⟩)
            · clear hp53_1 hp53_3
              refine r_iconst hx hb dX12_line_452 (by decide) (fun z69 ez69 => ?_)
              exact r_zret hx hb hr hK hP hS hk (by omega) dX12_line_453 (show P_X12_line σ0 z69 σ53 from ⟨hR, hF, by omega, by omega, by omega, gHI⟩)
        · clear hp22_1 hp22_2 hp22_3
          refine r_iconst hx hb dX12_line_409 (by decide) (fun z70 ez70 => ?_)
          exact r_zret hx hb hr hK hP hS hk (by omega) dX12_line_410 (show P_X12_line σ0 z70 σ22 from ⟨hR, hF, by omega, by omega, by omega, gHI⟩)
    · refine lv_aload_n hx hb dX12_line_373 rfl (lv_at hl 1 rfl) ?_
      refine r_iconst hx hb dX12_line_374 (by decide) (fun z71 ez71 => ?_)
      refine r_cVi (k := 387) (As := [.int z71]) (rest := []) ⟨hx, hb, hml, hown, hts⟩ hK hP hN hS (c_X12_bad l D cA ad hI σ τ1 hR z71 (by omega)) (cwV 1 hts gX12_line_X12_bad rfl rfl rfl (by decide +kernel) ⟨by decide, by decide⟩) (rv_M hK hP (by decide) (by decide)) rfl hl.1 rfl (Nat.le_of_ble_eq_true rfl) dX12_line_375 (Nat.zero_le _) (Nat.zero_le _) (fun r72 u72 H72 locs72 hp72 hP hS => ?_)
      obtain ⟨σ72, τ72⟩ := u72
      obtain ⟨hR, f72, hq72⟩ : P_X12_bad σ z71 r72 σ72 := hp72
      have hP : va_P D vwCl (gw cA ad σ72 τ72) H72 := hP
      have hF := hF.step f72 (by decide)
      have gHI := HI.fr gHI f72 (by decide)
      have t73 : (σ72 387 4).toInt = (σ 387 4).toInt := congrArg Int32.toInt (f72.at 387 4 (by decide))
      have t74 : (σ72 387 3).toInt = (σ 387 3).toInt := congrArg Int32.toInt (f72.at 387 3 (by decide))
      have t75 : (σ72 387 11).toInt = (σ 387 11).toInt := congrArg Int32.toInt (f72.at 387 11 (by decide))
      have t76 : (σ72 390 1).toInt = (σ 390 1).toInt := congrArg Int32.toInt (f72.at 390 1 (by decide))
      exact r_zret hx hb hr hK hP hS hk (by omega) dX12_line_378 (show P_X12_line σ0 r72 σ72 from ⟨hR, hF, by omega, by omega, by omega, gHI⟩)
set_option maxHeartbeats 4000000 in
theorem B_X12_line_466 (p : Program) (l : Launch) (e : Env) (s : State) (m : MethodId) (args : Array Value) (below : List Frame) (meth : Method) (c : Code) (D : va_G) (cA : Nat → ClassId) (ad : Nat → Nat) (σ0 : Nat → Nat → Int32)  (n : Nat) (C : Cy p s m args meth c cX12_line 2 wsX12_line RX12 D cA ad (some .boolean)) (gHI0 : HI σ0) (K35 : J_X12_line_35 p l e s m args below meth c D cA ad σ0 n) (K71 : J_X12_line_71 p l e s m args below meth c D cA ad σ0 n) (K91 : J_X12_line_91 p l e s m args below meth c D cA ad σ0 n) (K148 : J_X12_line_148 p l e s m args below meth c D cA ad σ0 n) (K180 : J_X12_line_180 p l e s m args below meth c D cA ad σ0 n) (K266 : J_X12_line_266 p l e s m args below meth c D cA ad σ0 n) (K350 : J_X12_line_350 p l e s m args below meth c D cA ad σ0 n) (K466 : J_X12_line_466 p l e s m args below meth c D cA ad σ0 n) : J_X12_line_466 p l e s m args below meth c D cA ad σ0 (n + 1) := by
  obtain ⟨hx, hb, hml, hown, hts, hK, hk, hr, hI, hN⟩ := C
  intro σ τ H locs ls hR hF hP hS hc0 hc1 hi0 gHI hl hm
  refine lv_aload_n hx hb dX12_line_466 rfl (lv_at hl 0 rfl) ?_
  refine lv_ldc2 (v := 112615810885748) hx hb hown (hts _ lk_X12_line_113) dX12_line_467 ?_
  refine r_cVi (k := 387) (As := [.long (112615810885748)]) (rest := []) ⟨hx, hb, hml, hown, hts⟩ hK hP hN hS (c_X12_isWord l D cA ad hI σ τ hR (112615810885748)) (cwV 1 hts gX12_line_X12_isWord rfl rfl rfl (by decide +kernel) ⟨by decide, by decide⟩) (rv_M hK hP (by decide) (by decide)) rfl hl.1 rfl (Nat.le_of_ble_eq_true rfl) dX12_line_470 (Nat.zero_le _) (Nat.zero_le _) (fun r1 u1 H1 locs1 hp1 hP hS => ?_)
  obtain ⟨σ1, τ1⟩ := u1
  obtain ⟨hR, f1, hq1, hp1_0⟩ : P_X12_isWord σ (112615810885748) r1 σ1 := hp1
  have hP : va_P D vwCl (gw cA ad σ1 τ1) H1 := hP
  obtain rfl := Fr.nil f1
  refine r_if_eq (tgt := 481) hx hb dX12_line_473 (by decide) (fun c2 => ?_) (fun c2 => ?_)
  · clear hp1_0
    refine lv_aload_n hx hb dX12_line_481 rfl (lv_at hl 0 rfl) ?_
    refine r_cVi (k := 387) (As := []) (rest := []) ⟨hx, hb, hml, hown, hts⟩ hK hP hN hS (c_X12_ofMan l D cA ad hI σ τ1 hR gHI) (cwV 0 hts gX12_line_X12_ofMan rfl rfl rfl (by decide +kernel) ⟨by decide, by decide⟩) (rv_M hK hP (by decide) (by decide)) rfl hl.1 rfl (Nat.le_of_ble_eq_true rfl) dX12_line_482 (Nat.zero_le _) (Nat.zero_le _) (fun r3 u3 H3 locs3 hp3 hP hS => ?_)
    obtain ⟨σ3, τ3⟩ := u3
    obtain ⟨hR, f3, hq3, hp3_0, hp3_1, gnHI⟩ : P_X12_ofMan σ r3 σ3 := hp3
    have hP : va_P D vwCl (gw cA ad σ3 τ3) H3 := hP
    have hF := hF.step f3 (by decide)
    have gHI := HI.fr gHI f3 (by decide)
    have t4 : (σ3 387 3).toInt = (σ 387 3).toInt := congrArg Int32.toInt (f3.at 387 3 (by decide))
    have hr5 := rg_12_4 hR (k := 387) (by decide) (by decide)
    exact r_zret hx hb hr hK hP hS hk (by omega) dX12_line_485 (show P_X12_line σ0 r3 σ3 from ⟨hR, hF, by omega, by omega, by omega, gHI⟩)
  · replace hp1_0 := hp1_0.resolve_left (by omega)
    refine lv_aload_n hx hb dX12_line_476 rfl (lv_at hl 0 rfl) ?_
    refine r_cVi (k := 387) (As := []) (rest := []) ⟨hx, hb, hml, hown, hts⟩ hK hP hN hS (c_X12_readFlight l D cA ad hI σ τ1 hR gHI) (cwV 0 hts gX12_line_X12_readFlight rfl rfl rfl (by decide +kernel) ⟨by decide, by decide⟩) (rv_M hK hP (by decide) (by decide)) rfl hl.1 rfl (Nat.le_of_ble_eq_true rfl) dX12_line_477 (Nat.zero_le _) (Nat.zero_le _) (fun r6 u6 H6 locs6 hp6 hP hS => ?_)
    obtain ⟨σ6, τ6⟩ := u6
    obtain ⟨hR, f6, hq6, hp6_0, hp6_1, gnHI⟩ : P_X12_readFlight σ r6 σ6 := hp6
    have hP : va_P D vwCl (gw cA ad σ6 τ6) H6 := hP
    have hF := hF.step f6 (by decide)
    have t7 : (σ6 387 3).toInt = (σ 387 3).toInt := congrArg Int32.toInt (f6.at 387 3 (by decide))
    have hr8 := rg_12_4 hR (k := 387) (by decide) (by decide)
    have gHI := gnHI
    exact r_zret hx hb hr hK hP hS hk (by omega) dX12_line_480 (show P_X12_line σ0 r6 σ6 from ⟨hR, hF, by omega, by omega, by omega, gHI⟩)
theorem A_X12_line (p : Program) (l : Launch) (e : Env) (s : State) (m : MethodId) (args : Array Value) (below : List Frame) (meth : Method) (c : Code) (D : va_G) (cA : Nat → ClassId) (ad : Nat → Nat) (σ0 : Nat → Nat → Int32)  (C : Cy p s m args meth c cX12_line 2 wsX12_line RX12 D cA ad (some .boolean)) (gHI0 : HI σ0) : ∀ n : Nat, J_X12_line_35 p l e s m args below meth c D cA ad σ0 n ∧ J_X12_line_71 p l e s m args below meth c D cA ad σ0 n ∧ J_X12_line_91 p l e s m args below meth c D cA ad σ0 n ∧ J_X12_line_148 p l e s m args below meth c D cA ad σ0 n ∧ J_X12_line_180 p l e s m args below meth c D cA ad σ0 n ∧ J_X12_line_266 p l e s m args below meth c D cA ad σ0 n ∧ J_X12_line_350 p l e s m args below meth c D cA ad σ0 n ∧ J_X12_line_466 p l e s m args below meth c D cA ad σ0 n := by
  intro n
  induction n with
  | zero =>
    exact ⟨(by intro σ τ H locs ls hR hF hP hS hc0 hc1 hi0 gHI hl hm; exfalso; omega), (by intro σ τ H locs ls hR hF hP hS hc0 hc1 hi0 gHI hl hm; exfalso; omega), (by intro σ τ H locs ls hR hF hP hS hc0 hc1 hi0 gHI hl hm; exfalso; omega), (by intro σ τ H locs w0 ls hR hF hP hS hc0 hc1 hc2 hi0 gHI hl hm; exfalso; omega), (by intro σ τ H locs ls hR hF hP hS hc0 hc1 hi0 gHI hl hm; exfalso; omega), (by intro σ τ H locs ls hR hF hP hS hc0 hc1 hi0 gHI hl hm; exfalso; omega), (by intro σ τ H locs ls hR hF hP hS hc0 hc1 hi0 gHI hl hm; exfalso; omega), (by intro σ τ H locs ls hR hF hP hS hc0 hc1 hi0 gHI hl hm; exfalso; omega)⟩
  | succ n ih =>
    exact ⟨B_X12_line_35 p l e s m args below meth c D cA ad σ0 n C gHI0 ih.1 ih.2.1 ih.2.2.1 ih.2.2.2.1 ih.2.2.2.2.1 ih.2.2.2.2.2.1 ih.2.2.2.2.2.2.1 ih.2.2.2.2.2.2.2, B_X12_line_71 p l e s m args below meth c D cA ad σ0 n C gHI0 ih.1 ih.2.1 ih.2.2.1 ih.2.2.2.1 ih.2.2.2.2.1 ih.2.2.2.2.2.1 ih.2.2.2.2.2.2.1 ih.2.2.2.2.2.2.2, B_X12_line_91 p l e s m args below meth c D cA ad σ0 n C gHI0 ih.1 ih.2.1 ih.2.2.1 ih.2.2.2.1 ih.2.2.2.2.1 ih.2.2.2.2.2.1 ih.2.2.2.2.2.2.1 ih.2.2.2.2.2.2.2, B_X12_line_148 p l e s m args below meth c D cA ad σ0 n C gHI0 ih.1 ih.2.1 ih.2.2.1 ih.2.2.2.1 ih.2.2.2.2.1 ih.2.2.2.2.2.1 ih.2.2.2.2.2.2.1 ih.2.2.2.2.2.2.2, B_X12_line_180 p l e s m args below meth c D cA ad σ0 n C gHI0 ih.1 ih.2.1 ih.2.2.1 ih.2.2.2.1 ih.2.2.2.2.1 ih.2.2.2.2.2.1 ih.2.2.2.2.2.2.1 ih.2.2.2.2.2.2.2, B_X12_line_266 p l e s m args below meth c D cA ad σ0 n C gHI0 ih.1 ih.2.1 ih.2.2.1 ih.2.2.2.1 ih.2.2.2.2.1 ih.2.2.2.2.2.1 ih.2.2.2.2.2.2.1 ih.2.2.2.2.2.2.2, B_X12_line_350 p l e s m args below meth c D cA ad σ0 n C gHI0 ih.1 ih.2.1 ih.2.2.1 ih.2.2.2.1 ih.2.2.2.2.1 ih.2.2.2.2.2.1 ih.2.2.2.2.2.2.1 ih.2.2.2.2.2.2.2, B_X12_line_466 p l e s m args below meth c D cA ad σ0 n C gHI0 ih.1 ih.2.1 ih.2.2.1 ih.2.2.2.1 ih.2.2.2.2.1 ih.2.2.2.2.2.1 ih.2.2.2.2.2.2.1 ih.2.2.2.2.2.2.2⟩
set_option maxHeartbeats 4000000 in
theorem c_X12_line (l : Launch) (D : va_G) (cA : Nat → ClassId) (ad : Nat → Nat) (hI : Inj ad) (σ0 : Nat → Nat → Int32) (τ0 : Nat → Nat → Int64) (hR : Rg σ0)  (gHI0 : HI σ0) : Met l yX12_line wsX12_line ({ frames := 5, cells := 0, slots := 0, locals := 112 } : Room) (WQc D cA ad [.ref (ad 387)] σ0 τ0) (va_Qi (fun (r : Int32) (u : SS) => P_X12_line σ0 r u.1) (WB D cA ad) (AA ad)) 0 0 (AA ad) := by
  refine Met.ofW (cc := cX12_line) (maxL := 2) (ret := (some .boolean)) (by decide) rfl ?_
  intro p e s m args below meth c s₁ B hml hv
  obtain ⟨rfl, hP, hK, hN⟩ := hv
  have C : Cy p s m _ meth c cX12_line 2 wsX12_line RX12 D cA ad (some .boolean) := ⟨B.exec, B.bytes, hml, findClass_of_methodNamed B.named, atoms_spec (ws := wsX12_line) B.pre, hK, B.notSynchronized, B.returns, hI, hN⟩
  have hl := lv_entry ([.ref (ad 387)]) (n := 2) (Nat.le_of_ble_eq_true rfl)
  rw [lg_entry_eq]
  generalize (lg_sl ([.ref (ad 387)]) ++ List.replicate (2 - (lg_sl ([.ref (ad 387)])).length) Slot.unset).toArray = ls at hl ⊢
  have hl : lv_has ls 2 [(0, .ref (ad 387))] := hl
  have hS : va_S (AA ad) s.heap s.heap [] := va_S.rf
  have hF : Fr L_X12_line σ0 σ0 := Fr.rf
  have gHI := gHI0
  have hA := A_X12_line p l e s m _ below meth c D cA ad σ0 C gHI0 11
  have K35 := hA.1
  have K71 := hA.2.1
  have K91 := hA.2.2.1
  have K148 := hA.2.2.2.1
  have K180 := hA.2.2.2.2.1
  have K266 := hA.2.2.2.2.2.1
  have K350 := hA.2.2.2.2.2.2.1
  have K466 := hA.2.2.2.2.2.2.2
  clear hA
  obtain ⟨hx, hb, _, hown, hts, _, hk, hr, _, _⟩ := C
  have hrt4 := rg_12_4 hR (k := 387) (by decide) (by decide)
  have hrt3 := rg_12_3 hR (k := 387) (by decide) (by decide)
  refine lv_aload_n hx hb dX12_line_0 rfl (lv_at hl 0 rfl) ?_
  refine lv_ldc2 (v := 491394459493) hx hb hown (hts _ lk_X12_line_87) dX12_line_1 ?_
  refine r_cVi (k := 387) (As := [.long (491394459493)]) (rest := []) ⟨hx, hb, hml, hown, hts⟩ hK hP hN hS (c_X12_isWord l D cA ad hI σ0 τ0 hR (491394459493)) (cwV 1 hts gX12_line_X12_isWord rfl rfl rfl (by decide +kernel) ⟨by decide, by decide⟩) (rv_M hK hP (by decide) (by decide)) rfl hl.1 rfl (Nat.le_of_ble_eq_true rfl) dX12_line_4 (Nat.zero_le _) (Nat.zero_le _) (fun r1 u1 H1 locs1 hp1 hP hS => ?_)
  obtain ⟨σ1, τ1⟩ := u1
  obtain ⟨hR, f1, hq1, hp1_0⟩ : P_X12_isWord σ0 (491394459493) r1 σ1 := hp1
  have hP : va_P D vwCl (gw cA ad σ1 τ1) H1 := hP
  obtain rfl := Fr.nil f1
  refine r_if_eq (tgt := 35) hx hb dX12_line_7 (by decide) (fun c2 => ?_) (fun c2 => ?_)
  · clear hp1_0
    exact K35 σ0 τ1 H1 locs1  ls hR hF hP hS (by omega) (by omega) (by omega) gHI (lv_sub hl [0] rfl) (by omega)
  · replace hp1_0 := hp1_0.resolve_left (by omega)
    refine lv_aload_n hx hb dX12_line_10 rfl (lv_at hl 0 rfl) ?_
    refine r_iconst hx hb dX12_line_11 (by decide) (fun z3 ez3 => ?_)
    refine r_cVi (k := 387) (As := [.int z3]) (rest := []) ⟨hx, hb, hml, hown, hts⟩ hK hP hN hS (c_X12_isOnce l D cA ad hI σ0 τ1 hR z3 (by omega)) (cwV 1 hts gX12_line_X12_isOnce rfl rfl rfl (by decide +kernel) ⟨by decide, by decide⟩) (rv_M hK hP (by decide) (by decide)) rfl hl.1 rfl (Nat.le_of_ble_eq_true rfl) dX12_line_12 (Nat.zero_le _) (Nat.zero_le _) (fun r4 u4 H4 locs4 hp4 hP hS => ?_)
    obtain ⟨σ4, τ4⟩ := u4
    obtain ⟨hR, f4, hq4, hp4_0, hp4_1⟩ : P_X12_isOnce σ0 z3 r4 σ4 := hp4
    have hP : va_P D vwCl (gw cA ad σ4 τ4) H4 := hP
    have hF := hF.step f4 (by decide)
    have gHI := HI.fr gHI f4 (by decide)
    have t5 : (σ4 387 3).toInt = (σ0 387 3).toInt := congrArg Int32.toInt (f4.at 387 3 (by decide))
    have hr6 := rg_12_4 hR (k := 387) (by decide) (by decide)
    refine r_if_eq (tgt := 33) hx hb dX12_line_15 (by decide) (fun c7 => ?_) (fun c7 => ?_)
    · clear hp4_1
      refine r_iconst hx hb dX12_line_33 (by decide) (fun z8 ez8 => ?_)
      exact r_zret hx hb hr hK hP hS hk (by omega) dX12_line_34 (show P_X12_line σ0 z8 σ4 from ⟨hR, hF, by omega, by omega, by omega, gHI⟩)
    · replace hp4_1 := hp4_1.resolve_left (by omega)
      refine lv_aload_n hx hb dX12_line_18 rfl (lv_at hl 0 rfl) ?_
      refine r_iconst hx hb dX12_line_19 (by decide) (fun z9 ez9 => ?_)
      refine r_iconst hx hb dX12_line_20 (by decide) (fun z10 ez10 => ?_)
      refine r_bipush hx hb dX12_line_21 (by decide) (fun z11 ez11 => ?_)
      refine r_cVi (k := 387) (As := [.int z9, .int z10, .int z11]) (rest := []) ⟨hx, hb, hml, hown, hts⟩ hK hP hN hS (c_X12_puts l D cA ad hI σ4 τ4 hR z9 z10 z11 (by omega) (by omega) (by omega) (by omega) gHI) (cwV 3 hts gX12_line_X12_puts rfl rfl rfl (by decide +kernel) ⟨by decide, by decide⟩) (rv_M hK hP (by decide) (by decide)) rfl hl.1 rfl (Nat.le_of_ble_eq_true rfl) dX12_line_23 (Nat.zero_le _) (Nat.zero_le _) (fun r12 u12 H12 locs12 hp12 hP hS => ?_)
      obtain ⟨σ12, τ12⟩ := u12
      obtain ⟨hR, f12, hq12, hp12_0, hp12_1, hp12_2, hp12_3, gnHI⟩ : P_X12_puts σ4 z9 z10 z11 r12 σ12 := hp12
      have hP : va_P D vwCl (gw cA ad σ12 τ12) H12 := hP
      clear hp4_1
      have hF := hF.step f12 (by decide)
      have t13 : (σ12 387 3).toInt = (σ4 387 3).toInt := congrArg Int32.toInt (f12.at 387 3 (by decide))
      have hr14 := rg_12_4 hR (k := 387) (by decide) (by decide)
      have gHI := gnHI
      refine r_if_eq (tgt := 33) hx hb dX12_line_26 (by decide) (fun c15 => ?_) (fun c15 => ?_)
      · clear hp12_1 hp12_3
        refine r_iconst hx hb dX12_line_33 (by decide) (fun z16 ez16 => ?_)
        exact r_zret hx hb hr hK hP hS hk (by omega) dX12_line_34 (show P_X12_line σ0 z16 σ12 from ⟨hR, hF, by omega, by omega, by omega, gHI⟩)
      · replace hp12_1 := hp12_1.resolve_left (by omega)
        replace hp12_3 := hp12_3.resolve_left (by omega)
        refine r_iconst hx hb dX12_line_29 (by decide) (fun z17 ez17 => ?_)
        refine lv_goto (tgt := 34) hx hb dX12_line_30 (by decide) ?_
        exact r_zret hx hb hr hK hP hS hk (by omega) dX12_line_34 (show P_X12_line σ0 z17 σ12 from ⟨hR, hF, by omega, by omega, by omega, gHI⟩)
abbrev L_X12_sign : List Rc := [(387, 387, 4, 4), (387, 387, 11, 16)]
def P_X12_sign (σ0 : Nat → Nat → Int32) (a1 : Int32) (r : Int32) (σ : Nat → Nat → Int32) : Prop := Rg σ ∧ Fr L_X12_sign σ0 σ ∧ (0 ≤ r.toInt ∧ r.toInt ≤ 1) ∧ ((σ0 387 4).toInt ≤ (σ 387 4).toInt) ∧ (r.toInt = 0 ∨ (σ0 387 11).toInt = 3)
set_option maxHeartbeats 4000000 in
theorem c_X12_sign (l : Launch) (D : va_G) (cA : Nat → ClassId) (ad : Nat → Nat) (hI : Inj ad) (σ0 : Nat → Nat → Int32) (τ0 : Nat → Nat → Int64) (hR : Rg σ0) (a1 : Int32) (ha1 : 59 ≤ a1.toInt ∧ a1.toInt ≤ 59) : Met l yX12_sign wsX12_sign ({ frames := 2, cells := 0, slots := 0, locals := 43 } : Room) (WQc D cA ad [.ref (ad 387), .int a1] σ0 τ0) (va_Qi (fun (r : Int32) (u : SS) => P_X12_sign σ0 a1 r u.1) (WB D cA ad) (AA ad)) 0 0 (AA ad) := by
  refine Met.ofW (cc := cX12_sign) (maxL := 2) (ret := (some .boolean)) (by decide) rfl ?_
  intro p e s m args below meth c s₁ B hml hv
  obtain ⟨rfl, hP, hK, hN⟩ := hv
  have C : Cy p s m _ meth c cX12_sign 2 wsX12_sign RX12 D cA ad (some .boolean) := ⟨B.exec, B.bytes, hml, findClass_of_methodNamed B.named, atoms_spec (ws := wsX12_sign) B.pre, hK, B.notSynchronized, B.returns, hI, hN⟩
  have hl := lv_entry ([.ref (ad 387), .int a1]) (n := 2) (Nat.le_of_ble_eq_true rfl)
  rw [lg_entry_eq]
  generalize (lg_sl ([.ref (ad 387), .int a1]) ++ List.replicate (2 - (lg_sl ([.ref (ad 387), .int a1])).length) Slot.unset).toArray = ls at hl ⊢
  have hl : lv_has ls 2 [(0, .ref (ad 387)), (1, .int a1)] := hl
  have hS : va_S (AA ad) s.heap s.heap [] := va_S.rf
  have hF : Fr L_X12_sign σ0 σ0 := Fr.rf
  obtain ⟨hx, hb, _, hown, hts, _, hk, hr, _, _⟩ := C
  have hrt4 := rg_12_4 hR (k := 387) (by decide) (by decide)
  have hrt3 := rg_12_3 hR (k := 387) (by decide) (by decide)
  refine lv_aload_n hx hb dX12_sign_0 rfl (lv_at hl 0 rfl) ?_
  refine lv_iload_n hx hb dX12_sign_1 rfl (lv_at hl 1 rfl) ?_
  refine r_cVi (k := 387) (As := [.int a1]) (rest := []) ⟨hx, hb, hml, hown, hts⟩ hK hP hN hS (c_X12_isSign l D cA ad hI σ0 τ0 hR a1 (by omega)) (cwV 1 hts gX12_sign_X12_isSign rfl rfl rfl (by decide +kernel) ⟨by decide, by decide⟩) (rv_M hK hP (by decide) (by decide)) rfl hl.1 rfl (Nat.le_of_ble_eq_true rfl) dX12_sign_2 (Nat.zero_le _) (Nat.zero_le _) (fun r1 u1 H1 locs1 hp1 hP hS => ?_)
  obtain ⟨σ1, τ1⟩ := u1
  obtain ⟨hR, f1, hq1, hp1_0⟩ : P_X12_isSign σ0 a1 r1 σ1 := hp1
  have hP : va_P D vwCl (gw cA ad σ1 τ1) H1 := hP
  obtain rfl := Fr.nil f1
  refine r_if_ne (tgt := 14) hx hb dX12_sign_5 (by decide) (fun c2 => ?_) (fun c2 => ?_)
  · replace hp1_0 := hp1_0.resolve_left (by omega)
    refine lv_aload_n hx hb dX12_sign_14 rfl (lv_at hl 0 rfl) ?_
    refine r_cVv (k := 387) (As := []) (rest := []) ⟨hx, hb, hml, hown, hts⟩ hK hP hN hS (c_X12_next l D cA ad hI σ0 τ1 hR) (cwV 0 hts gX12_sign_X12_next rfl rfl rfl (by decide +kernel) ⟨by decide, by decide⟩) (rv_M hK hP (by decide) (by decide)) rfl hl.1 rfl (Nat.le_of_ble_eq_true rfl) dX12_sign_15 (Nat.zero_le _) (Nat.zero_le _) (fun u3 H3 locs3 hp3 hP hS => ?_)
    obtain ⟨σ3, τ3⟩ := u3
    obtain ⟨hR, f3, hp3_0, hp3_1, hp3_2⟩ : P_X12_next σ0 σ3 := hp3
    have hP : va_P D vwCl (gw cA ad σ3 τ3) H3 := hP
    have hF := hF.step f3 (by decide)
    have t4 : (σ3 387 3).toInt = (σ0 387 3).toInt := congrArg Int32.toInt (f3.at 387 3 (by decide))
    have hr5 := rg_12_4 hR (k := 387) (by decide) (by decide)
    refine r_iconst hx hb dX12_sign_18 (by decide) (fun z6 ez6 => ?_)
    exact r_zret hx hb hr hK hP hS hk (by omega) dX12_sign_19 (show P_X12_sign σ0 a1 z6 σ3 from ⟨hR, hF, by omega, by omega, by omega⟩)
  · clear hp1_0
    refine lv_aload_n hx hb dX12_sign_8 rfl (lv_at hl 0 rfl) ?_
    refine r_iconst hx hb dX12_sign_9 (by decide) (fun z7 ez7 => ?_)
    refine r_cVi (k := 387) (As := [.int z7]) (rest := []) ⟨hx, hb, hml, hown, hts⟩ hK hP hN hS (c_X12_bad l D cA ad hI σ0 τ1 hR z7 (by omega)) (cwV 1 hts gX12_sign_X12_bad rfl rfl rfl (by decide +kernel) ⟨by decide, by decide⟩) (rv_M hK hP (by decide) (by decide)) rfl hl.1 rfl (Nat.le_of_ble_eq_true rfl) dX12_sign_10 (Nat.zero_le _) (Nat.zero_le _) (fun r8 u8 H8 locs8 hp8 hP hS => ?_)
    obtain ⟨σ8, τ8⟩ := u8
    obtain ⟨hR, f8, hq8⟩ : P_X12_bad σ0 z7 r8 σ8 := hp8
    have hP : va_P D vwCl (gw cA ad σ8 τ8) H8 := hP
    have hF := hF.step f8 (by decide)
    have t9 : (σ8 387 4).toInt = (σ0 387 4).toInt := congrArg Int32.toInt (f8.at 387 4 (by decide))
    have t10 : (σ8 387 3).toInt = (σ0 387 3).toInt := congrArg Int32.toInt (f8.at 387 3 (by decide))
    have t11 : (σ8 387 11).toInt = (σ0 387 11).toInt := congrArg Int32.toInt (f8.at 387 11 (by decide))
    exact r_zret hx hb hr hK hP hS hk (by omega) dX12_sign_13 (show P_X12_sign σ0 a1 r8 σ8 from ⟨hR, hF, by omega, by omega, by omega⟩)
theorem in_X12_taken_12 : ∀ w ∈ u_ws RX12 TX12 47, w ∈ wsX12_taken := by decide +kernel
theorem lk_X12_taken_18 : Cond.fieldLink RX12 18 "CuckooSharesModel" "size" "I" ∈ wsX12_taken := by decide +kernel
theorem lk_X12_taken_21 : Cond.fieldLink RX12 21 "CuckooSharesModel" "p" "I" ∈ wsX12_taken := by decide +kernel
theorem lk_X12_taken_24 : Cond.fieldLink RX12 24 "CuckooSharesModel" "limit" "I" ∈ wsX12_taken := by decide +kernel
theorem lk_X12_taken_7 : Cond.fieldLink RX12 7 "CuckooSharesModel" "length" "I" ∈ wsX12_taken := by decide +kernel
abbrev L_X12_taken : List Rc := [(387, 387, 2, 5)]
def P_X12_taken (σ0 : Nat → Nat → Int32) (a1 : Int32) (σ : Nat → Nat → Int32) : Prop := Rg σ ∧ Fr L_X12_taken σ0 σ ∧ ((σ 387 2).toInt = 0)
set_option maxHeartbeats 4000000 in
theorem c_X12_taken (l : Launch) (D : va_G) (cA : Nat → ClassId) (ad : Nat → Nat) (hI : Inj ad) (σ0 : Nat → Nat → Int32) (τ0 : Nat → Nat → Int64) (hR : Rg σ0) (a1 : Int32) (ha1 : 200 ≤ a1.toInt ∧ a1.toInt ≤ 940) : Met l yX12_taken wsX12_taken ({ frames := 0, cells := 0, slots := 0, locals := 0 } : Room) (WQc D cA ad [.ref (ad 387), .int a1] σ0 τ0) (va_Qv (fun u : SS => P_X12_taken σ0 a1 u.1) (WB D cA ad) (AA ad)) 0 0 (AA ad) := by
  refine Met.ofW (cc := cX12_taken) (maxL := 2) (ret := none) (by decide) rfl ?_
  intro p e s m args below meth c s₁ B hml hv
  obtain ⟨rfl, hP, hK, hN⟩ := hv
  have C : Cy p s m _ meth c cX12_taken 2 wsX12_taken RX12 D cA ad none := ⟨B.exec, B.bytes, hml, findClass_of_methodNamed B.named, atoms_spec (ws := wsX12_taken) B.pre, hK, B.notSynchronized, B.returns, hI, hN⟩
  have hl := lv_entry ([.ref (ad 387), .int a1]) (n := 2) (Nat.le_of_ble_eq_true rfl)
  rw [lg_entry_eq]
  generalize (lg_sl ([.ref (ad 387), .int a1]) ++ List.replicate (2 - (lg_sl ([.ref (ad 387), .int a1])).length) Slot.unset).toArray = ls at hl ⊢
  have hl : lv_has ls 2 [(0, .ref (ad 387)), (1, .int a1)] := hl
  have hS : va_S (AA ad) s.heap s.heap [] := va_S.rf
  have hF : Fr L_X12_taken σ0 σ0 := Fr.rf
  obtain ⟨hx, hb, _, hown, hts, _, hk, hr, _, _⟩ := C
  have hrt2 := rg_12_2 hR (k := 387) (by decide) (by decide)
  refine lv_aload_n hx hb dX12_taken_0 rfl (lv_at hl 0 rfl) ?_
  refine lv_aload_n hx hb dX12_taken_1 rfl (lv_at hl 0 rfl) ?_
  refine fg_12_2 (k := 387) hx hb hts in_X12_taken_12 hown hK hP (by decide) (by decide) (hts _ lk_X12_taken_7) dX12_taken_2 ?_
  refine fp_12_3 (k := 387) hx hb hts in_X12_taken_12 hown hK hP (by decide) (by decide) (hts _ lk_X12_taken_18) hI hR hS (by omega) dX12_taken_5 (fun σ1 H1 locs1 u1 v1 hR hP hS => ?_)
  have hF := hF.puts u1 0 rfl (by decide) (by decide) (by decide) (by decide)
  have t2 : (σ1 387 2).toInt = (σ0 387 2).toInt := congrArg Int32.toInt (u1 387 2 (by omega))
  refine lv_aload_n hx hb dX12_taken_8 rfl (lv_at hl 0 rfl) ?_
  refine r_iconst hx hb dX12_taken_9 (by decide) (fun z3 ez3 => ?_)
  refine fp_12_2 (k := 387) hx hb hts in_X12_taken_12 hown hK hP (by decide) (by decide) (hts _ lk_X12_taken_7) hI hR hS (by omega) dX12_taken_10 (fun σ4 H4 locs4 u4 v4 hR hP hS => ?_)
  have hF := hF.puts u4 0 rfl (by decide) (by decide) (by decide) (by decide)
  refine lv_aload_n hx hb dX12_taken_13 rfl (lv_at hl 0 rfl) ?_
  refine r_iconst hx hb dX12_taken_14 (by decide) (fun z5 ez5 => ?_)
  refine fp_12_4 (k := 387) hx hb hts in_X12_taken_12 hown hK hP (by decide) (by decide) (hts _ lk_X12_taken_21) hI hR hS (by omega) dX12_taken_15 (fun σ6 H6 locs6 u6 v6 hR hP hS => ?_)
  have hF := hF.puts u6 0 rfl (by decide) (by decide) (by decide) (by decide)
  have t7 : (σ6 387 2).toInt = (σ4 387 2).toInt := congrArg Int32.toInt (u6 387 2 (by omega))
  refine lv_aload_n hx hb dX12_taken_18 rfl (lv_at hl 0 rfl) ?_
  refine lv_iload_n hx hb dX12_taken_19 rfl (lv_at hl 1 rfl) ?_
  refine fp_12_5 (k := 387) hx hb hts in_X12_taken_12 hown hK hP (by decide) (by decide) (hts _ lk_X12_taken_24) hI hR hS (by omega) dX12_taken_20 (fun σ8 H8 locs8 u8 v8 hR hP hS => ?_)
  have hF := hF.puts u8 0 rfl (by decide) (by decide) (by decide) (by decide)
  have t9 : (σ8 387 2).toInt = (σ6 387 2).toInt := congrArg Int32.toInt (u8 387 2 (by omega))
  exact r_vret hx hb hr hK hP hS hk dX12_taken_23 (show P_X12_taken σ0 a1 σ8 from ⟨hR, hF, by omega⟩)
theorem in_X12_valley_12 : ∀ w ∈ u_ws RX12 TX12 47, w ∈ wsX12_valley := by decide +kernel
theorem lk_X12_valley_1 : Cond.fieldLink RX12 1 "CuckooSharesModel" "thrown" "I" ∈ wsX12_valley := by decide +kernel
theorem lk_X12_valley_159 : Cond.fieldLink RX12 159 "CuckooSharesModel" "token" "I" ∈ wsX12_valley := by decide +kernel
theorem lk_X12_valley_176 : Cond.fieldLink RX12 176 "CuckooSharesModel" "fault" "I" ∈ wsX12_valley := by decide +kernel
theorem lk_X12_valley_179 : Cond.fieldLink RX12 179 "CuckooSharesModel" "faultAt" "I" ∈ wsX12_valley := by decide +kernel
theorem lk_X12_valley_213 : Cond.fieldLink RX12 213 "CuckooSharesModel" "onces" "I" ∈ wsX12_valley := by decide +kernel
theorem lk_X12_valley_232 : Cond.fieldLink RX12 232 "CuckooSharesModel" "falls" "I" ∈ wsX12_valley := by decide +kernel
theorem lk_X12_valley_247 : Cond.fieldLink RX12 247 "CuckooSharesModel" "lines" "I" ∈ wsX12_valley := by decide +kernel
theorem lk_X12_valley_256 : Cond.fieldLink RX12 256 "CuckooSharesModel" "undoMany" "I" ∈ wsX12_valley := by decide +kernel
theorem lk_X12_valley_33 : Cond.fieldLink RX12 33 "CuckooSharesModel" "s" "[I" ∈ wsX12_valley := by decide +kernel
theorem lk_X12_valley_37 : Cond.fieldLink RX12 37 "CuckooSharesModel" "h" "[I" ∈ wsX12_valley := by decide +kernel
theorem lk_X12_valley_43 : Cond.fieldLink RX12 43 "CuckooSharesModel" "names" "[J" ∈ wsX12_valley := by decide +kernel
abbrev L_X12_valley : List Rc := [(387, 387, 0, 0), (387, 387, 2, 5), (390, 390, 0, 210), (389, 389, 0, 426), (387, 387, 29, 29), (387, 387, 11, 16), (387, 387, 18, 21)]
def P_X12_valley (σ0 : Nat → Nat → Int32)  (r : Int32) (σ : Nat → Nat → Int32) : Prop := Rg σ ∧ Fr L_X12_valley σ0 σ ∧ ((σ 387 2).toInt = 0) ∧ SI σ
def J_X12_valley_34 (p : Program) (l : Launch) (e : Env) (s : State) (m : MethodId) (args : Array Value) (below : List Frame) (meth : Method) (c : Code) (D : va_G) (cA : Nat → ClassId) (ad : Nat → Nat) (σ0 : Nat → Nat → Int32)  (n : Nat) : Prop := ∀ (σ : Nat → Nat → Int32) (τ : Nat → Nat → Int64) (H : Heap) (locs : List Loc) (x1 : Int32) (ls : Array Slot), Rg σ → Fr L_X12_valley σ0 σ → va_P D vwCl (gw cA ad σ τ) H → va_S (AA ad) s.heap H locs → (0 ≤ x1.toInt ∧ x1.toInt ≤ 255) → (0 ≤ (σ 387 4).toInt ∧ (σ 387 4).toInt ≤ 940) → (0 ≤ (σ 387 3).toInt ∧ (σ 387 3).toInt ≤ 940) → (0 ≤ (σ 387 2).toInt ∧ (σ 387 2).toInt ≤ 0) → (0 ≤ (σ 387 19).toInt ∧ (σ 387 19).toInt ≤ 0) → (∀ j : Nat, (j : Int) < x1.toInt → (σ 390 j).toInt = 0) → (SI σ) → lv_has ls 2 [(0, .ref (ad 387)), (1, .int x1)] → 184450195 * (255 - x1.toInt) + 184450194 < (n : Int) → W p l e ({ frames := 6, cells := 0, slots := 0, locals := 133 } : Room) s m args below meth c H locs 0 0 (MQ below (va_Qi (fun (r : Int32) (u : SS) => P_X12_valley σ0 r u.1) (WB D cA ad) (AA ad)) args s 0 0 (AA ad)) (F0 m 34 ls [])
def J_X12_valley_74 (p : Program) (l : Launch) (e : Env) (s : State) (m : MethodId) (args : Array Value) (below : List Frame) (meth : Method) (c : Code) (D : va_G) (cA : Nat → ClassId) (ad : Nat → Nat) (σ0 : Nat → Nat → Int32)  (n : Nat) : Prop := ∀ (σ : Nat → Nat → Int32) (τ : Nat → Nat → Int64) (H : Heap) (locs : List Loc) (x1 : Int32) (ls : Array Slot), Rg σ → Fr L_X12_valley σ0 σ → va_P D vwCl (gw cA ad σ τ) H → va_S (AA ad) s.heap H locs → (211 ≤ x1.toInt ∧ x1.toInt ≤ 255) → (0 ≤ (σ 387 3).toInt ∧ (σ 387 3).toInt ≤ 940) → (0 ≤ (σ 387 2).toInt ∧ (σ 387 2).toInt ≤ 0) → (0 ≤ (σ 387 4).toInt ∧ (σ 387 4).toInt ≤ 940) → (SI σ) → (HI σ) → lv_has ls 2 [(0, .ref (ad 387)), (1, .int x1)] → 195807 * (940 - (σ 387 4).toInt) + 195806 < (n : Int) → W p l e ({ frames := 6, cells := 0, slots := 0, locals := 133 } : Room) s m args below meth c H locs 0 0 (MQ below (va_Qi (fun (r : Int32) (u : SS) => P_X12_valley σ0 r u.1) (WB D cA ad) (AA ad)) args s 0 0 (AA ad)) (F0 m 74 ls [])
def J_X12_valley_119 (p : Program) (l : Launch) (e : Env) (s : State) (m : MethodId) (args : Array Value) (below : List Frame) (meth : Method) (c : Code) (D : va_G) (cA : Nat → ClassId) (ad : Nat → Nat) (σ0 : Nat → Nat → Int32)  (n : Nat) : Prop := ∀ (σ : Nat → Nat → Int32) (τ : Nat → Nat → Int64) (H : Heap) (locs : List Loc) (x1 : Int32) (ls : Array Slot), Rg σ → Fr L_X12_valley σ0 σ → va_P D vwCl (gw cA ad σ τ) H → va_S (AA ad) s.heap H locs → (0 ≤ x1.toInt ∧ x1.toInt ≤ 441) → (0 ≤ (σ 387 3).toInt ∧ (σ 387 3).toInt ≤ 940) → (0 ≤ (σ 387 2).toInt ∧ (σ 387 2).toInt ≤ 0) → (0 ≤ (σ 387 4).toInt ∧ (σ 387 4).toInt ≤ 940) → (0 ≤ (σ 387 11).toInt ∧ (σ 387 11).toInt ≤ 0) → (∀ j : Nat, (j : Int) < x1.toInt → j < 211 → σ 389 j = σ 390 j) → (∀ j : Nat, (j : Int) < x1.toInt → 211 ≤ j → (σ 389 j).toInt = 0) → (HI σ) → lv_has ls 2 [(0, .ref (ad 387)), (1, .int x1)] → 442 * (441 - x1.toInt) + 441 < (n : Int) → W p l e ({ frames := 6, cells := 0, slots := 0, locals := 133 } : Room) s m args below meth c H locs 0 0 (MQ below (va_Qi (fun (r : Int32) (u : SS) => P_X12_valley σ0 r u.1) (WB D cA ad) (AA ad)) args s 0 0 (AA ad)) (F0 m 119 ls [])
def J_X12_valley_157 (p : Program) (l : Launch) (e : Env) (s : State) (m : MethodId) (args : Array Value) (below : List Frame) (meth : Method) (c : Code) (D : va_G) (cA : Nat → ClassId) (ad : Nat → Nat) (σ0 : Nat → Nat → Int32)  (n : Nat) : Prop := ∀ (σ : Nat → Nat → Int32) (τ : Nat → Nat → Int64) (H : Heap) (locs : List Loc) (x1 : Int32) (ls : Array Slot), Rg σ → Fr L_X12_valley σ0 σ → va_P D vwCl (gw cA ad σ τ) H → va_S (AA ad) s.heap H locs → (0 ≤ x1.toInt ∧ x1.toInt ≤ 19) → (0 ≤ (σ 387 3).toInt ∧ (σ 387 3).toInt ≤ 940) → (0 ≤ (σ 387 2).toInt ∧ (σ 387 2).toInt ≤ 0) → (0 ≤ (σ 387 4).toInt ∧ (σ 387 4).toInt ≤ 940) → (0 ≤ (σ 387 11).toInt ∧ (σ 387 11).toInt ≤ 0) → (SI σ) → lv_has ls 2 [(0, .ref (ad 387)), (1, .int x1)] → 21 * (19 - x1.toInt) + 20 < (n : Int) → W p l e ({ frames := 6, cells := 0, slots := 0, locals := 133 } : Room) s m args below meth c H locs 0 0 (MQ below (va_Qi (fun (r : Int32) (u : SS) => P_X12_valley σ0 r u.1) (WB D cA ad) (AA ad)) args s 0 0 (AA ad)) (F0 m 157 ls [])
def J_X12_valley_186 (p : Program) (l : Launch) (e : Env) (s : State) (m : MethodId) (args : Array Value) (below : List Frame) (meth : Method) (c : Code) (D : va_G) (cA : Nat → ClassId) (ad : Nat → Nat) (σ0 : Nat → Nat → Int32)  (n : Nat) : Prop := ∀ (σ : Nat → Nat → Int32) (τ : Nat → Nat → Int64) (H : Heap) (locs : List Loc) (x1 : Int32) (ls : Array Slot), Rg σ → Fr L_X12_valley σ0 σ → va_P D vwCl (gw cA ad σ τ) H → va_S (AA ad) s.heap H locs → (0 ≤ x1.toInt ∧ x1.toInt ≤ 8) → (0 ≤ (σ 387 3).toInt ∧ (σ 387 3).toInt ≤ 940) → (0 ≤ (σ 387 2).toInt ∧ (σ 387 2).toInt ≤ 0) → (0 ≤ (σ 387 4).toInt ∧ (σ 387 4).toInt ≤ 940) → (0 ≤ (σ 387 11).toInt ∧ (σ 387 11).toInt ≤ 0) → (SI σ) → lv_has ls 2 [(0, .ref (ad 387)), (1, .int x1)] → 2 * (8 - x1.toInt) + 1 < (n : Int) → W p l e ({ frames := 6, cells := 0, slots := 0, locals := 133 } : Room) s m args below meth c H locs 0 0 (MQ below (va_Qi (fun (r : Int32) (u : SS) => P_X12_valley σ0 r u.1) (WB D cA ad) (AA ad)) args s 0 0 (AA ad)) (F0 m 186 ls [])
set_option maxHeartbeats 4000000 in
theorem B_X12_valley_34 (p : Program) (l : Launch) (e : Env) (s : State) (m : MethodId) (args : Array Value) (below : List Frame) (meth : Method) (c : Code) (D : va_G) (cA : Nat → ClassId) (ad : Nat → Nat) (σ0 : Nat → Nat → Int32)  (n : Nat) (C : Cy p s m args meth c cX12_valley 2 wsX12_valley RX12 D cA ad (some .int)) (gSI0 : SI σ0) (K34 : J_X12_valley_34 p l e s m args below meth c D cA ad σ0 n) (K74 : J_X12_valley_74 p l e s m args below meth c D cA ad σ0 n) (K119 : J_X12_valley_119 p l e s m args below meth c D cA ad σ0 n) (K157 : J_X12_valley_157 p l e s m args below meth c D cA ad σ0 n) (K186 : J_X12_valley_186 p l e s m args below meth c D cA ad σ0 n) : J_X12_valley_34 p l e s m args below meth c D cA ad σ0 (n + 1) := by
  obtain ⟨hx, hb, hml, hown, hts, hK, hk, hr, hI, hN⟩ := C
  intro σ τ H locs x1 ls hR hF hP hS hc0 hc1 hc2 hc3 hc4 hi0 gSI hl hm
  refine lv_iload_n hx hb dX12_valley_34 rfl (lv_at hl 1 rfl) ?_
  refine r_sipush hx hb dX12_valley_35 (by decide) (fun z1 ez1 => ?_)
  refine r_icmp_ge (tgt := 54) hx hb dX12_valley_38 (by decide) (fun c2 => ?_) (fun c2 => ?_)
  · have gHI := HI.zero (σ := σ) (fun j hj => hi0 j (by omega))
    refine lv_aload_n hx hb dX12_valley_54 rfl (lv_at hl 0 rfl) ?_
    refine fg_12_7 (k := 387) hx hb hts in_X12_valley_12 hown hK hP (by decide) (by decide) (hts _ lk_X12_valley_37) dX12_valley_55 ?_
    refine r_iconst hx hb dX12_valley_58 (by decide) (fun z3 ez3 => ?_)
    refine r_bipush hx hb dX12_valley_59 (by decide) (fun z4 ez4 => ?_)
    refine as_mh (k := 390) (j := 3) hx hb hK hP hI hR hS (by decide) (by decide) (by omega) (by omega) (rx_mh_3 (by decide) (by decide) (by decide) (by decide)) dX12_valley_61 (fun σ5 H5 locs5 u5 v5 hR hP hS => ?_)
    have hF := hF.puts u5 2 rfl (by decide) (by decide) (by decide) (by decide)
    have gHI := HI.put gHI u5 (by decide)
    have gSI := SI.put gSI hR u5 (by decide)
    have t6 : (σ5 387 11).toInt = (σ 387 11).toInt := congrArg Int32.toInt (u5 387 11 (by omega))
    have t7 : (σ5 387 4).toInt = (σ 387 4).toInt := congrArg Int32.toInt (u5 387 4 (by omega))
    have t8 : (σ5 387 3).toInt = (σ 387 3).toInt := congrArg Int32.toInt (u5 387 3 (by omega))
    have t9 : (σ5 387 2).toInt = (σ 387 2).toInt := congrArg Int32.toInt (u5 387 2 (by omega))
    have t10 : (σ5 387 19).toInt = (σ 387 19).toInt := congrArg Int32.toInt (u5 387 19 (by omega))
    refine lv_aload_n hx hb dX12_valley_62 rfl (lv_at hl 0 rfl) ?_
    refine fg_12_7 (k := 387) hx hb hts in_X12_valley_12 hown hK hP (by decide) (by decide) (hts _ lk_X12_valley_37) dX12_valley_63 ?_
    refine r_iconst hx hb dX12_valley_66 (by decide) (fun z11 ez11 => ?_)
    refine r_bipush hx hb dX12_valley_67 (by decide) (fun z12 ez12 => ?_)
    refine as_mh (k := 390) (j := 4) hx hb hK hP hI hR hS (by decide) (by decide) (by omega) (by omega) (rx_mh_3 (by decide) (by decide) (by decide) (by decide)) dX12_valley_69 (fun σ13 H13 locs13 u13 v13 hR hP hS => ?_)
    have hF := hF.puts u13 2 rfl (by decide) (by decide) (by decide) (by decide)
    have gHI := HI.put gHI u13 (by decide)
    have gSI := SI.put gSI hR u13 (by decide)
    have t14 : (σ13 387 11).toInt = (σ5 387 11).toInt := congrArg Int32.toInt (u13 387 11 (by omega))
    have t15 : (σ13 387 4).toInt = (σ5 387 4).toInt := congrArg Int32.toInt (u13 387 4 (by omega))
    have t16 : (σ13 387 3).toInt = (σ5 387 3).toInt := congrArg Int32.toInt (u13 387 3 (by omega))
    have t17 : (σ13 387 2).toInt = (σ5 387 2).toInt := congrArg Int32.toInt (u13 387 2 (by omega))
    have t18 : (σ13 387 19).toInt = (σ5 387 19).toInt := congrArg Int32.toInt (u13 387 19 (by omega))
    refine lv_aload_n hx hb dX12_valley_70 rfl (lv_at hl 0 rfl) ?_
    refine r_cVv (k := 387) (As := []) (rest := []) ⟨hx, hb, hml, hown, hts⟩ hK hP hN hS (c_X12_next l D cA ad hI σ13 τ hR) (cwV 0 hts gX12_valley_X12_next rfl rfl rfl (by decide +kernel) ⟨by decide, by decide⟩) (rv_M hK hP (by decide) (by decide)) rfl hl.1 rfl (Nat.le_of_ble_eq_true rfl) dX12_valley_71 (Nat.zero_le _) (Nat.zero_le _) (fun u19 H19 locs19 hp19 hP hS => ?_)
    obtain ⟨σ19, τ19⟩ := u19
    obtain ⟨hR, f19, hp19_0, hp19_1, hp19_2⟩ : P_X12_next σ13 σ19 := hp19
    have hP : va_P D vwCl (gw cA ad σ19 τ19) H19 := hP
    have hF := hF.step f19 (by decide)
    have gHI := HI.fr gHI f19 (by decide)
    have gSI := SI.fr gSI hR f19 (by decide)
    have t20 : (σ19 387 3).toInt = (σ13 387 3).toInt := congrArg Int32.toInt (f19.at 387 3 (by decide))
    have t21 : (σ19 387 2).toInt = (σ13 387 2).toInt := congrArg Int32.toInt (f19.at 387 2 (by decide))
    have t22 : (σ19 387 19).toInt = (σ13 387 19).toInt := congrArg Int32.toInt (f19.at 387 19 (by decide))
    have hr23 := rg_12_4 hR (k := 387) (by decide) (by decide)
    exact K74 σ19 τ19 H19 locs19 x1 ls hR hF hP hS (by omega) (by omega) (by omega) (by omega) gSI gHI (lv_sub hl [0, 1] rfl) (by omega)
  · refine lv_aload_n hx hb dX12_valley_41 rfl (lv_at hl 0 rfl) ?_
    refine fg_12_7 (k := 387) hx hb hts in_X12_valley_12 hown hK hP (by decide) (by decide) (hts _ lk_X12_valley_37) dX12_valley_42 ?_
    refine lv_iload_n hx hb dX12_valley_45 rfl (lv_at hl 1 rfl) ?_
    refine r_iconst hx hb dX12_valley_46 (by decide) (fun z24 ez24 => ?_)
    obtain ⟨j25, ej25⟩ : ∃ j : Nat, x1.toInt = (j : Int) := ⟨_, ti_nat (by omega)⟩
    refine as_mh (k := 390) (j := j25) hx hb hK hP hI hR hS (by decide) (by decide) ej25 (by omega) (mc_zh (by omega) (by omega)) dX12_valley_47 (fun σ26 H26 locs26 u26 v26 hR hP hS => ?_)
    have uz := u26
    have vz := v26
    have hF := hF.puts u26 2 rfl (by decide) (by decide) (by omega) (by omega)
    have gSI := SI.putV gSI hR u26 (by intro q hq; simp only [Gd_SI, List.mem_cons, List.not_mem_nil, or_false] at hq; rcases hq with rfl | rfl | rfl <;> dsimp only [inRc] <;> omega)
    have t27 : (σ26 387 11).toInt = (σ 387 11).toInt := congrArg Int32.toInt (u26 387 11 (by omega))
    have t28 : (σ26 387 4).toInt = (σ 387 4).toInt := congrArg Int32.toInt (u26 387 4 (by omega))
    have t29 : (σ26 387 3).toInt = (σ 387 3).toInt := congrArg Int32.toInt (u26 387 3 (by omega))
    have t30 : (σ26 387 2).toInt = (σ 387 2).toInt := congrArg Int32.toInt (u26 387 2 (by omega))
    have t31 : (σ26 387 19).toInt = (σ 387 19).toInt := congrArg Int32.toInt (u26 387 19 (by omega))
    refine r_iinc (k := 1) (lv1 := fun z32 => [(1, .int z32), (0, .ref (ad 387))]) hx hb dX12_valley_48 hl rfl (by decide) (fun _ => rfl) (by decide) (by omega) (fun z32 ls ez32 hl => ?_)
    refine lv_goto (tgt := 34) hx hb dX12_valley_51 (by decide) ?_
    exact K34 σ26 τ H26 locs26 z32 ls hR hF hP hS (by omega) (by omega) (by omega) (by omega) (by omega) (by first | exact (fun j hj => absurd hj (by omega)) | exact Z1st hi0 uz (by omega) (by omega)) gSI (lv_sub hl [1, 0] rfl) (by omega)
set_option maxHeartbeats 4000000 in
theorem B_X12_valley_74 (p : Program) (l : Launch) (e : Env) (s : State) (m : MethodId) (args : Array Value) (below : List Frame) (meth : Method) (c : Code) (D : va_G) (cA : Nat → ClassId) (ad : Nat → Nat) (σ0 : Nat → Nat → Int32)  (n : Nat) (C : Cy p s m args meth c cX12_valley 2 wsX12_valley RX12 D cA ad (some .int)) (gSI0 : SI σ0) (K34 : J_X12_valley_34 p l e s m args below meth c D cA ad σ0 n) (K74 : J_X12_valley_74 p l e s m args below meth c D cA ad σ0 n) (K119 : J_X12_valley_119 p l e s m args below meth c D cA ad σ0 n) (K157 : J_X12_valley_157 p l e s m args below meth c D cA ad σ0 n) (K186 : J_X12_valley_186 p l e s m args below meth c D cA ad σ0 n) : J_X12_valley_74 p l e s m args below meth c D cA ad σ0 (n + 1) := by
  obtain ⟨hx, hb, hml, hown, hts, hK, hk, hr, hI, hN⟩ := C
  intro σ τ H locs x1 ls hR hF hP hS hc0 hc1 hc2 hc3 gSI gHI hl hm
  refine lv_aload_n hx hb dX12_valley_74 rfl (lv_at hl 0 rfl) ?_
  refine fg_12_11 (k := 387) hx hb hts in_X12_valley_12 hown hK hP (by decide) (by decide) (hts _ lk_X12_valley_159) dX12_valley_75 ?_
  refine r_if_eq (tgt := 117) hx hb dX12_valley_78 (by decide) (fun c1 => ?_) (fun c1 => ?_)
  · refine r_iconst hx hb dX12_valley_117 (by decide) (fun z2 ez2 => ?_)
    refine lv_istore_n (lv' := [(1, .int z2), (0, .ref (ad 387))]) hx hb dX12_valley_118 rfl hl (by decide) rfl (fun ls hl => ?_)
    exact K119 σ τ H locs z2 ls hR hF hP hS (by omega) (by omega) (by omega) (by omega) (by omega) (by first | exact (fun j hj _ => absurd hj (by omega)) | exact V1st hi0 us (by omega) (fun _ => by omega) (by omega)) (by first | exact (fun j hj _ => absurd hj (by omega)) | exact V2st hi1 us (by omega) (fun _ => by omega) (by omega)) gHI (lv_sub hl [1, 0] rfl) (by omega)
  · refine lv_aload_n hx hb dX12_valley_81 rfl (lv_at hl 0 rfl) ?_
    refine r_cVi (k := 387) (As := []) (rest := []) ⟨hx, hb, hml, hown, hts⟩ hK hP hN hS (c_X12_line l D cA ad hI σ τ hR gHI) (cwV 0 hts gX12_valley_X12_line rfl rfl rfl (by decide +kernel) ⟨by decide, by decide⟩) (rv_M hK hP (by decide) (by decide)) rfl hl.1 rfl (Nat.le_of_ble_eq_true rfl) dX12_valley_82 (Nat.zero_le _) (Nat.zero_le _) (fun r3 u3 H3 locs3 hp3 hP hS => ?_)
    obtain ⟨σ3, τ3⟩ := u3
    obtain ⟨hR, f3, hq3, hp3_0, hp3_1, gnHI⟩ : P_X12_line σ r3 σ3 := hp3
    have hP : va_P D vwCl (gw cA ad σ3 τ3) H3 := hP
    have hF := hF.step f3 (by decide)
    have gSI := SI.fr gSI hR f3 (by decide)
    have t4 : (σ3 387 3).toInt = (σ 387 3).toInt := congrArg Int32.toInt (f3.at 387 3 (by decide))
    have t5 : (σ3 387 2).toInt = (σ 387 2).toInt := congrArg Int32.toInt (f3.at 387 2 (by decide))
    have t6 : (σ3 387 19).toInt = (σ 387 19).toInt := congrArg Int32.toInt (f3.at 387 19 (by decide))
    have hr7 := rg_12_4 hR (k := 387) (by decide) (by decide)
    have gHI := gnHI
    refine r_if_eq (tgt := 97) hx hb dX12_valley_85 (by decide) (fun c8 => ?_) (fun c8 => ?_)
    · clear hp3_1
      refine r_iconst hx hb dX12_valley_97 (by decide) (fun z9 ez9 => ?_)
      refine lv_aload_n hx hb dX12_valley_98 rfl (lv_at hl 0 rfl) ?_
      refine fg_12_16 (k := 387) hx hb hts in_X12_valley_12 hown hK hP (by decide) (by decide) (hts _ lk_X12_valley_179) dX12_valley_99 ?_
      have b11 := And.intro (ti_lo (σ3 387 16)) (ti_hi (σ3 387 16))
      refine r_isub hx hb dX12_valley_102 (by omega) (fun z10 ez10 => ?_)
      exact r_iret hx hb hr hK hP hS hk dX12_valley_103 (show P_X12_valley σ0 z10 σ3 from ⟨hR, hF, by omega, gSI⟩)
    · replace hp3_1 := hp3_1.resolve_left (by omega)
      refine lv_aload_n hx hb dX12_valley_88 rfl (lv_at hl 0 rfl) ?_
      refine r_bipush hx hb dX12_valley_89 (by decide) (fun z12 ez12 => ?_)
      refine r_cVi (k := 387) (As := [.int z12]) (rest := []) ⟨hx, hb, hml, hown, hts⟩ hK hP hN hS (c_X12_sign l D cA ad hI σ3 τ3 hR z12 (by omega)) (cwV 1 hts gX12_valley_X12_sign rfl rfl rfl (by decide +kernel) ⟨by decide, by decide⟩) (rv_M hK hP (by decide) (by decide)) rfl hl.1 rfl (Nat.le_of_ble_eq_true rfl) dX12_valley_91 (Nat.zero_le _) (Nat.zero_le _) (fun r13 u13 H13 locs13 hp13 hP hS => ?_)
      obtain ⟨σ13, τ13⟩ := u13
      obtain ⟨hR, f13, hq13, hp13_0, hp13_1⟩ : P_X12_sign σ3 z12 r13 σ13 := hp13
      have hP : va_P D vwCl (gw cA ad σ13 τ13) H13 := hP
      have hF := hF.step f13 (by decide)
      have gHI := HI.fr gHI f13 (by decide)
      have gSI := SI.fr gSI hR f13 (by decide)
      have t14 : (σ13 387 3).toInt = (σ3 387 3).toInt := congrArg Int32.toInt (f13.at 387 3 (by decide))
      have t15 : (σ13 387 2).toInt = (σ3 387 2).toInt := congrArg Int32.toInt (f13.at 387 2 (by decide))
      have t16 : (σ13 387 19).toInt = (σ3 387 19).toInt := congrArg Int32.toInt (f13.at 387 19 (by decide))
      have hr17 := rg_12_4 hR (k := 387) (by decide) (by decide)
      refine r_if_ne (tgt := 104) hx hb dX12_valley_94 (by decide) (fun c18 => ?_) (fun c18 => ?_)
      · replace hp13_1 := hp13_1.resolve_left (by omega)
        refine lv_aload_n hx hb dX12_valley_104 rfl (lv_at hl 0 rfl) ?_
        refine lv_dup hx hb dX12_valley_105 rfl ?_
        refine fg_12_19 (k := 387) hx hb hts in_X12_valley_12 hown hK hP (by decide) (by decide) (hts _ lk_X12_valley_247) dX12_valley_106 ?_
        refine r_iconst hx hb dX12_valley_109 (by decide) (fun z19 ez19 => ?_)
        refine r_iaddU hx hb dX12_valley_110 (fun z20 => ?_)
        refine fp_12_19 (k := 387) hx hb hts in_X12_valley_12 hown hK hP (by decide) (by decide) (hts _ lk_X12_valley_247) hI hR hS dX12_valley_111 (fun σ21 H21 locs21 u21 v21 hR hP hS => ?_)
        have hF := hF.puts u21 6 rfl (by decide) (by decide) (by decide) (by decide)
        have gHI := HI.put gHI u21 (by decide)
        have gSI := SI.put gSI hR u21 (by decide)
        have t22 : (σ21 387 3).toInt = (σ13 387 3).toInt := congrArg Int32.toInt (u21 387 3 (by omega))
        have t23 : (σ21 387 2).toInt = (σ13 387 2).toInt := congrArg Int32.toInt (u21 387 2 (by omega))
        have t24 : (σ21 387 4).toInt = (σ13 387 4).toInt := congrArg Int32.toInt (u21 387 4 (by omega))
        have t25 : (σ21 387 11).toInt = (σ13 387 11).toInt := congrArg Int32.toInt (u21 387 11 (by omega))
        refine lv_goto (tgt := 74) hx hb dX12_valley_114 (by decide) ?_
        exact K74 σ21 τ13 H21 locs21 x1 ls hR hF hP hS (by omega) (by omega) (by omega) (by omega) gSI gHI (lv_sub hl [0, 1] rfl) (by omega)
      · clear hp13_1
        refine r_iconst hx hb dX12_valley_97 (by decide) (fun z26 ez26 => ?_)
        refine lv_aload_n hx hb dX12_valley_98 rfl (lv_at hl 0 rfl) ?_
        refine fg_12_16 (k := 387) hx hb hts in_X12_valley_12 hown hK hP (by decide) (by decide) (hts _ lk_X12_valley_179) dX12_valley_99 ?_
        have b28 := And.intro (ti_lo (σ13 387 16)) (ti_hi (σ13 387 16))
        refine r_isub hx hb dX12_valley_102 (by omega) (fun z27 ez27 => ?_)
        exact r_iret hx hb hr hK hP hS hk dX12_valley_103 (show P_X12_valley σ0 z27 σ13 from ⟨hR, hF, by omega, gSI⟩)
set_option maxHeartbeats 4000000 in
theorem B_X12_valley_119 (p : Program) (l : Launch) (e : Env) (s : State) (m : MethodId) (args : Array Value) (below : List Frame) (meth : Method) (c : Code) (D : va_G) (cA : Nat → ClassId) (ad : Nat → Nat) (σ0 : Nat → Nat → Int32)  (n : Nat) (C : Cy p s m args meth c cX12_valley 2 wsX12_valley RX12 D cA ad (some .int)) (gSI0 : SI σ0) (K34 : J_X12_valley_34 p l e s m args below meth c D cA ad σ0 n) (K74 : J_X12_valley_74 p l e s m args below meth c D cA ad σ0 n) (K119 : J_X12_valley_119 p l e s m args below meth c D cA ad σ0 n) (K157 : J_X12_valley_157 p l e s m args below meth c D cA ad σ0 n) (K186 : J_X12_valley_186 p l e s m args below meth c D cA ad σ0 n) : J_X12_valley_119 p l e s m args below meth c D cA ad σ0 (n + 1) := by
  obtain ⟨hx, hb, hml, hown, hts, hK, hk, hr, hI, hN⟩ := C
  intro σ τ H locs x1 ls hR hF hP hS hc0 hc1 hc2 hc3 hc4 hi0 hi1 gHI hl hm
  refine lv_iload_n hx hb dX12_valley_119 rfl (lv_at hl 1 rfl) ?_
  refine r_sipush hx hb dX12_valley_120 (by decide) (fun z1 ez1 => ?_)
  refine r_icmp_ge (tgt := 155) hx hb dX12_valley_123 (by decide) (fun c2 => ?_) (fun c2 => ?_)
  · have gSI := SI.ofHI gHI (fun j hj => hi0 j (by omega) hj) (hi1 246 (by omega) (by omega))
    refine r_iconst hx hb dX12_valley_155 (by decide) (fun z3 ez3 => ?_)
    refine lv_istore_n (lv' := [(1, .int z3), (0, .ref (ad 387))]) hx hb dX12_valley_156 rfl hl (by decide) rfl (fun ls hl => ?_)
    exact K157 σ τ H locs z3 ls hR hF hP hS (by omega) (by omega) (by omega) (by omega) (by omega) gSI (lv_sub hl [1, 0] rfl) (by omega)
  · refine lv_aload_n hx hb dX12_valley_126 rfl (lv_at hl 0 rfl) ?_
    refine fg_12_6 (k := 387) hx hb hts in_X12_valley_12 hown hK hP (by decide) (by decide) (hts _ lk_X12_valley_33) dX12_valley_127 ?_
    refine lv_iload_n hx hb dX12_valley_130 rfl (lv_at hl 1 rfl) ?_
    refine lv_iload_n hx hb dX12_valley_131 rfl (lv_at hl 1 rfl) ?_
    refine r_sipush hx hb dX12_valley_132 (by decide) (fun z4 ez4 => ?_)
    refine r_icmp_ge (tgt := 147) hx hb dX12_valley_135 (by decide) (fun c5 => ?_) (fun c5 => ?_)
    · refine r_iconst hx hb dX12_valley_147 (by decide) (fun z6 ez6 => ?_)
      obtain ⟨j7, ej7⟩ : ∃ j : Nat, x1.toInt = (j : Int) := ⟨_, ti_nat (by omega)⟩
      refine as_ms (k := 389) (j := j7) hx hb hK hP hI hR hS (by decide) (by decide) ej7 (by omega) (by first | exact mc_zs (by omega) (by omega) | exact mc_hs hR (by omega) (by omega)) dX12_valley_148 (fun σ8 H8 locs8 u8 v8 hR hP hS => ?_)
      have us := u8
      have vs := v8
      have hF := hF.puts u8 3 rfl (by decide) (by decide) (by omega) (by omega)
      have gHI := HI.putV gHI u8 (by intro q hq; simp only [Gd_HI, List.mem_cons, List.not_mem_nil, or_false] at hq; rcases hq with rfl | rfl <;> dsimp only [inRc] <;> omega)
      have t9 : (σ8 387 3).toInt = (σ 387 3).toInt := congrArg Int32.toInt (u8 387 3 (by omega))
      have t10 : (σ8 387 2).toInt = (σ 387 2).toInt := congrArg Int32.toInt (u8 387 2 (by omega))
      have t11 : (σ8 387 19).toInt = (σ 387 19).toInt := congrArg Int32.toInt (u8 387 19 (by omega))
      have t12 : (σ8 387 4).toInt = (σ 387 4).toInt := congrArg Int32.toInt (u8 387 4 (by omega))
      have t13 : (σ8 387 11).toInt = (σ 387 11).toInt := congrArg Int32.toInt (u8 387 11 (by omega))
      refine r_iinc (k := 1) (lv1 := fun z14 => [(1, .int z14), (0, .ref (ad 387))]) hx hb dX12_valley_149 hl rfl (by decide) (fun _ => rfl) (by decide) (by omega) (fun z14 ls ez14 hl => ?_)
      refine lv_goto (tgt := 119) hx hb dX12_valley_152 (by decide) ?_
      exact K119 σ8 τ H8 locs8 z14 ls hR hF hP hS (by omega) (by omega) (by omega) (by omega) (by omega) (by first | exact (fun j hj _ => absurd hj (by omega)) | exact V1st hi0 us (by omega) (fun _ => by omega) (by omega)) (by first | exact (fun j hj _ => absurd hj (by omega)) | exact V2st hi1 us (by omega) (fun _ => by omega) (by omega)) gHI (lv_sub hl [1, 0] rfl) (by omega)
    · refine lv_aload_n hx hb dX12_valley_138 rfl (lv_at hl 0 rfl) ?_
      refine fg_12_7 (k := 387) hx hb hts in_X12_valley_12 hown hK hP (by decide) (by decide) (hts _ lk_X12_valley_37) dX12_valley_139 ?_
      refine lv_iload_n hx hb dX12_valley_142 rfl (lv_at hl 1 rfl) ?_
      obtain ⟨j15, ej15⟩ : ∃ j : Nat, x1.toInt = (j : Int) := ⟨_, ti_nat (by omega)⟩
      refine ad_mh (k := 390) (j := j15) hx hb hK hP (by decide) (by decide) ej15 (by omega) dX12_valley_143 ?_
      refine lv_goto (tgt := 148) hx hb dX12_valley_144 (by decide) ?_
      refine as_ms (k := 389) (j := j15) hx hb hK hP hI hR hS (by decide) (by decide) ej15 (by omega) (by first | exact mc_zs (by omega) (by omega) | exact mc_hs hR (by omega) (by omega)) dX12_valley_148 (fun σ16 H16 locs16 u16 v16 hR hP hS => ?_)
      have us := u16
      have vs := v16
      have hF := hF.puts u16 3 rfl (by decide) (by decide) (by omega) (by omega)
      have gHI := HI.putV gHI u16 (by intro q hq; simp only [Gd_HI, List.mem_cons, List.not_mem_nil, or_false] at hq; rcases hq with rfl | rfl <;> dsimp only [inRc] <;> omega)
      have t17 : (σ16 387 3).toInt = (σ 387 3).toInt := congrArg Int32.toInt (u16 387 3 (by omega))
      have t18 : (σ16 387 2).toInt = (σ 387 2).toInt := congrArg Int32.toInt (u16 387 2 (by omega))
      have t19 : (σ16 387 19).toInt = (σ 387 19).toInt := congrArg Int32.toInt (u16 387 19 (by omega))
      have t20 : (σ16 387 4).toInt = (σ 387 4).toInt := congrArg Int32.toInt (u16 387 4 (by omega))
      have t21 : (σ16 387 11).toInt = (σ 387 11).toInt := congrArg Int32.toInt (u16 387 11 (by omega))
      refine r_iinc (k := 1) (lv1 := fun z22 => [(1, .int z22), (0, .ref (ad 387))]) hx hb dX12_valley_149 hl rfl (by decide) (fun _ => rfl) (by decide) (by omega) (fun z22 ls ez22 hl => ?_)
      refine lv_goto (tgt := 119) hx hb dX12_valley_152 (by decide) ?_
      exact K119 σ16 τ H16 locs16 z22 ls hR hF hP hS (by omega) (by omega) (by omega) (by omega) (by omega) (by first | exact (fun j hj _ => absurd hj (by omega)) | exact V1st hi0 us (by omega) (fun _ => by omega) (by omega)) (by first | exact (fun j hj _ => absurd hj (by omega)) | exact V2st hi1 us (by omega) (fun _ => by omega) (by omega)) gHI (lv_sub hl [1, 0] rfl) (by omega)
set_option maxHeartbeats 4000000 in
theorem B_X12_valley_157 (p : Program) (l : Launch) (e : Env) (s : State) (m : MethodId) (args : Array Value) (below : List Frame) (meth : Method) (c : Code) (D : va_G) (cA : Nat → ClassId) (ad : Nat → Nat) (σ0 : Nat → Nat → Int32)  (n : Nat) (C : Cy p s m args meth c cX12_valley 2 wsX12_valley RX12 D cA ad (some .int)) (gSI0 : SI σ0) (K34 : J_X12_valley_34 p l e s m args below meth c D cA ad σ0 n) (K74 : J_X12_valley_74 p l e s m args below meth c D cA ad σ0 n) (K119 : J_X12_valley_119 p l e s m args below meth c D cA ad σ0 n) (K157 : J_X12_valley_157 p l e s m args below meth c D cA ad σ0 n) (K186 : J_X12_valley_186 p l e s m args below meth c D cA ad σ0 n) : J_X12_valley_157 p l e s m args below meth c D cA ad σ0 (n + 1) := by
  obtain ⟨hx, hb, hml, hown, hts, hK, hk, hr, hI, hN⟩ := C
  intro σ τ H locs x1 ls hR hF hP hS hc0 hc1 hc2 hc3 hc4 gSI hl hm
  refine lv_iload_n hx hb dX12_valley_157 rfl (lv_at hl 1 rfl) ?_
  refine r_bipush hx hb dX12_valley_158 (by decide) (fun z1 ez1 => ?_)
  refine r_icmp_ge (tgt := 184) hx hb dX12_valley_160 (by decide) (fun c2 => ?_) (fun c2 => ?_)
  · refine r_iconst hx hb dX12_valley_184 (by decide) (fun z3 ez3 => ?_)
    refine lv_istore_n (lv' := [(1, .int z3), (0, .ref (ad 387))]) hx hb dX12_valley_185 rfl hl (by decide) rfl (fun ls hl => ?_)
    exact K186 σ τ H locs z3 ls hR hF hP hS (by omega) (by omega) (by omega) (by omega) (by omega) gSI (lv_sub hl [1, 0] rfl) (by omega)
  · refine lv_aload_n hx hb dX12_valley_163 rfl (lv_at hl 0 rfl) ?_
    refine fg_12_9 (k := 387) hx hb hts in_X12_valley_12 hown hK hP (by decide) (by decide) (hts _ lk_X12_valley_43) dX12_valley_164 ?_
    refine lv_iload_n hx hb dX12_valley_167 rfl (lv_at hl 1 rfl) ?_
    refine lv_aload_n hx hb dX12_valley_168 rfl (lv_at hl 0 rfl) ?_
    refine fg_12_9 (k := 387) hx hb hts in_X12_valley_12 hown hK hP (by decide) (by decide) (hts _ lk_X12_valley_43) dX12_valley_169 ?_
    refine r_bipush hx hb dX12_valley_172 (by decide) (fun z4 ez4 => ?_)
    refine lv_iload_n hx hb dX12_valley_174 rfl (lv_at hl 1 rfl) ?_
    refine r_iadd hx hb dX12_valley_175 (by omega) (fun z5 ez5 => ?_)
    obtain ⟨j6, ej6⟩ : ∃ j : Nat, z5.toInt = (j : Int) := ⟨_, ti_nat (by omega)⟩
    refine ad_mnames (k := 392) (j := j6) hx hb hK hP (by decide) (by decide) ej6 (by omega) dX12_valley_176 (fun z7 => ?_)
    obtain ⟨j8, ej8⟩ : ∃ j : Nat, x1.toInt = (j : Int) := ⟨_, ti_nat (by omega)⟩
    refine as_mnames (k := 392) (j := j8) hx hb hK hP hI hS (by decide) (by decide) ej8 (by omega) dX12_valley_177 (fun τ9 H9 locs9 hP hS => ?_)
    refine r_iinc (k := 1) (lv1 := fun z10 => [(1, .int z10), (0, .ref (ad 387))]) hx hb dX12_valley_178 hl rfl (by decide) (fun _ => rfl) (by decide) (by omega) (fun z10 ls ez10 hl => ?_)
    refine lv_goto (tgt := 157) hx hb dX12_valley_181 (by decide) ?_
    exact K157 σ τ9 H9 locs9 z10 ls hR hF hP hS (by omega) (by omega) (by omega) (by omega) (by omega) gSI (lv_sub hl [1, 0] rfl) (by omega)
set_option maxHeartbeats 4000000 in
theorem B_X12_valley_186 (p : Program) (l : Launch) (e : Env) (s : State) (m : MethodId) (args : Array Value) (below : List Frame) (meth : Method) (c : Code) (D : va_G) (cA : Nat → ClassId) (ad : Nat → Nat) (σ0 : Nat → Nat → Int32)  (n : Nat) (C : Cy p s m args meth c cX12_valley 2 wsX12_valley RX12 D cA ad (some .int)) (gSI0 : SI σ0) (K34 : J_X12_valley_34 p l e s m args below meth c D cA ad σ0 n) (K74 : J_X12_valley_74 p l e s m args below meth c D cA ad σ0 n) (K119 : J_X12_valley_119 p l e s m args below meth c D cA ad σ0 n) (K157 : J_X12_valley_157 p l e s m args below meth c D cA ad σ0 n) (K186 : J_X12_valley_186 p l e s m args below meth c D cA ad σ0 n) : J_X12_valley_186 p l e s m args below meth c D cA ad σ0 (n + 1) := by
  obtain ⟨hx, hb, hml, hown, hts, hK, hk, hr, hI, hN⟩ := C
  intro σ τ H locs x1 ls hR hF hP hS hc0 hc1 hc2 hc3 hc4 gSI hl hm
  refine lv_iload_n hx hb dX12_valley_186 rfl (lv_at hl 1 rfl) ?_
  refine r_bipush hx hb dX12_valley_187 (by decide) (fun z1 ez1 => ?_)
  refine r_icmp_ge (tgt := 236) hx hb dX12_valley_189 (by decide) (fun c2 => ?_) (fun c2 => ?_)
  · refine lv_aload_n hx hb dX12_valley_236 rfl (lv_at hl 0 rfl) ?_
    refine r_iconst hx hb dX12_valley_237 (by decide) (fun z3 ez3 => ?_)
    refine fp_12_29 (k := 387) hx hb hts in_X12_valley_12 hown hK hP (by decide) (by decide) (hts _ lk_X12_valley_256) hI hR hS (by omega) dX12_valley_238 (fun σ4 H4 locs4 u4 v4 hR hP hS => ?_)
    have hF := hF.puts u4 4 rfl (by decide) (by decide) (by decide) (by decide)
    have gSI := SI.put gSI hR u4 (by decide)
    have t5 : (σ4 387 3).toInt = (σ 387 3).toInt := congrArg Int32.toInt (u4 387 3 (by omega))
    have t6 : (σ4 387 2).toInt = (σ 387 2).toInt := congrArg Int32.toInt (u4 387 2 (by omega))
    have t7 : (σ4 387 19).toInt = (σ 387 19).toInt := congrArg Int32.toInt (u4 387 19 (by omega))
    have t8 : (σ4 387 4).toInt = (σ 387 4).toInt := congrArg Int32.toInt (u4 387 4 (by omega))
    have t9 : (σ4 387 11).toInt = (σ 387 11).toInt := congrArg Int32.toInt (u4 387 11 (by omega))
    refine lv_aload_n hx hb dX12_valley_241 rfl (lv_at hl 0 rfl) ?_
    refine fg_12_19 (k := 387) hx hb hts in_X12_valley_12 hown hK hP (by decide) (by decide) (hts _ lk_X12_valley_247) dX12_valley_242 ?_
    exact r_iret hx hb hr hK hP hS hk dX12_valley_245 (show P_X12_valley σ0 (σ4 387 19) σ4 from ⟨hR, hF, by omega, gSI⟩)
  · refine lv_aload_n hx hb dX12_valley_192 rfl (lv_at hl 0 rfl) ?_
    refine fg_12_6 (k := 387) hx hb hts in_X12_valley_12 hown hK hP (by decide) (by decide) (hts _ lk_X12_valley_33) dX12_valley_193 ?_
    refine r_sipush hx hb dX12_valley_196 (by decide) (fun z10 ez10 => ?_)
    refine lv_iload_n hx hb dX12_valley_199 rfl (lv_at hl 1 rfl) ?_
    refine r_iadd hx hb dX12_valley_200 (by omega) (fun z11 ez11 => ?_)
    refine lv_aload_n hx hb dX12_valley_201 rfl (lv_at hl 0 rfl) ?_
    refine fg_12_6 (k := 387) hx hb hts in_X12_valley_12 hown hK hP (by decide) (by decide) (hts _ lk_X12_valley_33) dX12_valley_202 ?_
    refine r_bipush hx hb dX12_valley_205 (by decide) (fun z12 ez12 => ?_)
    refine lv_iload_n hx hb dX12_valley_207 rfl (lv_at hl 1 rfl) ?_
    refine r_iadd hx hb dX12_valley_208 (by omega) (fun z13 ez13 => ?_)
    obtain ⟨j14, ej14⟩ : ∃ j : Nat, z13.toInt = (j : Int) := ⟨_, ti_nat (by omega)⟩
    refine ad_ms (k := 389) (j := j14) hx hb hK hP (by decide) (by decide) ej14 (by omega) dX12_valley_209 ?_
    have hr15 := ra_ms_2 hR (k := 389) (j := j14) (by decide) (by decide) (by omega) (by omega)
    obtain ⟨j16, ej16⟩ : ∃ j : Nat, z11.toInt = (j : Int) := ⟨_, ti_nat (by omega)⟩
    refine as_ms (k := 389) (j := j16) hx hb hK hP hI hR hS (by decide) (by decide) ej16 (by omega) (rw_ms_6 (by decide) (by decide) (by omega) (by omega) (by omega)) dX12_valley_210 (fun σ17 H17 locs17 u17 v17 hR hP hS => ?_)
    have hF := hF.puts u17 3 rfl (by decide) (by decide) (by omega) (by omega)
    have gSI := SI.putV gSI hR u17 (by intro q hq; simp only [Gd_SI, List.mem_cons, List.not_mem_nil, or_false] at hq; rcases hq with rfl | rfl | rfl <;> dsimp only [inRc] <;> omega)
    have t18 : (σ17 387 3).toInt = (σ 387 3).toInt := congrArg Int32.toInt (u17 387 3 (by omega))
    have t19 : (σ17 387 2).toInt = (σ 387 2).toInt := congrArg Int32.toInt (u17 387 2 (by omega))
    have t20 : (σ17 387 19).toInt = (σ 387 19).toInt := congrArg Int32.toInt (u17 387 19 (by omega))
    have t21 : (σ17 387 4).toInt = (σ 387 4).toInt := congrArg Int32.toInt (u17 387 4 (by omega))
    have t22 : (σ17 387 11).toInt = (σ 387 11).toInt := congrArg Int32.toInt (u17 387 11 (by omega))
    refine lv_aload_n hx hb dX12_valley_211 rfl (lv_at hl 0 rfl) ?_
    refine fg_12_6 (k := 387) hx hb hts in_X12_valley_12 hown hK hP (by decide) (by decide) (hts _ lk_X12_valley_33) dX12_valley_212 ?_
    refine r_sipush hx hb dX12_valley_215 (by decide) (fun z23 ez23 => ?_)
    refine lv_iload_n hx hb dX12_valley_218 rfl (lv_at hl 1 rfl) ?_
    refine r_iadd hx hb dX12_valley_219 (by omega) (fun z24 ez24 => ?_)
    refine lv_aload_n hx hb dX12_valley_220 rfl (lv_at hl 0 rfl) ?_
    refine fg_12_6 (k := 387) hx hb hts in_X12_valley_12 hown hK hP (by decide) (by decide) (hts _ lk_X12_valley_33) dX12_valley_221 ?_
    refine r_bipush hx hb dX12_valley_224 (by decide) (fun z25 ez25 => ?_)
    refine lv_iload_n hx hb dX12_valley_226 rfl (lv_at hl 1 rfl) ?_
    refine r_iadd hx hb dX12_valley_227 (by omega) (fun z26 ez26 => ?_)
    obtain ⟨j27, ej27⟩ : ∃ j : Nat, z26.toInt = (j : Int) := ⟨_, ti_nat (by omega)⟩
    refine ad_ms (k := 389) (j := j27) hx hb hK hP (by decide) (by decide) ej27 (by omega) dX12_valley_228 ?_
    obtain ⟨j28, ej28⟩ : ∃ j : Nat, z24.toInt = (j : Int) := ⟨_, ti_nat (by omega)⟩
    refine as_ms (k := 389) (j := j28) hx hb hK hP hI hR hS (by decide) (by decide) ej28 (by omega) (rx_ms_222 (by decide) (by decide) (by omega) (by omega)) dX12_valley_229 (fun σ29 H29 locs29 u29 v29 hR hP hS => ?_)
    have hF := hF.puts u29 3 rfl (by decide) (by decide) (by omega) (by omega)
    have gSI := SI.putV gSI hR u29 (by intro q hq; simp only [Gd_SI, List.mem_cons, List.not_mem_nil, or_false] at hq; rcases hq with rfl | rfl | rfl <;> dsimp only [inRc] <;> omega)
    have t30 : (σ29 387 3).toInt = (σ17 387 3).toInt := congrArg Int32.toInt (u29 387 3 (by omega))
    have t31 : (σ29 387 2).toInt = (σ17 387 2).toInt := congrArg Int32.toInt (u29 387 2 (by omega))
    have t32 : (σ29 387 19).toInt = (σ17 387 19).toInt := congrArg Int32.toInt (u29 387 19 (by omega))
    have t33 : (σ29 387 4).toInt = (σ17 387 4).toInt := congrArg Int32.toInt (u29 387 4 (by omega))
    have t34 : (σ29 387 11).toInt = (σ17 387 11).toInt := congrArg Int32.toInt (u29 387 11 (by omega))
    refine r_iinc (k := 1) (lv1 := fun z35 => [(1, .int z35), (0, .ref (ad 387))]) hx hb dX12_valley_230 hl rfl (by decide) (fun _ => rfl) (by decide) (by omega) (fun z35 ls ez35 hl => ?_)
    refine lv_goto (tgt := 186) hx hb dX12_valley_233 (by decide) ?_
    exact K186 σ29 τ H29 locs29 z35 ls hR hF hP hS (by omega) (by omega) (by omega) (by omega) (by omega) gSI (lv_sub hl [1, 0] rfl) (by omega)
theorem A_X12_valley (p : Program) (l : Launch) (e : Env) (s : State) (m : MethodId) (args : Array Value) (below : List Frame) (meth : Method) (c : Code) (D : va_G) (cA : Nat → ClassId) (ad : Nat → Nat) (σ0 : Nat → Nat → Int32)  (C : Cy p s m args meth c cX12_valley 2 wsX12_valley RX12 D cA ad (some .int)) (gSI0 : SI σ0) : ∀ n : Nat, J_X12_valley_34 p l e s m args below meth c D cA ad σ0 n ∧ J_X12_valley_74 p l e s m args below meth c D cA ad σ0 n ∧ J_X12_valley_119 p l e s m args below meth c D cA ad σ0 n ∧ J_X12_valley_157 p l e s m args below meth c D cA ad σ0 n ∧ J_X12_valley_186 p l e s m args below meth c D cA ad σ0 n := by
  intro n
  induction n with
  | zero =>
    exact ⟨(by intro σ τ H locs x1 ls hR hF hP hS hc0 hc1 hc2 hc3 hc4 hi0 gSI hl hm; exfalso; omega), (by intro σ τ H locs x1 ls hR hF hP hS hc0 hc1 hc2 hc3 gSI gHI hl hm; exfalso; omega), (by intro σ τ H locs x1 ls hR hF hP hS hc0 hc1 hc2 hc3 hc4 hi0 hi1 gHI hl hm; exfalso; omega), (by intro σ τ H locs x1 ls hR hF hP hS hc0 hc1 hc2 hc3 hc4 gSI hl hm; exfalso; omega), (by intro σ τ H locs x1 ls hR hF hP hS hc0 hc1 hc2 hc3 hc4 gSI hl hm; exfalso; omega)⟩
  | succ n ih =>
    exact ⟨B_X12_valley_34 p l e s m args below meth c D cA ad σ0 n C gSI0 ih.1 ih.2.1 ih.2.2.1 ih.2.2.2.1 ih.2.2.2.2, B_X12_valley_74 p l e s m args below meth c D cA ad σ0 n C gSI0 ih.1 ih.2.1 ih.2.2.1 ih.2.2.2.1 ih.2.2.2.2, B_X12_valley_119 p l e s m args below meth c D cA ad σ0 n C gSI0 ih.1 ih.2.1 ih.2.2.1 ih.2.2.2.1 ih.2.2.2.2, B_X12_valley_157 p l e s m args below meth c D cA ad σ0 n C gSI0 ih.1 ih.2.1 ih.2.2.1 ih.2.2.2.1 ih.2.2.2.2, B_X12_valley_186 p l e s m args below meth c D cA ad σ0 n C gSI0 ih.1 ih.2.1 ih.2.2.1 ih.2.2.2.1 ih.2.2.2.2⟩
set_option maxHeartbeats 4000000 in
theorem c_X12_valley (l : Launch) (D : va_G) (cA : Nat → ClassId) (ad : Nat → Nat) (hI : Inj ad) (σ0 : Nat → Nat → Int32) (τ0 : Nat → Nat → Int64) (hR : Rg σ0)  (gSI0 : SI σ0) : Met l yX12_valley wsX12_valley ({ frames := 6, cells := 0, slots := 0, locals := 133 } : Room) (WQc D cA ad [.ref (ad 387)] σ0 τ0) (va_Qi (fun (r : Int32) (u : SS) => P_X12_valley σ0 r u.1) (WB D cA ad) (AA ad)) 0 0 (AA ad) := by
  refine Met.ofW (cc := cX12_valley) (maxL := 2) (ret := (some .int)) (by decide) rfl ?_
  intro p e s m args below meth c s₁ B hml hv
  obtain ⟨rfl, hP, hK, hN⟩ := hv
  have C : Cy p s m _ meth c cX12_valley 2 wsX12_valley RX12 D cA ad (some .int) := ⟨B.exec, B.bytes, hml, findClass_of_methodNamed B.named, atoms_spec (ws := wsX12_valley) B.pre, hK, B.notSynchronized, B.returns, hI, hN⟩
  have hl := lv_entry ([.ref (ad 387)]) (n := 2) (Nat.le_of_ble_eq_true rfl)
  rw [lg_entry_eq]
  generalize (lg_sl ([.ref (ad 387)]) ++ List.replicate (2 - (lg_sl ([.ref (ad 387)])).length) Slot.unset).toArray = ls at hl ⊢
  have hl : lv_has ls 2 [(0, .ref (ad 387))] := hl
  have hS : va_S (AA ad) s.heap s.heap [] := va_S.rf
  have hF : Fr L_X12_valley σ0 σ0 := Fr.rf
  have gSI := gSI0
  have hA := A_X12_valley p l e s m _ below meth c D cA ad σ0 C gSI0 94807400228
  have K34 := hA.1
  have K74 := hA.2.1
  have K119 := hA.2.2.1
  have K157 := hA.2.2.2.1
  have K186 := hA.2.2.2.2
  clear hA
  obtain ⟨hx, hb, _, hown, hts, _, hk, hr, _, _⟩ := C
  have hrt4 := rg_12_4 hR (k := 387) (by decide) (by decide)
  have hrt3 := rg_12_3 hR (k := 387) (by decide) (by decide)
  have hrt2 := rg_12_2 hR (k := 387) (by decide) (by decide)
  refine lv_aload_n hx hb dX12_valley_0 rfl (lv_at hl 0 rfl) ?_
  refine r_iconst hx hb dX12_valley_1 (by decide) (fun z1 ez1 => ?_)
  refine fp_12_0 (k := 387) hx hb hts in_X12_valley_12 hown hK hP (by decide) (by decide) (hts _ lk_X12_valley_1) hI hR hS (by omega) dX12_valley_2 (fun σ2 H2 locs2 u2 v2 hR hP hS => ?_)
  have hF := hF.puts u2 0 rfl (by decide) (by decide) (by decide) (by decide)
  have gSI := SI.put gSI hR u2 (by decide)
  have t3 : (σ2 387 4).toInt = (σ0 387 4).toInt := congrArg Int32.toInt (u2 387 4 (by omega))
  have t4 : (σ2 387 3).toInt = (σ0 387 3).toInt := congrArg Int32.toInt (u2 387 3 (by omega))
  have t5 : (σ2 387 11).toInt = (σ0 387 11).toInt := congrArg Int32.toInt (u2 387 11 (by omega))
  have t6 : (σ2 387 2).toInt = (σ0 387 2).toInt := congrArg Int32.toInt (u2 387 2 (by omega))
  refine lv_aload_n hx hb dX12_valley_5 rfl (lv_at hl 0 rfl) ?_
  refine r_sipush hx hb dX12_valley_6 (by decide) (fun z7 ez7 => ?_)
  refine r_cVv (k := 387) (As := [.int z7]) (rest := []) ⟨hx, hb, hml, hown, hts⟩ hK hP hN hS (c_X12_taken l D cA ad hI σ2 τ0 hR z7 (by omega)) (cwV 1 hts gX12_valley_X12_taken rfl rfl rfl (by decide +kernel) ⟨by decide, by decide⟩) (rv_M hK hP (by decide) (by decide)) rfl hl.1 rfl (Nat.le_of_ble_eq_true rfl) dX12_valley_9 (Nat.zero_le _) (Nat.zero_le _) (fun u8 H8 locs8 hp8 hP hS => ?_)
  obtain ⟨σ8, τ8⟩ := u8
  obtain ⟨hR, f8, hp8_0⟩ : P_X12_taken σ2 z7 σ8 := hp8
  have hP : va_P D vwCl (gw cA ad σ8 τ8) H8 := hP
  have hF := hF.step f8 (by decide)
  have gSI := SI.fr gSI hR f8 (by decide)
  have t9 : (σ8 387 11).toInt = (σ2 387 11).toInt := congrArg Int32.toInt (f8.at 387 11 (by decide))
  have hr10 := rg_12_4 hR (k := 387) (by decide) (by decide)
  have hr11 := rg_12_3 hR (k := 387) (by decide) (by decide)
  have hr12 := rg_12_2 hR (k := 387) (by decide) (by decide)
  refine lv_aload_n hx hb dX12_valley_12 rfl (lv_at hl 0 rfl) ?_
  refine r_iconst hx hb dX12_valley_13 (by decide) (fun z13 ez13 => ?_)
  refine fp_12_15 (k := 387) hx hb hts in_X12_valley_12 hown hK hP (by decide) (by decide) (hts _ lk_X12_valley_176) hI hR hS dX12_valley_14 (fun σ14 H14 locs14 u14 v14 hR hP hS => ?_)
  have hF := hF.puts u14 5 rfl (by decide) (by decide) (by decide) (by decide)
  have gSI := SI.put gSI hR u14 (by decide)
  have t15 : (σ14 387 11).toInt = (σ8 387 11).toInt := congrArg Int32.toInt (u14 387 11 (by omega))
  have t16 : (σ14 387 4).toInt = (σ8 387 4).toInt := congrArg Int32.toInt (u14 387 4 (by omega))
  have t17 : (σ14 387 3).toInt = (σ8 387 3).toInt := congrArg Int32.toInt (u14 387 3 (by omega))
  have t18 : (σ14 387 2).toInt = (σ8 387 2).toInt := congrArg Int32.toInt (u14 387 2 (by omega))
  refine lv_aload_n hx hb dX12_valley_17 rfl (lv_at hl 0 rfl) ?_
  refine r_iconst hx hb dX12_valley_18 (by decide) (fun z19 ez19 => ?_)
  refine fp_12_19 (k := 387) hx hb hts in_X12_valley_12 hown hK hP (by decide) (by decide) (hts _ lk_X12_valley_247) hI hR hS dX12_valley_19 (fun σ20 H20 locs20 u20 v20 hR hP hS => ?_)
  have hF := hF.puts u20 6 rfl (by decide) (by decide) (by decide) (by decide)
  have gSI := SI.put gSI hR u20 (by decide)
  have t21 : (σ20 387 11).toInt = (σ14 387 11).toInt := congrArg Int32.toInt (u20 387 11 (by omega))
  have t22 : (σ20 387 4).toInt = (σ14 387 4).toInt := congrArg Int32.toInt (u20 387 4 (by omega))
  have t23 : (σ20 387 3).toInt = (σ14 387 3).toInt := congrArg Int32.toInt (u20 387 3 (by omega))
  have t24 : (σ20 387 2).toInt = (σ14 387 2).toInt := congrArg Int32.toInt (u20 387 2 (by omega))
  refine lv_aload_n hx hb dX12_valley_22 rfl (lv_at hl 0 rfl) ?_
  refine r_iconst hx hb dX12_valley_23 (by decide) (fun z25 ez25 => ?_)
  refine fp_12_20 (k := 387) hx hb hts in_X12_valley_12 hown hK hP (by decide) (by decide) (hts _ lk_X12_valley_213) hI hR hS dX12_valley_24 (fun σ26 H26 locs26 u26 v26 hR hP hS => ?_)
  have hF := hF.puts u26 6 rfl (by decide) (by decide) (by decide) (by decide)
  have gSI := SI.put gSI hR u26 (by decide)
  have t27 : (σ26 387 11).toInt = (σ20 387 11).toInt := congrArg Int32.toInt (u26 387 11 (by omega))
  have t28 : (σ26 387 4).toInt = (σ20 387 4).toInt := congrArg Int32.toInt (u26 387 4 (by omega))
  have t29 : (σ26 387 3).toInt = (σ20 387 3).toInt := congrArg Int32.toInt (u26 387 3 (by omega))
  have t30 : (σ26 387 2).toInt = (σ20 387 2).toInt := congrArg Int32.toInt (u26 387 2 (by omega))
  have t31 : (σ26 387 19).toInt = (σ20 387 19).toInt := congrArg Int32.toInt (u26 387 19 (by omega))
  refine lv_aload_n hx hb dX12_valley_27 rfl (lv_at hl 0 rfl) ?_
  refine r_iconst hx hb dX12_valley_28 (by decide) (fun z32 ez32 => ?_)
  refine fp_12_21 (k := 387) hx hb hts in_X12_valley_12 hown hK hP (by decide) (by decide) (hts _ lk_X12_valley_232) hI hR hS dX12_valley_29 (fun σ33 H33 locs33 u33 v33 hR hP hS => ?_)
  have hF := hF.puts u33 6 rfl (by decide) (by decide) (by decide) (by decide)
  have gSI := SI.put gSI hR u33 (by decide)
  have t34 : (σ33 387 11).toInt = (σ26 387 11).toInt := congrArg Int32.toInt (u33 387 11 (by omega))
  have t35 : (σ33 387 4).toInt = (σ26 387 4).toInt := congrArg Int32.toInt (u33 387 4 (by omega))
  have t36 : (σ33 387 3).toInt = (σ26 387 3).toInt := congrArg Int32.toInt (u33 387 3 (by omega))
  have t37 : (σ33 387 2).toInt = (σ26 387 2).toInt := congrArg Int32.toInt (u33 387 2 (by omega))
  have t38 : (σ33 387 19).toInt = (σ26 387 19).toInt := congrArg Int32.toInt (u33 387 19 (by omega))
  refine r_iconst hx hb dX12_valley_32 (by decide) (fun z39 ez39 => ?_)
  refine lv_istore_n (lv' := [(1, .int z39), (0, .ref (ad 387))]) hx hb dX12_valley_33 rfl hl (by decide) rfl (fun ls hl => ?_)
  exact K34 σ33 τ8 H33 locs33 z39 ls hR hF hP hS (by omega) (by omega) (by omega) (by omega) (by omega) (by first | exact (fun j hj => absurd hj (by omega)) | exact Z1st hi0 uz (by omega) (by omega)) gSI (lv_sub hl [1, 0] rfl) (by omega)
