theorem in_X12_due_12 : ∀ w ∈ u_ws RX12 TX12 47, w ∈ wsX12_due := by decide +kernel
theorem lk_X12_due_1 : Cond.fieldLink RX12 1 "CuckooSharesModel" "thrown" "I" ∈ wsX12_due := by decide +kernel
theorem lk_X12_due_33 : Cond.fieldLink RX12 33 "CuckooSharesModel" "s" "[I" ∈ wsX12_due := by decide +kernel
theorem lk_X12_due_59 : Cond.fieldLink RX12 59 "CuckooSharesModel" "shares" "[I" ∈ wsX12_due := by decide +kernel
abbrev L_X12_due : List Rc := [(387, 387, 0, 0), (387, 387, 26, 26), (397, 397, 0, 7), (394, 394, 0, 7), (395, 395, 0, 7), (396, 396, 0, 7)]
abbrev LL_X12_due : List Rc := []
def P_X12_due (σ0 : Nat → Nat → Int32) (τ0 : Nat → Nat → Int64) (a1 : Int32) (r : Int32) (σ : Nat → Nat → Int32) (τ : Nat → Nat → Int64) : Prop := Rg σ ∧ Fr L_X12_due σ0 σ ∧ FrL LL_X12_due τ0 τ
set_option maxHeartbeats 4000000 in
theorem c_X12_due (l : Launch) (D : va_G) (cA : Nat → ClassId) (ad : Nat → Nat) (hI : Inj ad) (σ0 : Nat → Nat → Int32) (τ0 : Nat → Nat → Int64) (hR : Rg σ0) (a1 : Int32)  : Met l yX12_due wsX12_due ({ frames := 3, cells := 0, slots := 0, locals := 70 } : Room) (WQc D cA ad [.ref (ad 387), .int a1] σ0 τ0) (va_Qi (fun (r : Int32) (u : SS) => P_X12_due σ0 τ0 a1 r u.1 u.2) (WB D cA ad) (AA ad)) 0 0 (AA ad) := by
  refine Met.ofW (cc := cX12_due) (maxL := 2) (ret := (some .int)) (by decide) rfl ?_
  intro p e s m args below meth c s₁ B hml hv
  obtain ⟨rfl, hP, hK, hN⟩ := hv
  have C : Cy p s m _ meth c cX12_due 2 wsX12_due RX12 D cA ad (some .int) := ⟨B.exec, B.bytes, hml, findClass_of_methodNamed B.named, atoms_spec (ws := wsX12_due) B.pre, hK, B.notSynchronized, B.returns, hI, hN⟩
  have hl := lv_entry ([.ref (ad 387), .int a1]) (n := 2) (Nat.le_of_ble_eq_true rfl)
  rw [lg_entry_eq]
  generalize (lg_sl ([.ref (ad 387), .int a1]) ++ List.replicate (2 - (lg_sl ([.ref (ad 387), .int a1])).length) Slot.unset).toArray = ls at hl ⊢
  have hl : lv_has ls 2 [(0, .ref (ad 387)), (1, .int a1)] := hl
  have hS : va_S (AA ad) s.heap s.heap [] := va_S.rf
  have hF : Fr L_X12_due σ0 σ0 := Fr.rf
  have hFL : FrL LL_X12_due τ0 τ0 := FrL.rf
  obtain ⟨hx, hb, _, hown, hts, _, hk, hr, _, _⟩ := C
  refine lv_aload_n hx hb dX12_due_0 rfl (lv_at hl 0 rfl) ?_
  refine r_iconst hx hb dX12_due_1 (by decide) (fun z1 ez1 => ?_)
  refine fp_12_0 (k := 387) hx hb hts in_X12_due_12 hown hK hP (by decide) (by decide) (hts _ lk_X12_due_1) hI hR hS (by omega) dX12_due_2 (fun σ2 H2 locs2 u2 v2 hR hP hS => ?_)
  have hF := hF.puts u2 0 rfl (by decide) (by decide) (by decide) (by decide)
  refine lv_aload_n hx hb dX12_due_5 rfl (lv_at hl 0 rfl) ?_
  refine fg_12_6 (k := 387) hx hb hts in_X12_due_12 hown hK hP (by decide) (by decide) (hts _ lk_X12_due_33) dX12_due_6 ?_
  refine r_sipush hx hb dX12_due_9 (by decide) (fun z3 ez3 => ?_)
  refine ad_ms (k := 389) (j := 212) hx hb hK hP (by decide) (by decide) (by omega) (by omega) dX12_due_12 ?_
  have hr4 := ra_ms_5 hR (k := 389) (j := 212) (by decide) (by decide) (by decide) (by decide)
  refine r_if_eq (tgt := 24) hx hb dX12_due_13 (by decide) (fun c5 => ?_) (fun c5 => ?_)
  · refine r_iconst hx hb dX12_due_24 (by decide) (fun z6 ez6 => ?_)
    exact r_iret hx hb hr hK hP hS hk dX12_due_25 (show P_X12_due σ0 τ0 a1 z6 σ2 τ0 from ⟨hR, hF, hFL⟩)
  · refine lv_aload_n hx hb dX12_due_16 rfl (lv_at hl 0 rfl) ?_
    refine lv_iload_n hx hb dX12_due_17 rfl (lv_at hl 1 rfl) ?_
    refine r_cVi (k := 387) (As := [.int a1]) (rest := []) ⟨hx, hb, hml, hown, hts⟩ hK hP hN hS (c_X12_isMan l D cA ad hI σ2 τ0 hR a1) (cwV 1 hts gX12_due_X12_isMan rfl rfl rfl (by decide +kernel) ⟨by decide, by decide⟩) (rv_M hK hP (by decide) (by decide)) rfl hl.1 rfl (Nat.le_of_ble_eq_true rfl) dX12_due_18 (Nat.zero_le _) (Nat.zero_le _) (fun r7 u7 H7 locs7 hp7 hP hS => ?_)
    obtain ⟨σ7, τ7⟩ := u7
    obtain ⟨hR, f7, fL7, hq7, hp7_0⟩ : P_X12_isMan σ2 τ0 a1 r7 σ7 τ7 := hp7
    have hP : va_P D vwCl (gw cA ad σ7 τ7) H7 := hP
    obtain rfl := FrL.nil fL7
    obtain rfl := Fr.nil f7
    refine r_if_ne (tgt := 26) hx hb dX12_due_21 (by decide) (fun c8 => ?_) (fun c8 => ?_)
    · replace hp7_0 := hp7_0.resolve_left (by omega)
      refine lv_aload_n hx hb dX12_due_26 rfl (lv_at hl 0 rfl) ?_
      refine r_cVv (k := 387) (As := []) (rest := []) ⟨hx, hb, hml, hown, hts⟩ hK hP hN hS (c_X12_sharesNow l D cA ad hI σ2 τ0 hR) (cwV 0 hts gX12_due_X12_sharesNow rfl rfl rfl (by decide +kernel) ⟨by decide, by decide⟩) (rv_M hK hP (by decide) (by decide)) rfl hl.1 rfl (Nat.le_of_ble_eq_true rfl) dX12_due_27 (Nat.zero_le _) (Nat.zero_le _) (fun u9 H9 locs9 hp9 hP hS => ?_)
      obtain ⟨σ9, τ9⟩ := u9
      obtain ⟨hR, f9, fL9⟩ : P_X12_sharesNow σ2 τ0 σ9 τ9 := hp9
      have hP : va_P D vwCl (gw cA ad σ9 τ9) H9 := hP
      obtain rfl := FrL.nil fL9
      have hF := hF.step f9 (by decide)
      refine lv_aload_n hx hb dX12_due_30 rfl (lv_at hl 0 rfl) ?_
      refine fg_12_25 (k := 387) hx hb hts in_X12_due_12 hown hK hP (by decide) (by decide) (hts _ lk_X12_due_59) dX12_due_31 ?_
      refine lv_iload_n hx hb dX12_due_34 rfl (lv_at hl 1 rfl) ?_
      obtain ⟨j10, ej10⟩ : ∃ j : Nat, a1.toInt = (j : Int) := ⟨_, ti_nat (by omega)⟩
      refine ad_mp8 (k := 397) (j := j10) hx hb hK hP (by decide) (by decide) ej10 (by omega) dX12_due_35 ?_
      exact r_iret hx hb hr hK hP hS hk dX12_due_36 (show P_X12_due σ0 τ0 a1 (σ9 397 j10) σ9 τ0 from ⟨hR, hF, hFL⟩)
    · clear hp7_0
      refine r_iconst hx hb dX12_due_24 (by decide) (fun z11 ez11 => ?_)
      exact r_iret hx hb hr hK hP hS hk dX12_due_25 (show P_X12_due σ0 τ0 a1 z11 σ2 τ0 from ⟨hR, hF, hFL⟩)
abbrev L_X12_sharesBy : List Rc := [(387, 387, 26, 26), (397, 397, 0, 7)]
abbrev LL_X12_sharesBy : List Rc := []
def P_X12_sharesBy (σ0 : Nat → Nat → Int32) (τ0 : Nat → Nat → Int64) (a1 : Int32) (a2 : Int32) (σ : Nat → Nat → Int32) (τ : Nat → Nat → Int64) : Prop := Rg σ ∧ Fr L_X12_sharesBy σ0 σ ∧ FrL LL_X12_sharesBy τ0 τ
def J_X12_sharesBy_6 (p : Program) (l : Launch) (e : Env) (s : State) (m : MethodId) (args : Array Value) (below : List Frame) (meth : Method) (c : Code) (D : va_G) (cA : Nat → ClassId) (ad : Nat → Nat) (σ0 : Nat → Nat → Int32) (τ0 : Nat → Nat → Int64) (a1 : Int32) (a2 : Int32) (n : Nat) : Prop := ∀ (σ : Nat → Nat → Int32) (τ : Nat → Nat → Int64) (H : Heap) (locs : List Loc) (x3 : Int32) (ls : Array Slot), Rg σ → Fr L_X12_sharesBy σ0 σ → FrL LL_X12_sharesBy τ0 τ → va_P D vwCl (gw cA ad σ τ) H → va_S (AA ad) s.heap H locs → (0 ≤ x3.toInt ∧ x3.toInt ≤ 2) → lv_has ls 5 [(0, .ref (ad 387)), (1, .int a1), (2, .int a2), (3, .int x3)] → 2 * (2 - x3.toInt) + 1 < (n : Int) → W p l e ({ frames := 5, cells := 0, slots := 0, locals := 116 } : Room) s m args below meth c H locs 0 0 (MQ below (va_Qv (fun u : SS => P_X12_sharesBy σ0 τ0 a1 a2 u.1 u.2) (WB D cA ad) (AA ad)) args s 0 0 (AA ad)) (F0 m 6 ls [])
set_option maxHeartbeats 4000000 in
theorem B_X12_sharesBy_6 (p : Program) (l : Launch) (e : Env) (s : State) (m : MethodId) (args : Array Value) (below : List Frame) (meth : Method) (c : Code) (D : va_G) (cA : Nat → ClassId) (ad : Nat → Nat) (σ0 : Nat → Nat → Int32) (τ0 : Nat → Nat → Int64) (a1 : Int32) (a2 : Int32) (n : Nat) (C : Cy p s m args meth c cX12_sharesBy 5 wsX12_sharesBy RX12 D cA ad none) (ha1 : 0 ≤ a1.toInt ∧ a1.toInt ≤ 3) (K6 : J_X12_sharesBy_6 p l e s m args below meth c D cA ad σ0 τ0 a1 a2 n) : J_X12_sharesBy_6 p l e s m args below meth c D cA ad σ0 τ0 a1 a2 (n + 1) := by
  obtain ⟨hx, hb, hml, hown, hts, hK, hk, hr, hI, hN⟩ := C
  intro σ τ H locs x3 ls hR hF hFL hP hS hc0 hl hm
  obtain rfl := FrL.nil hFL
  refine lv_iload_n hx hb dX12_sharesBy_6 rfl (lv_at hl 3 rfl) ?_
  refine r_iconst hx hb dX12_sharesBy_7 (by decide) (fun z1 ez1 => ?_)
  refine r_icmp_ge (tgt := 50) hx hb dX12_sharesBy_8 (by decide) (fun c2 => ?_) (fun c2 => ?_)
  · exact r_vret hx hb hr hK hP hS hk dX12_sharesBy_50 (show P_X12_sharesBy σ0 τ0 a1 a2 σ τ0 from ⟨hR, hF, hFL⟩)
  · refine lv_aload_n hx hb dX12_sharesBy_11 rfl (lv_at hl 0 rfl) ?_
    refine lv_iload_n hx hb dX12_sharesBy_12 rfl (lv_at hl 1 rfl) ?_
    refine lv_iload_n hx hb dX12_sharesBy_13 rfl (lv_at hl 3 rfl) ?_
    refine r_cVi (k := 387) (As := [.int a1, .int x3]) (rest := []) ⟨hx, hb, hml, hown, hts⟩ hK hP hN hS (c_X12_firstIn l D cA ad hI σ τ0 hR a1 x3 (by omega) (by omega)) (cwV 2 hts gX12_sharesBy_X12_firstIn rfl rfl rfl (by decide +kernel) ⟨by decide, by decide⟩) (rv_M hK hP (by decide) (by decide)) rfl hl.1 rfl (Nat.le_of_ble_eq_true rfl) dX12_sharesBy_14 (Nat.zero_le _) (Nat.zero_le _) (fun r3 u3 H3 locs3 hp3 hP hS => ?_)
    obtain ⟨σ3, τ3⟩ := u3
    obtain ⟨hR, f3, fL3, hq3⟩ : P_X12_firstIn σ τ0 a1 x3 r3 σ3 τ3 := hp3
    have hP : va_P D vwCl (gw cA ad σ3 τ3) H3 := hP
    obtain rfl := FrL.nil fL3
    obtain rfl := Fr.nil f3
    refine lv_istore (lv' := [(4, .int r3), (0, .ref (ad 387)), (1, .int a1), (2, .int a2), (3, .int x3)]) hx hb dX12_sharesBy_17 hl (by decide) rfl (fun ls hl => ?_)
    refine lv_iload hx hb dX12_sharesBy_19 (lv_at hl 0 rfl) ?_
    refine r_if_lt (tgt := 44) hx hb dX12_sharesBy_21 (by decide) (fun c4 => ?_) (fun c4 => ?_)
    · refine r_iinc (k := 4) (lv1 := fun z5 => [(3, .int z5), (4, .int r3), (0, .ref (ad 387)), (1, .int a1), (2, .int a2)]) hx hb dX12_sharesBy_44 hl rfl (by decide) (fun _ => rfl) (by decide) (by omega) (fun z5 ls ez5 hl => ?_)
      refine lv_goto (tgt := 6) hx hb dX12_sharesBy_47 (by decide) ?_
      exact K6 σ τ0 H3 locs3 z5 ls hR hF hFL hP hS (by omega) (lv_sub hl [2, 3, 4, 0] rfl) (by omega)
    · refine lv_aload_n hx hb dX12_sharesBy_24 rfl (lv_at hl 1 rfl) ?_
      refine lv_aload_n hx hb dX12_sharesBy_25 rfl (lv_at hl 1 rfl) ?_
      refine lv_iload_n hx hb dX12_sharesBy_26 rfl (lv_at hl 2 rfl) ?_
      refine lv_iload hx hb dX12_sharesBy_27 (lv_at hl 0 rfl) ?_
      refine r_cVi (k := 387) (As := [.int a1, .int r3]) (rest := [.ref (ad 387)]) ⟨hx, hb, hml, hown, hts⟩ hK hP hN hS (c_X12_whoHears l D cA ad hI σ τ0 hR a1 r3 (by omega) (by omega)) (cwV 2 hts gX12_sharesBy_X12_whoHears rfl rfl rfl (by decide +kernel) ⟨by decide, by decide⟩) (rv_M hK hP (by decide) (by decide)) rfl hl.1 rfl (Nat.le_of_ble_eq_true rfl) dX12_sharesBy_29 (Nat.zero_le _) (Nat.zero_le _) (fun r6 u6 H6 locs6 hp6 hP hS => ?_)
      obtain ⟨σ6, τ6⟩ := u6
      obtain ⟨hR, f6, fL6⟩ : P_X12_whoHears σ τ0 a1 r3 r6 σ6 τ6 := hp6
      have hP : va_P D vwCl (gw cA ad σ6 τ6) H6 := hP
      obtain rfl := FrL.nil fL6
      obtain rfl := Fr.nil f6
      refine lv_aload_n hx hb dX12_sharesBy_32 rfl (lv_at hl 1 rfl) ?_
      refine lv_iload_n hx hb dX12_sharesBy_33 rfl (lv_at hl 4 rfl) ?_
      refine r_cVi (k := 387) (As := [.int x3]) (rest := [.int r6, .ref (ad 387)]) ⟨hx, hb, hml, hown, hts⟩ hK hP hN hS (c_X12_menIn l D cA ad hI σ τ0 hR x3 (by omega)) (cwV 1 hts gX12_sharesBy_X12_menIn rfl rfl rfl (by decide +kernel) ⟨by decide, by decide⟩) (rv_M hK hP (by decide) (by decide)) rfl hl.1 rfl (Nat.le_of_ble_eq_true rfl) dX12_sharesBy_34 (Nat.zero_le _) (Nat.zero_le _) (fun r7 u7 H7 locs7 hp7 hP hS => ?_)
      obtain ⟨σ7, τ7⟩ := u7
      obtain ⟨hR, f7, fL7⟩ : P_X12_menIn σ τ0 x3 r7 σ7 τ7 := hp7
      have hP : va_P D vwCl (gw cA ad σ7 τ7) H7 := hP
      obtain rfl := FrL.nil fL7
      obtain rfl := Fr.nil f7
      refine r_iandU hx hb dX12_sharesBy_37 (fun z8 => ?_)
      refine lv_iload hx hb dX12_sharesBy_38 (lv_at hl 0 rfl) ?_
      refine lv_iload_n hx hb dX12_sharesBy_40 rfl (lv_at hl 3 rfl) ?_
      refine r_cVv (k := 387) (As := [.int z8, .int r3, .int a2]) (rest := []) ⟨hx, hb, hml, hown, hts⟩ hK hP hN hS (c_X12_gives l D cA ad hI σ τ0 hR z8 r3 a2 (by omega)) (cwV 3 hts gX12_sharesBy_X12_gives rfl rfl rfl (by decide +kernel) ⟨by decide, by decide⟩) (rv_M hK hP (by decide) (by decide)) rfl hl.1 rfl (Nat.le_of_ble_eq_true rfl) dX12_sharesBy_41 (Nat.zero_le _) (Nat.zero_le _) (fun u9 H9 locs9 hp9 hP hS => ?_)
      obtain ⟨σ9, τ9⟩ := u9
      obtain ⟨hR, f9, fL9⟩ : P_X12_gives σ τ0 z8 r3 a2 σ9 τ9 := hp9
      have hP : va_P D vwCl (gw cA ad σ9 τ9) H9 := hP
      obtain rfl := FrL.nil fL9
      have hF := hF.step f9 (by decide)
      refine r_iinc (k := 4) (lv1 := fun z10 => [(3, .int z10), (4, .int r3), (0, .ref (ad 387)), (1, .int a1), (2, .int a2)]) hx hb dX12_sharesBy_44 hl rfl (by decide) (fun _ => rfl) (by decide) (by omega) (fun z10 ls ez10 hl => ?_)
      refine lv_goto (tgt := 6) hx hb dX12_sharesBy_47 (by decide) ?_
      exact K6 σ9 τ0 H9 locs9 z10 ls hR hF hFL hP hS (by omega) (lv_sub hl [2, 3, 4, 0] rfl) (by omega)
theorem A_X12_sharesBy (p : Program) (l : Launch) (e : Env) (s : State) (m : MethodId) (args : Array Value) (below : List Frame) (meth : Method) (c : Code) (D : va_G) (cA : Nat → ClassId) (ad : Nat → Nat) (σ0 : Nat → Nat → Int32) (τ0 : Nat → Nat → Int64) (a1 : Int32) (a2 : Int32) (C : Cy p s m args meth c cX12_sharesBy 5 wsX12_sharesBy RX12 D cA ad none) (ha1 : 0 ≤ a1.toInt ∧ a1.toInt ≤ 3) : ∀ n : Nat, J_X12_sharesBy_6 p l e s m args below meth c D cA ad σ0 τ0 a1 a2 n := by
  intro n
  induction n with
  | zero =>
    exact (by intro σ τ H locs x3 ls hR hF hFL hP hS hc0 hl hm; exfalso; omega)
  | succ n ih =>
    exact B_X12_sharesBy_6 p l e s m args below meth c D cA ad σ0 τ0 a1 a2 n C ha1 ih
set_option maxHeartbeats 4000000 in
theorem c_X12_sharesBy (l : Launch) (D : va_G) (cA : Nat → ClassId) (ad : Nat → Nat) (hI : Inj ad) (σ0 : Nat → Nat → Int32) (τ0 : Nat → Nat → Int64) (hR : Rg σ0) (a1 : Int32) (a2 : Int32) (ha1 : 0 ≤ a1.toInt ∧ a1.toInt ≤ 3) : Met l yX12_sharesBy wsX12_sharesBy ({ frames := 5, cells := 0, slots := 0, locals := 116 } : Room) (WQc D cA ad [.ref (ad 387), .int a1, .int a2] σ0 τ0) (va_Qv (fun u : SS => P_X12_sharesBy σ0 τ0 a1 a2 u.1 u.2) (WB D cA ad) (AA ad)) 0 0 (AA ad) := by
  refine Met.ofW (cc := cX12_sharesBy) (maxL := 5) (ret := none) (by decide) rfl ?_
  intro p e s m args below meth c s₁ B hml hv
  obtain ⟨rfl, hP, hK, hN⟩ := hv
  have C : Cy p s m _ meth c cX12_sharesBy 5 wsX12_sharesBy RX12 D cA ad none := ⟨B.exec, B.bytes, hml, findClass_of_methodNamed B.named, atoms_spec (ws := wsX12_sharesBy) B.pre, hK, B.notSynchronized, B.returns, hI, hN⟩
  have hl := lv_entry ([.ref (ad 387), .int a1, .int a2]) (n := 5) (Nat.le_of_ble_eq_true rfl)
  rw [lg_entry_eq]
  generalize (lg_sl ([.ref (ad 387), .int a1, .int a2]) ++ List.replicate (5 - (lg_sl ([.ref (ad 387), .int a1, .int a2])).length) Slot.unset).toArray = ls at hl ⊢
  have hl : lv_has ls 5 [(0, .ref (ad 387)), (1, .int a1), (2, .int a2)] := hl
  have hS : va_S (AA ad) s.heap s.heap [] := va_S.rf
  have hF : Fr L_X12_sharesBy σ0 σ0 := Fr.rf
  have hFL : FrL LL_X12_sharesBy τ0 τ0 := FrL.rf
  have hA := A_X12_sharesBy p l e s m _ below meth c D cA ad σ0 τ0 a1 a2 C ha1 18
  have K6 := hA
  clear hA
  obtain ⟨hx, hb, _, hown, hts, _, hk, hr, _, _⟩ := C
  refine lv_aload_n hx hb dX12_sharesBy_0 rfl (lv_at hl 0 rfl) ?_
  refine r_cVv (k := 387) (As := []) (rest := []) ⟨hx, hb, hml, hown, hts⟩ hK hP hN hS (c_X12_sharesNone l D cA ad hI σ0 τ0 hR) (cwV 0 hts gX12_sharesBy_X12_sharesNone rfl rfl rfl (by decide +kernel) ⟨by decide, by decide⟩) (rv_M hK hP (by decide) (by decide)) rfl hl.1 rfl (Nat.le_of_ble_eq_true rfl) dX12_sharesBy_1 (Nat.zero_le _) (Nat.zero_le _) (fun u1 H1 locs1 hp1 hP hS => ?_)
  obtain ⟨σ1, τ1⟩ := u1
  obtain ⟨hR, f1, fL1⟩ : P_X12_sharesNone σ0 τ0 σ1 τ1 := hp1
  have hP : va_P D vwCl (gw cA ad σ1 τ1) H1 := hP
  obtain rfl := FrL.nil fL1
  have hF := hF.step f1 (by decide)
  refine r_iconst hx hb dX12_sharesBy_4 (by decide) (fun z2 ez2 => ?_)
  refine lv_istore_n (lv' := [(3, .int z2), (0, .ref (ad 387)), (1, .int a1), (2, .int a2)]) hx hb dX12_sharesBy_5 rfl hl (by decide) rfl (fun ls hl => ?_)
  exact K6 σ1 τ0 H1 locs1 z2 ls hR hF hFL hP hS (by omega) (lv_sub hl [1, 2, 3, 0] rfl) (by omega)
theorem in_X12_honest_12 : ∀ w ∈ u_ws RX12 TX12 47, w ∈ wsX12_honest := by decide +kernel
theorem lk_X12_honest_1 : Cond.fieldLink RX12 1 "CuckooSharesModel" "thrown" "I" ∈ wsX12_honest := by decide +kernel
theorem lk_X12_honest_33 : Cond.fieldLink RX12 33 "CuckooSharesModel" "s" "[I" ∈ wsX12_honest := by decide +kernel
theorem lk_X12_honest_59 : Cond.fieldLink RX12 59 "CuckooSharesModel" "shares" "[I" ∈ wsX12_honest := by decide +kernel
abbrev L_X12_honest : List Rc := [(387, 387, 0, 0), (394, 394, 0, 7), (395, 395, 0, 7), (396, 396, 0, 7), (387, 387, 26, 26), (397, 397, 0, 7)]
abbrev LL_X12_honest : List Rc := []
def P_X12_honest (σ0 : Nat → Nat → Int32) (τ0 : Nat → Nat → Int64) (a1 : Int32) (a2 : Int32) (r : Int32) (σ : Nat → Nat → Int32) (τ : Nat → Nat → Int64) : Prop := Rg σ ∧ Fr L_X12_honest σ0 σ ∧ FrL LL_X12_honest τ0 τ
set_option maxHeartbeats 4000000 in
theorem c_X12_honest (l : Launch) (D : va_G) (cA : Nat → ClassId) (ad : Nat → Nat) (hI : Inj ad) (σ0 : Nat → Nat → Int32) (τ0 : Nat → Nat → Int64) (hR : Rg σ0) (a1 : Int32) (a2 : Int32)  : Met l yX12_honest wsX12_honest ({ frames := 6, cells := 0, slots := 0, locals := 140 } : Room) (WQc D cA ad [.ref (ad 387), .int a1, .int a2] σ0 τ0) (va_Qi (fun (r : Int32) (u : SS) => P_X12_honest σ0 τ0 a1 a2 r u.1 u.2) (WB D cA ad) (AA ad)) 0 0 (AA ad) := by
  refine Met.ofW (cc := cX12_honest) (maxL := 3) (ret := (some .int)) (by decide) rfl ?_
  intro p e s m args below meth c s₁ B hml hv
  obtain ⟨rfl, hP, hK, hN⟩ := hv
  have C : Cy p s m _ meth c cX12_honest 3 wsX12_honest RX12 D cA ad (some .int) := ⟨B.exec, B.bytes, hml, findClass_of_methodNamed B.named, atoms_spec (ws := wsX12_honest) B.pre, hK, B.notSynchronized, B.returns, hI, hN⟩
  have hl := lv_entry ([.ref (ad 387), .int a1, .int a2]) (n := 3) (Nat.le_of_ble_eq_true rfl)
  rw [lg_entry_eq]
  generalize (lg_sl ([.ref (ad 387), .int a1, .int a2]) ++ List.replicate (3 - (lg_sl ([.ref (ad 387), .int a1, .int a2])).length) Slot.unset).toArray = ls at hl ⊢
  have hl : lv_has ls 3 [(0, .ref (ad 387)), (1, .int a1), (2, .int a2)] := hl
  have hS : va_S (AA ad) s.heap s.heap [] := va_S.rf
  have hF : Fr L_X12_honest σ0 σ0 := Fr.rf
  have hFL : FrL LL_X12_honest τ0 τ0 := FrL.rf
  obtain ⟨hx, hb, _, hown, hts, _, hk, hr, _, _⟩ := C
  refine lv_aload_n hx hb dX12_honest_0 rfl (lv_at hl 0 rfl) ?_
  refine r_iconst hx hb dX12_honest_1 (by decide) (fun z1 ez1 => ?_)
  refine fp_12_0 (k := 387) hx hb hts in_X12_honest_12 hown hK hP (by decide) (by decide) (hts _ lk_X12_honest_1) hI hR hS (by omega) dX12_honest_2 (fun σ2 H2 locs2 u2 v2 hR hP hS => ?_)
  have hF := hF.puts u2 0 rfl (by decide) (by decide) (by decide) (by decide)
  refine lv_aload_n hx hb dX12_honest_5 rfl (lv_at hl 0 rfl) ?_
  refine lv_iload_n hx hb dX12_honest_6 rfl (lv_at hl 1 rfl) ?_
  refine r_cVi (k := 387) (As := [.int a1]) (rest := []) ⟨hx, hb, hml, hown, hts⟩ hK hP hN hS (c_X12_isMan l D cA ad hI σ2 τ0 hR a1) (cwV 1 hts gX12_honest_X12_isMan rfl rfl rfl (by decide +kernel) ⟨by decide, by decide⟩) (rv_M hK hP (by decide) (by decide)) rfl hl.1 rfl (Nat.le_of_ble_eq_true rfl) dX12_honest_7 (Nat.zero_le _) (Nat.zero_le _) (fun r3 u3 H3 locs3 hp3 hP hS => ?_)
  obtain ⟨σ3, τ3⟩ := u3
  obtain ⟨hR, f3, fL3, hq3, hp3_0⟩ : P_X12_isMan σ2 τ0 a1 r3 σ3 τ3 := hp3
  have hP : va_P D vwCl (gw cA ad σ3 τ3) H3 := hP
  obtain rfl := FrL.nil fL3
  obtain rfl := Fr.nil f3
  refine r_if_eq (tgt := 21) hx hb dX12_honest_10 (by decide) (fun c4 => ?_) (fun c4 => ?_)
  · clear hp3_0
    refine r_iconst hx hb dX12_honest_21 (by decide) (fun z5 ez5 => ?_)
    exact r_iret hx hb hr hK hP hS hk dX12_honest_22 (show P_X12_honest σ0 τ0 a1 a2 z5 σ2 τ0 from ⟨hR, hF, hFL⟩)
  · replace hp3_0 := hp3_0.resolve_left (by omega)
    refine lv_aload_n hx hb dX12_honest_13 rfl (lv_at hl 0 rfl) ?_
    refine lv_iload_n hx hb dX12_honest_14 rfl (lv_at hl 2 rfl) ?_
    refine r_cVi (k := 387) (As := [.int a2]) (rest := []) ⟨hx, hb, hml, hown, hts⟩ hK hP hN hS (c_X12_isFlight l D cA ad hI σ2 τ0 hR a2) (cwV 1 hts gX12_honest_X12_isFlight rfl rfl rfl (by decide +kernel) ⟨by decide, by decide⟩) (rv_M hK hP (by decide) (by decide)) rfl hl.1 rfl (Nat.le_of_ble_eq_true rfl) dX12_honest_15 (Nat.zero_le _) (Nat.zero_le _) (fun r6 u6 H6 locs6 hp6 hP hS => ?_)
    obtain ⟨σ6, τ6⟩ := u6
    obtain ⟨hR, f6, fL6, hq6, hp6_0, hp6_1⟩ : P_X12_isFlight σ2 τ0 a2 r6 σ6 τ6 := hp6
    have hP : va_P D vwCl (gw cA ad σ6 τ6) H6 := hP
    obtain rfl := FrL.nil fL6
    obtain rfl := Fr.nil f6
    refine r_if_ne (tgt := 23) hx hb dX12_honest_18 (by decide) (fun c7 => ?_) (fun c7 => ?_)
    · replace hp6_0 := hp6_0.resolve_left (by omega)
      refine lv_aload_n hx hb dX12_honest_23 rfl (lv_at hl 0 rfl) ?_
      refine r_cVv (k := 387) (As := []) (rest := []) ⟨hx, hb, hml, hown, hts⟩ hK hP hN hS (c_X12_asNow l D cA ad hI σ2 τ0 hR) (cwV 0 hts gX12_honest_X12_asNow rfl rfl rfl (by decide +kernel) ⟨by decide, by decide⟩) (rv_M hK hP (by decide) (by decide)) rfl hl.1 rfl (Nat.le_of_ble_eq_true rfl) dX12_honest_24 (Nat.zero_le _) (Nat.zero_le _) (fun u8 H8 locs8 hp8 hP hS => ?_)
      obtain ⟨σ8, τ8⟩ := u8
      obtain ⟨hR, f8, fL8⟩ : P_X12_asNow σ2 τ0 σ8 τ8 := hp8
      have hP : va_P D vwCl (gw cA ad σ8 τ8) H8 := hP
      obtain rfl := FrL.nil fL8
      have hF := hF.step f8 (by decide)
      refine lv_aload_n hx hb dX12_honest_27 rfl (lv_at hl 0 rfl) ?_
      refine lv_iload_n hx hb dX12_honest_28 rfl (lv_at hl 2 rfl) ?_
      refine lv_aload_n hx hb dX12_honest_29 rfl (lv_at hl 0 rfl) ?_
      refine fg_12_6 (k := 387) hx hb hts in_X12_honest_12 hown hK hP (by decide) (by decide) (hts _ lk_X12_honest_33) dX12_honest_30 ?_
      refine r_iconst hx hb dX12_honest_33 (by decide) (fun z9 ez9 => ?_)
      refine ad_ms (k := 389) (j := 4) hx hb hK hP (by decide) (by decide) (by omega) (by omega) dX12_honest_34 ?_
      refine r_cVv (k := 387) (As := [.int a2, .int (σ8 389 4)]) (rest := []) ⟨hx, hb, hml, hown, hts⟩ hK hP hN hS (c_X12_sharesBy l D cA ad hI σ8 τ0 hR a2 (σ8 389 4) (by omega)) (cwV 2 hts gX12_honest_X12_sharesBy rfl rfl rfl (by decide +kernel) ⟨by decide, by decide⟩) (rv_M hK hP (by decide) (by decide)) rfl hl.1 rfl (Nat.le_of_ble_eq_true rfl) dX12_honest_35 (Nat.zero_le _) (Nat.zero_le _) (fun u10 H10 locs10 hp10 hP hS => ?_)
      obtain ⟨σ10, τ10⟩ := u10
      obtain ⟨hR, f10, fL10⟩ : P_X12_sharesBy σ8 τ0 a2 (σ8 389 4) σ10 τ10 := hp10
      have hP : va_P D vwCl (gw cA ad σ10 τ10) H10 := hP
      obtain rfl := FrL.nil fL10
      have hF := hF.step f10 (by decide)
      refine lv_aload_n hx hb dX12_honest_38 rfl (lv_at hl 0 rfl) ?_
      refine fg_12_25 (k := 387) hx hb hts in_X12_honest_12 hown hK hP (by decide) (by decide) (hts _ lk_X12_honest_59) dX12_honest_39 ?_
      refine lv_iload_n hx hb dX12_honest_42 rfl (lv_at hl 1 rfl) ?_
      obtain ⟨j11, ej11⟩ : ∃ j : Nat, a1.toInt = (j : Int) := ⟨_, ti_nat (by omega)⟩
      refine ad_mp8 (k := 397) (j := j11) hx hb hK hP (by decide) (by decide) ej11 (by omega) dX12_honest_43 ?_
      exact r_iret hx hb hr hK hP hS hk dX12_honest_44 (show P_X12_honest σ0 τ0 a1 a2 (σ10 397 j11) σ10 τ0 from ⟨hR, hF, hFL⟩)
    · clear hp6_0
      refine r_iconst hx hb dX12_honest_21 (by decide) (fun z12 ez12 => ?_)
      exact r_iret hx hb hr hK hP hS hk dX12_honest_22 (show P_X12_honest σ0 τ0 a1 a2 z12 σ2 τ0 from ⟨hR, hF, hFL⟩)
theorem in_X12_chances_12 : ∀ w ∈ u_ws RX12 TX12 47, w ∈ wsX12_chances := by decide +kernel
theorem lk_X12_chances_33 : Cond.fieldLink RX12 33 "CuckooSharesModel" "s" "[I" ∈ wsX12_chances := by decide +kernel
abbrev L_X12_chances : List Rc := []
abbrev LL_X12_chances : List Rc := []
def P_X12_chances (σ0 : Nat → Nat → Int32) (τ0 : Nat → Nat → Int64)  (r : Int32) (σ : Nat → Nat → Int32) (τ : Nat → Nat → Int64) : Prop := Rg σ ∧ Fr L_X12_chances σ0 σ ∧ FrL LL_X12_chances τ0 τ ∧ (0 ≤ r.toInt ∧ r.toInt ≤ 36) ∧ (r.toInt = PF σ0) ∧ ((σ0 389 2).toInt ≤ 0 ∨ 1 ≤ r.toInt)
def J_X12_chances_4 (p : Program) (l : Launch) (e : Env) (s : State) (m : MethodId) (args : Array Value) (below : List Frame) (meth : Method) (c : Code) (D : va_G) (cA : Nat → ClassId) (ad : Nat → Nat) (σ0 : Nat → Nat → Int32) (τ0 : Nat → Nat → Int64)  (n : Nat) : Prop := ∀ (σ : Nat → Nat → Int32) (τ : Nat → Nat → Int64) (H : Heap) (locs : List Loc) (x1 : Int32) (x2 : Int32) (ls : Array Slot), Rg σ → Fr L_X12_chances σ0 σ → FrL LL_X12_chances τ0 τ → va_P D vwCl (gw cA ad σ τ) H → va_S (AA ad) s.heap H locs → (0 ≤ x1.toInt ∧ x1.toInt ≤ 36) → (0 ≤ x2.toInt ∧ x2.toInt ≤ 4) → (x1.toInt = PSm σ0 x2.toInt.toNat) → (0 ≤ x1.toInt ∧ x1.toInt ≤ 9 * x2.toInt) → (x2.toInt = 0 ∨ 1 ≤ x1.toInt) → (x2.toInt ≤ (σ0 389 2).toInt) → (SI σ) → lv_has ls 3 [(0, .ref (ad 387)), (1, .int x1), (2, .int x2)] → 2 * (4 - x2.toInt) + 1 < (n : Int) → W p l e ({ frames := 0, cells := 0, slots := 0, locals := 0 } : Room) s m args below meth c H locs 0 0 (MQ below (va_Qi (fun (r : Int32) (u : SS) => P_X12_chances σ0 τ0 r u.1 u.2) (WB D cA ad) (AA ad)) args s 0 0 (AA ad)) (F0 m 4 ls [])
set_option maxHeartbeats 4000000 in
theorem B_X12_chances_4 (p : Program) (l : Launch) (e : Env) (s : State) (m : MethodId) (args : Array Value) (below : List Frame) (meth : Method) (c : Code) (D : va_G) (cA : Nat → ClassId) (ad : Nat → Nat) (σ0 : Nat → Nat → Int32) (τ0 : Nat → Nat → Int64)  (n : Nat) (C : Cy p s m args meth c cX12_chances 3 wsX12_chances RX12 D cA ad (some .int)) (gSI0 : SI σ0) (K4 : J_X12_chances_4 p l e s m args below meth c D cA ad σ0 τ0 n) : J_X12_chances_4 p l e s m args below meth c D cA ad σ0 τ0 (n + 1) := by
  obtain ⟨hx, hb, hml, hown, hts, hK, hk, hr, hI, hN⟩ := C
  intro σ τ H locs x1 x2 ls hR hF hFL hP hS hc0 hc1 hi0 hi1 hi2 hi3 gSI hl hm
  obtain rfl := Fr.nil hF
  obtain rfl := FrL.nil hFL
  refine lv_iload_n hx hb dX12_chances_4 rfl (lv_at hl 2 rfl) ?_
  refine lv_aload_n hx hb dX12_chances_5 rfl (lv_at hl 0 rfl) ?_
  refine fg_12_6 (k := 387) hx hb hts in_X12_chances_12 hown hK hP (by decide) (by decide) (hts _ lk_X12_chances_33) dX12_chances_6 ?_
  refine r_iconst hx hb dX12_chances_9 (by decide) (fun z1 ez1 => ?_)
  refine ad_ms (k := 389) (j := 2) hx hb hK hP (by decide) (by decide) (by omega) (by omega) dX12_chances_10 ?_
  have hr2 := ra_ms_1 hR (k := 389) (j := 2) (by decide) (by decide) (by decide) (by decide)
  refine r_icmp_ge (tgt := 32) hx hb dX12_chances_11 (by decide) (fun c3 => ?_) (fun c3 => ?_)
  · refine lv_iload_n hx hb dX12_chances_32 rfl (lv_at hl 1 rfl) ?_
    exact r_iret hx hb hr hK hP hS hk dX12_chances_33 (show P_X12_chances σ0 τ0 x1 σ0 τ0 from ⟨hR, hF, hFL, by omega, by have e : x2.toInt = (σ0 389 2).toInt := (by omega); rw [e] at hi0; exact hi0, by omega⟩)
  · refine lv_iload_n hx hb dX12_chances_14 rfl (lv_at hl 1 rfl) ?_
    refine lv_aload_n hx hb dX12_chances_15 rfl (lv_at hl 0 rfl) ?_
    refine fg_12_6 (k := 387) hx hb hts in_X12_chances_12 hown hK hP (by decide) (by decide) (hts _ lk_X12_chances_33) dX12_chances_16 ?_
    refine r_bipush hx hb dX12_chances_19 (by decide) (fun z4 ez4 => ?_)
    refine lv_iload_n hx hb dX12_chances_21 rfl (lv_at hl 2 rfl) ?_
    refine r_iadd hx hb dX12_chances_22 (by omega) (fun z5 ez5 => ?_)
    obtain ⟨j6, ej6⟩ : ∃ j : Nat, z5.toInt = (j : Int) := ⟨_, ti_nat (by omega)⟩
    refine ad_ms (k := 389) (j := j6) hx hb hK hP (by decide) (by decide) ej6 (by omega) dX12_chances_23 ?_
    have hz := gSI.ch (x := x2) (j := j6) (by omega) (by omega) (by omega)
    refine r_iadd hx hb dX12_chances_24 (by omega) (fun z7 ez7 => ?_)
    refine lv_istore_n (lv' := [(1, .int z7), (0, .ref (ad 387)), (2, .int x2)]) hx hb dX12_chances_25 rfl hl (by decide) rfl (fun ls hl => ?_)
    refine r_iinc (k := 2) (lv1 := fun z8 => [(2, .int z8), (1, .int z7), (0, .ref (ad 387))]) hx hb dX12_chances_26 hl rfl (by decide) (fun _ => rfl) (by decide) (by omega) (fun z8 ls ez8 hl => ?_)
    refine lv_goto (tgt := 4) hx hb dX12_chances_29 (by decide) ?_
    have hrq := ra_ms_1 hR (k := 389) (j := 2) (by decide) (by decide) (by decide) (by decide)
    exact K4 σ0 τ0 H locs z7 z8 ls hR hF hFL hP hS (by omega) (by omega) (by first | (have e1 : z8.toInt.toNat = (x2.toInt + 1).toNat := (by omega); rw [e1]; omega) | (have e0 : z8.toInt.toNat = 0 := (by omega); rw [e0]; show z7.toInt = 0; omega)) (by omega) (by omega) (by omega) gSI (lv_sub hl [2, 1, 0] rfl) (by omega)
theorem A_X12_chances (p : Program) (l : Launch) (e : Env) (s : State) (m : MethodId) (args : Array Value) (below : List Frame) (meth : Method) (c : Code) (D : va_G) (cA : Nat → ClassId) (ad : Nat → Nat) (σ0 : Nat → Nat → Int32) (τ0 : Nat → Nat → Int64)  (C : Cy p s m args meth c cX12_chances 3 wsX12_chances RX12 D cA ad (some .int)) (gSI0 : SI σ0) : ∀ n : Nat, J_X12_chances_4 p l e s m args below meth c D cA ad σ0 τ0 n := by
  intro n
  induction n with
  | zero =>
    exact (by intro σ τ H locs x1 x2 ls hR hF hFL hP hS hc0 hc1 hi0 hi1 hi2 hi3 gSI hl hm; exfalso; omega)
  | succ n ih =>
    exact B_X12_chances_4 p l e s m args below meth c D cA ad σ0 τ0 n C gSI0 ih
set_option maxHeartbeats 4000000 in
theorem c_X12_chances (l : Launch) (D : va_G) (cA : Nat → ClassId) (ad : Nat → Nat) (hI : Inj ad) (σ0 : Nat → Nat → Int32) (τ0 : Nat → Nat → Int64) (hR : Rg σ0)  (gSI0 : SI σ0) : Met l yX12_chances wsX12_chances ({ frames := 0, cells := 0, slots := 0, locals := 0 } : Room) (WQc D cA ad [.ref (ad 387)] σ0 τ0) (va_Qi (fun (r : Int32) (u : SS) => P_X12_chances σ0 τ0 r u.1 u.2) (WB D cA ad) (AA ad)) 0 0 (AA ad) := by
  refine Met.ofW (cc := cX12_chances) (maxL := 3) (ret := (some .int)) (by decide) rfl ?_
  intro p e s m args below meth c s₁ B hml hv
  obtain ⟨rfl, hP, hK, hN⟩ := hv
  have C : Cy p s m _ meth c cX12_chances 3 wsX12_chances RX12 D cA ad (some .int) := ⟨B.exec, B.bytes, hml, findClass_of_methodNamed B.named, atoms_spec (ws := wsX12_chances) B.pre, hK, B.notSynchronized, B.returns, hI, hN⟩
  have hl := lv_entry ([.ref (ad 387)]) (n := 3) (Nat.le_of_ble_eq_true rfl)
  rw [lg_entry_eq]
  generalize (lg_sl ([.ref (ad 387)]) ++ List.replicate (3 - (lg_sl ([.ref (ad 387)])).length) Slot.unset).toArray = ls at hl ⊢
  have hl : lv_has ls 3 [(0, .ref (ad 387))] := hl
  have hS : va_S (AA ad) s.heap s.heap [] := va_S.rf
  have hF : Fr L_X12_chances σ0 σ0 := Fr.rf
  have hFL : FrL LL_X12_chances τ0 τ0 := FrL.rf
  have gSI := gSI0
  have hA := A_X12_chances p l e s m _ below meth c D cA ad σ0 τ0 C gSI0 26
  have K4 := hA
  clear hA
  obtain ⟨hx, hb, _, hown, hts, _, hk, hr, _, _⟩ := C
  refine r_iconst hx hb dX12_chances_0 (by decide) (fun z1 ez1 => ?_)
  refine lv_istore_n (lv' := [(1, .int z1), (0, .ref (ad 387))]) hx hb dX12_chances_1 rfl hl (by decide) rfl (fun ls hl => ?_)
  refine r_iconst hx hb dX12_chances_2 (by decide) (fun z2 ez2 => ?_)
  refine lv_istore_n (lv' := [(2, .int z2), (1, .int z1), (0, .ref (ad 387))]) hx hb dX12_chances_3 rfl hl (by decide) rfl (fun ls hl => ?_)
  have hrq := ra_ms_1 hR (k := 389) (j := 2) (by decide) (by decide) (by decide) (by decide)
  exact K4 σ0 τ0 s.heap [] z1 z2 ls hR hF hFL hP hS (by omega) (by omega) (by first | (have e1 : z2.toInt.toNat = (x2.toInt + 1).toNat := (by omega); rw [e1]; omega) | (have e0 : z2.toInt.toNat = 0 := (by omega); rw [e0]; show z1.toInt = 0; omega)) (by omega) (by omega) (by omega) gSI (lv_sub hl [2, 1, 0] rfl) (by omega)
theorem in_X12_meanOf_12 : ∀ w ∈ u_ws RX12 TX12 47, w ∈ wsX12_meanOf := by decide +kernel
theorem lk_X12_meanOf_33 : Cond.fieldLink RX12 33 "CuckooSharesModel" "s" "[I" ∈ wsX12_meanOf := by decide +kernel
theorem lk_X12_meanOf_59 : Cond.fieldLink RX12 59 "CuckooSharesModel" "shares" "[I" ∈ wsX12_meanOf := by decide +kernel
abbrev L_X12_meanOf : List Rc := [(387, 387, 26, 26), (397, 397, 0, 7)]
abbrev LL_X12_meanOf : List Rc := []
def P_X12_meanOf (σ0 : Nat → Nat → Int32) (τ0 : Nat → Nat → Int64) (a1 : Int32) (r : Int32) (σ : Nat → Nat → Int32) (τ : Nat → Nat → Int64) : Prop := Rg σ ∧ Fr L_X12_meanOf σ0 σ ∧ FrL LL_X12_meanOf τ0 τ
def J_X12_meanOf_4 (p : Program) (l : Launch) (e : Env) (s : State) (m : MethodId) (args : Array Value) (below : List Frame) (meth : Method) (c : Code) (D : va_G) (cA : Nat → ClassId) (ad : Nat → Nat) (σ0 : Nat → Nat → Int32) (τ0 : Nat → Nat → Int64) (a1 : Int32) (n : Nat) : Prop := ∀ (σ : Nat → Nat → Int32) (τ : Nat → Nat → Int64) (H : Heap) (locs : List Loc) (x2 : Int32) (x3 : Int32) (ls : Array Slot), Rg σ → Fr L_X12_meanOf σ0 σ → FrL LL_X12_meanOf τ0 τ → va_P D vwCl (gw cA ad σ τ) H → va_S (AA ad) s.heap H locs → (0 ≤ x3.toInt ∧ x3.toInt ≤ 4) → lv_has ls 4 [(0, .ref (ad 387)), (1, .int a1), (2, .int x2), (3, .int x3)] → 2 * (4 - x3.toInt) + 1 < (n : Int) → W p l e ({ frames := 6, cells := 0, slots := 0, locals := 140 } : Room) s m args below meth c H locs 0 0 (MQ below (va_Qi (fun (r : Int32) (u : SS) => P_X12_meanOf σ0 τ0 a1 r u.1 u.2) (WB D cA ad) (AA ad)) args s 0 0 (AA ad)) (F0 m 4 ls [])
set_option maxHeartbeats 4000000 in
theorem B_X12_meanOf_4 (p : Program) (l : Launch) (e : Env) (s : State) (m : MethodId) (args : Array Value) (below : List Frame) (meth : Method) (c : Code) (D : va_G) (cA : Nat → ClassId) (ad : Nat → Nat) (σ0 : Nat → Nat → Int32) (τ0 : Nat → Nat → Int64) (a1 : Int32) (n : Nat) (C : Cy p s m args meth c cX12_meanOf 4 wsX12_meanOf RX12 D cA ad (some .int)) (ha1 : 0 ≤ a1.toInt ∧ a1.toInt ≤ 7) (K4 : J_X12_meanOf_4 p l e s m args below meth c D cA ad σ0 τ0 a1 n) : J_X12_meanOf_4 p l e s m args below meth c D cA ad σ0 τ0 a1 (n + 1) := by
  obtain ⟨hx, hb, hml, hown, hts, hK, hk, hr, hI, hN⟩ := C
  intro σ τ H locs x2 x3 ls hR hF hFL hP hS hc0 hl hm
  obtain rfl := FrL.nil hFL
  refine lv_iload_n hx hb dX12_meanOf_4 rfl (lv_at hl 3 rfl) ?_
  refine lv_aload_n hx hb dX12_meanOf_5 rfl (lv_at hl 0 rfl) ?_
  refine fg_12_6 (k := 387) hx hb hts in_X12_meanOf_12 hown hK hP (by decide) (by decide) (hts _ lk_X12_meanOf_33) dX12_meanOf_6 ?_
  refine r_iconst hx hb dX12_meanOf_9 (by decide) (fun z1 ez1 => ?_)
  refine ad_ms (k := 389) (j := 2) hx hb hK hP (by decide) (by decide) (by omega) (by omega) dX12_meanOf_10 ?_
  have hr2 := ra_ms_1 hR (k := 389) (j := 2) (by decide) (by decide) (by decide) (by decide)
  refine r_icmp_ge (tgt := 50) hx hb dX12_meanOf_11 (by decide) (fun c3 => ?_) (fun c3 => ?_)
  · refine lv_iload_n hx hb dX12_meanOf_50 rfl (lv_at hl 2 rfl) ?_
    exact r_iret hx hb hr hK hP hS hk dX12_meanOf_51 (show P_X12_meanOf σ0 τ0 a1 x2 σ τ0 from ⟨hR, hF, hFL⟩)
  · refine lv_aload_n hx hb dX12_meanOf_14 rfl (lv_at hl 0 rfl) ?_
    refine lv_iload_n hx hb dX12_meanOf_15 rfl (lv_at hl 3 rfl) ?_
    refine lv_aload_n hx hb dX12_meanOf_16 rfl (lv_at hl 0 rfl) ?_
    refine fg_12_6 (k := 387) hx hb hts in_X12_meanOf_12 hown hK hP (by decide) (by decide) (hts _ lk_X12_meanOf_33) dX12_meanOf_17 ?_
    refine r_iconst hx hb dX12_meanOf_20 (by decide) (fun z4 ez4 => ?_)
    refine ad_ms (k := 389) (j := 4) hx hb hK hP (by decide) (by decide) (by omega) (by omega) dX12_meanOf_21 ?_
    refine r_cVv (k := 387) (As := [.int x3, .int (σ 389 4)]) (rest := []) ⟨hx, hb, hml, hown, hts⟩ hK hP hN hS (c_X12_sharesBy l D cA ad hI σ τ0 hR x3 (σ 389 4) (by omega)) (cwV 2 hts gX12_meanOf_X12_sharesBy rfl rfl rfl (by decide +kernel) ⟨by decide, by decide⟩) (rv_M hK hP (by decide) (by decide)) rfl hl.1 rfl (Nat.le_of_ble_eq_true rfl) dX12_meanOf_22 (Nat.zero_le _) (Nat.zero_le _) (fun u5 H5 locs5 hp5 hP hS => ?_)
    obtain ⟨σ5, τ5⟩ := u5
    obtain ⟨hR, f5, fL5⟩ : P_X12_sharesBy σ τ0 x3 (σ 389 4) σ5 τ5 := hp5
    have hP : va_P D vwCl (gw cA ad σ5 τ5) H5 := hP
    obtain rfl := FrL.nil fL5
    have hF := hF.step f5 (by decide)
    refine lv_iload_n hx hb dX12_meanOf_25 rfl (lv_at hl 2 rfl) ?_
    refine lv_aload_n hx hb dX12_meanOf_26 rfl (lv_at hl 0 rfl) ?_
    refine fg_12_6 (k := 387) hx hb hts in_X12_meanOf_12 hown hK hP (by decide) (by decide) (hts _ lk_X12_meanOf_33) dX12_meanOf_27 ?_
    refine r_bipush hx hb dX12_meanOf_30 (by decide) (fun z6 ez6 => ?_)
    refine lv_iload_n hx hb dX12_meanOf_32 rfl (lv_at hl 3 rfl) ?_
    refine r_iadd hx hb dX12_meanOf_33 (by omega) (fun z7 ez7 => ?_)
    obtain ⟨j8, ej8⟩ : ∃ j : Nat, z7.toInt = (j : Int) := ⟨_, ti_nat (by omega)⟩
    refine ad_ms (k := 389) (j := j8) hx hb hK hP (by decide) (by decide) ej8 (by omega) dX12_meanOf_34 ?_
    refine lv_aload_n hx hb dX12_meanOf_35 rfl (lv_at hl 0 rfl) ?_
    refine fg_12_25 (k := 387) hx hb hts in_X12_meanOf_12 hown hK hP (by decide) (by decide) (hts _ lk_X12_meanOf_59) dX12_meanOf_36 ?_
    refine lv_iload_n hx hb dX12_meanOf_39 rfl (lv_at hl 1 rfl) ?_
    obtain ⟨j9, ej9⟩ : ∃ j : Nat, a1.toInt = (j : Int) := ⟨_, ti_nat (by omega)⟩
    refine ad_mp8 (k := 397) (j := j9) hx hb hK hP (by decide) (by decide) ej9 (by omega) dX12_meanOf_40 ?_
    refine r_imulU hx hb dX12_meanOf_41 (fun z10 => ?_)
    refine r_iaddU hx hb dX12_meanOf_42 (fun z11 => ?_)
    refine lv_istore_n (lv' := [(2, .int z11), (0, .ref (ad 387)), (1, .int a1), (3, .int x3)]) hx hb dX12_meanOf_43 rfl hl (by decide) rfl (fun ls hl => ?_)
    refine r_iinc (k := 3) (lv1 := fun z12 => [(3, .int z12), (2, .int z11), (0, .ref (ad 387)), (1, .int a1)]) hx hb dX12_meanOf_44 hl rfl (by decide) (fun _ => rfl) (by decide) (by omega) (fun z12 ls ez12 hl => ?_)
    refine lv_goto (tgt := 4) hx hb dX12_meanOf_47 (by decide) ?_
    exact K4 σ5 τ0 H5 locs5 z11 z12 ls hR hF hFL hP hS (by omega) (lv_sub hl [2, 3, 1, 0] rfl) (by omega)
theorem A_X12_meanOf (p : Program) (l : Launch) (e : Env) (s : State) (m : MethodId) (args : Array Value) (below : List Frame) (meth : Method) (c : Code) (D : va_G) (cA : Nat → ClassId) (ad : Nat → Nat) (σ0 : Nat → Nat → Int32) (τ0 : Nat → Nat → Int64) (a1 : Int32) (C : Cy p s m args meth c cX12_meanOf 4 wsX12_meanOf RX12 D cA ad (some .int)) (ha1 : 0 ≤ a1.toInt ∧ a1.toInt ≤ 7) : ∀ n : Nat, J_X12_meanOf_4 p l e s m args below meth c D cA ad σ0 τ0 a1 n := by
  intro n
  induction n with
  | zero =>
    exact (by intro σ τ H locs x2 x3 ls hR hF hFL hP hS hc0 hl hm; exfalso; omega)
  | succ n ih =>
    exact B_X12_meanOf_4 p l e s m args below meth c D cA ad σ0 τ0 a1 n C ha1 ih
set_option maxHeartbeats 4000000 in
theorem c_X12_meanOf (l : Launch) (D : va_G) (cA : Nat → ClassId) (ad : Nat → Nat) (hI : Inj ad) (σ0 : Nat → Nat → Int32) (τ0 : Nat → Nat → Int64) (hR : Rg σ0) (a1 : Int32) (ha1 : 0 ≤ a1.toInt ∧ a1.toInt ≤ 7) : Met l yX12_meanOf wsX12_meanOf ({ frames := 6, cells := 0, slots := 0, locals := 140 } : Room) (WQc D cA ad [.ref (ad 387), .int a1] σ0 τ0) (va_Qi (fun (r : Int32) (u : SS) => P_X12_meanOf σ0 τ0 a1 r u.1 u.2) (WB D cA ad) (AA ad)) 0 0 (AA ad) := by
  refine Met.ofW (cc := cX12_meanOf) (maxL := 4) (ret := (some .int)) (by decide) rfl ?_
  intro p e s m args below meth c s₁ B hml hv
  obtain ⟨rfl, hP, hK, hN⟩ := hv
  have C : Cy p s m _ meth c cX12_meanOf 4 wsX12_meanOf RX12 D cA ad (some .int) := ⟨B.exec, B.bytes, hml, findClass_of_methodNamed B.named, atoms_spec (ws := wsX12_meanOf) B.pre, hK, B.notSynchronized, B.returns, hI, hN⟩
  have hl := lv_entry ([.ref (ad 387), .int a1]) (n := 4) (Nat.le_of_ble_eq_true rfl)
  rw [lg_entry_eq]
  generalize (lg_sl ([.ref (ad 387), .int a1]) ++ List.replicate (4 - (lg_sl ([.ref (ad 387), .int a1])).length) Slot.unset).toArray = ls at hl ⊢
  have hl : lv_has ls 4 [(0, .ref (ad 387)), (1, .int a1)] := hl
  have hS : va_S (AA ad) s.heap s.heap [] := va_S.rf
  have hF : Fr L_X12_meanOf σ0 σ0 := Fr.rf
  have hFL : FrL LL_X12_meanOf τ0 τ0 := FrL.rf
  have hA := A_X12_meanOf p l e s m _ below meth c D cA ad σ0 τ0 a1 C ha1 26
  have K4 := hA
  clear hA
  obtain ⟨hx, hb, _, hown, hts, _, hk, hr, _, _⟩ := C
  refine r_iconst hx hb dX12_meanOf_0 (by decide) (fun z1 ez1 => ?_)
  refine lv_istore_n (lv' := [(2, .int z1), (0, .ref (ad 387)), (1, .int a1)]) hx hb dX12_meanOf_1 rfl hl (by decide) rfl (fun ls hl => ?_)
  refine r_iconst hx hb dX12_meanOf_2 (by decide) (fun z2 ez2 => ?_)
  refine lv_istore_n (lv' := [(3, .int z2), (2, .int z1), (0, .ref (ad 387)), (1, .int a1)]) hx hb dX12_meanOf_3 rfl hl (by decide) rfl (fun ls hl => ?_)
  exact K4 σ0 τ0 s.heap [] z1 z2 ls hR hF hFL hP hS (by omega) (lv_sub hl [2, 3, 1, 0] rfl) (by omega)
abbrev L_X12_part : List Rc := []
abbrev LL_X12_part : List Rc := []
def P_X12_part (σ0 : Nat → Nat → Int32) (τ0 : Nat → Nat → Int64) (a0 : Int32) (a1 : Int32) (a2 : Int32) (r : Int32) (σ : Nat → Nat → Int32) (τ : Nat → Nat → Int64) : Prop := Rg σ ∧ Fr L_X12_part σ0 σ ∧ FrL LL_X12_part τ0 τ
def J_X12_part_5 (p : Program) (l : Launch) (e : Env) (s : State) (m : MethodId) (args : Array Value) (below : List Frame) (meth : Method) (c : Code) (D : va_G) (cA : Nat → ClassId) (ad : Nat → Nat) (σ0 : Nat → Nat → Int32) (τ0 : Nat → Nat → Int64) (a0 : Int32) (a1 : Int32) (a2 : Int32) (n : Nat) : Prop := ∀ (σ : Nat → Nat → Int32) (τ : Nat → Nat → Int64) (H : Heap) (locs : List Loc) (x3 : Int32) (x4 : Int32) (ls : Array Slot), Rg σ → Fr L_X12_part σ0 σ → FrL LL_X12_part τ0 τ → va_P D vwCl (gw cA ad σ τ) H → va_S (AA ad) s.heap H locs → (x4.toInt ≠ 0 ∨ x3.toInt ≠ 0) → lv_has ls 6 [(0, .int a0), (1, .int a1), (2, .int a2), (3, .int x3), (4, .int x4)] → 2 * (x4.toInt.natAbs : Int) + 1 < (n : Int) → W p l e ({ frames := 0, cells := 0, slots := 0, locals := 0 } : Room) s m args below meth c H locs 0 0 (MQ below (va_Qi (fun (r : Int32) (u : SS) => P_X12_part σ0 τ0 a0 a1 a2 r u.1 u.2) (WB D cA ad) (AA ad)) args s 0 0 (AA ad)) (F0 m 5 ls [])
set_option maxHeartbeats 4000000 in
theorem B_X12_part_5 (p : Program) (l : Launch) (e : Env) (s : State) (m : MethodId) (args : Array Value) (below : List Frame) (meth : Method) (c : Code) (D : va_G) (cA : Nat → ClassId) (ad : Nat → Nat) (σ0 : Nat → Nat → Int32) (τ0 : Nat → Nat → Int64) (a0 : Int32) (a1 : Int32) (a2 : Int32) (n : Nat) (C : Cy p s m args meth c cX12_part 6 wsX12_part RX12 D cA ad (some .int)) (ha2 : 0 ≤ a2.toInt ∧ a2.toInt ≤ 1) (hpre0 : a1.toInt ≠ 0) (K5 : J_X12_part_5 p l e s m args below meth c D cA ad σ0 τ0 a0 a1 a2 n) : J_X12_part_5 p l e s m args below meth c D cA ad σ0 τ0 a0 a1 a2 (n + 1) := by
  obtain ⟨hx, hb, hml, hown, hts, hK, hk, hr, hI, hN⟩ := C
  intro σ τ H locs x3 x4 ls hR hF hFL hP hS hi0 hl hm
  obtain rfl := Fr.nil hF
  obtain rfl := FrL.nil hFL
  refine lv_iload hx hb dX12_part_5 (lv_at hl 4 rfl) ?_
  refine r_if_eq (tgt := 26) hx hb dX12_part_7 (by decide) (fun c1 => ?_) (fun c1 => ?_)
  · refine lv_iload_n hx hb dX12_part_26 rfl (lv_at hl 2 rfl) ?_
    refine r_if_ne (tgt := 34) hx hb dX12_part_27 (by decide) (fun c2 => ?_) (fun c2 => ?_)
    · refine lv_iload_n hx hb dX12_part_34 rfl (lv_at hl 1 rfl) ?_
      refine lv_iload_n hx hb dX12_part_35 rfl (lv_at hl 3 rfl) ?_
      refine r_idiv hx hb dX12_part_36 (by omega) (fun z3 => ?_)
      exact r_iret hx hb hr hK hP hS hk dX12_part_37 (show P_X12_part σ0 τ0 a0 a1 a2 z3 σ0 τ0 from ⟨hR, hF, hFL⟩)
    · refine lv_iload_n hx hb dX12_part_30 rfl (lv_at hl 0 rfl) ?_
      refine lv_goto (tgt := 35) hx hb dX12_part_31 (by decide) ?_
      refine lv_iload_n hx hb dX12_part_35 rfl (lv_at hl 3 rfl) ?_
      refine r_idiv hx hb dX12_part_36 (by omega) (fun z4 => ?_)
      exact r_iret hx hb hr hK hP hS hk dX12_part_37 (show P_X12_part σ0 τ0 a0 a1 a2 z4 σ0 τ0 from ⟨hR, hF, hFL⟩)
  · refine lv_iload_n hx hb dX12_part_10 rfl (lv_at hl 3 rfl) ?_
    refine lv_iload hx hb dX12_part_11 (lv_at hl 4 rfl) ?_
    refine r_irem hx hb dX12_part_13 (by omega) (fun z5 ez5 => ?_)
    have gaz5 := ti_tmA (a := x3.toInt) (b := x4.toInt) (by omega)
    refine lv_istore (lv' := [(5, .int z5), (0, .int a0), (1, .int a1), (2, .int a2), (3, .int x3), (4, .int x4)]) hx hb dX12_part_14 hl (by decide) rfl (fun ls hl => ?_)
    refine lv_iload hx hb dX12_part_16 (lv_at hl 5 rfl) ?_
    refine lv_istore_n (lv' := [(3, .int x4), (5, .int z5), (0, .int a0), (1, .int a1), (2, .int a2), (4, .int x4)]) hx hb dX12_part_18 rfl hl (by decide) rfl (fun ls hl => ?_)
    refine lv_iload hx hb dX12_part_19 (lv_at hl 1 rfl) ?_
    refine lv_istore (lv' := [(4, .int z5), (3, .int x4), (5, .int z5), (0, .int a0), (1, .int a1), (2, .int a2)]) hx hb dX12_part_21 hl (by decide) rfl (fun ls hl => ?_)
    refine lv_goto (tgt := 5) hx hb dX12_part_23 (by decide) ?_
    exact K5 σ0 τ0 H locs x4 z5 ls hR hF hFL hP hS (by omega) (lv_sub hl [3, 4, 5, 1, 0] rfl) (by omega)
theorem A_X12_part (p : Program) (l : Launch) (e : Env) (s : State) (m : MethodId) (args : Array Value) (below : List Frame) (meth : Method) (c : Code) (D : va_G) (cA : Nat → ClassId) (ad : Nat → Nat) (σ0 : Nat → Nat → Int32) (τ0 : Nat → Nat → Int64) (a0 : Int32) (a1 : Int32) (a2 : Int32) (C : Cy p s m args meth c cX12_part 6 wsX12_part RX12 D cA ad (some .int)) (ha2 : 0 ≤ a2.toInt ∧ a2.toInt ≤ 1) (hpre0 : a1.toInt ≠ 0) : ∀ n : Nat, J_X12_part_5 p l e s m args below meth c D cA ad σ0 τ0 a0 a1 a2 n := by
  intro n
  induction n with
  | zero =>
    exact (by intro σ τ H locs x3 x4 ls hR hF hFL hP hS hi0 hl hm; exfalso; omega)
  | succ n ih =>
    exact B_X12_part_5 p l e s m args below meth c D cA ad σ0 τ0 a0 a1 a2 n C ha2 hpre0 ih
set_option maxHeartbeats 4000000 in
theorem c_X12_part (l : Launch) (D : va_G) (cA : Nat → ClassId) (ad : Nat → Nat) (hI : Inj ad) (σ0 : Nat → Nat → Int32) (τ0 : Nat → Nat → Int64) (hR : Rg σ0) (a0 : Int32) (a1 : Int32) (a2 : Int32) (ha2 : 0 ≤ a2.toInt ∧ a2.toInt ≤ 1) (hpre0 : a1.toInt ≠ 0) : Met l yX12_part wsX12_part ({ frames := 0, cells := 0, slots := 0, locals := 0 } : Room) (WQc D cA ad [.int a0, .int a1, .int a2] σ0 τ0) (va_Qi (fun (r : Int32) (u : SS) => P_X12_part σ0 τ0 a0 a1 a2 r u.1 u.2) (WB D cA ad) (AA ad)) 0 0 (AA ad) := by
  refine Met.ofW (cc := cX12_part) (maxL := 6) (ret := (some .int)) (by decide) rfl ?_
  intro p e s m args below meth c s₁ B hml hv
  obtain ⟨rfl, hP, hK, hN⟩ := hv
  have C : Cy p s m _ meth c cX12_part 6 wsX12_part RX12 D cA ad (some .int) := ⟨B.exec, B.bytes, hml, findClass_of_methodNamed B.named, atoms_spec (ws := wsX12_part) B.pre, hK, B.notSynchronized, B.returns, hI, hN⟩
  have hl := lv_entry ([.int a0, .int a1, .int a2]) (n := 6) (Nat.le_of_ble_eq_true rfl)
  rw [lg_entry_eq]
  generalize (lg_sl ([.int a0, .int a1, .int a2]) ++ List.replicate (6 - (lg_sl ([.int a0, .int a1, .int a2])).length) Slot.unset).toArray = ls at hl ⊢
  have hl : lv_has ls 6 [(0, .int a0), (1, .int a1), (2, .int a2)] := hl
  have hS : va_S (AA ad) s.heap s.heap [] := va_S.rf
  have hF : Fr L_X12_part σ0 σ0 := Fr.rf
  have hFL : FrL LL_X12_part τ0 τ0 := FrL.rf
  have hA := A_X12_part p l e s m _ below meth c D cA ad σ0 τ0 a0 a1 a2 C ha2 hpre0 8589934602
  have K5 := hA
  clear hA
  obtain ⟨hx, hb, _, hown, hts, _, hk, hr, _, _⟩ := C
  have ba1 := And.intro (ti_lo a1) (ti_hi a1)
  refine lv_iload_n hx hb dX12_part_0 rfl (lv_at hl 0 rfl) ?_
  refine lv_istore_n (lv' := [(3, .int a0), (0, .int a0), (1, .int a1), (2, .int a2)]) hx hb dX12_part_1 rfl hl (by decide) rfl (fun ls hl => ?_)
  refine lv_iload_n hx hb dX12_part_2 rfl (lv_at hl 2 rfl) ?_
  refine lv_istore (lv' := [(4, .int a1), (3, .int a0), (0, .int a0), (1, .int a1), (2, .int a2)]) hx hb dX12_part_3 hl (by decide) rfl (fun ls hl => ?_)
  exact K5 σ0 τ0 s.heap [] a0 a1 ls hR hF hFL hP hS (by omega) (lv_sub hl [2, 3, 4, 1, 0] rfl) (by omega)
theorem in_X12_mean_12 : ∀ w ∈ u_ws RX12 TX12 47, w ∈ wsX12_mean := by decide +kernel
theorem lk_X12_mean_33 : Cond.fieldLink RX12 33 "CuckooSharesModel" "s" "[I" ∈ wsX12_mean := by decide +kernel
abbrev L_X12_mean : List Rc := [(387, 387, 0, 0), (394, 394, 0, 7), (395, 395, 0, 7), (396, 396, 0, 7), (387, 387, 26, 26), (397, 397, 0, 7)]
abbrev LL_X12_mean : List Rc := []
def P_X12_mean (σ0 : Nat → Nat → Int32) (τ0 : Nat → Nat → Int64) (a1 : Int32) (a2 : Int32) (r : Int32) (σ : Nat → Nat → Int32) (τ : Nat → Nat → Int64) : Prop := Rg σ ∧ Fr L_X12_mean σ0 σ ∧ FrL LL_X12_mean τ0 τ
set_option maxHeartbeats 4000000 in
theorem c_X12_mean (l : Launch) (D : va_G) (cA : Nat → ClassId) (ad : Nat → Nat) (hI : Inj ad) (σ0 : Nat → Nat → Int32) (τ0 : Nat → Nat → Int64) (hR : Rg σ0) (a1 : Int32) (a2 : Int32) (gSI0 : SI σ0) : Met l yX12_mean wsX12_mean ({ frames := 7, cells := 0, slots := 0, locals := 163 } : Room) (WQc D cA ad [.ref (ad 387), .int a1, .int a2] σ0 τ0) (va_Qi (fun (r : Int32) (u : SS) => P_X12_mean σ0 τ0 a1 a2 r u.1 u.2) (WB D cA ad) (AA ad)) 0 0 (AA ad) := by
  refine Met.ofW (cc := cX12_mean) (maxL := 3) (ret := (some .int)) (by decide) rfl ?_
  intro p e s m args below meth c s₁ B hml hv
  obtain ⟨rfl, hP, hK, hN⟩ := hv
  have C : Cy p s m _ meth c cX12_mean 3 wsX12_mean RX12 D cA ad (some .int) := ⟨B.exec, B.bytes, hml, findClass_of_methodNamed B.named, atoms_spec (ws := wsX12_mean) B.pre, hK, B.notSynchronized, B.returns, hI, hN⟩
  have hl := lv_entry ([.ref (ad 387), .int a1, .int a2]) (n := 3) (Nat.le_of_ble_eq_true rfl)
  rw [lg_entry_eq]
  generalize (lg_sl ([.ref (ad 387), .int a1, .int a2]) ++ List.replicate (3 - (lg_sl ([.ref (ad 387), .int a1, .int a2])).length) Slot.unset).toArray = ls at hl ⊢
  have hl : lv_has ls 3 [(0, .ref (ad 387)), (1, .int a1), (2, .int a2)] := hl
  have hS : va_S (AA ad) s.heap s.heap [] := va_S.rf
  have hF : Fr L_X12_mean σ0 σ0 := Fr.rf
  have hFL : FrL LL_X12_mean τ0 τ0 := FrL.rf
  have gSI := gSI0
  obtain ⟨hx, hb, _, hown, hts, _, hk, hr, _, _⟩ := C
  refine lv_aload_n hx hb dX12_mean_0 rfl (lv_at hl 0 rfl) ?_
  refine lv_aload_n hx hb dX12_mean_1 rfl (lv_at hl 0 rfl) ?_
  refine lv_iload_n hx hb dX12_mean_2 rfl (lv_at hl 1 rfl) ?_
  refine r_cVi (k := 387) (As := [.int a1]) (rest := [.ref (ad 387)]) ⟨hx, hb, hml, hown, hts⟩ hK hP hN hS (c_X12_isMan l D cA ad hI σ0 τ0 hR a1) (cwV 1 hts gX12_mean_X12_isMan rfl rfl rfl (by decide +kernel) ⟨by decide, by decide⟩) (rv_M hK hP (by decide) (by decide)) rfl hl.1 rfl (Nat.le_of_ble_eq_true rfl) dX12_mean_3 (Nat.zero_le _) (Nat.zero_le _) (fun r1 u1 H1 locs1 hp1 hP hS => ?_)
  obtain ⟨σ1, τ1⟩ := u1
  obtain ⟨hR, f1, fL1, hq1, hp1_0⟩ : P_X12_isMan σ0 τ0 a1 r1 σ1 τ1 := hp1
  have hP : va_P D vwCl (gw cA ad σ1 τ1) H1 := hP
  obtain rfl := FrL.nil fL1
  obtain rfl := Fr.nil f1
  refine r_if_eq (tgt := 27) hx hb dX12_mean_6 (by decide) (fun c2 => ?_) (fun c2 => ?_)
  · clear hp1_0
    refine r_iconst hx hb dX12_mean_27 (by decide) (fun z3 ez3 => ?_)
    refine lv_goto (tgt := 32) hx hb dX12_mean_28 (by decide) ?_
    refine r_cVi (k := 387) (As := [.int z3]) (rest := []) ⟨hx, hb, hml, hown, hts⟩ hK hP hN hS (c_X12_throwsIf l D cA ad hI σ0 τ0 hR z3 (by omega)) (cwV 1 hts gX12_mean_X12_throwsIf rfl rfl rfl (by decide +kernel) ⟨by decide, by decide⟩) (rv_M hK hP (by decide) (by decide)) rfl hl.1 rfl (Nat.le_of_ble_eq_true rfl) dX12_mean_32 (Nat.zero_le _) (Nat.zero_le _) (fun r4 u4 H4 locs4 hp4 hP hS => ?_)
    obtain ⟨σ4, τ4⟩ := u4
    obtain ⟨hR, f4, fL4, hq4, hp4_0⟩ : P_X12_throwsIf σ0 τ0 z3 r4 σ4 τ4 := hp4
    have hP : va_P D vwCl (gw cA ad σ4 τ4) H4 := hP
    obtain rfl := FrL.nil fL4
    have hF := hF.step f4 (by decide)
    have gSI := SI.fr gSI hR f4 (by decide)
    refine r_if_eq (tgt := 40) hx hb dX12_mean_35 (by decide) (fun c5 => ?_) (fun c5 => ?_)
    · exfalso; omega
    · refine r_iconst hx hb dX12_mean_38 (by decide) (fun z6 ez6 => ?_)
      exact r_iret hx hb hr hK hP hS hk dX12_mean_39 (show P_X12_mean σ0 τ0 a1 a2 z6 σ4 τ0 from ⟨hR, hF, hFL⟩)
  · replace hp1_0 := hp1_0.resolve_left (by omega)
    refine lv_aload_n hx hb dX12_mean_9 rfl (lv_at hl 0 rfl) ?_
    refine fg_12_6 (k := 387) hx hb hts in_X12_mean_12 hown hK hP (by decide) (by decide) (hts _ lk_X12_mean_33) dX12_mean_10 ?_
    refine r_iconst hx hb dX12_mean_13 (by decide) (fun z7 ez7 => ?_)
    refine ad_ms (k := 389) (j := 2) hx hb hK hP (by decide) (by decide) (by omega) (by omega) dX12_mean_14 ?_
    have hr8 := ra_ms_1 hR (k := 389) (j := 2) (by decide) (by decide) (by decide) (by decide)
    refine r_if_eq (tgt := 27) hx hb dX12_mean_15 (by decide) (fun c9 => ?_) (fun c9 => ?_)
    · refine r_iconst hx hb dX12_mean_27 (by decide) (fun z10 ez10 => ?_)
      refine lv_goto (tgt := 32) hx hb dX12_mean_28 (by decide) ?_
      refine r_cVi (k := 387) (As := [.int z10]) (rest := []) ⟨hx, hb, hml, hown, hts⟩ hK hP hN hS (c_X12_throwsIf l D cA ad hI σ0 τ0 hR z10 (by omega)) (cwV 1 hts gX12_mean_X12_throwsIf rfl rfl rfl (by decide +kernel) ⟨by decide, by decide⟩) (rv_M hK hP (by decide) (by decide)) rfl hl.1 rfl (Nat.le_of_ble_eq_true rfl) dX12_mean_32 (Nat.zero_le _) (Nat.zero_le _) (fun r11 u11 H11 locs11 hp11 hP hS => ?_)
      obtain ⟨σ11, τ11⟩ := u11
      obtain ⟨hR, f11, fL11, hq11, hp11_0⟩ : P_X12_throwsIf σ0 τ0 z10 r11 σ11 τ11 := hp11
      have hP : va_P D vwCl (gw cA ad σ11 τ11) H11 := hP
      obtain rfl := FrL.nil fL11
      have hF := hF.step f11 (by decide)
      have gSI := SI.fr gSI hR f11 (by decide)
      have t12 : (σ11 389 2).toInt = (σ0 389 2).toInt := congrArg Int32.toInt (f11.at 389 2 (by decide))
      refine r_if_eq (tgt := 40) hx hb dX12_mean_35 (by decide) (fun c13 => ?_) (fun c13 => ?_)
      · exfalso; omega
      · refine r_iconst hx hb dX12_mean_38 (by decide) (fun z14 ez14 => ?_)
        exact r_iret hx hb hr hK hP hS hk dX12_mean_39 (show P_X12_mean σ0 τ0 a1 a2 z14 σ11 τ0 from ⟨hR, hF, hFL⟩)
    · refine lv_iload_n hx hb dX12_mean_18 rfl (lv_at hl 2 rfl) ?_
      refine r_iconst hx hb dX12_mean_19 (by decide) (fun z15 ez15 => ?_)
      refine r_iconst hx hb dX12_mean_20 (by decide) (fun z16 ez16 => ?_)
      refine r_cSi (As := [.int a2, .int z15, .int z16]) (rest := [.ref (ad 387)]) ⟨hx, hb, hml, hown, hts⟩ hK hP hN hS (c_X12_isIn l D cA ad hI σ0 τ0 hR a2 z15 z16) (va_cwS 3 hts gX12_mean_X12_isIn rfl rfl rfl (by decide +kernel) ⟨by decide, by decide⟩) rfl hl.1 rfl (Nat.le_of_ble_eq_true rfl) dX12_mean_21 (Nat.zero_le _) (Nat.zero_le _) (fun r17 u17 H17 locs17 hp17 hP hS => ?_)
      obtain ⟨σ17, τ17⟩ := u17
      obtain ⟨hR, f17, fL17, hq17, hp17_0, hp17_1⟩ : P_X12_isIn σ0 τ0 a2 z15 z16 r17 σ17 τ17 := hp17
      have hP : va_P D vwCl (gw cA ad σ17 τ17) H17 := hP
      obtain rfl := FrL.nil fL17
      obtain rfl := Fr.nil f17
      refine r_if_ne (tgt := 31) hx hb dX12_mean_24 (by decide) (fun c18 => ?_) (fun c18 => ?_)
      · replace hp17_0 := hp17_0.resolve_left (by omega)
        refine r_iconst hx hb dX12_mean_31 (by decide) (fun z19 ez19 => ?_)
        refine r_cVi (k := 387) (As := [.int z19]) (rest := []) ⟨hx, hb, hml, hown, hts⟩ hK hP hN hS (c_X12_throwsIf l D cA ad hI σ0 τ0 hR z19 (by omega)) (cwV 1 hts gX12_mean_X12_throwsIf rfl rfl rfl (by decide +kernel) ⟨by decide, by decide⟩) (rv_M hK hP (by decide) (by decide)) rfl hl.1 rfl (Nat.le_of_ble_eq_true rfl) dX12_mean_32 (Nat.zero_le _) (Nat.zero_le _) (fun r20 u20 H20 locs20 hp20 hP hS => ?_)
        obtain ⟨σ20, τ20⟩ := u20
        obtain ⟨hR, f20, fL20, hq20, hp20_0⟩ : P_X12_throwsIf σ0 τ0 z19 r20 σ20 τ20 := hp20
        have hP : va_P D vwCl (gw cA ad σ20 τ20) H20 := hP
        obtain rfl := FrL.nil fL20
        have hF := hF.step f20 (by decide)
        have gSI := SI.fr gSI hR f20 (by decide)
        have t21 : (σ20 389 2).toInt = (σ0 389 2).toInt := congrArg Int32.toInt (f20.at 389 2 (by decide))
        refine r_if_eq (tgt := 40) hx hb dX12_mean_35 (by decide) (fun c22 => ?_) (fun c22 => ?_)
        · refine lv_aload_n hx hb dX12_mean_40 rfl (lv_at hl 0 rfl) ?_
          refine r_cVv (k := 387) (As := []) (rest := []) ⟨hx, hb, hml, hown, hts⟩ hK hP hN hS (c_X12_asNow l D cA ad hI σ20 τ0 hR) (cwV 0 hts gX12_mean_X12_asNow rfl rfl rfl (by decide +kernel) ⟨by decide, by decide⟩) (rv_M hK hP (by decide) (by decide)) rfl hl.1 rfl (Nat.le_of_ble_eq_true rfl) dX12_mean_41 (Nat.zero_le _) (Nat.zero_le _) (fun u23 H23 locs23 hp23 hP hS => ?_)
          obtain ⟨σ23, τ23⟩ := u23
          obtain ⟨hR, f23, fL23⟩ : P_X12_asNow σ20 τ0 σ23 τ23 := hp23
          have hP : va_P D vwCl (gw cA ad σ23 τ23) H23 := hP
          obtain rfl := FrL.nil fL23
          have hF := hF.step f23 (by decide)
          have gSI := SI.fr gSI hR f23 (by decide)
          have t24 : (σ23 389 2).toInt = (σ20 389 2).toInt := congrArg Int32.toInt (f23.at 389 2 (by decide))
          refine lv_aload_n hx hb dX12_mean_44 rfl (lv_at hl 0 rfl) ?_
          refine lv_iload_n hx hb dX12_mean_45 rfl (lv_at hl 1 rfl) ?_
          refine r_cVi (k := 387) (As := [.int a1]) (rest := []) ⟨hx, hb, hml, hown, hts⟩ hK hP hN hS (c_X12_meanOf l D cA ad hI σ23 τ0 hR a1 (by omega)) (cwV 1 hts gX12_mean_X12_meanOf rfl rfl rfl (by decide +kernel) ⟨by decide, by decide⟩) (rv_M hK hP (by decide) (by decide)) rfl hl.1 rfl (Nat.le_of_ble_eq_true rfl) dX12_mean_46 (Nat.zero_le _) (Nat.zero_le _) (fun r25 u25 H25 locs25 hp25 hP hS => ?_)
          obtain ⟨σ25, τ25⟩ := u25
          obtain ⟨hR, f25, fL25⟩ : P_X12_meanOf σ23 τ0 a1 r25 σ25 τ25 := hp25
          have hP : va_P D vwCl (gw cA ad σ25 τ25) H25 := hP
          obtain rfl := FrL.nil fL25
          have hF := hF.step f25 (by decide)
          have gSI := SI.fr gSI hR f25 (by decide)
          have t26 : (σ25 389 2).toInt = (σ23 389 2).toInt := congrArg Int32.toInt (f25.at 389 2 (by decide))
          refine lv_aload_n hx hb dX12_mean_49 rfl (lv_at hl 0 rfl) ?_
          refine r_cVi (k := 387) (As := []) (rest := [.int r25]) ⟨hx, hb, hml, hown, hts⟩ hK hP hN hS (c_X12_chances l D cA ad hI σ25 τ0 hR gSI) (cwV 0 hts gX12_mean_X12_chances rfl rfl rfl (by decide +kernel) ⟨by decide, by decide⟩) (rv_M hK hP (by decide) (by decide)) rfl hl.1 rfl (Nat.le_of_ble_eq_true rfl) dX12_mean_50 (Nat.zero_le _) (Nat.zero_le _) (fun r27 u27 H27 locs27 hp27 hP hS => ?_)
          obtain ⟨σ27, τ27⟩ := u27
          obtain ⟨hR, f27, fL27, hq27, hp27_0, hp27_1⟩ : P_X12_chances σ25 τ0 r27 σ27 τ27 := hp27
          have hP : va_P D vwCl (gw cA ad σ27 τ27) H27 := hP
          obtain rfl := FrL.nil fL27
          obtain rfl := Fr.nil f27
          refine lv_iload_n hx hb dX12_mean_53 rfl (lv_at hl 2 rfl) ?_
          refine r_cSi (As := [.int r25, .int r27, .int a2]) (rest := []) ⟨hx, hb, hml, hown, hts⟩ hK hP hN hS (c_X12_part l D cA ad hI σ25 τ0 hR r25 r27 a2 (by omega) (by omega)) (va_cwS 3 hts gX12_mean_X12_part rfl rfl rfl (by decide +kernel) ⟨by decide, by decide⟩) rfl hl.1 rfl (Nat.le_of_ble_eq_true rfl) dX12_mean_54 (Nat.zero_le _) (Nat.zero_le _) (fun r28 u28 H28 locs28 hp28 hP hS => ?_)
          obtain ⟨σ28, τ28⟩ := u28
          obtain ⟨hR, f28, fL28⟩ : P_X12_part σ25 τ0 r25 r27 a2 r28 σ28 τ28 := hp28
          have hP : va_P D vwCl (gw cA ad σ28 τ28) H28 := hP
          obtain rfl := FrL.nil fL28
          obtain rfl := Fr.nil f28
          exact r_iret hx hb hr hK hP hS hk dX12_mean_57 (show P_X12_mean σ0 τ0 a1 a2 r28 σ25 τ0 from ⟨hR, hF, hFL⟩)
        · exfalso; omega
      · clear hp17_0
        refine r_iconst hx hb dX12_mean_27 (by decide) (fun z29 ez29 => ?_)
        refine lv_goto (tgt := 32) hx hb dX12_mean_28 (by decide) ?_
        refine r_cVi (k := 387) (As := [.int z29]) (rest := []) ⟨hx, hb, hml, hown, hts⟩ hK hP hN hS (c_X12_throwsIf l D cA ad hI σ0 τ0 hR z29 (by omega)) (cwV 1 hts gX12_mean_X12_throwsIf rfl rfl rfl (by decide +kernel) ⟨by decide, by decide⟩) (rv_M hK hP (by decide) (by decide)) rfl hl.1 rfl (Nat.le_of_ble_eq_true rfl) dX12_mean_32 (Nat.zero_le _) (Nat.zero_le _) (fun r30 u30 H30 locs30 hp30 hP hS => ?_)
        obtain ⟨σ30, τ30⟩ := u30
        obtain ⟨hR, f30, fL30, hq30, hp30_0⟩ : P_X12_throwsIf σ0 τ0 z29 r30 σ30 τ30 := hp30
        have hP : va_P D vwCl (gw cA ad σ30 τ30) H30 := hP
        obtain rfl := FrL.nil fL30
        have hF := hF.step f30 (by decide)
        have gSI := SI.fr gSI hR f30 (by decide)
        have t31 : (σ30 389 2).toInt = (σ0 389 2).toInt := congrArg Int32.toInt (f30.at 389 2 (by decide))
        refine r_if_eq (tgt := 40) hx hb dX12_mean_35 (by decide) (fun c32 => ?_) (fun c32 => ?_)
        · exfalso; omega
        · refine r_iconst hx hb dX12_mean_38 (by decide) (fun z33 ez33 => ?_)
          exact r_iret hx hb hr hK hP hS hk dX12_mean_39 (show P_X12_mean σ0 τ0 a1 a2 z33 σ30 τ0 from ⟨hR, hF, hFL⟩)
theorem in_X12_tellsBetter_12 : ∀ w ∈ u_ws RX12 TX12 47, w ∈ wsX12_tellsBetter := by decide +kernel
theorem lk_X12_tellsBetter_378 : Cond.fieldLink RX12 378 "CuckooSharesModel" "hasBetter" "Z" ∈ wsX12_tellsBetter := by decide +kernel
theorem lk_X12_tellsBetter_382 : Cond.fieldLink RX12 382 "CuckooSharesModel" "betterUp" "I" ∈ wsX12_tellsBetter := by decide +kernel
theorem lk_X12_tellsBetter_385 : Cond.fieldLink RX12 385 "CuckooSharesModel" "betterBelow" "I" ∈ wsX12_tellsBetter := by decide +kernel
abbrev L_X12_tellsBetter : List Rc := [(387, 387, 30, 32)]
abbrev LL_X12_tellsBetter : List Rc := []
def P_X12_tellsBetter (σ0 : Nat → Nat → Int32) (τ0 : Nat → Nat → Int64) (a1 : Int32) (σ : Nat → Nat → Int32) (τ : Nat → Nat → Int64) : Prop := Rg σ ∧ Fr L_X12_tellsBetter σ0 σ ∧ FrL LL_X12_tellsBetter τ0 τ ∧ ((σ 387 31).toInt ≠ 0)
set_option maxHeartbeats 4000000 in
theorem c_X12_tellsBetter (l : Launch) (D : va_G) (cA : Nat → ClassId) (ad : Nat → Nat) (hI : Inj ad) (σ0 : Nat → Nat → Int32) (τ0 : Nat → Nat → Int64) (hR : Rg σ0) (a1 : Int32) (hpre0 : 1 ≤ (σ0 389 2).toInt) (gSI0 : SI σ0) : Met l yX12_tellsBetter wsX12_tellsBetter ({ frames := 1, cells := 0, slots := 0, locals := 22 } : Room) (WQc D cA ad [.ref (ad 387), .int a1] σ0 τ0) (va_Qv (fun u : SS => P_X12_tellsBetter σ0 τ0 a1 u.1 u.2) (WB D cA ad) (AA ad)) 0 0 (AA ad) := by
  refine Met.ofW (cc := cX12_tellsBetter) (maxL := 2) (ret := none) (by decide) rfl ?_
  intro p e s m args below meth c s₁ B hml hv
  obtain ⟨rfl, hP, hK, hN⟩ := hv
  have C : Cy p s m _ meth c cX12_tellsBetter 2 wsX12_tellsBetter RX12 D cA ad none := ⟨B.exec, B.bytes, hml, findClass_of_methodNamed B.named, atoms_spec (ws := wsX12_tellsBetter) B.pre, hK, B.notSynchronized, B.returns, hI, hN⟩
  have hl := lv_entry ([.ref (ad 387), .int a1]) (n := 2) (Nat.le_of_ble_eq_true rfl)
  rw [lg_entry_eq]
  generalize (lg_sl ([.ref (ad 387), .int a1]) ++ List.replicate (2 - (lg_sl ([.ref (ad 387), .int a1])).length) Slot.unset).toArray = ls at hl ⊢
  have hl : lv_has ls 2 [(0, .ref (ad 387)), (1, .int a1)] := hl
  have hS : va_S (AA ad) s.heap s.heap [] := va_S.rf
  have hF : Fr L_X12_tellsBetter σ0 σ0 := Fr.rf
  have hFL : FrL LL_X12_tellsBetter τ0 τ0 := FrL.rf
  have gSI := gSI0
  obtain ⟨hx, hb, _, hown, hts, _, hk, hr, _, _⟩ := C
  refine lv_aload_n hx hb dX12_tellsBetter_0 rfl (lv_at hl 0 rfl) ?_
  refine r_iconst hx hb dX12_tellsBetter_1 (by decide) (fun z1 ez1 => ?_)
  refine fp_12_32 (k := 387) hx hb hts in_X12_tellsBetter_12 hown hK hP (by decide) (by decide) (hts _ lk_X12_tellsBetter_378) hI hR hS (by omega) dX12_tellsBetter_2 (fun σ2 H2 locs2 u2 v2 hR hP hS => ?_)
  have hF := hF.puts u2 0 rfl (by decide) (by decide) (by decide) (by decide)
  have gSI := SI.put gSI hR u2 (by decide)
  refine lv_aload_n hx hb dX12_tellsBetter_5 rfl (lv_at hl 0 rfl) ?_
  refine lv_iload_n hx hb dX12_tellsBetter_6 rfl (lv_at hl 1 rfl) ?_
  refine fp_12_30 (k := 387) hx hb hts in_X12_tellsBetter_12 hown hK hP (by decide) (by decide) (hts _ lk_X12_tellsBetter_382) hI hR hS dX12_tellsBetter_7 (fun σ3 H3 locs3 u3 v3 hR hP hS => ?_)
  have hF := hF.puts u3 0 rfl (by decide) (by decide) (by decide) (by decide)
  have gSI := SI.put gSI hR u3 (by decide)
  refine lv_aload_n hx hb dX12_tellsBetter_10 rfl (lv_at hl 0 rfl) ?_
  refine lv_aload_n hx hb dX12_tellsBetter_11 rfl (lv_at hl 0 rfl) ?_
  have h2e := congrArg Int32.toInt (hF.at 389 2 (by decide))
  refine r_cVi (k := 387) (As := []) (rest := [.ref (ad 387)]) ⟨hx, hb, hml, hown, hts⟩ hK hP hN hS (c_X12_chances l D cA ad hI σ3 τ0 hR gSI) (cwV 0 hts gX12_tellsBetter_X12_chances rfl rfl rfl (by decide +kernel) ⟨by decide, by decide⟩) (rv_M hK hP (by decide) (by decide)) rfl hl.1 rfl (Nat.le_of_ble_eq_true rfl) dX12_tellsBetter_12 (Nat.zero_le _) (Nat.zero_le _) (fun r4 u4 H4 locs4 hp4 hP hS => ?_)
  obtain ⟨σ4, τ4⟩ := u4
  obtain ⟨hR, f4, fL4, hq4, hp4_0, hp4_1⟩ : P_X12_chances σ3 τ0 r4 σ4 τ4 := hp4
  have hP : va_P D vwCl (gw cA ad σ4 τ4) H4 := hP
  obtain rfl := FrL.nil fL4
  obtain rfl := Fr.nil f4
  refine fp_12_31 (k := 387) hx hb hts in_X12_tellsBetter_12 hown hK hP (by decide) (by decide) (hts _ lk_X12_tellsBetter_385) hI hR hS dX12_tellsBetter_15 (fun σ5 H5 locs5 u5 v5 hR hP hS => ?_)
  have hF := hF.puts u5 0 rfl (by decide) (by decide) (by decide) (by decide)
  have gSI := SI.put gSI hR u5 (by decide)
  exact r_vret hx hb hr hK hP hS hk dX12_tellsBetter_18 (show P_X12_tellsBetter σ0 τ0 a1 σ5 τ0 from ⟨hR, hF, hFL, by omega⟩)
