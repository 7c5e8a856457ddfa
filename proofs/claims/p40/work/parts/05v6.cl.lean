abbrev L_X8_take : List Rc := [(1, 1, 7, 10), (1, 1, 13, 14)]
abbrev LL_X8_take : List Rc := [(1, 1, 11, 11)]
def P_X8_take (σ0 : Nat → Nat → Int32) (τ0 : Nat → Nat → Int64) (a1 : Int32) (r : Int32) (σ : Nat → Nat → Int32) (τ : Nat → Nat → Int64) : Prop := Rg σ ∧ Fr L_X8_take σ0 σ ∧ FrL LL_X8_take τ0 τ ∧ (0 ≤ r.toInt ∧ r.toInt ≤ 1)
set_option maxHeartbeats 4000000 in
theorem c_X8_take (l : Launch) (D : va_G) (cA : Nat → ClassId) (ad : Nat → Nat) (hI : Inj ad) (σ0 : Nat → Nat → Int32) (τ0 : Nat → Nat → Int64) (hR : Rg σ0) (a1 : Int32) (ha1 : 40 ≤ a1.toInt ∧ a1.toInt ≤ 40) : Met l yX8_take wsX8_take ({ frames := 1, cells := 0, slots := 0, locals := 21 } : Room) (WQc D cA ad [.ref (ad 1), .int a1] σ0 τ0) (va_Qi (fun (r : Int32) (u : SS) => P_X8_take σ0 τ0 a1 r u.1 u.2) (WB D cA ad) (AA ad)) 0 0 (AA ad) := by
  refine Met.ofW (cc := cX8_take) (maxL := 2) (ret := (some .boolean)) (by decide) rfl ?_
  intro p e s m args below meth c s₁ B hml hv
  obtain ⟨rfl, hP, hK, hN⟩ := hv
  have C : Cy p s m _ meth c cX8_take 2 wsX8_take RX8 D cA ad (some .boolean) := ⟨B.exec, B.bytes, hml, findClass_of_methodNamed B.named, atoms_spec (ws := wsX8_take) B.pre, hK, B.notSynchronized, B.returns, hI, hN⟩
  have hl := lv_entry ([.ref (ad 1), .int a1]) (n := 2) (Nat.le_of_ble_eq_true rfl)
  rw [lg_entry_eq]
  generalize (lg_sl ([.ref (ad 1), .int a1]) ++ List.replicate (2 - (lg_sl ([.ref (ad 1), .int a1])).length) Slot.unset).toArray = ls at hl ⊢
  have hl : lv_has ls 2 [(0, .ref (ad 1)), (1, .int a1)] := hl
  have hS : va_S (AA ad) s.heap s.heap [] := va_S.rf
  have hF : Fr L_X8_take σ0 σ0 := Fr.rf
  have hFL : FrL LL_X8_take τ0 τ0 := FrL.rf
  obtain ⟨hx, hb, _, hown, hts, _, hk, hr, _, _⟩ := C
  refine lv_aload_n hx hb dX8_take_0 rfl (lv_at hl 0 rfl) ?_
  refine fg_8_9 (k := 1) hx hb hts in_X8_take_8 hown hK hP (by decide) (by decide) (hts _ lk_X8_take_85) dX8_take_1 ?_
  refine lv_iload_n hx hb dX8_take_4 rfl (lv_at hl 1 rfl) ?_
  refine r_icmp_eq (tgt := 14) hx hb dX8_take_5 (by decide) (fun c1 => ?_) (fun c1 => ?_)
  · refine lv_aload_n hx hb dX8_take_14 rfl (lv_at hl 0 rfl) ?_
    refine r_cVv (k := 1) (As := []) (rest := []) ⟨hx, hb, hml, hown, hts⟩ hK hP hN hS (c_X8_next l D cA ad hI σ0 τ0 hR) (cwV 0 hts gX8_take_X8_next rfl rfl rfl (by decide +kernel) ⟨by decide, by decide⟩) (rv_Tape hK hP (by decide) (by decide)) rfl hl.1 rfl (Nat.le_of_ble_eq_true rfl) dX8_take_15 (Nat.zero_le _) (Nat.zero_le _) (fun u2 H2 locs2 hp2 hP hS => ?_)
    obtain ⟨σ2, τ2⟩ := u2
    obtain ⟨hR, f2, fL2⟩ : P_X8_next σ0 τ0 σ2 τ2 := hp2
    have hP : va_P D vwCl (gw cA ad σ2 τ2) H2 := hP
    have hFL := hFL.step fL2 (by decide)
    have hF := hF.step f2 (by decide)
    refine r_iconst hx hb dX8_take_18 (by decide) (fun z3 ez3 => ?_)
    exact r_zret hx hb hr hK hP hS hk (by omega) dX8_take_19 (show P_X8_take σ0 τ0 a1 z3 σ2 τ2 from ⟨hR, hF, hFL, by omega⟩)
  · refine lv_aload_n hx hb dX8_take_8 rfl (lv_at hl 0 rfl) ?_
    refine r_iconst hx hb dX8_take_9 (by decide) (fun z4 ez4 => ?_)
    refine r_cVi (k := 1) (As := [.int z4]) (rest := []) ⟨hx, hb, hml, hown, hts⟩ hK hP hN hS (c_X8_blame l D cA ad hI σ0 τ0 hR z4 (by omega)) (cwV 1 hts gX8_take_X8_blame rfl rfl rfl (by decide +kernel) ⟨by decide, by decide⟩) (rv_Tape hK hP (by decide) (by decide)) rfl hl.1 rfl (Nat.le_of_ble_eq_true rfl) dX8_take_10 (Nat.zero_le _) (Nat.zero_le _) (fun r5 u5 H5 locs5 hp5 hP hS => ?_)
    obtain ⟨σ5, τ5⟩ := u5
    obtain ⟨hR, f5, fL5, hq5⟩ : P_X8_blame σ0 τ0 z4 r5 σ5 τ5 := hp5
    have hP : va_P D vwCl (gw cA ad σ5 τ5) H5 := hP
    obtain rfl := FrL.nil fL5
    have hF := hF.step f5 (by decide)
    exact r_zret hx hb hr hK hP hS hk (by omega) dX8_take_13 (show P_X8_take σ0 τ0 a1 r5 σ5 τ0 from ⟨hR, hF, hFL, by omega⟩)
theorem in_X5_read_5 : ∀ w ∈ u_ws RX5 TX5 8, w ∈ wsX5_read := by decide +kernel
theorem in_X5_read_8 : ∀ w ∈ u_ws RX8 TX8 15, w ∈ wsX5_read := by decide +kernel
theorem lk_X5_read_21 : Cond.fieldLink RX5 21 "CuckooShares$Roll" "tape" "LCuckooShares$Tape;" ∈ wsX5_read := by decide +kernel
theorem lk_X5_read_33 : Cond.fieldLink RX5 33 "CuckooShares$Roll" "lines" "I" ∈ wsX5_read := by decide +kernel
abbrev L_X5_read : List Rc := [(28, 28, 6, 6), (1, 1, 7, 10), (368, 368, 0, 39), (369, 369, 0, 39), (370, 370, 0, 39), (1, 1, 12, 14)]
abbrev LL_X5_read : List Rc := [(1, 1, 11, 11)]
def P_X5_read (σ0 : Nat → Nat → Int32) (τ0 : Nat → Nat → Int64)  (r : Int32) (σ : Nat → Nat → Int32) (τ : Nat → Nat → Int64) : Prop := Rg σ ∧ Fr L_X5_read σ0 σ ∧ FrL LL_X5_read τ0 τ ∧ (0 ≤ r.toInt ∧ r.toInt ≤ 1) ∧ RI σ
def J_X5_read_5 (p : Program) (l : Launch) (e : Env) (s : State) (m : MethodId) (args : Array Value) (below : List Frame) (meth : Method) (c : Code) (D : va_G) (cA : Nat → ClassId) (ad : Nat → Nat) (σ0 : Nat → Nat → Int32) (τ0 : Nat → Nat → Int64)  (n : Nat) : Prop := ∀ (σ : Nat → Nat → Int32) (τ : Nat → Nat → Int64) (H : Heap) (locs : List Loc)  (ls : Array Slot), Rg σ → Fr L_X5_read σ0 σ → FrL LL_X5_read τ0 τ → va_P D vwCl (gw cA ad σ τ) H → va_S (AA ad) s.heap H locs → (0 ≤ (σ 28 6).toInt ∧ (σ 28 6).toInt ≤ 41) → (RI σ) → lv_has ls 1 [(0, .ref (ad 28))] → 2 * (41 - (σ 28 6).toInt) + 1 < (n : Int) → W p l e ({ frames := 5, cells := 0, slots := 0, locals := 110 } : Room) s m args below meth c H locs 0 0 (MQ below (va_Qi (fun (r : Int32) (u : SS) => P_X5_read σ0 τ0 r u.1 u.2) (WB D cA ad) (AA ad)) args s 0 0 (AA ad)) (F0 m 5 ls [])
set_option maxHeartbeats 4000000 in
theorem B_X5_read_5 (p : Program) (l : Launch) (e : Env) (s : State) (m : MethodId) (args : Array Value) (below : List Frame) (meth : Method) (c : Code) (D : va_G) (cA : Nat → ClassId) (ad : Nat → Nat) (σ0 : Nat → Nat → Int32) (τ0 : Nat → Nat → Int64)  (n : Nat) (C : Cy p s m args meth c cX5_read 1 wsX5_read RX5 D cA ad (some .boolean)) (gRI0 : RI σ0) (K5 : J_X5_read_5 p l e s m args below meth c D cA ad σ0 τ0 n) : J_X5_read_5 p l e s m args below meth c D cA ad σ0 τ0 (n + 1) := by
  obtain ⟨hx, hb, hml, hown, hts, hK, hk, hr, hI, hN⟩ := C
  intro σ τ H locs ls hR hF hFL hP hS hc0 gRI hl hm
  refine lv_aload_n hx hb dX5_read_5 rfl (lv_at hl 0 rfl) ?_
  refine fg_5_0 (k := 28) hx hb hts in_X5_read_5 hown hK hP (by decide) (by decide) (hts _ lk_X5_read_21) dX5_read_6 ?_
  refine fgN_8_9 (k := 1) hx hb hts in_X5_read_8 hown hK hP (by decide) (by decide) (hN.use nw_5_37) dX5_read_9 ?_
  refine r_bipush hx hb dX5_read_12 (by decide) (fun z1 ez1 => ?_)
  refine r_icmp_eq (tgt := 60) hx hb dX5_read_14 (by decide) (fun c2 => ?_) (fun c2 => ?_)
  · refine r_iconst hx hb dX5_read_60 (by decide) (fun z3 ez3 => ?_)
    exact r_zret hx hb hr hK hP hS hk (by omega) dX5_read_61 (show P_X5_read σ0 τ0 z3 σ τ from ⟨hR, hF, hFL, by omega, gRI⟩)
  · refine lv_aload_n hx hb dX5_read_17 rfl (lv_at hl 0 rfl) ?_
    refine fg_5_6 (k := 28) hx hb hts in_X5_read_5 hown hK hP (by decide) (by decide) (hts _ lk_X5_read_33) dX5_read_18 ?_
    refine r_bipush hx hb dX5_read_21 (by decide) (fun z4 ez4 => ?_)
    refine r_icmp_gt (tgt := 60) hx hb dX5_read_23 (by decide) (fun c5 => ?_) (fun c5 => ?_)
    · refine r_iconst hx hb dX5_read_60 (by decide) (fun z6 ez6 => ?_)
      exact r_zret hx hb hr hK hP hS hk (by omega) dX5_read_61 (show P_X5_read σ0 τ0 z6 σ τ from ⟨hR, hF, hFL, by omega, gRI⟩)
    · refine lv_aload_n hx hb dX5_read_26 rfl (lv_at hl 0 rfl) ?_
      refine r_cVi (k := 28) (As := []) (rest := []) ⟨hx, hb, hml, hown, hts⟩ hK hP hN hS (c_X5_readLine l D cA ad hI σ τ hR gRI) (cwV 0 hts gX5_read_X5_readLine rfl rfl rfl (by decide +kernel) ⟨by decide, by decide⟩) (rv_Roll hK hP (by decide) (by decide)) rfl hl.1 rfl (Nat.le_of_ble_eq_true rfl) dX5_read_27 (Nat.zero_le _) (Nat.zero_le _) (fun r7 u7 H7 locs7 hp7 hP hS => ?_)
      obtain ⟨σ7, τ7⟩ := u7
      obtain ⟨hR, f7, fL7, hq7, gnRI⟩ : P_X5_readLine σ τ r7 σ7 τ7 := hp7
      have hP : va_P D vwCl (gw cA ad σ7 τ7) H7 := hP
      have hFL := hFL.step fL7 (by decide)
      have hF := hF.step f7 (by decide)
      have t8 : (σ7 28 6).toInt = (σ 28 6).toInt := congrArg Int32.toInt (f7.at 28 6 (by decide))
      have gRI := gnRI
      refine r_if_eq (tgt := 45) hx hb dX5_read_30 (by decide) (fun c9 => ?_) (fun c9 => ?_)
      · refine r_iconst hx hb dX5_read_45 (by decide) (fun z10 ez10 => ?_)
        exact r_zret hx hb hr hK hP hS hk (by omega) dX5_read_46 (show P_X5_read σ0 τ0 z10 σ7 τ7 from ⟨hR, hF, hFL, by omega, gRI⟩)
      · refine lv_aload_n hx hb dX5_read_33 rfl (lv_at hl 0 rfl) ?_
        refine fg_5_0 (k := 28) hx hb hts in_X5_read_5 hown hK hP (by decide) (by decide) (hts _ lk_X5_read_21) dX5_read_34 ?_
        refine r_bipush hx hb dX5_read_37 (by decide) (fun z11 ez11 => ?_)
        refine r_cVi (k := 1) (As := [.int z11]) (rest := []) ⟨hx, hb, hml, hown, hts⟩ hK hP hN hS (c_X8_take l D cA ad hI σ7 τ7 hR z11 (by omega)) (cwV 1 hts gX5_read_X8_take rfl rfl rfl (by decide +kernel) ⟨by decide, by decide⟩) (rv_Tape hK hP (by decide) (by decide)) rfl hl.1 rfl (Nat.le_of_ble_eq_true rfl) dX5_read_39 (Nat.zero_le _) (Nat.zero_le _) (fun r12 u12 H12 locs12 hp12 hP hS => ?_)
        obtain ⟨σ12, τ12⟩ := u12
        obtain ⟨hR, f12, fL12, hq12⟩ : P_X8_take σ7 τ7 z11 r12 σ12 τ12 := hp12
        have hP : va_P D vwCl (gw cA ad σ12 τ12) H12 := hP
        have hFL := hFL.step fL12 (by decide)
        have hF := hF.step f12 (by decide)
        have gRI := RI.fr gRI f12 (by decide)
        have t13 : (σ12 28 6).toInt = (σ7 28 6).toInt := congrArg Int32.toInt (f12.at 28 6 (by decide))
        refine r_if_ne (tgt := 47) hx hb dX5_read_42 (by decide) (fun c14 => ?_) (fun c14 => ?_)
        · refine lv_aload_n hx hb dX5_read_47 rfl (lv_at hl 0 rfl) ?_
          refine lv_dup hx hb dX5_read_48 rfl ?_
          refine fg_5_6 (k := 28) hx hb hts in_X5_read_5 hown hK hP (by decide) (by decide) (hts _ lk_X5_read_33) dX5_read_49 ?_
          refine r_iconst hx hb dX5_read_52 (by decide) (fun z15 ez15 => ?_)
          refine r_iadd hx hb dX5_read_53 (by omega) (fun z16 ez16 => ?_)
          refine fp_5_6 (k := 28) hx hb hts in_X5_read_5 hown hK hP (by decide) (by decide) (hts _ lk_X5_read_33) hI hR hS (by omega) dX5_read_54 (fun σ17 H17 locs17 u17 v17 hR hP hS => ?_)
          have hF := hF.puts u17 0 rfl (by decide) (by decide) (by decide) (by decide)
          have gRI := RI.put gRI u17 (by decide)
          refine lv_goto (tgt := 5) hx hb dX5_read_57 (by decide) ?_
          exact K5 σ17 τ12 H17 locs17  ls hR hF hFL hP hS (by omega) gRI (lv_sub hl [0] rfl) (by omega)
        · refine r_iconst hx hb dX5_read_45 (by decide) (fun z18 ez18 => ?_)
          exact r_zret hx hb hr hK hP hS hk (by omega) dX5_read_46 (show P_X5_read σ0 τ0 z18 σ12 τ12 from ⟨hR, hF, hFL, by omega, gRI⟩)
theorem A_X5_read (p : Program) (l : Launch) (e : Env) (s : State) (m : MethodId) (args : Array Value) (below : List Frame) (meth : Method) (c : Code) (D : va_G) (cA : Nat → ClassId) (ad : Nat → Nat) (σ0 : Nat → Nat → Int32) (τ0 : Nat → Nat → Int64)  (C : Cy p s m args meth c cX5_read 1 wsX5_read RX5 D cA ad (some .boolean)) (gRI0 : RI σ0) : ∀ n : Nat, J_X5_read_5 p l e s m args below meth c D cA ad σ0 τ0 n := by
  intro n
  induction n with
  | zero =>
    exact (by intro σ τ H locs ls hR hF hFL hP hS hc0 gRI hl hm; exfalso; omega)
  | succ n ih =>
    exact B_X5_read_5 p l e s m args below meth c D cA ad σ0 τ0 n C gRI0 ih
set_option maxHeartbeats 4000000 in
theorem c_X5_read (l : Launch) (D : va_G) (cA : Nat → ClassId) (ad : Nat → Nat) (hI : Inj ad) (σ0 : Nat → Nat → Int32) (τ0 : Nat → Nat → Int64) (hR : Rg σ0)  (gRI0 : RI σ0) : Met l yX5_read wsX5_read ({ frames := 5, cells := 0, slots := 0, locals := 110 } : Room) (WQc D cA ad [.ref (ad 28)] σ0 τ0) (va_Qi (fun (r : Int32) (u : SS) => P_X5_read σ0 τ0 r u.1 u.2) (WB D cA ad) (AA ad)) 0 0 (AA ad) := by
  refine Met.ofW (cc := cX5_read) (maxL := 1) (ret := (some .boolean)) (by decide) rfl ?_
  intro p e s m args below meth c s₁ B hml hv
  obtain ⟨rfl, hP, hK, hN⟩ := hv
  have C : Cy p s m _ meth c cX5_read 1 wsX5_read RX5 D cA ad (some .boolean) := ⟨B.exec, B.bytes, hml, findClass_of_methodNamed B.named, atoms_spec (ws := wsX5_read) B.pre, hK, B.notSynchronized, B.returns, hI, hN⟩
  have hl := lv_entry ([.ref (ad 28)]) (n := 1) (Nat.le_of_ble_eq_true rfl)
  rw [lg_entry_eq]
  generalize (lg_sl ([.ref (ad 28)]) ++ List.replicate (1 - (lg_sl ([.ref (ad 28)])).length) Slot.unset).toArray = ls at hl ⊢
  have hl : lv_has ls 1 [(0, .ref (ad 28))] := hl
  have hS : va_S (AA ad) s.heap s.heap [] := va_S.rf
  have hF : Fr L_X5_read σ0 σ0 := Fr.rf
  have hFL : FrL LL_X5_read τ0 τ0 := FrL.rf
  have gRI := gRI0
  have hA := A_X5_read p l e s m _ below meth c D cA ad σ0 τ0 C gRI0 174
  have K5 := hA
  clear hA
  obtain ⟨hx, hb, _, hown, hts, _, hk, hr, _, _⟩ := C
  refine lv_aload_n hx hb dX5_read_0 rfl (lv_at hl 0 rfl) ?_
  refine r_iconst hx hb dX5_read_1 (by decide) (fun z1 ez1 => ?_)
  refine fp_5_6 (k := 28) hx hb hts in_X5_read_5 hown hK hP (by decide) (by decide) (hts _ lk_X5_read_33) hI hR hS (by omega) dX5_read_2 (fun σ2 H2 locs2 u2 v2 hR hP hS => ?_)
  have hF := hF.puts u2 0 rfl (by decide) (by decide) (by decide) (by decide)
  have gRI := RI.put gRI u2 (by decide)
  exact K5 σ2 τ0 H2 locs2  ls hR hF hFL hP hS (by omega) gRI (lv_sub hl [0] rfl) (by omega)
abbrev L_X8_note : List Rc := [(36, 36, 0, 940), (37, 37, 0, 940), (38, 38, 0, 940), (1, 1, 6, 6)]
abbrev LL_X8_note : List Rc := [(39, 39, 0, 940)]
def P_X8_note (σ0 : Nat → Nat → Int32) (τ0 : Nat → Nat → Int64) (a1 : Int32) (a2 : Int32) (a3 : Int32) (a4 : Int64) (σ : Nat → Nat → Int32) (τ : Nat → Nat → Int64) : Prop := Rg σ ∧ Fr L_X8_note σ0 σ ∧ FrL LL_X8_note τ0 τ
set_option maxHeartbeats 4000000 in
theorem c_X8_note (l : Launch) (D : va_G) (cA : Nat → ClassId) (ad : Nat → Nat) (hI : Inj ad) (σ0 : Nat → Nat → Int32) (τ0 : Nat → Nat → Int64) (hR : Rg σ0) (a1 : Int32) (a2 : Int32) (a3 : Int32) (a4 : Int64) (ha1 : 0 ≤ a1.toInt ∧ a1.toInt ≤ 49) (ha2 : 0 ≤ a2.toInt ∧ a2.toInt ≤ 400) : Met l yX8_note wsX8_note ({ frames := 0, cells := 0, slots := 0, locals := 0 } : Room) (WQc D cA ad [.ref (ad 1), .int a1, .int a2, .int a3, .long a4] σ0 τ0) (va_Qv (fun u : SS => P_X8_note σ0 τ0 a1 a2 a3 a4 u.1 u.2) (WB D cA ad) (AA ad)) 0 0 (AA ad) := by
  refine Met.ofW (cc := cX8_note) (maxL := 6) (ret := none) (by decide) rfl ?_
  intro p e s m args below meth c s₁ B hml hv
  obtain ⟨rfl, hP, hK, hN⟩ := hv
  have C : Cy p s m _ meth c cX8_note 6 wsX8_note RX8 D cA ad none := ⟨B.exec, B.bytes, hml, findClass_of_methodNamed B.named, atoms_spec (ws := wsX8_note) B.pre, hK, B.notSynchronized, B.returns, hI, hN⟩
  have hl := lv_entry ([.ref (ad 1), .int a1, .int a2, .int a3, .long a4]) (n := 6) (Nat.le_of_ble_eq_true rfl)
  rw [lg_entry_eq]
  generalize (lg_sl ([.ref (ad 1), .int a1, .int a2, .int a3, .long a4]) ++ List.replicate (6 - (lg_sl ([.ref (ad 1), .int a1, .int a2, .int a3, .long a4])).length) Slot.unset).toArray = ls at hl ⊢
  have hl : lv_has ls 6 [(0, .ref (ad 1)), (1, .int a1), (2, .int a2), (3, .int a3), (4, .long a4)] := hl
  have hS : va_S (AA ad) s.heap s.heap [] := va_S.rf
  have hF : Fr L_X8_note σ0 σ0 := Fr.rf
  have hFL : FrL LL_X8_note τ0 τ0 := FrL.rf
  obtain ⟨hx, hb, _, hown, hts, _, hk, hr, _, _⟩ := C
  refine lv_aload_n hx hb dX8_note_0 rfl (lv_at hl 0 rfl) ?_
  refine fg_8_6 (k := 1) hx hb hts in_X8_note_8 hown hK hP (by decide) (by decide) (hts _ lk_X8_note_39) dX8_note_1 ?_
  have hr1 := rg_8_6 hR (k := 1) (by decide) (by decide)
  refine lv_aload_n hx hb dX8_note_4 rfl (lv_at hl 0 rfl) ?_
  refine fg_8_1 (k := 1) hx hb hts in_X8_note_8 hown hK hP (by decide) (by decide) (hts _ lk_X8_note_15) dX8_note_5 ?_
  refine al_tokens (k := 36) hx hb hK hP (by decide) (by decide) dX8_note_8 (fun z2 ez2 => ?_)
  refine r_icmp_ge (tgt := 63) hx hb dX8_note_9 (by decide) (fun c3 => ?_) (fun c3 => ?_)
  · exact r_vret hx hb hr hK hP hS hk dX8_note_63 (show P_X8_note σ0 τ0 a1 a2 a3 a4 σ0 τ0 from ⟨hR, hF, hFL⟩)
  · refine lv_aload_n hx hb dX8_note_12 rfl (lv_at hl 0 rfl) ?_
    refine fg_8_1 (k := 1) hx hb hts in_X8_note_8 hown hK hP (by decide) (by decide) (hts _ lk_X8_note_15) dX8_note_13 ?_
    refine lv_aload_n hx hb dX8_note_16 rfl (lv_at hl 0 rfl) ?_
    refine fg_8_6 (k := 1) hx hb hts in_X8_note_8 hown hK hP (by decide) (by decide) (hts _ lk_X8_note_39) dX8_note_17 ?_
    refine lv_iload_n hx hb dX8_note_20 rfl (lv_at hl 1 rfl) ?_
    obtain ⟨j4, ej4⟩ : ∃ j : Nat, (σ0 1 6).toInt = (j : Int) := ⟨_, ti_nat (by omega)⟩
    refine as_tokens (k := 36) (j := j4) hx hb hK hP hI hR hS (by decide) (by decide) ej4 (by omega) dX8_note_21 (fun σ5 H5 locs5 u5 v5 hR hP hS => ?_)
    have hF := hF.puts u5 0 rfl (by decide) (by decide) (by omega) (by omega)
    have t6 : (σ5 1 6).toInt = (σ0 1 6).toInt := congrArg Int32.toInt (u5 1 6 (by omega))
    refine lv_aload_n hx hb dX8_note_22 rfl (lv_at hl 0 rfl) ?_
    refine fg_8_2 (k := 1) hx hb hts in_X8_note_8 hown hK hP (by decide) (by decide) (hts _ lk_X8_note_19) dX8_note_23 ?_
    refine lv_aload_n hx hb dX8_note_26 rfl (lv_at hl 0 rfl) ?_
    refine fg_8_6 (k := 1) hx hb hts in_X8_note_8 hown hK hP (by decide) (by decide) (hts _ lk_X8_note_39) dX8_note_27 ?_
    refine lv_iload_n hx hb dX8_note_30 rfl (lv_at hl 2 rfl) ?_
    refine as_tokens (k := 37) (j := j4) hx hb hK hP hI hR hS (by decide) (by decide) (by omega) (by omega) dX8_note_31 (fun σ7 H7 locs7 u7 v7 hR hP hS => ?_)
    have hF := hF.puts u7 1 rfl (by decide) (by decide) (by omega) (by omega)
    have t8 : (σ7 1 6).toInt = (σ5 1 6).toInt := congrArg Int32.toInt (u7 1 6 (by omega))
    refine lv_aload_n hx hb dX8_note_32 rfl (lv_at hl 0 rfl) ?_
    refine fg_8_3 (k := 1) hx hb hts in_X8_note_8 hown hK hP (by decide) (by decide) (hts _ lk_X8_note_22) dX8_note_33 ?_
    refine lv_aload_n hx hb dX8_note_36 rfl (lv_at hl 0 rfl) ?_
    refine fg_8_6 (k := 1) hx hb hts in_X8_note_8 hown hK hP (by decide) (by decide) (hts _ lk_X8_note_39) dX8_note_37 ?_
    refine lv_iload_n hx hb dX8_note_40 rfl (lv_at hl 3 rfl) ?_
    refine as_tokens (k := 38) (j := j4) hx hb hK hP hI hR hS (by decide) (by decide) (by omega) (by omega) dX8_note_41 (fun σ9 H9 locs9 u9 v9 hR hP hS => ?_)
    have hF := hF.puts u9 2 rfl (by decide) (by decide) (by omega) (by omega)
    have t10 : (σ9 1 6).toInt = (σ7 1 6).toInt := congrArg Int32.toInt (u9 1 6 (by omega))
    refine lv_aload_n hx hb dX8_note_42 rfl (lv_at hl 0 rfl) ?_
    refine fg_8_4 (k := 1) hx hb hts in_X8_note_8 hown hK hP (by decide) (by decide) (hts _ lk_X8_note_25) dX8_note_43 ?_
    refine lv_aload_n hx hb dX8_note_46 rfl (lv_at hl 0 rfl) ?_
    refine fg_8_6 (k := 1) hx hb hts in_X8_note_8 hown hK hP (by decide) (by decide) (hts _ lk_X8_note_39) dX8_note_47 ?_
    refine lv_lload hx hb dX8_note_50 (lv_at hl 4 rfl) ?_
    refine asL_names (k := 39) (j := j4) hx hb hK hP hI hS (by decide) (by decide) (by omega) (by omega) dX8_note_52 (fun τ11 H11 locs11 uL11 vL11 hP hS => ?_)
    have hFL := hFL.puts uL11 0 rfl (by decide) (by decide) (by omega) (by omega)
    refine lv_aload_n hx hb dX8_note_53 rfl (lv_at hl 0 rfl) ?_
    refine lv_dup hx hb dX8_note_54 rfl ?_
    refine fg_8_6 (k := 1) hx hb hts in_X8_note_8 hown hK hP (by decide) (by decide) (hts _ lk_X8_note_39) dX8_note_55 ?_
    refine r_iconst hx hb dX8_note_58 (by decide) (fun z12 ez12 => ?_)
    refine r_iadd hx hb dX8_note_59 (by omega) (fun z13 ez13 => ?_)
    refine fp_8_6 (k := 1) hx hb hts in_X8_note_8 hown hK hP (by decide) (by decide) (hts _ lk_X8_note_39) hI hR hS (by omega) dX8_note_60 (fun σ14 H14 locs14 u14 v14 hR hP hS => ?_)
    have hF := hF.puts u14 3 rfl (by decide) (by decide) (by decide) (by decide)
    exact r_vret hx hb hr hK hP hS hk dX8_note_63 (show P_X8_note σ0 τ0 a1 a2 a3 a4 σ14 τ11 from ⟨hR, hF, hFL⟩)
abbrev L_X8_isWord_s0 : List Rc := []
abbrev LL_X8_isWord_s0 : List Rc := []
def P_X8_isWord_s0 (σ0 : Nat → Nat → Int32) (τ0 : Nat → Nat → Int64) (a2 : Int32) (a3 : Int32) (a4 : Int32) (r : Int32) (σ : Nat → Nat → Int32) (τ : Nat → Nat → Int64) : Prop := Rg σ ∧ Fr L_X8_isWord_s0 σ0 σ ∧ FrL LL_X8_isWord_s0 τ0 τ ∧ (0 ≤ r.toInt ∧ r.toInt ≤ 1)
def J_X8_isWord_s0_3 (p : Program) (l : Launch) (e : Env) (s : State) (m : MethodId) (args : Array Value) (below : List Frame) (meth : Method) (c : Code) (D : va_G) (cA : Nat → ClassId) (ad : Nat → Nat) (σ0 : Nat → Nat → Int32) (τ0 : Nat → Nat → Int64) (a2 : Int32) (a3 : Int32) (a4 : Int32) (n : Nat) : Prop := ∀ (σ : Nat → Nat → Int32) (τ : Nat → Nat → Int64) (H : Heap) (locs : List Loc) (x5 : Int32) (ls : Array Slot), Rg σ → Fr L_X8_isWord_s0 σ0 σ → FrL LL_X8_isWord_s0 τ0 τ → va_P D vwCl (gw cA ad σ τ) H → va_S (AA ad) s.heap H locs → (0 ≤ x5.toInt ∧ x5.toInt ≤ 7) → lv_has ls 7 [(0, .ref (ad 1)), (1, .ref (ad 407)), (2, .int a2), (3, .int a3), (4, .int a4), (5, .int x5)] → 3 * (7 - x5.toInt) + 2 < (n : Int) → W p l e ({ frames := 4, cells := 0, slots := 0, locals := 85 } : Room) s m args below meth c H locs 0 0 (MQ below (va_Qi (fun (r : Int32) (u : SS) => P_X8_isWord_s0 σ0 τ0 a2 a3 a4 r u.1 u.2) (WB D cA ad) (AA ad)) args s 0 0 (AA ad)) (F0 m 3 ls [])
def J_X8_isWord_s0_32 (p : Program) (l : Launch) (e : Env) (s : State) (m : MethodId) (args : Array Value) (below : List Frame) (meth : Method) (c : Code) (D : va_G) (cA : Nat → ClassId) (ad : Nat → Nat) (σ0 : Nat → Nat → Int32) (τ0 : Nat → Nat → Int64) (a2 : Int32) (a3 : Int32) (a4 : Int32) (n : Nat) : Prop := ∀ (σ : Nat → Nat → Int32) (τ : Nat → Nat → Int64) (H : Heap) (locs : List Loc) (x5 : Int32) (w0 : Int32) (ls : Array Slot), Rg σ → Fr L_X8_isWord_s0 σ0 σ → FrL LL_X8_isWord_s0 τ0 τ → va_P D vwCl (gw cA ad σ τ) H → va_S (AA ad) s.heap H locs → (0 ≤ x5.toInt ∧ x5.toInt ≤ 6) → (0 ≤ w0.toInt ∧ w0.toInt ≤ 255) → lv_has ls 7 [(0, .ref (ad 1)), (1, .ref (ad 407)), (2, .int a2), (3, .int a3), (4, .int a4), (5, .int x5)] → 3 * (7 - x5.toInt) + 1 < (n : Int) → W p l e ({ frames := 4, cells := 0, slots := 0, locals := 85 } : Room) s m args below meth c H locs 0 0 (MQ below (va_Qi (fun (r : Int32) (u : SS) => P_X8_isWord_s0 σ0 τ0 a2 a3 a4 r u.1 u.2) (WB D cA ad) (AA ad)) args s 0 0 (AA ad)) (F0 m 32 ls [.int w0])
set_option maxHeartbeats 4000000 in
theorem B_X8_isWord_s0_3 (p : Program) (l : Launch) (e : Env) (s : State) (m : MethodId) (args : Array Value) (below : List Frame) (meth : Method) (c : Code) (D : va_G) (cA : Nat → ClassId) (ad : Nat → Nat) (σ0 : Nat → Nat → Int32) (τ0 : Nat → Nat → Int64) (a2 : Int32) (a3 : Int32) (a4 : Int32) (n : Nat) (C : Cy p s m args meth c cX8_isWord 7 wsX8_isWord RX8 D cA ad (some .boolean)) (ha2 : 0 ≤ a2.toInt ∧ a2.toInt ≤ 13) (ha3 : 0 ≤ a3.toInt ∧ a3.toInt ≤ 399) (ha4 : 0 ≤ a4.toInt ∧ a4.toInt ≤ 940) (K3 : J_X8_isWord_s0_3 p l e s m args below meth c D cA ad σ0 τ0 a2 a3 a4 n) (K32 : J_X8_isWord_s0_32 p l e s m args below meth c D cA ad σ0 τ0 a2 a3 a4 n) : J_X8_isWord_s0_3 p l e s m args below meth c D cA ad σ0 τ0 a2 a3 a4 (n + 1) := by
  obtain ⟨hx, hb, hml, hown, hts, hK, hk, hr, hI, hN⟩ := C
  intro σ τ H locs x5 ls hR hF hFL hP hS hc0 hl hm
  obtain rfl := Fr.nil hF
  obtain rfl := FrL.nil hFL
  refine lv_iload hx hb dX8_isWord_3 (lv_at hl 5 rfl) ?_
  refine r_bipush hx hb dX8_isWord_5 (by decide) (fun z1 ez1 => ?_)
  refine r_icmp_ge (tgt := 58) hx hb dX8_isWord_7 (by decide) (fun c2 => ?_) (fun c2 => ?_)
  · refine r_iconst hx hb dX8_isWord_58 (by decide) (fun z3 ez3 => ?_)
    exact r_zret hx hb hr hK hP hS hk (by omega) dX8_isWord_59 (show P_X8_isWord_s0 σ0 τ0 a2 a3 a4 z3 σ0 τ0 from ⟨hR, hF, hFL, by omega⟩)
  · refine lv_iload_n hx hb dX8_isWord_10 rfl (lv_at hl 3 rfl) ?_
    refine lv_iload hx hb dX8_isWord_11 (lv_at hl 5 rfl) ?_
    refine r_iadd hx hb dX8_isWord_13 (by omega) (fun z4 ez4 => ?_)
    refine lv_iload hx hb dX8_isWord_14 (lv_at hl 4 rfl) ?_
    refine r_icmp_ge (tgt := 30) hx hb dX8_isWord_16 (by decide) (fun c5 => ?_) (fun c5 => ?_)
    · refine r_bipush hx hb dX8_isWord_30 (by decide) (fun z6 ez6 => ?_)
      exact K32 σ0 τ0 H locs x5 z6 ls hR hF hFL hP hS (by omega) (by omega) (lv_sub hl [0, 1, 2, 3, 4, 5] rfl) (by omega)
    · refine lv_aload_n hx hb dX8_isWord_19 rfl (lv_at hl 0 rfl) ?_
      refine lv_iload_n hx hb dX8_isWord_20 rfl (lv_at hl 3 rfl) ?_
      refine lv_iload hx hb dX8_isWord_21 (lv_at hl 5 rfl) ?_
      refine r_iadd hx hb dX8_isWord_23 (by omega) (fun z7 ez7 => ?_)
      refine r_cVi (k := 1) (As := [.int z7]) (rest := []) ⟨hx, hb, hml, hown, hts⟩ hK hP hN hS (c_X8_byteAt l D cA ad hI σ0 τ0 hR z7 (by omega)) (cwV 1 hts gX8_isWord_X8_byteAt rfl rfl rfl (by decide +kernel) ⟨by decide, by decide⟩) (rv_Tape hK hP (by decide) (by decide)) rfl hl.1 rfl (Nat.le_of_ble_eq_true rfl) dX8_isWord_24 (Nat.zero_le _) (Nat.zero_le _) (fun r8 u8 H8 locs8 hp8 hP hS => ?_)
      obtain ⟨σ8, τ8⟩ := u8
      obtain ⟨hR, f8, fL8, hq8, hp8_0⟩ : P_X8_byteAt σ0 τ0 z7 r8 σ8 τ8 := hp8
      have hP : va_P D vwCl (gw cA ad σ8 τ8) H8 := hP
      obtain rfl := FrL.nil fL8
      obtain rfl := Fr.nil f8
      refine lv_goto (tgt := 32) hx hb dX8_isWord_27 (by decide) ?_
      exact K32 σ0 τ0 H8 locs8 x5 r8 ls hR hF hFL hP hS (by omega) (by omega) (lv_sub hl [0, 1, 2, 3, 4, 5] rfl) (by omega)
set_option maxHeartbeats 4000000 in
theorem B_X8_isWord_s0_32 (p : Program) (l : Launch) (e : Env) (s : State) (m : MethodId) (args : Array Value) (below : List Frame) (meth : Method) (c : Code) (D : va_G) (cA : Nat → ClassId) (ad : Nat → Nat) (σ0 : Nat → Nat → Int32) (τ0 : Nat → Nat → Int64) (a2 : Int32) (a3 : Int32) (a4 : Int32) (n : Nat) (C : Cy p s m args meth c cX8_isWord 7 wsX8_isWord RX8 D cA ad (some .boolean)) (ha2 : 0 ≤ a2.toInt ∧ a2.toInt ≤ 13) (ha3 : 0 ≤ a3.toInt ∧ a3.toInt ≤ 399) (ha4 : 0 ≤ a4.toInt ∧ a4.toInt ≤ 940) (K3 : J_X8_isWord_s0_3 p l e s m args below meth c D cA ad σ0 τ0 a2 a3 a4 n) (K32 : J_X8_isWord_s0_32 p l e s m args below meth c D cA ad σ0 τ0 a2 a3 a4 n) : J_X8_isWord_s0_32 p l e s m args below meth c D cA ad σ0 τ0 a2 a3 a4 (n + 1) := by
  obtain ⟨hx, hb, hml, hown, hts, hK, hk, hr, hI, hN⟩ := C
  intro σ τ H locs x5 w0 ls hR hF hFL hP hS hc0 hc1 hl hm
  obtain rfl := Fr.nil hF
  obtain rfl := FrL.nil hFL
  refine lv_istore (lv' := [(6, .int w0), (0, .ref (ad 1)), (1, .ref (ad 407)), (2, .int a2), (3, .int a3), (4, .int a4), (5, .int x5)]) hx hb dX8_isWord_32 hl (by decide) rfl (fun ls hl => ?_)
  refine lv_aload_n hx hb dX8_isWord_34 rfl (lv_at hl 2 rfl) ?_
  refine lv_iload_n hx hb dX8_isWord_35 rfl (lv_at hl 3 rfl) ?_
  refine r_bipush hx hb dX8_isWord_36 (by decide) (fun z1 ez1 => ?_)
  refine r_imulR (n := 7) hx hb dX8_isWord_38 (by omega) (by omega) (fun z2 ez2 => ?_)
  refine lv_iload hx hb dX8_isWord_39 (lv_at hl 6 rfl) ?_
  refine r_iadd hx hb dX8_isWord_41 (by omega) (fun z3 ez3 => ?_)
  refine r_cVi (k := 407) (As := [.int z3]) (rest := []) ⟨hx, hb, hml, hown, hts⟩ hK hP hN hS (c_J0_charAt_5068e_s0 l D cA ad hI σ0 τ0 hR z3 (by omega)) (cwV 1 hts gX8_isWord_J0_charAt_5068e rfl rfl rfl (by decide +kernel) ⟨by decide, by decide⟩) (so_0 hN hS) rfl hl.1 rfl (Nat.le_of_ble_eq_true rfl) dX8_isWord_42 (Nat.zero_le _) (Nat.zero_le _) (fun r4 u4 H4 locs4 hp4 hP hS => ?_)
  obtain ⟨σ4, τ4⟩ := u4
  obtain ⟨hR, f4, fL4, hq4, hp4_0⟩ : P_J0_charAt_5068e_s0 σ0 τ0 z3 r4 σ4 τ4 := hp4
  have hP : va_P D vwCl (gw cA ad σ4 τ4) H4 := hP
  obtain rfl := FrL.nil fL4
  obtain rfl := Fr.nil f4
  refine lv_iload hx hb dX8_isWord_45 (lv_at hl 0 rfl) ?_
  refine r_icmp_eq (tgt := 52) hx hb dX8_isWord_47 (by decide) (fun c5 => ?_) (fun c5 => ?_)
  · refine r_iinc (k := 6) (lv1 := fun z6 => [(5, .int z6), (6, .int w0), (0, .ref (ad 1)), (1, .ref (ad 407)), (2, .int a2), (3, .int a3), (4, .int a4)]) hx hb dX8_isWord_52 hl rfl (by decide) (fun _ => rfl) (by decide) (by omega) (fun z6 ls ez6 hl => ?_)
    refine lv_goto (tgt := 3) hx hb dX8_isWord_55 (by decide) ?_
    exact K3 σ0 τ0 H4 locs4 z6 ls hR hF hFL hP hS (by omega) (lv_sub hl [2, 3, 4, 5, 6, 0] rfl) (by omega)
  · refine r_iconst hx hb dX8_isWord_50 (by decide) (fun z7 ez7 => ?_)
    exact r_zret hx hb hr hK hP hS hk (by omega) dX8_isWord_51 (show P_X8_isWord_s0 σ0 τ0 a2 a3 a4 z7 σ0 τ0 from ⟨hR, hF, hFL, by omega⟩)
theorem A_X8_isWord_s0 (p : Program) (l : Launch) (e : Env) (s : State) (m : MethodId) (args : Array Value) (below : List Frame) (meth : Method) (c : Code) (D : va_G) (cA : Nat → ClassId) (ad : Nat → Nat) (σ0 : Nat → Nat → Int32) (τ0 : Nat → Nat → Int64) (a2 : Int32) (a3 : Int32) (a4 : Int32) (C : Cy p s m args meth c cX8_isWord 7 wsX8_isWord RX8 D cA ad (some .boolean)) (ha2 : 0 ≤ a2.toInt ∧ a2.toInt ≤ 13) (ha3 : 0 ≤ a3.toInt ∧ a3.toInt ≤ 399) (ha4 : 0 ≤ a4.toInt ∧ a4.toInt ≤ 940) : ∀ n : Nat, J_X8_isWord_s0_3 p l e s m args below meth c D cA ad σ0 τ0 a2 a3 a4 n ∧ J_X8_isWord_s0_32 p l e s m args below meth c D cA ad σ0 τ0 a2 a3 a4 n := by
  intro n
  induction n with
  | zero =>
    exact ⟨(by intro σ τ H locs x5 ls hR hF hFL hP hS hc0 hl hm; exfalso; omega), (by intro σ τ H locs x5 w0 ls hR hF hFL hP hS hc0 hc1 hl hm; exfalso; omega)⟩
  | succ n ih =>
    exact ⟨B_X8_isWord_s0_3 p l e s m args below meth c D cA ad σ0 τ0 a2 a3 a4 n C ha2 ha3 ha4 ih.1 ih.2, B_X8_isWord_s0_32 p l e s m args below meth c D cA ad σ0 τ0 a2 a3 a4 n C ha2 ha3 ha4 ih.1 ih.2⟩
set_option maxHeartbeats 4000000 in
theorem c_X8_isWord_s0 (l : Launch) (D : va_G) (cA : Nat → ClassId) (ad : Nat → Nat) (hI : Inj ad) (σ0 : Nat → Nat → Int32) (τ0 : Nat → Nat → Int64) (hR : Rg σ0) (a2 : Int32) (a3 : Int32) (a4 : Int32) (ha2 : 0 ≤ a2.toInt ∧ a2.toInt ≤ 13) (ha3 : 0 ≤ a3.toInt ∧ a3.toInt ≤ 399) (ha4 : 0 ≤ a4.toInt ∧ a4.toInt ≤ 940) : Met l yX8_isWord wsX8_isWord ({ frames := 4, cells := 0, slots := 0, locals := 85 } : Room) (WQc D cA ad [.ref (ad 1), .ref (ad 407), .int a2, .int a3, .int a4] σ0 τ0) (va_Qi (fun (r : Int32) (u : SS) => P_X8_isWord_s0 σ0 τ0 a2 a3 a4 r u.1 u.2) (WB D cA ad) (AA ad)) 0 0 (AA ad) := by
  refine Met.ofW (cc := cX8_isWord) (maxL := 7) (ret := (some .boolean)) (by decide) rfl ?_
  intro p e s m args below meth c s₁ B hml hv
  obtain ⟨rfl, hP, hK, hN⟩ := hv
  have C : Cy p s m _ meth c cX8_isWord 7 wsX8_isWord RX8 D cA ad (some .boolean) := ⟨B.exec, B.bytes, hml, findClass_of_methodNamed B.named, atoms_spec (ws := wsX8_isWord) B.pre, hK, B.notSynchronized, B.returns, hI, hN⟩
  have hl := lv_entry ([.ref (ad 1), .ref (ad 407), .int a2, .int a3, .int a4]) (n := 7) (Nat.le_of_ble_eq_true rfl)
  rw [lg_entry_eq]
  generalize (lg_sl ([.ref (ad 1), .ref (ad 407), .int a2, .int a3, .int a4]) ++ List.replicate (7 - (lg_sl ([.ref (ad 1), .ref (ad 407), .int a2, .int a3, .int a4])).length) Slot.unset).toArray = ls at hl ⊢
  have hl : lv_has ls 7 [(0, .ref (ad 1)), (1, .ref (ad 407)), (2, .int a2), (3, .int a3), (4, .int a4)] := hl
  have hS : va_S (AA ad) s.heap s.heap [] := va_S.rf
  have hF : Fr L_X8_isWord_s0 σ0 σ0 := Fr.rf
  have hFL : FrL LL_X8_isWord_s0 τ0 τ0 := FrL.rf
  have hA := A_X8_isWord_s0 p l e s m _ below meth c D cA ad σ0 τ0 a2 a3 a4 C ha2 ha3 ha4 55
  have K3 := hA.1
  have K32 := hA.2
  clear hA
  obtain ⟨hx, hb, _, hown, hts, _, hk, hr, _, _⟩ := C
  refine r_iconst hx hb dX8_isWord_0 (by decide) (fun z1 ez1 => ?_)
  refine lv_istore (lv' := [(5, .int z1), (0, .ref (ad 1)), (1, .ref (ad 407)), (2, .int a2), (3, .int a3), (4, .int a4)]) hx hb dX8_isWord_1 hl (by decide) rfl (fun ls hl => ?_)
  exact K3 σ0 τ0 s.heap [] z1 ls hR hF hFL hP hS (by omega) (lv_sub hl [1, 2, 3, 4, 5, 0] rfl) (by omega)
abbrev L_X8_wordIn_s0 : List Rc := []
abbrev LL_X8_wordIn_s0 : List Rc := []
def P_X8_wordIn_s0 (σ0 : Nat → Nat → Int32) (τ0 : Nat → Nat → Int64) (a2 : Int32) (a3 : Int32) (r : Int32) (σ : Nat → Nat → Int32) (τ : Nat → Nat → Int64) : Prop := Rg σ ∧ Fr L_X8_wordIn_s0 σ0 σ ∧ FrL LL_X8_wordIn_s0 τ0 τ ∧ (-1 ≤ r.toInt ∧ r.toInt ≤ 13)
def J_X8_wordIn_s0_3 (p : Program) (l : Launch) (e : Env) (s : State) (m : MethodId) (args : Array Value) (below : List Frame) (meth : Method) (c : Code) (D : va_G) (cA : Nat → ClassId) (ad : Nat → Nat) (σ0 : Nat → Nat → Int32) (τ0 : Nat → Nat → Int64) (a2 : Int32) (a3 : Int32) (n : Nat) : Prop := ∀ (σ : Nat → Nat → Int32) (τ : Nat → Nat → Int64) (H : Heap) (locs : List Loc) (x4 : Int32) (ls : Array Slot), Rg σ → Fr L_X8_wordIn_s0 σ0 σ → FrL LL_X8_wordIn_s0 τ0 τ → va_P D vwCl (gw cA ad σ τ) H → va_S (AA ad) s.heap H locs → (0 ≤ x4.toInt ∧ x4.toInt ≤ 19) → lv_has ls 5 [(0, .ref (ad 1)), (1, .ref (ad 407)), (2, .int a2), (3, .int a3), (4, .int x4)] → 2 * (19 - x4.toInt) + 1 < (n : Int) → W p l e ({ frames := 5, cells := 0, slots := 0, locals := 111 } : Room) s m args below meth c H locs 0 0 (MQ below (va_Qi (fun (r : Int32) (u : SS) => P_X8_wordIn_s0 σ0 τ0 a2 a3 r u.1 u.2) (WB D cA ad) (AA ad)) args s 0 0 (AA ad)) (F0 m 3 ls [])
set_option maxHeartbeats 4000000 in
theorem B_X8_wordIn_s0_3 (p : Program) (l : Launch) (e : Env) (s : State) (m : MethodId) (args : Array Value) (below : List Frame) (meth : Method) (c : Code) (D : va_G) (cA : Nat → ClassId) (ad : Nat → Nat) (σ0 : Nat → Nat → Int32) (τ0 : Nat → Nat → Int64) (a2 : Int32) (a3 : Int32) (n : Nat) (C : Cy p s m args meth c cX8_wordIn 5 wsX8_wordIn RX8 D cA ad (some .int)) (ha2 : 0 ≤ a2.toInt ∧ a2.toInt ≤ 399) (ha3 : 0 ≤ a3.toInt ∧ a3.toInt ≤ 940) (K3 : J_X8_wordIn_s0_3 p l e s m args below meth c D cA ad σ0 τ0 a2 a3 n) : J_X8_wordIn_s0_3 p l e s m args below meth c D cA ad σ0 τ0 a2 a3 (n + 1) := by
  obtain ⟨hx, hb, hml, hown, hts, hK, hk, hr, hI, hN⟩ := C
  intro σ τ H locs x4 ls hR hF hFL hP hS hc0 hl hm
  obtain rfl := Fr.nil hF
  obtain rfl := FrL.nil hFL
  refine lv_iload hx hb dX8_wordIn_3 (lv_at hl 4 rfl) ?_
  refine r_iconst hx hb dX8_wordIn_5 (by decide) (fun z1 ez1 => ?_)
  refine r_iadd hx hb dX8_wordIn_6 (by omega) (fun z2 ez2 => ?_)
  refine r_bipush hx hb dX8_wordIn_7 (by decide) (fun z3 ez3 => ?_)
  refine r_imulR (n := 7) hx hb dX8_wordIn_9 (by omega) (by omega) (fun z4 ez4 => ?_)
  refine lv_aload_n hx hb dX8_wordIn_10 rfl (lv_at hl 1 rfl) ?_
  refine r_cVi (k := 407) (As := []) (rest := [.int z4]) ⟨hx, hb, hml, hown, hts⟩ hK hP hN hS (c_J0_length_8abf5_s0 l D cA ad hI σ0 τ0 hR) (cwV 0 hts gX8_wordIn_J0_length_8abf5 rfl rfl rfl (by decide +kernel) ⟨by decide, by decide⟩) (so_0 hN hS) rfl hl.1 rfl (Nat.le_of_ble_eq_true rfl) dX8_wordIn_11 (Nat.zero_le _) (Nat.zero_le _) (fun r5 u5 H5 locs5 hp5 hP hS => ?_)
  obtain ⟨σ5, τ5⟩ := u5
  obtain ⟨hR, f5, fL5, hq5⟩ : P_J0_length_8abf5_s0 σ0 τ0 r5 σ5 τ5 := hp5
  have hP : va_P D vwCl (gw cA ad σ5 τ5) H5 := hP
  obtain rfl := FrL.nil fL5
  obtain rfl := Fr.nil f5
  refine r_icmp_gt (tgt := 38) hx hb dX8_wordIn_14 (by decide) (fun c6 => ?_) (fun c6 => ?_)
  · refine r_iconst hx hb dX8_wordIn_38 (by decide) (fun z7 ez7 => ?_)
    exact r_iret hx hb hr hK hP hS hk dX8_wordIn_39 (show P_X8_wordIn_s0 σ0 τ0 a2 a3 z7 σ0 τ0 from ⟨hR, hF, hFL, by omega⟩)
  · refine lv_aload_n hx hb dX8_wordIn_17 rfl (lv_at hl 0 rfl) ?_
    refine lv_aload_n hx hb dX8_wordIn_18 rfl (lv_at hl 1 rfl) ?_
    refine lv_iload hx hb dX8_wordIn_19 (lv_at hl 4 rfl) ?_
    refine lv_iload_n hx hb dX8_wordIn_21 rfl (lv_at hl 2 rfl) ?_
    refine lv_iload_n hx hb dX8_wordIn_22 rfl (lv_at hl 3 rfl) ?_
    refine r_cVi (k := 1) (As := [.ref (ad 407), .int x4, .int a2, .int a3]) (rest := []) ⟨hx, hb, hml, hown, hts⟩ hK hP hN hS (c_X8_isWord_s0 l D cA ad hI σ0 τ0 hR x4 a2 a3 (by omega) (by omega) (by omega)) (cwV 4 hts gX8_wordIn_X8_isWord rfl rfl rfl (by decide +kernel) ⟨by decide, by decide⟩) (rv_Tape hK hP (by decide) (by decide)) rfl hl.1 rfl (Nat.le_of_ble_eq_true rfl) dX8_wordIn_23 (Nat.zero_le _) (Nat.zero_le _) (fun r8 u8 H8 locs8 hp8 hP hS => ?_)
    obtain ⟨σ8, τ8⟩ := u8
    obtain ⟨hR, f8, fL8, hq8⟩ : P_X8_isWord_s0 σ0 τ0 x4 a2 a3 r8 σ8 τ8 := hp8
    have hP : va_P D vwCl (gw cA ad σ8 τ8) H8 := hP
    obtain rfl := FrL.nil fL8
    obtain rfl := Fr.nil f8
    refine r_if_eq (tgt := 32) hx hb dX8_wordIn_26 (by decide) (fun c9 => ?_) (fun c9 => ?_)
    · refine r_iinc (k := 4) (lv1 := fun z10 => [(4, .int z10), (0, .ref (ad 1)), (1, .ref (ad 407)), (2, .int a2), (3, .int a3)]) hx hb dX8_wordIn_32 hl rfl (by decide) (fun _ => rfl) (by decide) (by omega) (fun z10 ls ez10 hl => ?_)
      refine lv_goto (tgt := 3) hx hb dX8_wordIn_35 (by decide) ?_
      exact K3 σ0 τ0 H8 locs8 z10 ls hR hF hFL hP hS (by omega) (lv_sub hl [1, 2, 3, 4, 0] rfl) (by omega)
    · refine lv_iload hx hb dX8_wordIn_29 (lv_at hl 4 rfl) ?_
      exact r_iret hx hb hr hK hP hS hk dX8_wordIn_31 (show P_X8_wordIn_s0 σ0 τ0 a2 a3 x4 σ0 τ0 from ⟨hR, hF, hFL, by omega⟩)
theorem A_X8_wordIn_s0 (p : Program) (l : Launch) (e : Env) (s : State) (m : MethodId) (args : Array Value) (below : List Frame) (meth : Method) (c : Code) (D : va_G) (cA : Nat → ClassId) (ad : Nat → Nat) (σ0 : Nat → Nat → Int32) (τ0 : Nat → Nat → Int64) (a2 : Int32) (a3 : Int32) (C : Cy p s m args meth c cX8_wordIn 5 wsX8_wordIn RX8 D cA ad (some .int)) (ha2 : 0 ≤ a2.toInt ∧ a2.toInt ≤ 399) (ha3 : 0 ≤ a3.toInt ∧ a3.toInt ≤ 940) : ∀ n : Nat, J_X8_wordIn_s0_3 p l e s m args below meth c D cA ad σ0 τ0 a2 a3 n := by
  intro n
  induction n with
  | zero =>
    exact (by intro σ τ H locs x4 ls hR hF hFL hP hS hc0 hl hm; exfalso; omega)
  | succ n ih =>
    exact B_X8_wordIn_s0_3 p l e s m args below meth c D cA ad σ0 τ0 a2 a3 n C ha2 ha3 ih
set_option maxHeartbeats 4000000 in
theorem c_X8_wordIn_s0 (l : Launch) (D : va_G) (cA : Nat → ClassId) (ad : Nat → Nat) (hI : Inj ad) (σ0 : Nat → Nat → Int32) (τ0 : Nat → Nat → Int64) (hR : Rg σ0) (a2 : Int32) (a3 : Int32) (ha2 : 0 ≤ a2.toInt ∧ a2.toInt ≤ 399) (ha3 : 0 ≤ a3.toInt ∧ a3.toInt ≤ 940) : Met l yX8_wordIn wsX8_wordIn ({ frames := 5, cells := 0, slots := 0, locals := 111 } : Room) (WQc D cA ad [.ref (ad 1), .ref (ad 407), .int a2, .int a3] σ0 τ0) (va_Qi (fun (r : Int32) (u : SS) => P_X8_wordIn_s0 σ0 τ0 a2 a3 r u.1 u.2) (WB D cA ad) (AA ad)) 0 0 (AA ad) := by
  refine Met.ofW (cc := cX8_wordIn) (maxL := 5) (ret := (some .int)) (by decide) rfl ?_
  intro p e s m args below meth c s₁ B hml hv
  obtain ⟨rfl, hP, hK, hN⟩ := hv
  have C : Cy p s m _ meth c cX8_wordIn 5 wsX8_wordIn RX8 D cA ad (some .int) := ⟨B.exec, B.bytes, hml, findClass_of_methodNamed B.named, atoms_spec (ws := wsX8_wordIn) B.pre, hK, B.notSynchronized, B.returns, hI, hN⟩
  have hl := lv_entry ([.ref (ad 1), .ref (ad 407), .int a2, .int a3]) (n := 5) (Nat.le_of_ble_eq_true rfl)
  rw [lg_entry_eq]
  generalize (lg_sl ([.ref (ad 1), .ref (ad 407), .int a2, .int a3]) ++ List.replicate (5 - (lg_sl ([.ref (ad 1), .ref (ad 407), .int a2, .int a3])).length) Slot.unset).toArray = ls at hl ⊢
  have hl : lv_has ls 5 [(0, .ref (ad 1)), (1, .ref (ad 407)), (2, .int a2), (3, .int a3)] := hl
  have hS : va_S (AA ad) s.heap s.heap [] := va_S.rf
  have hF : Fr L_X8_wordIn_s0 σ0 σ0 := Fr.rf
  have hFL : FrL LL_X8_wordIn_s0 τ0 τ0 := FrL.rf
  have hA := A_X8_wordIn_s0 p l e s m _ below meth c D cA ad σ0 τ0 a2 a3 C ha2 ha3 86
  have K3 := hA
  clear hA
  obtain ⟨hx, hb, _, hown, hts, _, hk, hr, _, _⟩ := C
  refine r_iconst hx hb dX8_wordIn_0 (by decide) (fun z1 ez1 => ?_)
  refine lv_istore (lv' := [(4, .int z1), (0, .ref (ad 1)), (1, .ref (ad 407)), (2, .int a2), (3, .int a3)]) hx hb dX8_wordIn_1 hl (by decide) rfl (fun ls hl => ?_)
  exact K3 σ0 τ0 s.heap [] z1 ls hR hF hFL hP hS (by omega) (lv_sub hl [1, 2, 3, 4, 0] rfl) (by omega)
abbrev L_X8_isWord_s1 : List Rc := []
abbrev LL_X8_isWord_s1 : List Rc := []
def P_X8_isWord_s1 (σ0 : Nat → Nat → Int32) (τ0 : Nat → Nat → Int64) (a2 : Int32) (a3 : Int32) (a4 : Int32) (r : Int32) (σ : Nat → Nat → Int32) (τ : Nat → Nat → Int64) : Prop := Rg σ ∧ Fr L_X8_isWord_s1 σ0 σ ∧ FrL LL_X8_isWord_s1 τ0 τ ∧ (0 ≤ r.toInt ∧ r.toInt ≤ 1)
def J_X8_isWord_s1_3 (p : Program) (l : Launch) (e : Env) (s : State) (m : MethodId) (args : Array Value) (below : List Frame) (meth : Method) (c : Code) (D : va_G) (cA : Nat → ClassId) (ad : Nat → Nat) (σ0 : Nat → Nat → Int32) (τ0 : Nat → Nat → Int64) (a2 : Int32) (a3 : Int32) (a4 : Int32) (n : Nat) : Prop := ∀ (σ : Nat → Nat → Int32) (τ : Nat → Nat → Int64) (H : Heap) (locs : List Loc) (x5 : Int32) (ls : Array Slot), Rg σ → Fr L_X8_isWord_s1 σ0 σ → FrL LL_X8_isWord_s1 τ0 τ → va_P D vwCl (gw cA ad σ τ) H → va_S (AA ad) s.heap H locs → (0 ≤ x5.toInt ∧ x5.toInt ≤ 7) → lv_has ls 7 [(0, .ref (ad 1)), (1, .ref (ad 408)), (2, .int a2), (3, .int a3), (4, .int a4), (5, .int x5)] → 3 * (7 - x5.toInt) + 2 < (n : Int) → W p l e ({ frames := 4, cells := 0, slots := 0, locals := 85 } : Room) s m args below meth c H locs 0 0 (MQ below (va_Qi (fun (r : Int32) (u : SS) => P_X8_isWord_s1 σ0 τ0 a2 a3 a4 r u.1 u.2) (WB D cA ad) (AA ad)) args s 0 0 (AA ad)) (F0 m 3 ls [])
def J_X8_isWord_s1_32 (p : Program) (l : Launch) (e : Env) (s : State) (m : MethodId) (args : Array Value) (below : List Frame) (meth : Method) (c : Code) (D : va_G) (cA : Nat → ClassId) (ad : Nat → Nat) (σ0 : Nat → Nat → Int32) (τ0 : Nat → Nat → Int64) (a2 : Int32) (a3 : Int32) (a4 : Int32) (n : Nat) : Prop := ∀ (σ : Nat → Nat → Int32) (τ : Nat → Nat → Int64) (H : Heap) (locs : List Loc) (x5 : Int32) (w0 : Int32) (ls : Array Slot), Rg σ → Fr L_X8_isWord_s1 σ0 σ → FrL LL_X8_isWord_s1 τ0 τ → va_P D vwCl (gw cA ad σ τ) H → va_S (AA ad) s.heap H locs → (0 ≤ x5.toInt ∧ x5.toInt ≤ 6) → (0 ≤ w0.toInt ∧ w0.toInt ≤ 255) → lv_has ls 7 [(0, .ref (ad 1)), (1, .ref (ad 408)), (2, .int a2), (3, .int a3), (4, .int a4), (5, .int x5)] → 3 * (7 - x5.toInt) + 1 < (n : Int) → W p l e ({ frames := 4, cells := 0, slots := 0, locals := 85 } : Room) s m args below meth c H locs 0 0 (MQ below (va_Qi (fun (r : Int32) (u : SS) => P_X8_isWord_s1 σ0 τ0 a2 a3 a4 r u.1 u.2) (WB D cA ad) (AA ad)) args s 0 0 (AA ad)) (F0 m 32 ls [.int w0])
set_option maxHeartbeats 4000000 in
theorem B_X8_isWord_s1_3 (p : Program) (l : Launch) (e : Env) (s : State) (m : MethodId) (args : Array Value) (below : List Frame) (meth : Method) (c : Code) (D : va_G) (cA : Nat → ClassId) (ad : Nat → Nat) (σ0 : Nat → Nat → Int32) (τ0 : Nat → Nat → Int64) (a2 : Int32) (a3 : Int32) (a4 : Int32) (n : Nat) (C : Cy p s m args meth c cX8_isWord 7 wsX8_isWord RX8 D cA ad (some .boolean)) (ha2 : 0 ≤ a2.toInt ∧ a2.toInt ≤ 5) (ha3 : 0 ≤ a3.toInt ∧ a3.toInt ≤ 399) (ha4 : 0 ≤ a4.toInt ∧ a4.toInt ≤ 940) (K3 : J_X8_isWord_s1_3 p l e s m args below meth c D cA ad σ0 τ0 a2 a3 a4 n) (K32 : J_X8_isWord_s1_32 p l e s m args below meth c D cA ad σ0 τ0 a2 a3 a4 n) : J_X8_isWord_s1_3 p l e s m args below meth c D cA ad σ0 τ0 a2 a3 a4 (n + 1) := by
  obtain ⟨hx, hb, hml, hown, hts, hK, hk, hr, hI, hN⟩ := C
  intro σ τ H locs x5 ls hR hF hFL hP hS hc0 hl hm
  obtain rfl := Fr.nil hF
  obtain rfl := FrL.nil hFL
  refine lv_iload hx hb dX8_isWord_3 (lv_at hl 5 rfl) ?_
  refine r_bipush hx hb dX8_isWord_5 (by decide) (fun z1 ez1 => ?_)
  refine r_icmp_ge (tgt := 58) hx hb dX8_isWord_7 (by decide) (fun c2 => ?_) (fun c2 => ?_)
  · refine r_iconst hx hb dX8_isWord_58 (by decide) (fun z3 ez3 => ?_)
    exact r_zret hx hb hr hK hP hS hk (by omega) dX8_isWord_59 (show P_X8_isWord_s1 σ0 τ0 a2 a3 a4 z3 σ0 τ0 from ⟨hR, hF, hFL, by omega⟩)
  · refine lv_iload_n hx hb dX8_isWord_10 rfl (lv_at hl 3 rfl) ?_
    refine lv_iload hx hb dX8_isWord_11 (lv_at hl 5 rfl) ?_
    refine r_iadd hx hb dX8_isWord_13 (by omega) (fun z4 ez4 => ?_)
    refine lv_iload hx hb dX8_isWord_14 (lv_at hl 4 rfl) ?_
    refine r_icmp_ge (tgt := 30) hx hb dX8_isWord_16 (by decide) (fun c5 => ?_) (fun c5 => ?_)
    · refine r_bipush hx hb dX8_isWord_30 (by decide) (fun z6 ez6 => ?_)
      exact K32 σ0 τ0 H locs x5 z6 ls hR hF hFL hP hS (by omega) (by omega) (lv_sub hl [0, 1, 2, 3, 4, 5] rfl) (by omega)
    · refine lv_aload_n hx hb dX8_isWord_19 rfl (lv_at hl 0 rfl) ?_
      refine lv_iload_n hx hb dX8_isWord_20 rfl (lv_at hl 3 rfl) ?_
      refine lv_iload hx hb dX8_isWord_21 (lv_at hl 5 rfl) ?_
      refine r_iadd hx hb dX8_isWord_23 (by omega) (fun z7 ez7 => ?_)
      refine r_cVi (k := 1) (As := [.int z7]) (rest := []) ⟨hx, hb, hml, hown, hts⟩ hK hP hN hS (c_X8_byteAt l D cA ad hI σ0 τ0 hR z7 (by omega)) (cwV 1 hts gX8_isWord_X8_byteAt rfl rfl rfl (by decide +kernel) ⟨by decide, by decide⟩) (rv_Tape hK hP (by decide) (by decide)) rfl hl.1 rfl (Nat.le_of_ble_eq_true rfl) dX8_isWord_24 (Nat.zero_le _) (Nat.zero_le _) (fun r8 u8 H8 locs8 hp8 hP hS => ?_)
      obtain ⟨σ8, τ8⟩ := u8
      obtain ⟨hR, f8, fL8, hq8, hp8_0⟩ : P_X8_byteAt σ0 τ0 z7 r8 σ8 τ8 := hp8
      have hP : va_P D vwCl (gw cA ad σ8 τ8) H8 := hP
      obtain rfl := FrL.nil fL8
      obtain rfl := Fr.nil f8
      refine lv_goto (tgt := 32) hx hb dX8_isWord_27 (by decide) ?_
      exact K32 σ0 τ0 H8 locs8 x5 r8 ls hR hF hFL hP hS (by omega) (by omega) (lv_sub hl [0, 1, 2, 3, 4, 5] rfl) (by omega)
set_option maxHeartbeats 4000000 in
theorem B_X8_isWord_s1_32 (p : Program) (l : Launch) (e : Env) (s : State) (m : MethodId) (args : Array Value) (below : List Frame) (meth : Method) (c : Code) (D : va_G) (cA : Nat → ClassId) (ad : Nat → Nat) (σ0 : Nat → Nat → Int32) (τ0 : Nat → Nat → Int64) (a2 : Int32) (a3 : Int32) (a4 : Int32) (n : Nat) (C : Cy p s m args meth c cX8_isWord 7 wsX8_isWord RX8 D cA ad (some .boolean)) (ha2 : 0 ≤ a2.toInt ∧ a2.toInt ≤ 5) (ha3 : 0 ≤ a3.toInt ∧ a3.toInt ≤ 399) (ha4 : 0 ≤ a4.toInt ∧ a4.toInt ≤ 940) (K3 : J_X8_isWord_s1_3 p l e s m args below meth c D cA ad σ0 τ0 a2 a3 a4 n) (K32 : J_X8_isWord_s1_32 p l e s m args below meth c D cA ad σ0 τ0 a2 a3 a4 n) : J_X8_isWord_s1_32 p l e s m args below meth c D cA ad σ0 τ0 a2 a3 a4 (n + 1) := by
  obtain ⟨hx, hb, hml, hown, hts, hK, hk, hr, hI, hN⟩ := C
  intro σ τ H locs x5 w0 ls hR hF hFL hP hS hc0 hc1 hl hm
  obtain rfl := Fr.nil hF
  obtain rfl := FrL.nil hFL
  refine lv_istore (lv' := [(6, .int w0), (0, .ref (ad 1)), (1, .ref (ad 408)), (2, .int a2), (3, .int a3), (4, .int a4), (5, .int x5)]) hx hb dX8_isWord_32 hl (by decide) rfl (fun ls hl => ?_)
  refine lv_aload_n hx hb dX8_isWord_34 rfl (lv_at hl 2 rfl) ?_
  refine lv_iload_n hx hb dX8_isWord_35 rfl (lv_at hl 3 rfl) ?_
  refine r_bipush hx hb dX8_isWord_36 (by decide) (fun z1 ez1 => ?_)
  refine r_imulR (n := 7) hx hb dX8_isWord_38 (by omega) (by omega) (fun z2 ez2 => ?_)
  refine lv_iload hx hb dX8_isWord_39 (lv_at hl 6 rfl) ?_
  refine r_iadd hx hb dX8_isWord_41 (by omega) (fun z3 ez3 => ?_)
  refine r_cVi (k := 408) (As := [.int z3]) (rest := []) ⟨hx, hb, hml, hown, hts⟩ hK hP hN hS (c_J0_charAt_5068e_s1 l D cA ad hI σ0 τ0 hR z3 (by omega)) (cwV 1 hts gX8_isWord_J0_charAt_5068e rfl rfl rfl (by decide +kernel) ⟨by decide, by decide⟩) (so_1 hN hS) rfl hl.1 rfl (Nat.le_of_ble_eq_true rfl) dX8_isWord_42 (Nat.zero_le _) (Nat.zero_le _) (fun r4 u4 H4 locs4 hp4 hP hS => ?_)
  obtain ⟨σ4, τ4⟩ := u4
  obtain ⟨hR, f4, fL4, hq4, hp4_0⟩ : P_J0_charAt_5068e_s1 σ0 τ0 z3 r4 σ4 τ4 := hp4
  have hP : va_P D vwCl (gw cA ad σ4 τ4) H4 := hP
  obtain rfl := FrL.nil fL4
  obtain rfl := Fr.nil f4
  refine lv_iload hx hb dX8_isWord_45 (lv_at hl 0 rfl) ?_
  refine r_icmp_eq (tgt := 52) hx hb dX8_isWord_47 (by decide) (fun c5 => ?_) (fun c5 => ?_)
  · refine r_iinc (k := 6) (lv1 := fun z6 => [(5, .int z6), (6, .int w0), (0, .ref (ad 1)), (1, .ref (ad 408)), (2, .int a2), (3, .int a3), (4, .int a4)]) hx hb dX8_isWord_52 hl rfl (by decide) (fun _ => rfl) (by decide) (by omega) (fun z6 ls ez6 hl => ?_)
    refine lv_goto (tgt := 3) hx hb dX8_isWord_55 (by decide) ?_
    exact K3 σ0 τ0 H4 locs4 z6 ls hR hF hFL hP hS (by omega) (lv_sub hl [2, 3, 4, 5, 6, 0] rfl) (by omega)
  · refine r_iconst hx hb dX8_isWord_50 (by decide) (fun z7 ez7 => ?_)
    exact r_zret hx hb hr hK hP hS hk (by omega) dX8_isWord_51 (show P_X8_isWord_s1 σ0 τ0 a2 a3 a4 z7 σ0 τ0 from ⟨hR, hF, hFL, by omega⟩)
theorem A_X8_isWord_s1 (p : Program) (l : Launch) (e : Env) (s : State) (m : MethodId) (args : Array Value) (below : List Frame) (meth : Method) (c : Code) (D : va_G) (cA : Nat → ClassId) (ad : Nat → Nat) (σ0 : Nat → Nat → Int32) (τ0 : Nat → Nat → Int64) (a2 : Int32) (a3 : Int32) (a4 : Int32) (C : Cy p s m args meth c cX8_isWord 7 wsX8_isWord RX8 D cA ad (some .boolean)) (ha2 : 0 ≤ a2.toInt ∧ a2.toInt ≤ 5) (ha3 : 0 ≤ a3.toInt ∧ a3.toInt ≤ 399) (ha4 : 0 ≤ a4.toInt ∧ a4.toInt ≤ 940) : ∀ n : Nat, J_X8_isWord_s1_3 p l e s m args below meth c D cA ad σ0 τ0 a2 a3 a4 n ∧ J_X8_isWord_s1_32 p l e s m args below meth c D cA ad σ0 τ0 a2 a3 a4 n := by
  intro n
  induction n with
  | zero =>
    exact ⟨(by intro σ τ H locs x5 ls hR hF hFL hP hS hc0 hl hm; exfalso; omega), (by intro σ τ H locs x5 w0 ls hR hF hFL hP hS hc0 hc1 hl hm; exfalso; omega)⟩
  | succ n ih =>
    exact ⟨B_X8_isWord_s1_3 p l e s m args below meth c D cA ad σ0 τ0 a2 a3 a4 n C ha2 ha3 ha4 ih.1 ih.2, B_X8_isWord_s1_32 p l e s m args below meth c D cA ad σ0 τ0 a2 a3 a4 n C ha2 ha3 ha4 ih.1 ih.2⟩
set_option maxHeartbeats 4000000 in
theorem c_X8_isWord_s1 (l : Launch) (D : va_G) (cA : Nat → ClassId) (ad : Nat → Nat) (hI : Inj ad) (σ0 : Nat → Nat → Int32) (τ0 : Nat → Nat → Int64) (hR : Rg σ0) (a2 : Int32) (a3 : Int32) (a4 : Int32) (ha2 : 0 ≤ a2.toInt ∧ a2.toInt ≤ 5) (ha3 : 0 ≤ a3.toInt ∧ a3.toInt ≤ 399) (ha4 : 0 ≤ a4.toInt ∧ a4.toInt ≤ 940) : Met l yX8_isWord wsX8_isWord ({ frames := 4, cells := 0, slots := 0, locals := 85 } : Room) (WQc D cA ad [.ref (ad 1), .ref (ad 408), .int a2, .int a3, .int a4] σ0 τ0) (va_Qi (fun (r : Int32) (u : SS) => P_X8_isWord_s1 σ0 τ0 a2 a3 a4 r u.1 u.2) (WB D cA ad) (AA ad)) 0 0 (AA ad) := by
  refine Met.ofW (cc := cX8_isWord) (maxL := 7) (ret := (some .boolean)) (by decide) rfl ?_
  intro p e s m args below meth c s₁ B hml hv
  obtain ⟨rfl, hP, hK, hN⟩ := hv
  have C : Cy p s m _ meth c cX8_isWord 7 wsX8_isWord RX8 D cA ad (some .boolean) := ⟨B.exec, B.bytes, hml, findClass_of_methodNamed B.named, atoms_spec (ws := wsX8_isWord) B.pre, hK, B.notSynchronized, B.returns, hI, hN⟩
  have hl := lv_entry ([.ref (ad 1), .ref (ad 408), .int a2, .int a3, .int a4]) (n := 7) (Nat.le_of_ble_eq_true rfl)
  rw [lg_entry_eq]
  generalize (lg_sl ([.ref (ad 1), .ref (ad 408), .int a2, .int a3, .int a4]) ++ List.replicate (7 - (lg_sl ([.ref (ad 1), .ref (ad 408), .int a2, .int a3, .int a4])).length) Slot.unset).toArray = ls at hl ⊢
  have hl : lv_has ls 7 [(0, .ref (ad 1)), (1, .ref (ad 408)), (2, .int a2), (3, .int a3), (4, .int a4)] := hl
  have hS : va_S (AA ad) s.heap s.heap [] := va_S.rf
  have hF : Fr L_X8_isWord_s1 σ0 σ0 := Fr.rf
  have hFL : FrL LL_X8_isWord_s1 τ0 τ0 := FrL.rf
  have hA := A_X8_isWord_s1 p l e s m _ below meth c D cA ad σ0 τ0 a2 a3 a4 C ha2 ha3 ha4 55
  have K3 := hA.1
  have K32 := hA.2
  clear hA
  obtain ⟨hx, hb, _, hown, hts, _, hk, hr, _, _⟩ := C
  refine r_iconst hx hb dX8_isWord_0 (by decide) (fun z1 ez1 => ?_)
  refine lv_istore (lv' := [(5, .int z1), (0, .ref (ad 1)), (1, .ref (ad 408)), (2, .int a2), (3, .int a3), (4, .int a4)]) hx hb dX8_isWord_1 hl (by decide) rfl (fun ls hl => ?_)
  exact K3 σ0 τ0 s.heap [] z1 ls hR hF hFL hP hS (by omega) (lv_sub hl [1, 2, 3, 4, 5, 0] rfl) (by omega)
abbrev L_X8_wordIn_s1 : List Rc := []
abbrev LL_X8_wordIn_s1 : List Rc := []
def P_X8_wordIn_s1 (σ0 : Nat → Nat → Int32) (τ0 : Nat → Nat → Int64) (a2 : Int32) (a3 : Int32) (r : Int32) (σ : Nat → Nat → Int32) (τ : Nat → Nat → Int64) : Prop := Rg σ ∧ Fr L_X8_wordIn_s1 σ0 σ ∧ FrL LL_X8_wordIn_s1 τ0 τ ∧ (-1 ≤ r.toInt ∧ r.toInt ≤ 5)
def J_X8_wordIn_s1_3 (p : Program) (l : Launch) (e : Env) (s : State) (m : MethodId) (args : Array Value) (below : List Frame) (meth : Method) (c : Code) (D : va_G) (cA : Nat → ClassId) (ad : Nat → Nat) (σ0 : Nat → Nat → Int32) (τ0 : Nat → Nat → Int64) (a2 : Int32) (a3 : Int32) (n : Nat) : Prop := ∀ (σ : Nat → Nat → Int32) (τ : Nat → Nat → Int64) (H : Heap) (locs : List Loc) (x4 : Int32) (ls : Array Slot), Rg σ → Fr L_X8_wordIn_s1 σ0 σ → FrL LL_X8_wordIn_s1 τ0 τ → va_P D vwCl (gw cA ad σ τ) H → va_S (AA ad) s.heap H locs → (0 ≤ x4.toInt ∧ x4.toInt ≤ 6) → lv_has ls 5 [(0, .ref (ad 1)), (1, .ref (ad 408)), (2, .int a2), (3, .int a3), (4, .int x4)] → 2 * (6 - x4.toInt) + 1 < (n : Int) → W p l e ({ frames := 5, cells := 0, slots := 0, locals := 111 } : Room) s m args below meth c H locs 0 0 (MQ below (va_Qi (fun (r : Int32) (u : SS) => P_X8_wordIn_s1 σ0 τ0 a2 a3 r u.1 u.2) (WB D cA ad) (AA ad)) args s 0 0 (AA ad)) (F0 m 3 ls [])
set_option maxHeartbeats 4000000 in
theorem B_X8_wordIn_s1_3 (p : Program) (l : Launch) (e : Env) (s : State) (m : MethodId) (args : Array Value) (below : List Frame) (meth : Method) (c : Code) (D : va_G) (cA : Nat → ClassId) (ad : Nat → Nat) (σ0 : Nat → Nat → Int32) (τ0 : Nat → Nat → Int64) (a2 : Int32) (a3 : Int32) (n : Nat) (C : Cy p s m args meth c cX8_wordIn 5 wsX8_wordIn RX8 D cA ad (some .int)) (ha2 : 0 ≤ a2.toInt ∧ a2.toInt ≤ 399) (ha3 : 0 ≤ a3.toInt ∧ a3.toInt ≤ 940) (K3 : J_X8_wordIn_s1_3 p l e s m args below meth c D cA ad σ0 τ0 a2 a3 n) : J_X8_wordIn_s1_3 p l e s m args below meth c D cA ad σ0 τ0 a2 a3 (n + 1) := by
  obtain ⟨hx, hb, hml, hown, hts, hK, hk, hr, hI, hN⟩ := C
  intro σ τ H locs x4 ls hR hF hFL hP hS hc0 hl hm
  obtain rfl := Fr.nil hF
  obtain rfl := FrL.nil hFL
  refine lv_iload hx hb dX8_wordIn_3 (lv_at hl 4 rfl) ?_
  refine r_iconst hx hb dX8_wordIn_5 (by decide) (fun z1 ez1 => ?_)
  refine r_iadd hx hb dX8_wordIn_6 (by omega) (fun z2 ez2 => ?_)
  refine r_bipush hx hb dX8_wordIn_7 (by decide) (fun z3 ez3 => ?_)
  refine r_imulR (n := 7) hx hb dX8_wordIn_9 (by omega) (by omega) (fun z4 ez4 => ?_)
  refine lv_aload_n hx hb dX8_wordIn_10 rfl (lv_at hl 1 rfl) ?_
  refine r_cVi (k := 408) (As := []) (rest := [.int z4]) ⟨hx, hb, hml, hown, hts⟩ hK hP hN hS (c_J0_length_8abf5_s1 l D cA ad hI σ0 τ0 hR) (cwV 0 hts gX8_wordIn_J0_length_8abf5 rfl rfl rfl (by decide +kernel) ⟨by decide, by decide⟩) (so_1 hN hS) rfl hl.1 rfl (Nat.le_of_ble_eq_true rfl) dX8_wordIn_11 (Nat.zero_le _) (Nat.zero_le _) (fun r5 u5 H5 locs5 hp5 hP hS => ?_)
  obtain ⟨σ5, τ5⟩ := u5
  obtain ⟨hR, f5, fL5, hq5⟩ : P_J0_length_8abf5_s1 σ0 τ0 r5 σ5 τ5 := hp5
  have hP : va_P D vwCl (gw cA ad σ5 τ5) H5 := hP
  obtain rfl := FrL.nil fL5
  obtain rfl := Fr.nil f5
  refine r_icmp_gt (tgt := 38) hx hb dX8_wordIn_14 (by decide) (fun c6 => ?_) (fun c6 => ?_)
  · refine r_iconst hx hb dX8_wordIn_38 (by decide) (fun z7 ez7 => ?_)
    exact r_iret hx hb hr hK hP hS hk dX8_wordIn_39 (show P_X8_wordIn_s1 σ0 τ0 a2 a3 z7 σ0 τ0 from ⟨hR, hF, hFL, by omega⟩)
  · refine lv_aload_n hx hb dX8_wordIn_17 rfl (lv_at hl 0 rfl) ?_
    refine lv_aload_n hx hb dX8_wordIn_18 rfl (lv_at hl 1 rfl) ?_
    refine lv_iload hx hb dX8_wordIn_19 (lv_at hl 4 rfl) ?_
    refine lv_iload_n hx hb dX8_wordIn_21 rfl (lv_at hl 2 rfl) ?_
    refine lv_iload_n hx hb dX8_wordIn_22 rfl (lv_at hl 3 rfl) ?_
    refine r_cVi (k := 1) (As := [.ref (ad 408), .int x4, .int a2, .int a3]) (rest := []) ⟨hx, hb, hml, hown, hts⟩ hK hP hN hS (c_X8_isWord_s1 l D cA ad hI σ0 τ0 hR x4 a2 a3 (by omega) (by omega) (by omega)) (cwV 4 hts gX8_wordIn_X8_isWord rfl rfl rfl (by decide +kernel) ⟨by decide, by decide⟩) (rv_Tape hK hP (by decide) (by decide)) rfl hl.1 rfl (Nat.le_of_ble_eq_true rfl) dX8_wordIn_23 (Nat.zero_le _) (Nat.zero_le _) (fun r8 u8 H8 locs8 hp8 hP hS => ?_)
    obtain ⟨σ8, τ8⟩ := u8
    obtain ⟨hR, f8, fL8, hq8⟩ : P_X8_isWord_s1 σ0 τ0 x4 a2 a3 r8 σ8 τ8 := hp8
    have hP : va_P D vwCl (gw cA ad σ8 τ8) H8 := hP
    obtain rfl := FrL.nil fL8
    obtain rfl := Fr.nil f8
    refine r_if_eq (tgt := 32) hx hb dX8_wordIn_26 (by decide) (fun c9 => ?_) (fun c9 => ?_)
    · refine r_iinc (k := 4) (lv1 := fun z10 => [(4, .int z10), (0, .ref (ad 1)), (1, .ref (ad 408)), (2, .int a2), (3, .int a3)]) hx hb dX8_wordIn_32 hl rfl (by decide) (fun _ => rfl) (by decide) (by omega) (fun z10 ls ez10 hl => ?_)
      refine lv_goto (tgt := 3) hx hb dX8_wordIn_35 (by decide) ?_
      exact K3 σ0 τ0 H8 locs8 z10 ls hR hF hFL hP hS (by omega) (lv_sub hl [1, 2, 3, 4, 0] rfl) (by omega)
    · refine lv_iload hx hb dX8_wordIn_29 (lv_at hl 4 rfl) ?_
      exact r_iret hx hb hr hK hP hS hk dX8_wordIn_31 (show P_X8_wordIn_s1 σ0 τ0 a2 a3 x4 σ0 τ0 from ⟨hR, hF, hFL, by omega⟩)
theorem A_X8_wordIn_s1 (p : Program) (l : Launch) (e : Env) (s : State) (m : MethodId) (args : Array Value) (below : List Frame) (meth : Method) (c : Code) (D : va_G) (cA : Nat → ClassId) (ad : Nat → Nat) (σ0 : Nat → Nat → Int32) (τ0 : Nat → Nat → Int64) (a2 : Int32) (a3 : Int32) (C : Cy p s m args meth c cX8_wordIn 5 wsX8_wordIn RX8 D cA ad (some .int)) (ha2 : 0 ≤ a2.toInt ∧ a2.toInt ≤ 399) (ha3 : 0 ≤ a3.toInt ∧ a3.toInt ≤ 940) : ∀ n : Nat, J_X8_wordIn_s1_3 p l e s m args below meth c D cA ad σ0 τ0 a2 a3 n := by
  intro n
  induction n with
  | zero =>
    exact (by intro σ τ H locs x4 ls hR hF hFL hP hS hc0 hl hm; exfalso; omega)
  | succ n ih =>
    exact B_X8_wordIn_s1_3 p l e s m args below meth c D cA ad σ0 τ0 a2 a3 n C ha2 ha3 ih
set_option maxHeartbeats 4000000 in
theorem c_X8_wordIn_s1 (l : Launch) (D : va_G) (cA : Nat → ClassId) (ad : Nat → Nat) (hI : Inj ad) (σ0 : Nat → Nat → Int32) (τ0 : Nat → Nat → Int64) (hR : Rg σ0) (a2 : Int32) (a3 : Int32) (ha2 : 0 ≤ a2.toInt ∧ a2.toInt ≤ 399) (ha3 : 0 ≤ a3.toInt ∧ a3.toInt ≤ 940) : Met l yX8_wordIn wsX8_wordIn ({ frames := 5, cells := 0, slots := 0, locals := 111 } : Room) (WQc D cA ad [.ref (ad 1), .ref (ad 408), .int a2, .int a3] σ0 τ0) (va_Qi (fun (r : Int32) (u : SS) => P_X8_wordIn_s1 σ0 τ0 a2 a3 r u.1 u.2) (WB D cA ad) (AA ad)) 0 0 (AA ad) := by
  refine Met.ofW (cc := cX8_wordIn) (maxL := 5) (ret := (some .int)) (by decide) rfl ?_
  intro p e s m args below meth c s₁ B hml hv
  obtain ⟨rfl, hP, hK, hN⟩ := hv
  have C : Cy p s m _ meth c cX8_wordIn 5 wsX8_wordIn RX8 D cA ad (some .int) := ⟨B.exec, B.bytes, hml, findClass_of_methodNamed B.named, atoms_spec (ws := wsX8_wordIn) B.pre, hK, B.notSynchronized, B.returns, hI, hN⟩
  have hl := lv_entry ([.ref (ad 1), .ref (ad 408), .int a2, .int a3]) (n := 5) (Nat.le_of_ble_eq_true rfl)
  rw [lg_entry_eq]
  generalize (lg_sl ([.ref (ad 1), .ref (ad 408), .int a2, .int a3]) ++ List.replicate (5 - (lg_sl ([.ref (ad 1), .ref (ad 408), .int a2, .int a3])).length) Slot.unset).toArray = ls at hl ⊢
  have hl : lv_has ls 5 [(0, .ref (ad 1)), (1, .ref (ad 408)), (2, .int a2), (3, .int a3)] := hl
  have hS : va_S (AA ad) s.heap s.heap [] := va_S.rf
  have hF : Fr L_X8_wordIn_s1 σ0 σ0 := Fr.rf
  have hFL : FrL LL_X8_wordIn_s1 τ0 τ0 := FrL.rf
  have hA := A_X8_wordIn_s1 p l e s m _ below meth c D cA ad σ0 τ0 a2 a3 C ha2 ha3 34
  have K3 := hA
  clear hA
  obtain ⟨hx, hb, _, hown, hts, _, hk, hr, _, _⟩ := C
  refine r_iconst hx hb dX8_wordIn_0 (by decide) (fun z1 ez1 => ?_)
  refine lv_istore (lv' := [(4, .int z1), (0, .ref (ad 1)), (1, .ref (ad 408)), (2, .int a2), (3, .int a3)]) hx hb dX8_wordIn_1 hl (by decide) rfl (fun ls hl => ?_)
  exact K3 σ0 τ0 s.heap [] z1 ls hR hF hFL hP hS (by omega) (lv_sub hl [1, 2, 3, 4, 0] rfl) (by omega)
abbrev L_X8_isWord_s2 : List Rc := []
abbrev LL_X8_isWord_s2 : List Rc := []
def P_X8_isWord_s2 (σ0 : Nat → Nat → Int32) (τ0 : Nat → Nat → Int64) (a2 : Int32) (a3 : Int32) (a4 : Int32) (r : Int32) (σ : Nat → Nat → Int32) (τ : Nat → Nat → Int64) : Prop := Rg σ ∧ Fr L_X8_isWord_s2 σ0 σ ∧ FrL LL_X8_isWord_s2 τ0 τ ∧ (0 ≤ r.toInt ∧ r.toInt ≤ 1)
def J_X8_isWord_s2_3 (p : Program) (l : Launch) (e : Env) (s : State) (m : MethodId) (args : Array Value) (below : List Frame) (meth : Method) (c : Code) (D : va_G) (cA : Nat → ClassId) (ad : Nat → Nat) (σ0 : Nat → Nat → Int32) (τ0 : Nat → Nat → Int64) (a2 : Int32) (a3 : Int32) (a4 : Int32) (n : Nat) : Prop := ∀ (σ : Nat → Nat → Int32) (τ : Nat → Nat → Int64) (H : Heap) (locs : List Loc) (x5 : Int32) (ls : Array Slot), Rg σ → Fr L_X8_isWord_s2 σ0 σ → FrL LL_X8_isWord_s2 τ0 τ → va_P D vwCl (gw cA ad σ τ) H → va_S (AA ad) s.heap H locs → (0 ≤ x5.toInt ∧ x5.toInt ≤ 7) → lv_has ls 7 [(0, .ref (ad 1)), (1, .ref (ad 409)), (2, .int a2), (3, .int a3), (4, .int a4), (5, .int x5)] → 3 * (7 - x5.toInt) + 2 < (n : Int) → W p l e ({ frames := 4, cells := 0, slots := 0, locals := 85 } : Room) s m args below meth c H locs 0 0 (MQ below (va_Qi (fun (r : Int32) (u : SS) => P_X8_isWord_s2 σ0 τ0 a2 a3 a4 r u.1 u.2) (WB D cA ad) (AA ad)) args s 0 0 (AA ad)) (F0 m 3 ls [])
def J_X8_isWord_s2_32 (p : Program) (l : Launch) (e : Env) (s : State) (m : MethodId) (args : Array Value) (below : List Frame) (meth : Method) (c : Code) (D : va_G) (cA : Nat → ClassId) (ad : Nat → Nat) (σ0 : Nat → Nat → Int32) (τ0 : Nat → Nat → Int64) (a2 : Int32) (a3 : Int32) (a4 : Int32) (n : Nat) : Prop := ∀ (σ : Nat → Nat → Int32) (τ : Nat → Nat → Int64) (H : Heap) (locs : List Loc) (x5 : Int32) (w0 : Int32) (ls : Array Slot), Rg σ → Fr L_X8_isWord_s2 σ0 σ → FrL LL_X8_isWord_s2 τ0 τ → va_P D vwCl (gw cA ad σ τ) H → va_S (AA ad) s.heap H locs → (0 ≤ x5.toInt ∧ x5.toInt ≤ 6) → (0 ≤ w0.toInt ∧ w0.toInt ≤ 255) → lv_has ls 7 [(0, .ref (ad 1)), (1, .ref (ad 409)), (2, .int a2), (3, .int a3), (4, .int a4), (5, .int x5)] → 3 * (7 - x5.toInt) + 1 < (n : Int) → W p l e ({ frames := 4, cells := 0, slots := 0, locals := 85 } : Room) s m args below meth c H locs 0 0 (MQ below (va_Qi (fun (r : Int32) (u : SS) => P_X8_isWord_s2 σ0 τ0 a2 a3 a4 r u.1 u.2) (WB D cA ad) (AA ad)) args s 0 0 (AA ad)) (F0 m 32 ls [.int w0])
set_option maxHeartbeats 4000000 in
theorem B_X8_isWord_s2_3 (p : Program) (l : Launch) (e : Env) (s : State) (m : MethodId) (args : Array Value) (below : List Frame) (meth : Method) (c : Code) (D : va_G) (cA : Nat → ClassId) (ad : Nat → Nat) (σ0 : Nat → Nat → Int32) (τ0 : Nat → Nat → Int64) (a2 : Int32) (a3 : Int32) (a4 : Int32) (n : Nat) (C : Cy p s m args meth c cX8_isWord 7 wsX8_isWord RX8 D cA ad (some .boolean)) (ha2 : 0 ≤ a2.toInt ∧ a2.toInt ≤ 10) (ha3 : 0 ≤ a3.toInt ∧ a3.toInt ≤ 399) (ha4 : 0 ≤ a4.toInt ∧ a4.toInt ≤ 940) (K3 : J_X8_isWord_s2_3 p l e s m args below meth c D cA ad σ0 τ0 a2 a3 a4 n) (K32 : J_X8_isWord_s2_32 p l e s m args below meth c D cA ad σ0 τ0 a2 a3 a4 n) : J_X8_isWord_s2_3 p l e s m args below meth c D cA ad σ0 τ0 a2 a3 a4 (n + 1) := by
  obtain ⟨hx, hb, hml, hown, hts, hK, hk, hr, hI, hN⟩ := C
  intro σ τ H locs x5 ls hR hF hFL hP hS hc0 hl hm
  obtain rfl := Fr.nil hF
  obtain rfl := FrL.nil hFL
  refine lv_iload hx hb dX8_isWord_3 (lv_at hl 5 rfl) ?_
  refine r_bipush hx hb dX8_isWord_5 (by decide) (fun z1 ez1 => ?_)
  refine r_icmp_ge (tgt := 58) hx hb dX8_isWord_7 (by decide) (fun c2 => ?_) (fun c2 => ?_)
  · refine r_iconst hx hb dX8_isWord_58 (by decide) (fun z3 ez3 => ?_)
    exact r_zret hx hb hr hK hP hS hk (by omega) dX8_isWord_59 (show P_X8_isWord_s2 σ0 τ0 a2 a3 a4 z3 σ0 τ0 from ⟨hR, hF, hFL, by omega⟩)
  · refine lv_iload_n hx hb dX8_isWord_10 rfl (lv_at hl 3 rfl) ?_
    refine lv_iload hx hb dX8_isWord_11 (lv_at hl 5 rfl) ?_
    refine r_iadd hx hb dX8_isWord_13 (by omega) (fun z4 ez4 => ?_)
    refine lv_iload hx hb dX8_isWord_14 (lv_at hl 4 rfl) ?_
    refine r_icmp_ge (tgt := 30) hx hb dX8_isWord_16 (by decide) (fun c5 => ?_) (fun c5 => ?_)
    · refine r_bipush hx hb dX8_isWord_30 (by decide) (fun z6 ez6 => ?_)
      exact K32 σ0 τ0 H locs x5 z6 ls hR hF hFL hP hS (by omega) (by omega) (lv_sub hl [0, 1, 2, 3, 4, 5] rfl) (by omega)
    · refine lv_aload_n hx hb dX8_isWord_19 rfl (lv_at hl 0 rfl) ?_
      refine lv_iload_n hx hb dX8_isWord_20 rfl (lv_at hl 3 rfl) ?_
      refine lv_iload hx hb dX8_isWord_21 (lv_at hl 5 rfl) ?_
      refine r_iadd hx hb dX8_isWord_23 (by omega) (fun z7 ez7 => ?_)
      refine r_cVi (k := 1) (As := [.int z7]) (rest := []) ⟨hx, hb, hml, hown, hts⟩ hK hP hN hS (c_X8_byteAt l D cA ad hI σ0 τ0 hR z7 (by omega)) (cwV 1 hts gX8_isWord_X8_byteAt rfl rfl rfl (by decide +kernel) ⟨by decide, by decide⟩) (rv_Tape hK hP (by decide) (by decide)) rfl hl.1 rfl (Nat.le_of_ble_eq_true rfl) dX8_isWord_24 (Nat.zero_le _) (Nat.zero_le _) (fun r8 u8 H8 locs8 hp8 hP hS => ?_)
      obtain ⟨σ8, τ8⟩ := u8
      obtain ⟨hR, f8, fL8, hq8, hp8_0⟩ : P_X8_byteAt σ0 τ0 z7 r8 σ8 τ8 := hp8
      have hP : va_P D vwCl (gw cA ad σ8 τ8) H8 := hP
      obtain rfl := FrL.nil fL8
      obtain rfl := Fr.nil f8
      refine lv_goto (tgt := 32) hx hb dX8_isWord_27 (by decide) ?_
      exact K32 σ0 τ0 H8 locs8 x5 r8 ls hR hF hFL hP hS (by omega) (by omega) (lv_sub hl [0, 1, 2, 3, 4, 5] rfl) (by omega)
set_option maxHeartbeats 4000000 in
theorem B_X8_isWord_s2_32 (p : Program) (l : Launch) (e : Env) (s : State) (m : MethodId) (args : Array Value) (below : List Frame) (meth : Method) (c : Code) (D : va_G) (cA : Nat → ClassId) (ad : Nat → Nat) (σ0 : Nat → Nat → Int32) (τ0 : Nat → Nat → Int64) (a2 : Int32) (a3 : Int32) (a4 : Int32) (n : Nat) (C : Cy p s m args meth c cX8_isWord 7 wsX8_isWord RX8 D cA ad (some .boolean)) (ha2 : 0 ≤ a2.toInt ∧ a2.toInt ≤ 10) (ha3 : 0 ≤ a3.toInt ∧ a3.toInt ≤ 399) (ha4 : 0 ≤ a4.toInt ∧ a4.toInt ≤ 940) (K3 : J_X8_isWord_s2_3 p l e s m args below meth c D cA ad σ0 τ0 a2 a3 a4 n) (K32 : J_X8_isWord_s2_32 p l e s m args below meth c D cA ad σ0 τ0 a2 a3 a4 n) : J_X8_isWord_s2_32 p l e s m args below meth c D cA ad σ0 τ0 a2 a3 a4 (n + 1) := by
  obtain ⟨hx, hb, hml, hown, hts, hK, hk, hr, hI, hN⟩ := C
  intro σ τ H locs x5 w0 ls hR hF hFL hP hS hc0 hc1 hl hm
  obtain rfl := Fr.nil hF
  obtain rfl := FrL.nil hFL
  refine lv_istore (lv' := [(6, .int w0), (0, .ref (ad 1)), (1, .ref (ad 409)), (2, .int a2), (3, .int a3), (4, .int a4), (5, .int x5)]) hx hb dX8_isWord_32 hl (by decide) rfl (fun ls hl => ?_)
  refine lv_aload_n hx hb dX8_isWord_34 rfl (lv_at hl 2 rfl) ?_
  refine lv_iload_n hx hb dX8_isWord_35 rfl (lv_at hl 3 rfl) ?_
  refine r_bipush hx hb dX8_isWord_36 (by decide) (fun z1 ez1 => ?_)
  refine r_imulR (n := 7) hx hb dX8_isWord_38 (by omega) (by omega) (fun z2 ez2 => ?_)
  refine lv_iload hx hb dX8_isWord_39 (lv_at hl 6 rfl) ?_
  refine r_iadd hx hb dX8_isWord_41 (by omega) (fun z3 ez3 => ?_)
  refine r_cVi (k := 409) (As := [.int z3]) (rest := []) ⟨hx, hb, hml, hown, hts⟩ hK hP hN hS (c_J0_charAt_5068e_s2 l D cA ad hI σ0 τ0 hR z3 (by omega)) (cwV 1 hts gX8_isWord_J0_charAt_5068e rfl rfl rfl (by decide +kernel) ⟨by decide, by decide⟩) (so_2 hN hS) rfl hl.1 rfl (Nat.le_of_ble_eq_true rfl) dX8_isWord_42 (Nat.zero_le _) (Nat.zero_le _) (fun r4 u4 H4 locs4 hp4 hP hS => ?_)
  obtain ⟨σ4, τ4⟩ := u4
  obtain ⟨hR, f4, fL4, hq4, hp4_0⟩ : P_J0_charAt_5068e_s2 σ0 τ0 z3 r4 σ4 τ4 := hp4
  have hP : va_P D vwCl (gw cA ad σ4 τ4) H4 := hP
  obtain rfl := FrL.nil fL4
  obtain rfl := Fr.nil f4
  refine lv_iload hx hb dX8_isWord_45 (lv_at hl 0 rfl) ?_
  refine r_icmp_eq (tgt := 52) hx hb dX8_isWord_47 (by decide) (fun c5 => ?_) (fun c5 => ?_)
  · refine r_iinc (k := 6) (lv1 := fun z6 => [(5, .int z6), (6, .int w0), (0, .ref (ad 1)), (1, .ref (ad 409)), (2, .int a2), (3, .int a3), (4, .int a4)]) hx hb dX8_isWord_52 hl rfl (by decide) (fun _ => rfl) (by decide) (by omega) (fun z6 ls ez6 hl => ?_)
    refine lv_goto (tgt := 3) hx hb dX8_isWord_55 (by decide) ?_
    exact K3 σ0 τ0 H4 locs4 z6 ls hR hF hFL hP hS (by omega) (lv_sub hl [2, 3, 4, 5, 6, 0] rfl) (by omega)
  · refine r_iconst hx hb dX8_isWord_50 (by decide) (fun z7 ez7 => ?_)
    exact r_zret hx hb hr hK hP hS hk (by omega) dX8_isWord_51 (show P_X8_isWord_s2 σ0 τ0 a2 a3 a4 z7 σ0 τ0 from ⟨hR, hF, hFL, by omega⟩)
theorem A_X8_isWord_s2 (p : Program) (l : Launch) (e : Env) (s : State) (m : MethodId) (args : Array Value) (below : List Frame) (meth : Method) (c : Code) (D : va_G) (cA : Nat → ClassId) (ad : Nat → Nat) (σ0 : Nat → Nat → Int32) (τ0 : Nat → Nat → Int64) (a2 : Int32) (a3 : Int32) (a4 : Int32) (C : Cy p s m args meth c cX8_isWord 7 wsX8_isWord RX8 D cA ad (some .boolean)) (ha2 : 0 ≤ a2.toInt ∧ a2.toInt ≤ 10) (ha3 : 0 ≤ a3.toInt ∧ a3.toInt ≤ 399) (ha4 : 0 ≤ a4.toInt ∧ a4.toInt ≤ 940) : ∀ n : Nat, J_X8_isWord_s2_3 p l e s m args below meth c D cA ad σ0 τ0 a2 a3 a4 n ∧ J_X8_isWord_s2_32 p l e s m args below meth c D cA ad σ0 τ0 a2 a3 a4 n := by
  intro n
  induction n with
  | zero =>
    exact ⟨(by intro σ τ H locs x5 ls hR hF hFL hP hS hc0 hl hm; exfalso; omega), (by intro σ τ H locs x5 w0 ls hR hF hFL hP hS hc0 hc1 hl hm; exfalso; omega)⟩
  | succ n ih =>
    exact ⟨B_X8_isWord_s2_3 p l e s m args below meth c D cA ad σ0 τ0 a2 a3 a4 n C ha2 ha3 ha4 ih.1 ih.2, B_X8_isWord_s2_32 p l e s m args below meth c D cA ad σ0 τ0 a2 a3 a4 n C ha2 ha3 ha4 ih.1 ih.2⟩
set_option maxHeartbeats 4000000 in
theorem c_X8_isWord_s2 (l : Launch) (D : va_G) (cA : Nat → ClassId) (ad : Nat → Nat) (hI : Inj ad) (σ0 : Nat → Nat → Int32) (τ0 : Nat → Nat → Int64) (hR : Rg σ0) (a2 : Int32) (a3 : Int32) (a4 : Int32) (ha2 : 0 ≤ a2.toInt ∧ a2.toInt ≤ 10) (ha3 : 0 ≤ a3.toInt ∧ a3.toInt ≤ 399) (ha4 : 0 ≤ a4.toInt ∧ a4.toInt ≤ 940) : Met l yX8_isWord wsX8_isWord ({ frames := 4, cells := 0, slots := 0, locals := 85 } : Room) (WQc D cA ad [.ref (ad 1), .ref (ad 409), .int a2, .int a3, .int a4] σ0 τ0) (va_Qi (fun (r : Int32) (u : SS) => P_X8_isWord_s2 σ0 τ0 a2 a3 a4 r u.1 u.2) (WB D cA ad) (AA ad)) 0 0 (AA ad) := by
  refine Met.ofW (cc := cX8_isWord) (maxL := 7) (ret := (some .boolean)) (by decide) rfl ?_
  intro p e s m args below meth c s₁ B hml hv
  obtain ⟨rfl, hP, hK, hN⟩ := hv
  have C : Cy p s m _ meth c cX8_isWord 7 wsX8_isWord RX8 D cA ad (some .boolean) := ⟨B.exec, B.bytes, hml, findClass_of_methodNamed B.named, atoms_spec (ws := wsX8_isWord) B.pre, hK, B.notSynchronized, B.returns, hI, hN⟩
  have hl := lv_entry ([.ref (ad 1), .ref (ad 409), .int a2, .int a3, .int a4]) (n := 7) (Nat.le_of_ble_eq_true rfl)
  rw [lg_entry_eq]
  generalize (lg_sl ([.ref (ad 1), .ref (ad 409), .int a2, .int a3, .int a4]) ++ List.replicate (7 - (lg_sl ([.ref (ad 1), .ref (ad 409), .int a2, .int a3, .int a4])).length) Slot.unset).toArray = ls at hl ⊢
  have hl : lv_has ls 7 [(0, .ref (ad 1)), (1, .ref (ad 409)), (2, .int a2), (3, .int a3), (4, .int a4)] := hl
  have hS : va_S (AA ad) s.heap s.heap [] := va_S.rf
  have hF : Fr L_X8_isWord_s2 σ0 σ0 := Fr.rf
  have hFL : FrL LL_X8_isWord_s2 τ0 τ0 := FrL.rf
  have hA := A_X8_isWord_s2 p l e s m _ below meth c D cA ad σ0 τ0 a2 a3 a4 C ha2 ha3 ha4 55
  have K3 := hA.1
  have K32 := hA.2
  clear hA
  obtain ⟨hx, hb, _, hown, hts, _, hk, hr, _, _⟩ := C
  refine r_iconst hx hb dX8_isWord_0 (by decide) (fun z1 ez1 => ?_)
  refine lv_istore (lv' := [(5, .int z1), (0, .ref (ad 1)), (1, .ref (ad 409)), (2, .int a2), (3, .int a3), (4, .int a4)]) hx hb dX8_isWord_1 hl (by decide) rfl (fun ls hl => ?_)
  exact K3 σ0 τ0 s.heap [] z1 ls hR hF hFL hP hS (by omega) (lv_sub hl [1, 2, 3, 4, 5, 0] rfl) (by omega)
abbrev L_X8_wordIn_s2 : List Rc := []
abbrev LL_X8_wordIn_s2 : List Rc := []
def P_X8_wordIn_s2 (σ0 : Nat → Nat → Int32) (τ0 : Nat → Nat → Int64) (a2 : Int32) (a3 : Int32) (r : Int32) (σ : Nat → Nat → Int32) (τ : Nat → Nat → Int64) : Prop := Rg σ ∧ Fr L_X8_wordIn_s2 σ0 σ ∧ FrL LL_X8_wordIn_s2 τ0 τ ∧ (-1 ≤ r.toInt ∧ r.toInt ≤ 10)
def J_X8_wordIn_s2_3 (p : Program) (l : Launch) (e : Env) (s : State) (m : MethodId) (args : Array Value) (below : List Frame) (meth : Method) (c : Code) (D : va_G) (cA : Nat → ClassId) (ad : Nat → Nat) (σ0 : Nat → Nat → Int32) (τ0 : Nat → Nat → Int64) (a2 : Int32) (a3 : Int32) (n : Nat) : Prop := ∀ (σ : Nat → Nat → Int32) (τ : Nat → Nat → Int64) (H : Heap) (locs : List Loc) (x4 : Int32) (ls : Array Slot), Rg σ → Fr L_X8_wordIn_s2 σ0 σ → FrL LL_X8_wordIn_s2 τ0 τ → va_P D vwCl (gw cA ad σ τ) H → va_S (AA ad) s.heap H locs → (0 ≤ x4.toInt ∧ x4.toInt ≤ 11) → lv_has ls 5 [(0, .ref (ad 1)), (1, .ref (ad 409)), (2, .int a2), (3, .int a3), (4, .int x4)] → 2 * (11 - x4.toInt) + 1 < (n : Int) → W p l e ({ frames := 5, cells := 0, slots := 0, locals := 111 } : Room) s m args below meth c H locs 0 0 (MQ below (va_Qi (fun (r : Int32) (u : SS) => P_X8_wordIn_s2 σ0 τ0 a2 a3 r u.1 u.2) (WB D cA ad) (AA ad)) args s 0 0 (AA ad)) (F0 m 3 ls [])
set_option maxHeartbeats 4000000 in
theorem B_X8_wordIn_s2_3 (p : Program) (l : Launch) (e : Env) (s : State) (m : MethodId) (args : Array Value) (below : List Frame) (meth : Method) (c : Code) (D : va_G) (cA : Nat → ClassId) (ad : Nat → Nat) (σ0 : Nat → Nat → Int32) (τ0 : Nat → Nat → Int64) (a2 : Int32) (a3 : Int32) (n : Nat) (C : Cy p s m args meth c cX8_wordIn 5 wsX8_wordIn RX8 D cA ad (some .int)) (ha2 : 0 ≤ a2.toInt ∧ a2.toInt ≤ 399) (ha3 : 0 ≤ a3.toInt ∧ a3.toInt ≤ 940) (K3 : J_X8_wordIn_s2_3 p l e s m args below meth c D cA ad σ0 τ0 a2 a3 n) : J_X8_wordIn_s2_3 p l e s m args below meth c D cA ad σ0 τ0 a2 a3 (n + 1) := by
  obtain ⟨hx, hb, hml, hown, hts, hK, hk, hr, hI, hN⟩ := C
  intro σ τ H locs x4 ls hR hF hFL hP hS hc0 hl hm
  obtain rfl := Fr.nil hF
  obtain rfl := FrL.nil hFL
  refine lv_iload hx hb dX8_wordIn_3 (lv_at hl 4 rfl) ?_
  refine r_iconst hx hb dX8_wordIn_5 (by decide) (fun z1 ez1 => ?_)
  refine r_iadd hx hb dX8_wordIn_6 (by omega) (fun z2 ez2 => ?_)
  refine r_bipush hx hb dX8_wordIn_7 (by decide) (fun z3 ez3 => ?_)
  refine r_imulR (n := 7) hx hb dX8_wordIn_9 (by omega) (by omega) (fun z4 ez4 => ?_)
  refine lv_aload_n hx hb dX8_wordIn_10 rfl (lv_at hl 1 rfl) ?_
  refine r_cVi (k := 409) (As := []) (rest := [.int z4]) ⟨hx, hb, hml, hown, hts⟩ hK hP hN hS (c_J0_length_8abf5_s2 l D cA ad hI σ0 τ0 hR) (cwV 0 hts gX8_wordIn_J0_length_8abf5 rfl rfl rfl (by decide +kernel) ⟨by decide, by decide⟩) (so_2 hN hS) rfl hl.1 rfl (Nat.le_of_ble_eq_true rfl) dX8_wordIn_11 (Nat.zero_le _) (Nat.zero_le _) (fun r5 u5 H5 locs5 hp5 hP hS => ?_)
  obtain ⟨σ5, τ5⟩ := u5
  obtain ⟨hR, f5, fL5, hq5⟩ : P_J0_length_8abf5_s2 σ0 τ0 r5 σ5 τ5 := hp5
  have hP : va_P D vwCl (gw cA ad σ5 τ5) H5 := hP
  obtain rfl := FrL.nil fL5
  obtain rfl := Fr.nil f5
  refine r_icmp_gt (tgt := 38) hx hb dX8_wordIn_14 (by decide) (fun c6 => ?_) (fun c6 => ?_)
  · refine r_iconst hx hb dX8_wordIn_38 (by decide) (fun z7 ez7 => ?_)
    exact r_iret hx hb hr hK hP hS hk dX8_wordIn_39 (show P_X8_wordIn_s2 σ0 τ0 a2 a3 z7 σ0 τ0 from ⟨hR, hF, hFL, by omega⟩)
  · refine lv_aload_n hx hb dX8_wordIn_17 rfl (lv_at hl 0 rfl) ?_
    refine lv_aload_n hx hb dX8_wordIn_18 rfl (lv_at hl 1 rfl) ?_
    refine lv_iload hx hb dX8_wordIn_19 (lv_at hl 4 rfl) ?_
    refine lv_iload_n hx hb dX8_wordIn_21 rfl (lv_at hl 2 rfl) ?_
    refine lv_iload_n hx hb dX8_wordIn_22 rfl (lv_at hl 3 rfl) ?_
    refine r_cVi (k := 1) (As := [.ref (ad 409), .int x4, .int a2, .int a3]) (rest := []) ⟨hx, hb, hml, hown, hts⟩ hK hP hN hS (c_X8_isWord_s2 l D cA ad hI σ0 τ0 hR x4 a2 a3 (by omega) (by omega) (by omega)) (cwV 4 hts gX8_wordIn_X8_isWord rfl rfl rfl (by decide +kernel) ⟨by decide, by decide⟩) (rv_Tape hK hP (by decide) (by decide)) rfl hl.1 rfl (Nat.le_of_ble_eq_true rfl) dX8_wordIn_23 (Nat.zero_le _) (Nat.zero_le _) (fun r8 u8 H8 locs8 hp8 hP hS => ?_)
    obtain ⟨σ8, τ8⟩ := u8
    obtain ⟨hR, f8, fL8, hq8⟩ : P_X8_isWord_s2 σ0 τ0 x4 a2 a3 r8 σ8 τ8 := hp8
    have hP : va_P D vwCl (gw cA ad σ8 τ8) H8 := hP
    obtain rfl := FrL.nil fL8
    obtain rfl := Fr.nil f8
    refine r_if_eq (tgt := 32) hx hb dX8_wordIn_26 (by decide) (fun c9 => ?_) (fun c9 => ?_)
    · refine r_iinc (k := 4) (lv1 := fun z10 => [(4, .int z10), (0, .ref (ad 1)), (1, .ref (ad 409)), (2, .int a2), (3, .int a3)]) hx hb dX8_wordIn_32 hl rfl (by decide) (fun _ => rfl) (by decide) (by omega) (fun z10 ls ez10 hl => ?_)
      refine lv_goto (tgt := 3) hx hb dX8_wordIn_35 (by decide) ?_
      exact K3 σ0 τ0 H8 locs8 z10 ls hR hF hFL hP hS (by omega) (lv_sub hl [1, 2, 3, 4, 0] rfl) (by omega)
    · refine lv_iload hx hb dX8_wordIn_29 (lv_at hl 4 rfl) ?_
      exact r_iret hx hb hr hK hP hS hk dX8_wordIn_31 (show P_X8_wordIn_s2 σ0 τ0 a2 a3 x4 σ0 τ0 from ⟨hR, hF, hFL, by omega⟩)
theorem A_X8_wordIn_s2 (p : Program) (l : Launch) (e : Env) (s : State) (m : MethodId) (args : Array Value) (below : List Frame) (meth : Method) (c : Code) (D : va_G) (cA : Nat → ClassId) (ad : Nat → Nat) (σ0 : Nat → Nat → Int32) (τ0 : Nat → Nat → Int64) (a2 : Int32) (a3 : Int32) (C : Cy p s m args meth c cX8_wordIn 5 wsX8_wordIn RX8 D cA ad (some .int)) (ha2 : 0 ≤ a2.toInt ∧ a2.toInt ≤ 399) (ha3 : 0 ≤ a3.toInt ∧ a3.toInt ≤ 940) : ∀ n : Nat, J_X8_wordIn_s2_3 p l e s m args below meth c D cA ad σ0 τ0 a2 a3 n := by
  intro n
  induction n with
  | zero =>
    exact (by intro σ τ H locs x4 ls hR hF hFL hP hS hc0 hl hm; exfalso; omega)
  | succ n ih =>
    exact B_X8_wordIn_s2_3 p l e s m args below meth c D cA ad σ0 τ0 a2 a3 n C ha2 ha3 ih
set_option maxHeartbeats 4000000 in
theorem c_X8_wordIn_s2 (l : Launch) (D : va_G) (cA : Nat → ClassId) (ad : Nat → Nat) (hI : Inj ad) (σ0 : Nat → Nat → Int32) (τ0 : Nat → Nat → Int64) (hR : Rg σ0) (a2 : Int32) (a3 : Int32) (ha2 : 0 ≤ a2.toInt ∧ a2.toInt ≤ 399) (ha3 : 0 ≤ a3.toInt ∧ a3.toInt ≤ 940) : Met l yX8_wordIn wsX8_wordIn ({ frames := 5, cells := 0, slots := 0, locals := 111 } : Room) (WQc D cA ad [.ref (ad 1), .ref (ad 409), .int a2, .int a3] σ0 τ0) (va_Qi (fun (r : Int32) (u : SS) => P_X8_wordIn_s2 σ0 τ0 a2 a3 r u.1 u.2) (WB D cA ad) (AA ad)) 0 0 (AA ad) := by
  refine Met.ofW (cc := cX8_wordIn) (maxL := 5) (ret := (some .int)) (by decide) rfl ?_
  intro p e s m args below meth c s₁ B hml hv
  obtain ⟨rfl, hP, hK, hN⟩ := hv
  have C : Cy p s m _ meth c cX8_wordIn 5 wsX8_wordIn RX8 D cA ad (some .int) := ⟨B.exec, B.bytes, hml, findClass_of_methodNamed B.named, atoms_spec (ws := wsX8_wordIn) B.pre, hK, B.notSynchronized, B.returns, hI, hN⟩
  have hl := lv_entry ([.ref (ad 1), .ref (ad 409), .int a2, .int a3]) (n := 5) (Nat.le_of_ble_eq_true rfl)
  rw [lg_entry_eq]
  generalize (lg_sl ([.ref (ad 1), .ref (ad 409), .int a2, .int a3]) ++ List.replicate (5 - (lg_sl ([.ref (ad 1), .ref (ad 409), .int a2, .int a3])).length) Slot.unset).toArray = ls at hl ⊢
  have hl : lv_has ls 5 [(0, .ref (ad 1)), (1, .ref (ad 409)), (2, .int a2), (3, .int a3)] := hl
  have hS : va_S (AA ad) s.heap s.heap [] := va_S.rf
  have hF : Fr L_X8_wordIn_s2 σ0 σ0 := Fr.rf
  have hFL : FrL LL_X8_wordIn_s2 τ0 τ0 := FrL.rf
  have hA := A_X8_wordIn_s2 p l e s m _ below meth c D cA ad σ0 τ0 a2 a3 C ha2 ha3 54
  have K3 := hA
  clear hA
  obtain ⟨hx, hb, _, hown, hts, _, hk, hr, _, _⟩ := C
  refine r_iconst hx hb dX8_wordIn_0 (by decide) (fun z1 ez1 => ?_)
  refine lv_istore (lv' := [(4, .int z1), (0, .ref (ad 1)), (1, .ref (ad 409)), (2, .int a2), (3, .int a3)]) hx hb dX8_wordIn_1 hl (by decide) rfl (fun ls hl => ?_)
  exact K3 σ0 τ0 s.heap [] z1 ls hR hF hFL hP hS (by omega) (lv_sub hl [1, 2, 3, 4, 0] rfl) (by omega)
abbrev L_X8_wordToken : List Rc := []
abbrev LL_X8_wordToken : List Rc := []
def P_X8_wordToken (σ0 : Nat → Nat → Int32) (τ0 : Nat → Nat → Int64) (a1 : Int32) (a2 : Int32) (r : Int32) (σ : Nat → Nat → Int32) (τ : Nat → Nat → Int64) : Prop := Rg σ ∧ Fr L_X8_wordToken σ0 σ ∧ FrL LL_X8_wordToken τ0 τ ∧ (0 ≤ r.toInt ∧ r.toInt ≤ 47)
set_option maxHeartbeats 4000000 in
theorem c_X8_wordToken (l : Launch) (D : va_G) (cA : Nat → ClassId) (ad : Nat → Nat) (hI : Inj ad) (σ0 : Nat → Nat → Int32) (τ0 : Nat → Nat → Int64) (hR : Rg σ0) (a1 : Int32) (a2 : Int32) (ha1 : 0 ≤ a1.toInt ∧ a1.toInt ≤ 399) (ha2 : 0 ≤ a2.toInt ∧ a2.toInt ≤ 940) : Met l yX8_wordToken wsX8_wordToken ({ frames := 6, cells := 0, slots := 0, locals := 135 } : Room) (WQc D cA ad [.ref (ad 1), .int a1, .int a2] σ0 τ0) (va_Qi (fun (r : Int32) (u : SS) => P_X8_wordToken σ0 τ0 a1 a2 r u.1 u.2) (WB D cA ad) (AA ad)) 0 0 (AA ad) := by
  refine Met.ofW (cc := cX8_wordToken) (maxL := 4) (ret := (some .int)) (by decide) rfl ?_
  intro p e s m args below meth c s₁ B hml hv
  obtain ⟨rfl, hP, hK, hN⟩ := hv
  have C : Cy p s m _ meth c cX8_wordToken 4 wsX8_wordToken RX8 D cA ad (some .int) := ⟨B.exec, B.bytes, hml, findClass_of_methodNamed B.named, atoms_spec (ws := wsX8_wordToken) B.pre, hK, B.notSynchronized, B.returns, hI, hN⟩
  have hl := lv_entry ([.ref (ad 1), .int a1, .int a2]) (n := 4) (Nat.le_of_ble_eq_true rfl)
  rw [lg_entry_eq]
  generalize (lg_sl ([.ref (ad 1), .int a1, .int a2]) ++ List.replicate (4 - (lg_sl ([.ref (ad 1), .int a1, .int a2])).length) Slot.unset).toArray = ls at hl ⊢
  have hl : lv_has ls 4 [(0, .ref (ad 1)), (1, .int a1), (2, .int a2)] := hl
  have hS : va_S (AA ad) s.heap s.heap [] := va_S.rf
  have hF : Fr L_X8_wordToken σ0 σ0 := Fr.rf
  have hFL : FrL LL_X8_wordToken τ0 τ0 := FrL.rf
  obtain ⟨hx, hb, _, hown, hts, _, hk, hr, _, _⟩ := C
  refine lv_aload_n hx hb dX8_wordToken_0 rfl (lv_at hl 0 rfl) ?_
  refine va_ldcS hx hb hown hN.2.2.1 dX8_wordToken_1 ?_
  refine lv_iload_n hx hb dX8_wordToken_3 rfl (lv_at hl 1 rfl) ?_
  refine lv_iload_n hx hb dX8_wordToken_4 rfl (lv_at hl 2 rfl) ?_
  refine r_cVi (k := 1) (As := [.ref (ad 407), .int a1, .int a2]) (rest := []) ⟨hx, hb, hml, hown, hts⟩ hK hP hN hS (c_X8_wordIn_s0 l D cA ad hI σ0 τ0 hR a1 a2 (by omega) (by omega)) (cwV 3 hts gX8_wordToken_X8_wordIn rfl rfl rfl (by decide +kernel) ⟨by decide, by decide⟩) (rv_Tape hK hP (by decide) (by decide)) rfl hl.1 rfl (Nat.le_of_ble_eq_true rfl) dX8_wordToken_5 (Nat.zero_le _) (Nat.zero_le _) (fun r1 u1 H1 locs1 hp1 hP hS => ?_)
  obtain ⟨σ1, τ1⟩ := u1
  obtain ⟨hR, f1, fL1, hq1⟩ : P_X8_wordIn_s0 σ0 τ0 a1 a2 r1 σ1 τ1 := hp1
  have hP : va_P D vwCl (gw cA ad σ1 τ1) H1 := hP
  obtain rfl := FrL.nil fL1
  obtain rfl := Fr.nil f1
  refine lv_istore_n (lv' := [(3, .int r1), (0, .ref (ad 1)), (1, .int a1), (2, .int a2)]) hx hb dX8_wordToken_8 rfl hl (by decide) rfl (fun ls hl => ?_)
  refine lv_iload_n hx hb dX8_wordToken_9 rfl (lv_at hl 0 rfl) ?_
  refine r_iconst hx hb dX8_wordToken_10 (by decide) (fun z2 ez2 => ?_)
  refine r_icmp_eq (tgt := 16) hx hb dX8_wordToken_11 (by decide) (fun c3 => ?_) (fun c3 => ?_)
  · refine lv_aload_n hx hb dX8_wordToken_16 rfl (lv_at hl 1 rfl) ?_
    refine va_ldcS hx hb hown hN.2.2.2.1 dX8_wordToken_17 ?_
    refine lv_iload_n hx hb dX8_wordToken_19 rfl (lv_at hl 2 rfl) ?_
    refine lv_iload_n hx hb dX8_wordToken_20 rfl (lv_at hl 3 rfl) ?_
    refine r_cVi (k := 1) (As := [.ref (ad 408), .int a1, .int a2]) (rest := []) ⟨hx, hb, hml, hown, hts⟩ hK hP hN hS (c_X8_wordIn_s1 l D cA ad hI σ0 τ0 hR a1 a2 (by omega) (by omega)) (cwV 3 hts gX8_wordToken_X8_wordIn rfl rfl rfl (by decide +kernel) ⟨by decide, by decide⟩) (rv_Tape hK hP (by decide) (by decide)) rfl hl.1 rfl (Nat.le_of_ble_eq_true rfl) dX8_wordToken_21 (Nat.zero_le _) (Nat.zero_le _) (fun r4 u4 H4 locs4 hp4 hP hS => ?_)
    obtain ⟨σ4, τ4⟩ := u4
    obtain ⟨hR, f4, fL4, hq4⟩ : P_X8_wordIn_s1 σ0 τ0 a1 a2 r4 σ4 τ4 := hp4
    have hP : va_P D vwCl (gw cA ad σ4 τ4) H4 := hP
    obtain rfl := FrL.nil fL4
    obtain rfl := Fr.nil f4
    refine lv_istore_n (lv' := [(3, .int r4), (0, .ref (ad 1)), (1, .int a1), (2, .int a2)]) hx hb dX8_wordToken_24 rfl hl (by decide) rfl (fun ls hl => ?_)
    refine lv_iload_n hx hb dX8_wordToken_25 rfl (lv_at hl 0 rfl) ?_
    refine r_iconst hx hb dX8_wordToken_26 (by decide) (fun z5 ez5 => ?_)
    refine r_icmp_eq (tgt := 35) hx hb dX8_wordToken_27 (by decide) (fun c6 => ?_) (fun c6 => ?_)
    · refine lv_aload_n hx hb dX8_wordToken_35 rfl (lv_at hl 1 rfl) ?_
      refine va_ldcS hx hb hown hN.2.2.2.2.1 dX8_wordToken_36 ?_
      refine lv_iload_n hx hb dX8_wordToken_38 rfl (lv_at hl 2 rfl) ?_
      refine lv_iload_n hx hb dX8_wordToken_39 rfl (lv_at hl 3 rfl) ?_
      refine r_cVi (k := 1) (As := [.ref (ad 409), .int a1, .int a2]) (rest := []) ⟨hx, hb, hml, hown, hts⟩ hK hP hN hS (c_X8_wordIn_s2 l D cA ad hI σ0 τ0 hR a1 a2 (by omega) (by omega)) (cwV 3 hts gX8_wordToken_X8_wordIn rfl rfl rfl (by decide +kernel) ⟨by decide, by decide⟩) (rv_Tape hK hP (by decide) (by decide)) rfl hl.1 rfl (Nat.le_of_ble_eq_true rfl) dX8_wordToken_40 (Nat.zero_le _) (Nat.zero_le _) (fun r7 u7 H7 locs7 hp7 hP hS => ?_)
      obtain ⟨σ7, τ7⟩ := u7
      obtain ⟨hR, f7, fL7, hq7⟩ : P_X8_wordIn_s2 σ0 τ0 a1 a2 r7 σ7 τ7 := hp7
      have hP : va_P D vwCl (gw cA ad σ7 τ7) H7 := hP
      obtain rfl := FrL.nil fL7
      obtain rfl := Fr.nil f7
      refine lv_istore_n (lv' := [(3, .int r7), (0, .ref (ad 1)), (1, .int a1), (2, .int a2)]) hx hb dX8_wordToken_43 rfl hl (by decide) rfl (fun ls hl => ?_)
      refine lv_iload_n hx hb dX8_wordToken_44 rfl (lv_at hl 0 rfl) ?_
      refine r_iconst hx hb dX8_wordToken_45 (by decide) (fun z8 ez8 => ?_)
      refine r_icmp_ne (tgt := 54) hx hb dX8_wordToken_46 (by decide) (fun c9 => ?_) (fun c9 => ?_)
      · refine r_bipush hx hb dX8_wordToken_54 (by decide) (fun z10 ez10 => ?_)
        refine lv_iload_n hx hb dX8_wordToken_56 rfl (lv_at hl 0 rfl) ?_
        refine r_iadd hx hb dX8_wordToken_57 (by omega) (fun z11 ez11 => ?_)
        exact r_iret hx hb hr hK hP hS hk dX8_wordToken_58 (show P_X8_wordToken σ0 τ0 a1 a2 z11 σ0 τ0 from ⟨hR, hF, hFL, by omega⟩)
      · refine r_bipush hx hb dX8_wordToken_49 (by decide) (fun z12 ez12 => ?_)
        refine lv_goto (tgt := 58) hx hb dX8_wordToken_51 (by decide) ?_
        exact r_iret hx hb hr hK hP hS hk dX8_wordToken_58 (show P_X8_wordToken σ0 τ0 a1 a2 z12 σ0 τ0 from ⟨hR, hF, hFL, by omega⟩)
    · refine r_bipush hx hb dX8_wordToken_30 (by decide) (fun z13 ez13 => ?_)
      refine lv_iload_n hx hb dX8_wordToken_32 rfl (lv_at hl 0 rfl) ?_
      refine r_iadd hx hb dX8_wordToken_33 (by omega) (fun z14 ez14 => ?_)
      exact r_iret hx hb hr hK hP hS hk dX8_wordToken_34 (show P_X8_wordToken σ0 τ0 a1 a2 z14 σ0 τ0 from ⟨hR, hF, hFL, by omega⟩)
  · refine lv_iload_n hx hb dX8_wordToken_14 rfl (lv_at hl 0 rfl) ?_
    exact r_iret hx hb hr hK hP hS hk dX8_wordToken_15 (show P_X8_wordToken σ0 τ0 a1 a2 r1 σ0 τ0 from ⟨hR, hF, hFL, by omega⟩)
abbrev L_X8_scanRun : List Rc := [(36, 36, 0, 940), (37, 37, 0, 940), (38, 38, 0, 940), (1, 1, 6, 6)]
abbrev LL_X8_scanRun : List Rc := [(39, 39, 0, 940)]
def P_X8_scanRun (σ0 : Nat → Nat → Int32) (τ0 : Nat → Nat → Int64) (a1 : Int32) (r : Int32) (σ : Nat → Nat → Int32) (τ : Nat → Nat → Int64) : Prop := Rg σ ∧ Fr L_X8_scanRun σ0 σ ∧ FrL LL_X8_scanRun τ0 τ ∧ (0 ≤ r.toInt ∧ r.toInt ≤ 940)
def J_X8_scanRun_13 (p : Program) (l : Launch) (e : Env) (s : State) (m : MethodId) (args : Array Value) (below : List Frame) (meth : Method) (c : Code) (D : va_G) (cA : Nat → ClassId) (ad : Nat → Nat) (σ0 : Nat → Nat → Int32) (τ0 : Nat → Nat → Int64) (a1 : Int32) (n : Nat) : Prop := ∀ (σ : Nat → Nat → Int32) (τ : Nat → Nat → Int64) (H : Heap) (locs : List Loc) (x2 : Int32) (x3 : Int32) (x4 : Int32) (y5 : Int64) (x7 : Int32) (ls : Array Slot), Rg σ → Fr L_X8_scanRun σ0 σ → FrL LL_X8_scanRun τ0 τ → va_P D vwCl (gw cA ad σ τ) H → va_S (AA ad) s.heap H locs → (0 ≤ x7.toInt ∧ x7.toInt ≤ 940) → lv_has ls 9 [(0, .ref (ad 1)), (1, .int a1), (2, .int x2), (3, .int x3), (4, .int x4), (5, .long y5), (7, .int x7)] → 4 * (940 - x7.toInt) + 3 < (n : Int) → W p l e ({ frames := 7, cells := 0, slots := 0, locals := 158 } : Room) s m args below meth c H locs 0 0 (MQ below (va_Qi (fun (r : Int32) (u : SS) => P_X8_scanRun σ0 τ0 a1 r u.1 u.2) (WB D cA ad) (AA ad)) args s 0 0 (AA ad)) (F0 m 13 ls [])
def J_X8_scanRun_96 (p : Program) (l : Launch) (e : Env) (s : State) (m : MethodId) (args : Array Value) (below : List Frame) (meth : Method) (c : Code) (D : va_G) (cA : Nat → ClassId) (ad : Nat → Nat) (σ0 : Nat → Nat → Int32) (τ0 : Nat → Nat → Int64) (a1 : Int32) (n : Nat) : Prop := ∀ (σ : Nat → Nat → Int32) (τ : Nat → Nat → Int64) (H : Heap) (locs : List Loc) (x2 : Int32) (x3 : Int32) (x4 : Int32) (y5 : Int64) (x7 : Int32) (ls : Array Slot), Rg σ → Fr L_X8_scanRun σ0 σ → FrL LL_X8_scanRun τ0 τ → va_P D vwCl (gw cA ad σ τ) H → va_S (AA ad) s.heap H locs → (0 ≤ x7.toInt ∧ x7.toInt ≤ 940) → lv_has ls 9 [(0, .ref (ad 1)), (1, .int a1), (2, .int x2), (3, .int x3), (4, .int x4), (5, .long y5), (7, .int x7)] → 2 < (n : Int) → W p l e ({ frames := 7, cells := 0, slots := 0, locals := 158 } : Room) s m args below meth c H locs 0 0 (MQ below (va_Qi (fun (r : Int32) (u : SS) => P_X8_scanRun σ0 τ0 a1 r u.1 u.2) (WB D cA ad) (AA ad)) args s 0 0 (AA ad)) (F0 m 96 ls [])
def J_X8_scanRun_116 (p : Program) (l : Launch) (e : Env) (s : State) (m : MethodId) (args : Array Value) (below : List Frame) (meth : Method) (c : Code) (D : va_G) (cA : Nat → ClassId) (ad : Nat → Nat) (σ0 : Nat → Nat → Int32) (τ0 : Nat → Nat → Int64) (a1 : Int32) (n : Nat) : Prop := ∀ (σ : Nat → Nat → Int32) (τ : Nat → Nat → Int64) (H : Heap) (locs : List Loc) (x2 : Int32) (x3 : Int32) (x4 : Int32) (y5 : Int64) (x7 : Int32) (x8 : Int32) (ls : Array Slot), Rg σ → Fr L_X8_scanRun σ0 σ → FrL LL_X8_scanRun τ0 τ → va_P D vwCl (gw cA ad σ τ) H → va_S (AA ad) s.heap H locs → (0 ≤ x7.toInt ∧ x7.toInt ≤ 940) → (49 ≤ x8.toInt ∧ x8.toInt ≤ 49) → lv_has ls 9 [(0, .ref (ad 1)), (1, .int a1), (2, .int x2), (3, .int x3), (4, .int x4), (5, .long y5), (7, .int x7), (8, .int x8)] → 1 < (n : Int) → W p l e ({ frames := 7, cells := 0, slots := 0, locals := 158 } : Room) s m args below meth c H locs 0 0 (MQ below (va_Qi (fun (r : Int32) (u : SS) => P_X8_scanRun σ0 τ0 a1 r u.1 u.2) (WB D cA ad) (AA ad)) args s 0 0 (AA ad)) (F0 m 116 ls [])
set_option maxHeartbeats 4000000 in
theorem B_X8_scanRun_13 (p : Program) (l : Launch) (e : Env) (s : State) (m : MethodId) (args : Array Value) (below : List Frame) (meth : Method) (c : Code) (D : va_G) (cA : Nat → ClassId) (ad : Nat → Nat) (σ0 : Nat → Nat → Int32) (τ0 : Nat → Nat → Int64) (a1 : Int32) (n : Nat) (C : Cy p s m args meth c cX8_scanRun 9 wsX8_scanRun RX8 D cA ad (some .int)) (ha1 : 0 ≤ a1.toInt ∧ a1.toInt ≤ 399) (K13 : J_X8_scanRun_13 p l e s m args below meth c D cA ad σ0 τ0 a1 n) (K96 : J_X8_scanRun_96 p l e s m args below meth c D cA ad σ0 τ0 a1 n) (K116 : J_X8_scanRun_116 p l e s m args below meth c D cA ad σ0 τ0 a1 n) : J_X8_scanRun_13 p l e s m args below meth c D cA ad σ0 τ0 a1 (n + 1) := by
  obtain ⟨hx, hb, hml, hown, hts, hK, hk, hr, hI, hN⟩ := C
  intro σ τ H locs x2 x3 x4 y5 x7 ls hR hF hFL hP hS hc0 hl hm
  refine lv_iload hx hb dX8_scanRun_13 (lv_at hl 6 rfl) ?_
  refine lv_aload_n hx hb dX8_scanRun_15 rfl (lv_at hl 0 rfl) ?_
  refine fg_8_5 (k := 1) hx hb hts in_X8_scanRun_8 hown hK hP (by decide) (by decide) (hts _ lk_X8_scanRun_29) dX8_scanRun_16 ?_
  have hr1 := rg_8_5 hR (k := 1) (by decide) (by decide)
  refine r_icmp_ge (tgt := 96) hx hb dX8_scanRun_19 (by decide) (fun c2 => ?_) (fun c2 => ?_)
  · exact K96 σ τ H locs x2 x3 x4 y5 x7 ls hR hF hFL hP hS (by omega) (lv_sub hl [0, 1, 2, 3, 4, 5, 6] rfl) (by omega)
  · refine lv_aload_n hx hb dX8_scanRun_22 rfl (lv_at hl 0 rfl) ?_
    refine lv_iload hx hb dX8_scanRun_23 (lv_at hl 6 rfl) ?_
    refine r_cVi (k := 1) (As := [.int x7]) (rest := []) ⟨hx, hb, hml, hown, hts⟩ hK hP hN hS (c_X8_byteAt l D cA ad hI σ τ hR x7 (by omega)) (cwV 1 hts gX8_scanRun_X8_byteAt rfl rfl rfl (by decide +kernel) ⟨by decide, by decide⟩) (rv_Tape hK hP (by decide) (by decide)) rfl hl.1 rfl (Nat.le_of_ble_eq_true rfl) dX8_scanRun_25 (Nat.zero_le _) (Nat.zero_le _) (fun r3 u3 H3 locs3 hp3 hP hS => ?_)
    obtain ⟨σ3, τ3⟩ := u3
    obtain ⟨hR, f3, fL3, hq3, hp3_0⟩ : P_X8_byteAt σ τ x7 r3 σ3 τ3 := hp3
    have hP : va_P D vwCl (gw cA ad σ3 τ3) H3 := hP
    obtain rfl := FrL.nil fL3
    obtain rfl := Fr.nil f3
    refine r_cSi (As := [.int r3]) (rest := []) ⟨hx, hb, hml, hown, hts⟩ hK hP hN hS (c_X8_isInRun l D cA ad hI σ τ hR r3 (by omega)) (va_cwS 1 hts gX8_scanRun_X8_isInRun rfl rfl rfl (by decide +kernel) ⟨by decide, by decide⟩) rfl hl.1 rfl (Nat.le_of_ble_eq_true rfl) dX8_scanRun_28 (Nat.zero_le _) (Nat.zero_le _) (fun r4 u4 H4 locs4 hp4 hP hS => ?_)
    obtain ⟨σ4, τ4⟩ := u4
    obtain ⟨hR, f4, fL4, hq4, hp4_0⟩ : P_X8_isInRun σ τ r3 r4 σ4 τ4 := hp4
    have hP : va_P D vwCl (gw cA ad σ4 τ4) H4 := hP
    obtain rfl := FrL.nil fL4
    obtain rfl := Fr.nil f4
    refine r_if_eq (tgt := 96) hx hb dX8_scanRun_31 (by decide) (fun c5 => ?_) (fun c5 => ?_)
    · exact K96 σ τ H4 locs4 x2 x3 x4 y5 x7 ls hR hF hFL hP hS (by omega) (lv_sub hl [0, 1, 2, 3, 4, 5, 6] rfl) (by omega)
    · refine lv_aload_n hx hb dX8_scanRun_34 rfl (lv_at hl 0 rfl) ?_
      refine lv_iload hx hb dX8_scanRun_35 (lv_at hl 6 rfl) ?_
      refine r_cVi (k := 1) (As := [.int x7]) (rest := []) ⟨hx, hb, hml, hown, hts⟩ hK hP hN hS (c_X8_byteAt l D cA ad hI σ τ hR x7 (by omega)) (cwV 1 hts gX8_scanRun_X8_byteAt rfl rfl rfl (by decide +kernel) ⟨by decide, by decide⟩) (rv_Tape hK hP (by decide) (by decide)) rfl hl.1 rfl (Nat.le_of_ble_eq_true rfl) dX8_scanRun_37 (Nat.zero_le _) (Nat.zero_le _) (fun r6 u6 H6 locs6 hp6 hP hS => ?_)
      obtain ⟨σ6, τ6⟩ := u6
      obtain ⟨hR, f6, fL6, hq6, hp6_0⟩ : P_X8_byteAt σ τ x7 r6 σ6 τ6 := hp6
      have hP : va_P D vwCl (gw cA ad σ6 τ6) H6 := hP
      obtain rfl := FrL.nil fL6
      obtain rfl := Fr.nil f6
      refine lv_istore (lv' := [(8, .int r6), (0, .ref (ad 1)), (1, .int a1), (2, .int x2), (3, .int x3), (4, .int x4), (5, .long y5), (7, .int x7)]) hx hb dX8_scanRun_40 hl (by decide) rfl (fun ls hl => ?_)
      refine lv_iload hx hb dX8_scanRun_42 (lv_at hl 0 rfl) ?_
      refine r_cSi (As := [.int r6]) (rest := []) ⟨hx, hb, hml, hown, hts⟩ hK hP hN hS (c_X8_isDigit l D cA ad hI σ τ hR r6 (by omega)) (va_cwS 1 hts gX8_scanRun_X8_isDigit rfl rfl rfl (by decide +kernel) ⟨by decide, by decide⟩) rfl hl.1 rfl (Nat.le_of_ble_eq_true rfl) dX8_scanRun_44 (Nat.zero_le _) (Nat.zero_le _) (fun r7 u7 H7 locs7 hp7 hP hS => ?_)
      obtain ⟨σ7, τ7⟩ := u7
      obtain ⟨hR, f7, fL7, hq7, hp7_0⟩ : P_X8_isDigit σ τ r6 r7 σ7 τ7 := hp7
      have hP : va_P D vwCl (gw cA ad σ7 τ7) H7 := hP
      obtain rfl := FrL.nil fL7
      obtain rfl := Fr.nil f7
      refine r_if_eq (tgt := 69) hx hb dX8_scanRun_47 (by decide) (fun c8 => ?_) (fun c8 => ?_)
      · refine r_iincU (k := 3) (lv1 := fun z9 => [(2, .int z9), (8, .int r6), (0, .ref (ad 1)), (1, .int a1), (3, .int x3), (4, .int x4), (5, .long y5), (7, .int x7)]) hx hb dX8_scanRun_69 hl rfl (by decide) (fun _ => rfl) (fun z9 ls hl => ?_)
        refine lv_lload hx hb dX8_scanRun_72 (lv_at hl 6 rfl) ?_
        refine lv_ldc2 (v := 27) hx hb hown (hts _ lk_X8_scanRun_78) dX8_scanRun_74 ?_
        refine lv_lmul hx hb dX8_scanRun_77 ?_
        refine lv_iload hx hb dX8_scanRun_78 (lv_at hl 1 rfl) ?_
        refine lv_i2l hx hb dX8_scanRun_80 rfl ?_
        refine lv_ladd hx hb dX8_scanRun_81 ?_
        refine lv_ldc2 (v := 97) hx hb hown (hts _ lk_X8_scanRun_80) dX8_scanRun_82 ?_
        refine lv_lsub hx hb dX8_scanRun_85 ?_
        refine lv_lconst (v := 1) hx hb dX8_scanRun_86 (by decide) ?_
        refine lv_ladd hx hb dX8_scanRun_87 ?_
        refine lv_lstore (lv' := [(5, .long ((((y5 * (27)) + (r6.toInt64)) - (97)) + (1))), (2, .int z9), (8, .int r6), (0, .ref (ad 1)), (1, .int a1), (3, .int x3), (4, .int x4), (7, .int x7)]) hx hb dX8_scanRun_88 hl (by decide) rfl (fun ls hl => ?_)
        refine r_iinc (k := 7) (lv1 := fun z10 => [(7, .int z10), (5, .long ((((y5 * (27)) + (r6.toInt64)) - (97)) + (1))), (2, .int z9), (8, .int r6), (0, .ref (ad 1)), (1, .int a1), (3, .int x3), (4, .int x4)]) hx hb dX8_scanRun_90 hl rfl (by decide) (fun _ => rfl) (by decide) (by omega) (fun z10 ls ez10 hl => ?_)
        refine lv_goto (tgt := 13) hx hb dX8_scanRun_93 (by decide) ?_
        exact K13 σ τ H7 locs7 z9 x3 x4 ((((y5 * (27)) + (r6.toInt64)) - (97)) + (1)) z10 ls hR hF hFL hP hS (by omega) (lv_sub hl [4, 5, 2, 6, 7, 1, 0] rfl) (by omega)
      · refine r_iincU (k := 4) (lv1 := fun z11 => [(3, .int z11), (8, .int r6), (0, .ref (ad 1)), (1, .int a1), (2, .int x2), (4, .int x4), (5, .long y5), (7, .int x7)]) hx hb dX8_scanRun_50 hl rfl (by decide) (fun _ => rfl) (fun z11 ls hl => ?_)
        refine lv_iload hx hb dX8_scanRun_53 (lv_at hl 5 rfl) ?_
        refine r_bipush hx hb dX8_scanRun_55 (by decide) (fun z12 ez12 => ?_)
        refine r_imulU hx hb dX8_scanRun_57 (fun z13 => ?_)
        refine lv_iload hx hb dX8_scanRun_58 (lv_at hl 1 rfl) ?_
        refine r_iaddU hx hb dX8_scanRun_60 (fun z14 => ?_)
        refine r_bipush hx hb dX8_scanRun_61 (by decide) (fun z15 ez15 => ?_)
        refine r_isubU hx hb dX8_scanRun_63 (fun z16 => ?_)
        refine lv_istore (lv' := [(4, .int z16), (3, .int z11), (8, .int r6), (0, .ref (ad 1)), (1, .int a1), (2, .int x2), (5, .long y5), (7, .int x7)]) hx hb dX8_scanRun_64 hl (by decide) rfl (fun ls hl => ?_)
        refine lv_goto (tgt := 90) hx hb dX8_scanRun_66 (by decide) ?_
        refine r_iinc (k := 7) (lv1 := fun z17 => [(7, .int z17), (4, .int z16), (3, .int z11), (8, .int r6), (0, .ref (ad 1)), (1, .int a1), (2, .int x2), (5, .long y5)]) hx hb dX8_scanRun_90 hl rfl (by decide) (fun _ => rfl) (by decide) (by omega) (fun z17 ls ez17 hl => ?_)
        refine lv_goto (tgt := 13) hx hb dX8_scanRun_93 (by decide) ?_
        exact K13 σ τ H7 locs7 x2 z11 z16 y5 z17 ls hR hF hFL hP hS (by omega) (lv_sub hl [4, 5, 6, 2, 1, 7, 0] rfl) (by omega)
set_option maxHeartbeats 4000000 in
theorem B_X8_scanRun_96 (p : Program) (l : Launch) (e : Env) (s : State) (m : MethodId) (args : Array Value) (below : List Frame) (meth : Method) (c : Code) (D : va_G) (cA : Nat → ClassId) (ad : Nat → Nat) (σ0 : Nat → Nat → Int32) (τ0 : Nat → Nat → Int64) (a1 : Int32) (n : Nat) (C : Cy p s m args meth c cX8_scanRun 9 wsX8_scanRun RX8 D cA ad (some .int)) (ha1 : 0 ≤ a1.toInt ∧ a1.toInt ≤ 399) (K13 : J_X8_scanRun_13 p l e s m args below meth c D cA ad σ0 τ0 a1 n) (K96 : J_X8_scanRun_96 p l e s m args below meth c D cA ad σ0 τ0 a1 n) (K116 : J_X8_scanRun_116 p l e s m args below meth c D cA ad σ0 τ0 a1 n) : J_X8_scanRun_96 p l e s m args below meth c D cA ad σ0 τ0 a1 (n + 1) := by
  obtain ⟨hx, hb, hml, hown, hts, hK, hk, hr, hI, hN⟩ := C
  intro σ τ H locs x2 x3 x4 y5 x7 ls hR hF hFL hP hS hc0 hl hm
  refine r_bipush hx hb dX8_scanRun_96 (by decide) (fun z1 ez1 => ?_)
  refine lv_istore (lv' := [(8, .int z1), (0, .ref (ad 1)), (1, .int a1), (2, .int x2), (3, .int x3), (4, .int x4), (5, .long y5), (7, .int x7)]) hx hb dX8_scanRun_98 hl (by decide) rfl (fun ls hl => ?_)
  refine lv_iload_n hx hb dX8_scanRun_100 rfl (lv_at hl 3 rfl) ?_
  refine r_if_ne (tgt := 116) hx hb dX8_scanRun_101 (by decide) (fun c2 => ?_) (fun c2 => ?_)
  · exact K116 σ τ H locs x2 x3 x4 y5 x7 z1 ls hR hF hFL hP hS (by omega) (by omega) (lv_sub hl [1, 2, 3, 4, 5, 6, 7, 0] rfl) (by omega)
  · refine lv_iload_n hx hb dX8_scanRun_104 rfl (lv_at hl 4 rfl) ?_
    refine r_iconst hx hb dX8_scanRun_105 (by decide) (fun z3 ez3 => ?_)
    refine r_icmp_gt (tgt := 116) hx hb dX8_scanRun_106 (by decide) (fun c4 => ?_) (fun c4 => ?_)
    · exact K116 σ τ H locs x2 x3 x4 y5 x7 z1 ls hR hF hFL hP hS (by omega) (by omega) (lv_sub hl [1, 2, 3, 4, 5, 6, 7, 0] rfl) (by omega)
    · refine r_bipush hx hb dX8_scanRun_109 (by decide) (fun z5 ez5 => ?_)
      refine lv_istore (lv' := [(8, .int z5), (0, .ref (ad 1)), (1, .int a1), (2, .int x2), (3, .int x3), (4, .int x4), (5, .long y5), (7, .int x7)]) hx hb dX8_scanRun_111 hl (by decide) rfl (fun ls hl => ?_)
      refine lv_goto (tgt := 135) hx hb dX8_scanRun_113 (by decide) ?_
      refine lv_aload_n hx hb dX8_scanRun_135 rfl (lv_at hl 1 rfl) ?_
      refine lv_iload hx hb dX8_scanRun_136 (lv_at hl 0 rfl) ?_
      refine lv_iload_n hx hb dX8_scanRun_138 rfl (lv_at hl 2 rfl) ?_
      refine lv_iload hx hb dX8_scanRun_139 (lv_at hl 5 rfl) ?_
      refine lv_lload hx hb dX8_scanRun_141 (lv_at hl 6 rfl) ?_
      refine r_cVv (k := 1) (As := [.int z5, .int a1, .int x4, .long y5]) (rest := []) ⟨hx, hb, hml, hown, hts⟩ hK hP hN hS (c_X8_note l D cA ad hI σ τ hR z5 a1 x4 y5 (by omega) (by omega)) (cwV 4 hts gX8_scanRun_X8_note rfl rfl rfl (by decide +kernel) ⟨by decide, by decide⟩) (rv_Tape hK hP (by decide) (by decide)) rfl hl.1 rfl (Nat.le_of_ble_eq_true rfl) dX8_scanRun_143 (Nat.zero_le _) (Nat.zero_le _) (fun u6 H6 locs6 hp6 hP hS => ?_)
      obtain ⟨σ6, τ6⟩ := u6
      obtain ⟨hR, f6, fL6⟩ : P_X8_note σ τ z5 a1 x4 y5 σ6 τ6 := hp6
      have hP : va_P D vwCl (gw cA ad σ6 τ6) H6 := hP
      have hFL := hFL.step fL6 (by decide)
      have hF := hF.step f6 (by decide)
      refine lv_iload hx hb dX8_scanRun_146 (lv_at hl 7 rfl) ?_
      exact r_iret hx hb hr hK hP hS hk dX8_scanRun_148 (show P_X8_scanRun σ0 τ0 a1 x7 σ6 τ6 from ⟨hR, hF, hFL, by omega⟩)
set_option maxHeartbeats 4000000 in
theorem B_X8_scanRun_116 (p : Program) (l : Launch) (e : Env) (s : State) (m : MethodId) (args : Array Value) (below : List Frame) (meth : Method) (c : Code) (D : va_G) (cA : Nat → ClassId) (ad : Nat → Nat) (σ0 : Nat → Nat → Int32) (τ0 : Nat → Nat → Int64) (a1 : Int32) (n : Nat) (C : Cy p s m args meth c cX8_scanRun 9 wsX8_scanRun RX8 D cA ad (some .int)) (ha1 : 0 ≤ a1.toInt ∧ a1.toInt ≤ 399) (K13 : J_X8_scanRun_13 p l e s m args below meth c D cA ad σ0 τ0 a1 n) (K96 : J_X8_scanRun_96 p l e s m args below meth c D cA ad σ0 τ0 a1 n) (K116 : J_X8_scanRun_116 p l e s m args below meth c D cA ad σ0 τ0 a1 n) : J_X8_scanRun_116 p l e s m args below meth c D cA ad σ0 τ0 a1 (n + 1) := by
  obtain ⟨hx, hb, hml, hown, hts, hK, hk, hr, hI, hN⟩ := C
  intro σ τ H locs x2 x3 x4 y5 x7 x8 ls hR hF hFL hP hS hc0 hc1 hl hm
  refine lv_iload_n hx hb dX8_scanRun_116 rfl (lv_at hl 3 rfl) ?_
  refine r_if_ne (tgt := 135) hx hb dX8_scanRun_117 (by decide) (fun c1 => ?_) (fun c1 => ?_)
  · refine lv_aload_n hx hb dX8_scanRun_135 rfl (lv_at hl 0 rfl) ?_
    refine lv_iload hx hb dX8_scanRun_136 (lv_at hl 7 rfl) ?_
    refine lv_iload_n hx hb dX8_scanRun_138 rfl (lv_at hl 1 rfl) ?_
    refine lv_iload hx hb dX8_scanRun_139 (lv_at hl 4 rfl) ?_
    refine lv_lload hx hb dX8_scanRun_141 (lv_at hl 5 rfl) ?_
    refine r_cVv (k := 1) (As := [.int x8, .int a1, .int x4, .long y5]) (rest := []) ⟨hx, hb, hml, hown, hts⟩ hK hP hN hS (c_X8_note l D cA ad hI σ τ hR x8 a1 x4 y5 (by omega) (by omega)) (cwV 4 hts gX8_scanRun_X8_note rfl rfl rfl (by decide +kernel) ⟨by decide, by decide⟩) (rv_Tape hK hP (by decide) (by decide)) rfl hl.1 rfl (Nat.le_of_ble_eq_true rfl) dX8_scanRun_143 (Nat.zero_le _) (Nat.zero_le _) (fun u2 H2 locs2 hp2 hP hS => ?_)
    obtain ⟨σ2, τ2⟩ := u2
    obtain ⟨hR, f2, fL2⟩ : P_X8_note σ τ x8 a1 x4 y5 σ2 τ2 := hp2
    have hP : va_P D vwCl (gw cA ad σ2 τ2) H2 := hP
    have hFL := hFL.step fL2 (by decide)
    have hF := hF.step f2 (by decide)
    refine lv_iload hx hb dX8_scanRun_146 (lv_at hl 6 rfl) ?_
    exact r_iret hx hb hr hK hP hS hk dX8_scanRun_148 (show P_X8_scanRun σ0 τ0 a1 x7 σ2 τ2 from ⟨hR, hF, hFL, by omega⟩)
  · refine lv_iload_n hx hb dX8_scanRun_120 rfl (lv_at hl 2 rfl) ?_
    refine r_bipush hx hb dX8_scanRun_121 (by decide) (fun z3 ez3 => ?_)
    refine r_icmp_gt (tgt := 135) hx hb dX8_scanRun_123 (by decide) (fun c4 => ?_) (fun c4 => ?_)
    · refine lv_aload_n hx hb dX8_scanRun_135 rfl (lv_at hl 0 rfl) ?_
      refine lv_iload hx hb dX8_scanRun_136 (lv_at hl 7 rfl) ?_
      refine lv_iload_n hx hb dX8_scanRun_138 rfl (lv_at hl 1 rfl) ?_
      refine lv_iload hx hb dX8_scanRun_139 (lv_at hl 4 rfl) ?_
      refine lv_lload hx hb dX8_scanRun_141 (lv_at hl 5 rfl) ?_
      refine r_cVv (k := 1) (As := [.int x8, .int a1, .int x4, .long y5]) (rest := []) ⟨hx, hb, hml, hown, hts⟩ hK hP hN hS (c_X8_note l D cA ad hI σ τ hR x8 a1 x4 y5 (by omega) (by omega)) (cwV 4 hts gX8_scanRun_X8_note rfl rfl rfl (by decide +kernel) ⟨by decide, by decide⟩) (rv_Tape hK hP (by decide) (by decide)) rfl hl.1 rfl (Nat.le_of_ble_eq_true rfl) dX8_scanRun_143 (Nat.zero_le _) (Nat.zero_le _) (fun u5 H5 locs5 hp5 hP hS => ?_)
      obtain ⟨σ5, τ5⟩ := u5
      obtain ⟨hR, f5, fL5⟩ : P_X8_note σ τ x8 a1 x4 y5 σ5 τ5 := hp5
      have hP : va_P D vwCl (gw cA ad σ5 τ5) H5 := hP
      have hFL := hFL.step fL5 (by decide)
      have hF := hF.step f5 (by decide)
      refine lv_iload hx hb dX8_scanRun_146 (lv_at hl 6 rfl) ?_
      exact r_iret hx hb hr hK hP hS hk dX8_scanRun_148 (show P_X8_scanRun σ0 τ0 a1 x7 σ5 τ5 from ⟨hR, hF, hFL, by omega⟩)
    · refine lv_aload_n hx hb dX8_scanRun_126 rfl (lv_at hl 0 rfl) ?_
      refine lv_iload_n hx hb dX8_scanRun_127 rfl (lv_at hl 1 rfl) ?_
      refine lv_iload hx hb dX8_scanRun_128 (lv_at hl 6 rfl) ?_
      refine r_cVi (k := 1) (As := [.int a1, .int x7]) (rest := []) ⟨hx, hb, hml, hown, hts⟩ hK hP hN hS (c_X8_wordToken l D cA ad hI σ τ hR a1 x7 (by omega) (by omega)) (cwV 2 hts gX8_scanRun_X8_wordToken rfl rfl rfl (by decide +kernel) ⟨by decide, by decide⟩) (rv_Tape hK hP (by decide) (by decide)) rfl hl.1 rfl (Nat.le_of_ble_eq_true rfl) dX8_scanRun_130 (Nat.zero_le _) (Nat.zero_le _) (fun r6 u6 H6 locs6 hp6 hP hS => ?_)
      obtain ⟨σ6, τ6⟩ := u6
      obtain ⟨hR, f6, fL6, hq6⟩ : P_X8_wordToken σ τ a1 x7 r6 σ6 τ6 := hp6
      have hP : va_P D vwCl (gw cA ad σ6 τ6) H6 := hP
      obtain rfl := FrL.nil fL6
      obtain rfl := Fr.nil f6
      refine lv_istore (lv' := [(8, .int r6), (0, .ref (ad 1)), (1, .int a1), (2, .int x2), (3, .int x3), (4, .int x4), (5, .long y5), (7, .int x7)]) hx hb dX8_scanRun_133 hl (by decide) rfl (fun ls hl => ?_)
      refine lv_aload_n hx hb dX8_scanRun_135 rfl (lv_at hl 1 rfl) ?_
      refine lv_iload hx hb dX8_scanRun_136 (lv_at hl 0 rfl) ?_
      refine lv_iload_n hx hb dX8_scanRun_138 rfl (lv_at hl 2 rfl) ?_
      refine lv_iload hx hb dX8_scanRun_139 (lv_at hl 5 rfl) ?_
      refine lv_lload hx hb dX8_scanRun_141 (lv_at hl 6 rfl) ?_
      refine r_cVv (k := 1) (As := [.int r6, .int a1, .int x4, .long y5]) (rest := []) ⟨hx, hb, hml, hown, hts⟩ hK hP hN hS (c_X8_note l D cA ad hI σ τ hR r6 a1 x4 y5 (by omega) (by omega)) (cwV 4 hts gX8_scanRun_X8_note rfl rfl rfl (by decide +kernel) ⟨by decide, by decide⟩) (rv_Tape hK hP (by decide) (by decide)) rfl hl.1 rfl (Nat.le_of_ble_eq_true rfl) dX8_scanRun_143 (Nat.zero_le _) (Nat.zero_le _) (fun u7 H7 locs7 hp7 hP hS => ?_)
      obtain ⟨σ7, τ7⟩ := u7
      obtain ⟨hR, f7, fL7⟩ : P_X8_note σ τ r6 a1 x4 y5 σ7 τ7 := hp7
      have hP : va_P D vwCl (gw cA ad σ7 τ7) H7 := hP
      have hFL := hFL.step fL7 (by decide)
      have hF := hF.step f7 (by decide)
      refine lv_iload hx hb dX8_scanRun_146 (lv_at hl 7 rfl) ?_
      exact r_iret hx hb hr hK hP hS hk dX8_scanRun_148 (show P_X8_scanRun σ0 τ0 a1 x7 σ7 τ7 from ⟨hR, hF, hFL, by omega⟩)
theorem A_X8_scanRun (p : Program) (l : Launch) (e : Env) (s : State) (m : MethodId) (args : Array Value) (below : List Frame) (meth : Method) (c : Code) (D : va_G) (cA : Nat → ClassId) (ad : Nat → Nat) (σ0 : Nat → Nat → Int32) (τ0 : Nat → Nat → Int64) (a1 : Int32) (C : Cy p s m args meth c cX8_scanRun 9 wsX8_scanRun RX8 D cA ad (some .int)) (ha1 : 0 ≤ a1.toInt ∧ a1.toInt ≤ 399) : ∀ n : Nat, J_X8_scanRun_13 p l e s m args below meth c D cA ad σ0 τ0 a1 n ∧ J_X8_scanRun_96 p l e s m args below meth c D cA ad σ0 τ0 a1 n ∧ J_X8_scanRun_116 p l e s m args below meth c D cA ad σ0 τ0 a1 n := by
  intro n
  induction n with
  | zero =>
    exact ⟨(by intro σ τ H locs x2 x3 x4 y5 x7 ls hR hF hFL hP hS hc0 hl hm; exfalso; omega), (by intro σ τ H locs x2 x3 x4 y5 x7 ls hR hF hFL hP hS hc0 hl hm; exfalso; omega), (by intro σ τ H locs x2 x3 x4 y5 x7 x8 ls hR hF hFL hP hS hc0 hc1 hl hm; exfalso; omega)⟩
  | succ n ih =>
    exact ⟨B_X8_scanRun_13 p l e s m args below meth c D cA ad σ0 τ0 a1 n C ha1 ih.1 ih.2.1 ih.2.2, B_X8_scanRun_96 p l e s m args below meth c D cA ad σ0 τ0 a1 n C ha1 ih.1 ih.2.1 ih.2.2, B_X8_scanRun_116 p l e s m args below meth c D cA ad σ0 τ0 a1 n C ha1 ih.1 ih.2.1 ih.2.2⟩
set_option maxHeartbeats 4000000 in
theorem c_X8_scanRun (l : Launch) (D : va_G) (cA : Nat → ClassId) (ad : Nat → Nat) (hI : Inj ad) (σ0 : Nat → Nat → Int32) (τ0 : Nat → Nat → Int64) (hR : Rg σ0) (a1 : Int32) (ha1 : 0 ≤ a1.toInt ∧ a1.toInt ≤ 399) : Met l yX8_scanRun wsX8_scanRun ({ frames := 7, cells := 0, slots := 0, locals := 158 } : Room) (WQc D cA ad [.ref (ad 1), .int a1] σ0 τ0) (va_Qi (fun (r : Int32) (u : SS) => P_X8_scanRun σ0 τ0 a1 r u.1 u.2) (WB D cA ad) (AA ad)) 0 0 (AA ad) := by
  refine Met.ofW (cc := cX8_scanRun) (maxL := 9) (ret := (some .int)) (by decide) rfl ?_
  intro p e s m args below meth c s₁ B hml hv
  obtain ⟨rfl, hP, hK, hN⟩ := hv
  have C : Cy p s m _ meth c cX8_scanRun 9 wsX8_scanRun RX8 D cA ad (some .int) := ⟨B.exec, B.bytes, hml, findClass_of_methodNamed B.named, atoms_spec (ws := wsX8_scanRun) B.pre, hK, B.notSynchronized, B.returns, hI, hN⟩
  have hl := lv_entry ([.ref (ad 1), .int a1]) (n := 9) (Nat.le_of_ble_eq_true rfl)
  rw [lg_entry_eq]
  generalize (lg_sl ([.ref (ad 1), .int a1]) ++ List.replicate (9 - (lg_sl ([.ref (ad 1), .int a1])).length) Slot.unset).toArray = ls at hl ⊢
  have hl : lv_has ls 9 [(0, .ref (ad 1)), (1, .int a1)] := hl
  have hS : va_S (AA ad) s.heap s.heap [] := va_S.rf
  have hF : Fr L_X8_scanRun σ0 σ0 := Fr.rf
  have hFL : FrL LL_X8_scanRun τ0 τ0 := FrL.rf
  have hA := A_X8_scanRun p l e s m _ below meth c D cA ad σ0 τ0 a1 C ha1 7536
  have K13 := hA.1
  have K96 := hA.2.1
  have K116 := hA.2.2
  clear hA
  obtain ⟨hx, hb, _, hown, hts, _, hk, hr, _, _⟩ := C
  refine r_iconst hx hb dX8_scanRun_0 (by decide) (fun z1 ez1 => ?_)
  refine lv_istore_n (lv' := [(2, .int z1), (0, .ref (ad 1)), (1, .int a1)]) hx hb dX8_scanRun_1 rfl hl (by decide) rfl (fun ls hl => ?_)
  refine r_iconst hx hb dX8_scanRun_2 (by decide) (fun z2 ez2 => ?_)
  refine lv_istore_n (lv' := [(3, .int z2), (2, .int z1), (0, .ref (ad 1)), (1, .int a1)]) hx hb dX8_scanRun_3 rfl hl (by decide) rfl (fun ls hl => ?_)
  refine r_iconst hx hb dX8_scanRun_4 (by decide) (fun z3 ez3 => ?_)
  refine lv_istore (lv' := [(4, .int z3), (3, .int z2), (2, .int z1), (0, .ref (ad 1)), (1, .int a1)]) hx hb dX8_scanRun_5 hl (by decide) rfl (fun ls hl => ?_)
  refine lv_lconst (v := 0) hx hb dX8_scanRun_7 (by decide) ?_
  refine lv_lstore (lv' := [(5, .long (0)), (4, .int z3), (3, .int z2), (2, .int z1), (0, .ref (ad 1)), (1, .int a1)]) hx hb dX8_scanRun_8 hl (by decide) rfl (fun ls hl => ?_)
  refine lv_iload_n hx hb dX8_scanRun_10 rfl (lv_at hl 5 rfl) ?_
  refine lv_istore (lv' := [(7, .int a1), (5, .long (0)), (4, .int z3), (3, .int z2), (2, .int z1), (0, .ref (ad 1)), (1, .int a1)]) hx hb dX8_scanRun_11 hl (by decide) rfl (fun ls hl => ?_)
  exact K13 σ0 τ0 s.heap [] z1 z2 z3 (0) a1 ls hR hF hFL hP hS (by omega) (lv_sub hl [5, 6, 4, 3, 2, 1, 0] rfl) (by omega)
abbrev L_X8_scan : List Rc := [(1, 1, 13, 14), (36, 36, 0, 940), (37, 37, 0, 940), (38, 38, 0, 940), (1, 1, 6, 10)]
abbrev LL_X8_scan : List Rc := [(39, 39, 0, 940), (1, 1, 11, 11)]
def P_X8_scan (σ0 : Nat → Nat → Int32) (τ0 : Nat → Nat → Int64) (a1 : Int32) (σ : Nat → Nat → Int32) (τ : Nat → Nat → Int64) : Prop := Rg σ ∧ Fr L_X8_scan σ0 σ ∧ FrL LL_X8_scan τ0 τ
def J_X8_scan_19 (p : Program) (l : Launch) (e : Env) (s : State) (m : MethodId) (args : Array Value) (below : List Frame) (meth : Method) (c : Code) (D : va_G) (cA : Nat → ClassId) (ad : Nat → Nat) (σ0 : Nat → Nat → Int32) (τ0 : Nat → Nat → Int64) (a1 : Int32) (n : Nat) : Prop := ∀ (σ : Nat → Nat → Int32) (τ : Nat → Nat → Int64) (H : Heap) (locs : List Loc) (x2 : Int32) (x3 : Int32) (ls : Array Slot), Rg σ → Fr L_X8_scan σ0 σ → FrL LL_X8_scan τ0 τ → va_P D vwCl (gw cA ad σ τ) H → va_S (AA ad) s.heap H locs → (0 ≤ x2.toInt ∧ x2.toInt ≤ 940) → (0 ≤ x3.toInt ∧ x3.toInt ≤ 940) → lv_has ls 5 [(0, .ref (ad 1)), (1, .int a1), (2, .int x2), (3, .int x3)] → 3 * (940 - x3.toInt) + 2 < (n : Int) → W p l e ({ frames := 8, cells := 0, slots := 0, locals := 186 } : Room) s m args below meth c H locs 0 0 (MQ below (va_Qv (fun u : SS => P_X8_scan σ0 τ0 a1 u.1 u.2) (WB D cA ad) (AA ad)) args s 0 0 (AA ad)) (F0 m 19 ls [])
def J_X8_scan_92 (p : Program) (l : Launch) (e : Env) (s : State) (m : MethodId) (args : Array Value) (below : List Frame) (meth : Method) (c : Code) (D : va_G) (cA : Nat → ClassId) (ad : Nat → Nat) (σ0 : Nat → Nat → Int32) (τ0 : Nat → Nat → Int64) (a1 : Int32) (n : Nat) : Prop := ∀ (σ : Nat → Nat → Int32) (τ : Nat → Nat → Int64) (H : Heap) (locs : List Loc) (x2 : Int32) (x3 : Int32) (ls : Array Slot), Rg σ → Fr L_X8_scan σ0 σ → FrL LL_X8_scan τ0 τ → va_P D vwCl (gw cA ad σ τ) H → va_S (AA ad) s.heap H locs → (0 ≤ x2.toInt ∧ x2.toInt ≤ 940) → (0 ≤ x3.toInt ∧ x3.toInt ≤ 940) → lv_has ls 5 [(0, .ref (ad 1)), (1, .int a1), (2, .int x2), (3, .int x3)] → 1 < (n : Int) → W p l e ({ frames := 8, cells := 0, slots := 0, locals := 186 } : Room) s m args below meth c H locs 0 0 (MQ below (va_Qv (fun u : SS => P_X8_scan σ0 τ0 a1 u.1 u.2) (WB D cA ad) (AA ad)) args s 0 0 (AA ad)) (F0 m 92 ls [])
set_option maxHeartbeats 4000000 in
theorem B_X8_scan_19 (p : Program) (l : Launch) (e : Env) (s : State) (m : MethodId) (args : Array Value) (below : List Frame) (meth : Method) (c : Code) (D : va_G) (cA : Nat → ClassId) (ad : Nat → Nat) (σ0 : Nat → Nat → Int32) (τ0 : Nat → Nat → Int64) (a1 : Int32) (n : Nat) (C : Cy p s m args meth c cX8_scan 5 wsX8_scan RX8 D cA ad none) (ha1 : 400 ≤ a1.toInt ∧ a1.toInt ≤ 400) (K19 : J_X8_scan_19 p l e s m args below meth c D cA ad σ0 τ0 a1 n) (K92 : J_X8_scan_92 p l e s m args below meth c D cA ad σ0 τ0 a1 n) : J_X8_scan_19 p l e s m args below meth c D cA ad σ0 τ0 a1 (n + 1) := by
  obtain ⟨hx, hb, hml, hown, hts, hK, hk, hr, hI, hN⟩ := C
  intro σ τ H locs x2 x3 ls hR hF hFL hP hS hc0 hc1 hl hm
  refine lv_iload_n hx hb dX8_scan_19 rfl (lv_at hl 3 rfl) ?_
  refine r_sipush hx hb dX8_scan_20 (by decide) (fun z1 ez1 => ?_)
  refine r_icmp_ge (tgt := 92) hx hb dX8_scan_23 (by decide) (fun c2 => ?_) (fun c2 => ?_)
  · exact K92 σ τ H locs x2 x3 ls hR hF hFL hP hS (by omega) (by omega) (lv_sub hl [0, 1, 2, 3] rfl) (by omega)
  · refine lv_iload_n hx hb dX8_scan_26 rfl (lv_at hl 2 rfl) ?_
    refine lv_aload_n hx hb dX8_scan_27 rfl (lv_at hl 0 rfl) ?_
    refine fg_8_5 (k := 1) hx hb hts in_X8_scan_8 hown hK hP (by decide) (by decide) (hts _ lk_X8_scan_29) dX8_scan_28 ?_
    have hr3 := rg_8_5 hR (k := 1) (by decide) (by decide)
    refine r_icmp_ge (tgt := 92) hx hb dX8_scan_31 (by decide) (fun c4 => ?_) (fun c4 => ?_)
    · exact K92 σ τ H locs x2 x3 ls hR hF hFL hP hS (by omega) (by omega) (lv_sub hl [0, 1, 2, 3] rfl) (by omega)
    · refine lv_iload_n hx hb dX8_scan_34 rfl (lv_at hl 2 rfl) ?_
      refine lv_iload_n hx hb dX8_scan_35 rfl (lv_at hl 1 rfl) ?_
      refine r_icmp_ge (tgt := 92) hx hb dX8_scan_36 (by decide) (fun c5 => ?_) (fun c5 => ?_)
      · exact K92 σ τ H locs x2 x3 ls hR hF hFL hP hS (by omega) (by omega) (lv_sub hl [0, 1, 2, 3] rfl) (by omega)
      · refine lv_aload_n hx hb dX8_scan_39 rfl (lv_at hl 0 rfl) ?_
        refine lv_iload_n hx hb dX8_scan_40 rfl (lv_at hl 2 rfl) ?_
        refine r_cVi (k := 1) (As := [.int x2]) (rest := []) ⟨hx, hb, hml, hown, hts⟩ hK hP hN hS (c_X8_byteAt l D cA ad hI σ τ hR x2 (by omega)) (cwV 1 hts gX8_scan_X8_byteAt rfl rfl rfl (by decide +kernel) ⟨by decide, by decide⟩) (rv_Tape hK hP (by decide) (by decide)) rfl hl.1 rfl (Nat.le_of_ble_eq_true rfl) dX8_scan_41 (Nat.zero_le _) (Nat.zero_le _) (fun r6 u6 H6 locs6 hp6 hP hS => ?_)
        obtain ⟨σ6, τ6⟩ := u6
        obtain ⟨hR, f6, fL6, hq6, hp6_0⟩ : P_X8_byteAt σ τ x2 r6 σ6 τ6 := hp6
        have hP : va_P D vwCl (gw cA ad σ6 τ6) H6 := hP
        obtain rfl := FrL.nil fL6
        obtain rfl := Fr.nil f6
        refine lv_istore (lv' := [(4, .int r6), (0, .ref (ad 1)), (1, .int a1), (2, .int x2), (3, .int x3)]) hx hb dX8_scan_44 hl (by decide) rfl (fun ls hl => ?_)
        refine lv_iload hx hb dX8_scan_46 (lv_at hl 0 rfl) ?_
        refine r_cSi (As := [.int r6]) (rest := []) ⟨hx, hb, hml, hown, hts⟩ hK hP hN hS (c_X8_isInRun l D cA ad hI σ τ hR r6 (by omega)) (va_cwS 1 hts gX8_scan_X8_isInRun rfl rfl rfl (by decide +kernel) ⟨by decide, by decide⟩) rfl hl.1 rfl (Nat.le_of_ble_eq_true rfl) dX8_scan_48 (Nat.zero_le _) (Nat.zero_le _) (fun r7 u7 H7 locs7 hp7 hP hS => ?_)
        obtain ⟨σ7, τ7⟩ := u7
        obtain ⟨hR, f7, fL7, hq7, hp7_0⟩ : P_X8_isInRun σ τ r6 r7 σ7 τ7 := hp7
        have hP : va_P D vwCl (gw cA ad σ7 τ7) H7 := hP
        obtain rfl := FrL.nil fL7
        obtain rfl := Fr.nil f7
        refine r_if_eq (tgt := 63) hx hb dX8_scan_51 (by decide) (fun c8 => ?_) (fun c8 => ?_)
        · refine lv_iload hx hb dX8_scan_63 (lv_at hl 0 rfl) ?_
          refine r_cSi (As := [.int r6]) (rest := []) ⟨hx, hb, hml, hown, hts⟩ hK hP hN hS (c_X8_isBlank l D cA ad hI σ τ hR r6 (by omega)) (va_cwS 1 hts gX8_scan_X8_isBlank rfl rfl rfl (by decide +kernel) ⟨by decide, by decide⟩) rfl hl.1 rfl (Nat.le_of_ble_eq_true rfl) dX8_scan_65 (Nat.zero_le _) (Nat.zero_le _) (fun r9 u9 H9 locs9 hp9 hP hS => ?_)
          obtain ⟨σ9, τ9⟩ := u9
          obtain ⟨hR, f9, fL9, hq9, hp9_0⟩ : P_X8_isBlank σ τ r6 r9 σ9 τ9 := hp9
          have hP : va_P D vwCl (gw cA ad σ9 τ9) H9 := hP
          obtain rfl := FrL.nil fL9
          obtain rfl := Fr.nil f9
          refine r_if_ne (tgt := 83) hx hb dX8_scan_68 (by decide) (fun c10 => ?_) (fun c10 => ?_)
          · refine r_iinc (k := 3) (lv1 := fun z11 => [(2, .int z11), (4, .int r6), (0, .ref (ad 1)), (1, .int a1), (3, .int x3)]) hx hb dX8_scan_83 hl rfl (by decide) (fun _ => rfl) (by decide) (by omega) (fun z11 ls ez11 hl => ?_)
            refine r_iinc (k := 4) (lv1 := fun z12 => [(3, .int z12), (2, .int z11), (4, .int r6), (0, .ref (ad 1)), (1, .int a1)]) hx hb dX8_scan_86 hl rfl (by decide) (fun _ => rfl) (by decide) (by omega) (fun z12 ls ez12 hl => ?_)
            refine lv_goto (tgt := 19) hx hb dX8_scan_89 (by decide) ?_
            exact K19 σ τ H9 locs9 z11 z12 ls hR hF hFL hP hS (by omega) (by omega) (lv_sub hl [3, 4, 1, 0] rfl) (by omega)
          · refine lv_aload_n hx hb dX8_scan_71 rfl (lv_at hl 1 rfl) ?_
            refine lv_iload hx hb dX8_scan_72 (lv_at hl 0 rfl) ?_
            refine r_cSi (As := [.int r6]) (rest := [.ref (ad 1)]) ⟨hx, hb, hml, hown, hts⟩ hK hP hN hS (c_X8_signToken l D cA ad hI σ τ hR r6 (by omega)) (va_cwS 1 hts gX8_scan_X8_signToken rfl rfl rfl (by decide +kernel) ⟨by decide, by decide⟩) rfl hl.1 rfl (Nat.le_of_ble_eq_true rfl) dX8_scan_74 (Nat.zero_le _) (Nat.zero_le _) (fun r13 u13 H13 locs13 hp13 hP hS => ?_)
            obtain ⟨σ13, τ13⟩ := u13
            obtain ⟨hR, f13, fL13, hq13, hp13_0⟩ : P_X8_signToken σ τ r6 r13 σ13 τ13 := hp13
            have hP : va_P D vwCl (gw cA ad σ13 τ13) H13 := hP
            obtain rfl := FrL.nil fL13
            obtain rfl := Fr.nil f13
            refine lv_iload_n hx hb dX8_scan_77 rfl (lv_at hl 3 rfl) ?_
            refine r_iconst hx hb dX8_scan_78 (by decide) (fun z14 ez14 => ?_)
            refine lv_lconst (v := 0) hx hb dX8_scan_79 (by decide) ?_
            refine r_cVv (k := 1) (As := [.int r13, .int x2, .int z14, .long (0)]) (rest := []) ⟨hx, hb, hml, hown, hts⟩ hK hP hN hS (c_X8_note l D cA ad hI σ τ hR r13 x2 z14 (0) (by omega) (by omega)) (cwV 4 hts gX8_scan_X8_note rfl rfl rfl (by decide +kernel) ⟨by decide, by decide⟩) (rv_Tape hK hP (by decide) (by decide)) rfl hl.1 rfl (Nat.le_of_ble_eq_true rfl) dX8_scan_80 (Nat.zero_le _) (Nat.zero_le _) (fun u15 H15 locs15 hp15 hP hS => ?_)
            obtain ⟨σ15, τ15⟩ := u15
            obtain ⟨hR, f15, fL15⟩ : P_X8_note σ τ r13 x2 z14 (0) σ15 τ15 := hp15
            have hP : va_P D vwCl (gw cA ad σ15 τ15) H15 := hP
            have hFL := hFL.step fL15 (by decide)
            have hF := hF.step f15 (by decide)
            have t16 : (σ15 1 5).toInt = (σ 1 5).toInt := congrArg Int32.toInt (f15.at 1 5 (by decide))
            refine r_iinc (k := 3) (lv1 := fun z17 => [(2, .int z17), (4, .int r6), (0, .ref (ad 1)), (1, .int a1), (3, .int x3)]) hx hb dX8_scan_83 hl rfl (by decide) (fun _ => rfl) (by decide) (by omega) (fun z17 ls ez17 hl => ?_)
            refine r_iinc (k := 4) (lv1 := fun z18 => [(3, .int z18), (2, .int z17), (4, .int r6), (0, .ref (ad 1)), (1, .int a1)]) hx hb dX8_scan_86 hl rfl (by decide) (fun _ => rfl) (by decide) (by omega) (fun z18 ls ez18 hl => ?_)
            refine lv_goto (tgt := 19) hx hb dX8_scan_89 (by decide) ?_
            exact K19 σ15 τ15 H15 locs15 z17 z18 ls hR hF hFL hP hS (by omega) (by omega) (lv_sub hl [3, 4, 1, 0] rfl) (by omega)
        · refine lv_aload_n hx hb dX8_scan_54 rfl (lv_at hl 1 rfl) ?_
          refine lv_iload_n hx hb dX8_scan_55 rfl (lv_at hl 3 rfl) ?_
          refine r_cVi (k := 1) (As := [.int x2]) (rest := []) ⟨hx, hb, hml, hown, hts⟩ hK hP hN hS (c_X8_scanRun l D cA ad hI σ τ hR x2 (by omega)) (cwV 1 hts gX8_scan_X8_scanRun rfl rfl rfl (by decide +kernel) ⟨by decide, by decide⟩) (rv_Tape hK hP (by decide) (by decide)) rfl hl.1 rfl (Nat.le_of_ble_eq_true rfl) dX8_scan_56 (Nat.zero_le _) (Nat.zero_le _) (fun r19 u19 H19 locs19 hp19 hP hS => ?_)
          obtain ⟨σ19, τ19⟩ := u19
          obtain ⟨hR, f19, fL19, hq19⟩ : P_X8_scanRun σ τ x2 r19 σ19 τ19 := hp19
          have hP : va_P D vwCl (gw cA ad σ19 τ19) H19 := hP
          have hFL := hFL.step fL19 (by decide)
          have hF := hF.step f19 (by decide)
          have t20 : (σ19 1 5).toInt = (σ 1 5).toInt := congrArg Int32.toInt (f19.at 1 5 (by decide))
          refine lv_istore_n (lv' := [(2, .int r19), (4, .int r6), (0, .ref (ad 1)), (1, .int a1), (3, .int x3)]) hx hb dX8_scan_59 rfl hl (by decide) rfl (fun ls hl => ?_)
          refine lv_goto (tgt := 86) hx hb dX8_scan_60 (by decide) ?_
          refine r_iinc (k := 4) (lv1 := fun z21 => [(3, .int z21), (2, .int r19), (4, .int r6), (0, .ref (ad 1)), (1, .int a1)]) hx hb dX8_scan_86 hl rfl (by decide) (fun _ => rfl) (by decide) (by omega) (fun z21 ls ez21 hl => ?_)
          refine lv_goto (tgt := 19) hx hb dX8_scan_89 (by decide) ?_
          exact K19 σ19 τ19 H19 locs19 r19 z21 ls hR hF hFL hP hS (by omega) (by omega) (lv_sub hl [3, 4, 1, 0] rfl) (by omega)
set_option maxHeartbeats 4000000 in
theorem B_X8_scan_92 (p : Program) (l : Launch) (e : Env) (s : State) (m : MethodId) (args : Array Value) (below : List Frame) (meth : Method) (c : Code) (D : va_G) (cA : Nat → ClassId) (ad : Nat → Nat) (σ0 : Nat → Nat → Int32) (τ0 : Nat → Nat → Int64) (a1 : Int32) (n : Nat) (C : Cy p s m args meth c cX8_scan 5 wsX8_scan RX8 D cA ad none) (ha1 : 400 ≤ a1.toInt ∧ a1.toInt ≤ 400) (K19 : J_X8_scan_19 p l e s m args below meth c D cA ad σ0 τ0 a1 n) (K92 : J_X8_scan_92 p l e s m args below meth c D cA ad σ0 τ0 a1 n) : J_X8_scan_92 p l e s m args below meth c D cA ad σ0 τ0 a1 (n + 1) := by
  obtain ⟨hx, hb, hml, hown, hts, hK, hk, hr, hI, hN⟩ := C
  intro σ τ H locs x2 x3 ls hR hF hFL hP hS hc0 hc1 hl hm
  refine lv_aload_n hx hb dX8_scan_92 rfl (lv_at hl 0 rfl) ?_
  refine lv_aload_n hx hb dX8_scan_93 rfl (lv_at hl 0 rfl) ?_
  refine fg_8_5 (k := 1) hx hb hts in_X8_scan_8 hown hK hP (by decide) (by decide) (hts _ lk_X8_scan_29) dX8_scan_94 ?_
  have hr1 := rg_8_5 hR (k := 1) (by decide) (by decide)
  refine lv_iload_n hx hb dX8_scan_97 rfl (lv_at hl 1 rfl) ?_
  refine r_icmp_le (tgt := 106) hx hb dX8_scan_98 (by decide) (fun c2 => ?_) (fun c2 => ?_)
  · refine r_bipush hx hb dX8_scan_106 (by decide) (fun z3 ez3 => ?_)
    refine lv_aload_n hx hb dX8_scan_108 rfl (lv_at hl 0 rfl) ?_
    refine fg_8_5 (k := 1) hx hb hts in_X8_scan_8 hown hK hP (by decide) (by decide) (hts _ lk_X8_scan_29) dX8_scan_109 ?_
    refine lv_iload_n hx hb dX8_scan_112 rfl (lv_at hl 1 rfl) ?_
    refine r_mmin hx hb (by rw [hml]; exact hl.1.symm) hown (hts _ lk_X8_scan_63) (hts _ ms_X8_scan_min) (hts _ mi_X8_scan) (hts _ mc_X8_scan_min) (by decide) (Nat.le_of_ble_eq_true rfl) (Nat.zero_le _) (Nat.zero_le _) dX8_scan_113 (fun z5 ez5 => ?_)
    refine r_iconst hx hb dX8_scan_116 (by decide) (fun z6 ez6 => ?_)
    refine lv_lconst (v := 0) hx hb dX8_scan_117 (by decide) ?_
    refine r_cVv (k := 1) (As := [.int z3, .int z5, .int z6, .long (0)]) (rest := []) ⟨hx, hb, hml, hown, hts⟩ hK hP hN hS (c_X8_note l D cA ad hI σ τ hR z3 z5 z6 (0) (by omega) (by omega)) (cwV 4 hts gX8_scan_X8_note rfl rfl rfl (by decide +kernel) ⟨by decide, by decide⟩) (rv_Tape hK hP (by decide) (by decide)) rfl hl.1 rfl (Nat.le_of_ble_eq_true rfl) dX8_scan_118 (Nat.zero_le _) (Nat.zero_le _) (fun u7 H7 locs7 hp7 hP hS => ?_)
    obtain ⟨σ7, τ7⟩ := u7
    obtain ⟨hR, f7, fL7⟩ : P_X8_note σ τ z3 z5 z6 (0) σ7 τ7 := hp7
    have hP : va_P D vwCl (gw cA ad σ7 τ7) H7 := hP
    have hFL := hFL.step fL7 (by decide)
    have hF := hF.step f7 (by decide)
    have t8 : (σ7 1 5).toInt = (σ 1 5).toInt := congrArg Int32.toInt (f7.at 1 5 (by decide))
    refine lv_aload_n hx hb dX8_scan_121 rfl (lv_at hl 0 rfl) ?_
    refine r_iconst hx hb dX8_scan_122 (by decide) (fun z9 ez9 => ?_)
    refine fp_8_7 (k := 1) hx hb hts in_X8_scan_8 hown hK hP (by decide) (by decide) (hts _ lk_X8_scan_69) hI hR hS (by omega) dX8_scan_123 (fun σ10 H10 locs10 u10 v10 hR hP hS => ?_)
    have hF := hF.puts u10 4 rfl (by decide) (by decide) (by decide) (by decide)
    have t11 : (σ10 1 5).toInt = (σ7 1 5).toInt := congrArg Int32.toInt (u10 1 5 (by omega))
    refine lv_aload_n hx hb dX8_scan_126 rfl (lv_at hl 0 rfl) ?_
    refine r_cVv (k := 1) (As := []) (rest := []) ⟨hx, hb, hml, hown, hts⟩ hK hP hN hS (c_X8_next l D cA ad hI σ10 τ7 hR) (cwV 0 hts gX8_scan_X8_next rfl rfl rfl (by decide +kernel) ⟨by decide, by decide⟩) (rv_Tape hK hP (by decide) (by decide)) rfl hl.1 rfl (Nat.le_of_ble_eq_true rfl) dX8_scan_127 (Nat.zero_le _) (Nat.zero_le _) (fun u12 H12 locs12 hp12 hP hS => ?_)
    obtain ⟨σ12, τ12⟩ := u12
    obtain ⟨hR, f12, fL12⟩ : P_X8_next σ10 τ7 σ12 τ12 := hp12
    have hP : va_P D vwCl (gw cA ad σ12 τ12) H12 := hP
    have hFL := hFL.step fL12 (by decide)
    have hF := hF.step f12 (by decide)
    have t13 : (σ12 1 5).toInt = (σ10 1 5).toInt := congrArg Int32.toInt (f12.at 1 5 (by decide))
    exact r_vret hx hb hr hK hP hS hk dX8_scan_130 (show P_X8_scan σ0 τ0 a1 σ12 τ12 from ⟨hR, hF, hFL⟩)
  · refine r_bipush hx hb dX8_scan_101 (by decide) (fun z14 ez14 => ?_)
    refine lv_goto (tgt := 108) hx hb dX8_scan_103 (by decide) ?_
    refine lv_aload_n hx hb dX8_scan_108 rfl (lv_at hl 0 rfl) ?_
    refine fg_8_5 (k := 1) hx hb hts in_X8_scan_8 hown hK hP (by decide) (by decide) (hts _ lk_X8_scan_29) dX8_scan_109 ?_
    refine lv_iload_n hx hb dX8_scan_112 rfl (lv_at hl 1 rfl) ?_
    refine r_mmin hx hb (by rw [hml]; exact hl.1.symm) hown (hts _ lk_X8_scan_63) (hts _ ms_X8_scan_min) (hts _ mi_X8_scan) (hts _ mc_X8_scan_min) (by decide) (Nat.le_of_ble_eq_true rfl) (Nat.zero_le _) (Nat.zero_le _) dX8_scan_113 (fun z16 ez16 => ?_)
    refine r_iconst hx hb dX8_scan_116 (by decide) (fun z17 ez17 => ?_)
    refine lv_lconst (v := 0) hx hb dX8_scan_117 (by decide) ?_
    refine r_cVv (k := 1) (As := [.int z14, .int z16, .int z17, .long (0)]) (rest := []) ⟨hx, hb, hml, hown, hts⟩ hK hP hN hS (c_X8_note l D cA ad hI σ τ hR z14 z16 z17 (0) (by omega) (by omega)) (cwV 4 hts gX8_scan_X8_note rfl rfl rfl (by decide +kernel) ⟨by decide, by decide⟩) (rv_Tape hK hP (by decide) (by decide)) rfl hl.1 rfl (Nat.le_of_ble_eq_true rfl) dX8_scan_118 (Nat.zero_le _) (Nat.zero_le _) (fun u18 H18 locs18 hp18 hP hS => ?_)
    obtain ⟨σ18, τ18⟩ := u18
    obtain ⟨hR, f18, fL18⟩ : P_X8_note σ τ z14 z16 z17 (0) σ18 τ18 := hp18
    have hP : va_P D vwCl (gw cA ad σ18 τ18) H18 := hP
    have hFL := hFL.step fL18 (by decide)
    have hF := hF.step f18 (by decide)
    have t19 : (σ18 1 5).toInt = (σ 1 5).toInt := congrArg Int32.toInt (f18.at 1 5 (by decide))
    refine lv_aload_n hx hb dX8_scan_121 rfl (lv_at hl 0 rfl) ?_
    refine r_iconst hx hb dX8_scan_122 (by decide) (fun z20 ez20 => ?_)
    refine fp_8_7 (k := 1) hx hb hts in_X8_scan_8 hown hK hP (by decide) (by decide) (hts _ lk_X8_scan_69) hI hR hS (by omega) dX8_scan_123 (fun σ21 H21 locs21 u21 v21 hR hP hS => ?_)
    have hF := hF.puts u21 4 rfl (by decide) (by decide) (by decide) (by decide)
    have t22 : (σ21 1 5).toInt = (σ18 1 5).toInt := congrArg Int32.toInt (u21 1 5 (by omega))
    refine lv_aload_n hx hb dX8_scan_126 rfl (lv_at hl 0 rfl) ?_
    refine r_cVv (k := 1) (As := []) (rest := []) ⟨hx, hb, hml, hown, hts⟩ hK hP hN hS (c_X8_next l D cA ad hI σ21 τ18 hR) (cwV 0 hts gX8_scan_X8_next rfl rfl rfl (by decide +kernel) ⟨by decide, by decide⟩) (rv_Tape hK hP (by decide) (by decide)) rfl hl.1 rfl (Nat.le_of_ble_eq_true rfl) dX8_scan_127 (Nat.zero_le _) (Nat.zero_le _) (fun u23 H23 locs23 hp23 hP hS => ?_)
    obtain ⟨σ23, τ23⟩ := u23
    obtain ⟨hR, f23, fL23⟩ : P_X8_next σ21 τ18 σ23 τ23 := hp23
    have hP : va_P D vwCl (gw cA ad σ23 τ23) H23 := hP
    have hFL := hFL.step fL23 (by decide)
    have hF := hF.step f23 (by decide)
    have t24 : (σ23 1 5).toInt = (σ21 1 5).toInt := congrArg Int32.toInt (f23.at 1 5 (by decide))
    exact r_vret hx hb hr hK hP hS hk dX8_scan_130 (show P_X8_scan σ0 τ0 a1 σ23 τ23 from ⟨hR, hF, hFL⟩)
theorem A_X8_scan (p : Program) (l : Launch) (e : Env) (s : State) (m : MethodId) (args : Array Value) (below : List Frame) (meth : Method) (c : Code) (D : va_G) (cA : Nat → ClassId) (ad : Nat → Nat) (σ0 : Nat → Nat → Int32) (τ0 : Nat → Nat → Int64) (a1 : Int32) (C : Cy p s m args meth c cX8_scan 5 wsX8_scan RX8 D cA ad none) (ha1 : 400 ≤ a1.toInt ∧ a1.toInt ≤ 400) : ∀ n : Nat, J_X8_scan_19 p l e s m args below meth c D cA ad σ0 τ0 a1 n ∧ J_X8_scan_92 p l e s m args below meth c D cA ad σ0 τ0 a1 n := by
  intro n
  induction n with
  | zero =>
    exact ⟨(by intro σ τ H locs x2 x3 ls hR hF hFL hP hS hc0 hc1 hl hm; exfalso; omega), (by intro σ τ H locs x2 x3 ls hR hF hFL hP hS hc0 hc1 hl hm; exfalso; omega)⟩
  | succ n ih =>
    exact ⟨B_X8_scan_19 p l e s m args below meth c D cA ad σ0 τ0 a1 n C ha1 ih.1 ih.2, B_X8_scan_92 p l e s m args below meth c D cA ad σ0 τ0 a1 n C ha1 ih.1 ih.2⟩
set_option maxHeartbeats 4000000 in
theorem c_X8_scan (l : Launch) (D : va_G) (cA : Nat → ClassId) (ad : Nat → Nat) (hI : Inj ad) (σ0 : Nat → Nat → Int32) (τ0 : Nat → Nat → Int64) (hR : Rg σ0) (a1 : Int32) (ha1 : 400 ≤ a1.toInt ∧ a1.toInt ≤ 400) : Met l yX8_scan wsX8_scan ({ frames := 8, cells := 0, slots := 0, locals := 186 } : Room) (WQc D cA ad [.ref (ad 1), .int a1] σ0 τ0) (va_Qv (fun u : SS => P_X8_scan σ0 τ0 a1 u.1 u.2) (WB D cA ad) (AA ad)) 0 0 (AA ad) := by
  refine Met.ofW (cc := cX8_scan) (maxL := 5) (ret := none) (by decide) rfl ?_
  intro p e s m args below meth c s₁ B hml hv
  obtain ⟨rfl, hP, hK, hN⟩ := hv
  have C : Cy p s m _ meth c cX8_scan 5 wsX8_scan RX8 D cA ad none := ⟨B.exec, B.bytes, hml, findClass_of_methodNamed B.named, atoms_spec (ws := wsX8_scan) B.pre, hK, B.notSynchronized, B.returns, hI, hN⟩
  have hl := lv_entry ([.ref (ad 1), .int a1]) (n := 5) (Nat.le_of_ble_eq_true rfl)
  rw [lg_entry_eq]
  generalize (lg_sl ([.ref (ad 1), .int a1]) ++ List.replicate (5 - (lg_sl ([.ref (ad 1), .int a1])).length) Slot.unset).toArray = ls at hl ⊢
  have hl : lv_has ls 5 [(0, .ref (ad 1)), (1, .int a1)] := hl
  have hS : va_S (AA ad) s.heap s.heap [] := va_S.rf
  have hF : Fr L_X8_scan σ0 σ0 := Fr.rf
  have hFL : FrL LL_X8_scan τ0 τ0 := FrL.rf
  have hA := A_X8_scan p l e s m _ below meth c D cA ad σ0 τ0 a1 C ha1 5653
  have K19 := hA.1
  have K92 := hA.2
  clear hA
  obtain ⟨hx, hb, _, hown, hts, _, hk, hr, _, _⟩ := C
  refine lv_aload_n hx hb dX8_scan_0 rfl (lv_at hl 0 rfl) ?_
  refine r_iconst hx hb dX8_scan_1 (by decide) (fun z1 ez1 => ?_)
  refine fp_8_13 (k := 1) hx hb hts in_X8_scan_8 hown hK hP (by decide) (by decide) (hts _ lk_X8_scan_33) hI hR hS dX8_scan_2 (fun σ2 H2 locs2 u2 v2 hR hP hS => ?_)
  have hF := hF.puts u2 0 rfl (by decide) (by decide) (by decide) (by decide)
  refine lv_aload_n hx hb dX8_scan_5 rfl (lv_at hl 0 rfl) ?_
  refine r_iconst hx hb dX8_scan_6 (by decide) (fun z3 ez3 => ?_)
  refine fp_8_14 (k := 1) hx hb hts in_X8_scan_8 hown hK hP (by decide) (by decide) (hts _ lk_X8_scan_36) hI hR hS dX8_scan_7 (fun σ4 H4 locs4 u4 v4 hR hP hS => ?_)
  have hF := hF.puts u4 0 rfl (by decide) (by decide) (by decide) (by decide)
  refine lv_aload_n hx hb dX8_scan_10 rfl (lv_at hl 0 rfl) ?_
  refine r_iconst hx hb dX8_scan_11 (by decide) (fun z5 ez5 => ?_)
  refine fp_8_6 (k := 1) hx hb hts in_X8_scan_8 hown hK hP (by decide) (by decide) (hts _ lk_X8_scan_39) hI hR hS (by omega) dX8_scan_12 (fun σ6 H6 locs6 u6 v6 hR hP hS => ?_)
  have hF := hF.puts u6 4 rfl (by decide) (by decide) (by decide) (by decide)
  refine r_iconst hx hb dX8_scan_15 (by decide) (fun z7 ez7 => ?_)
  refine lv_istore_n (lv' := [(2, .int z7), (0, .ref (ad 1)), (1, .int a1)]) hx hb dX8_scan_16 rfl hl (by decide) rfl (fun ls hl => ?_)
  refine r_iconst hx hb dX8_scan_17 (by decide) (fun z8 ez8 => ?_)
  refine lv_istore_n (lv' := [(3, .int z8), (2, .int z7), (0, .ref (ad 1)), (1, .int a1)]) hx hb dX8_scan_18 rfl hl (by decide) rfl (fun ls hl => ?_)
  exact K19 σ6 τ0 H6 locs6 z7 z8 ls hR hF hFL hP hS (by omega) (by omega) (lv_sub hl [2, 3, 1, 0] rfl) (by omega)
theorem cn_X6_copyFrom : Cond.native arraycopyName ∈ wsX6_copyFrom := by decide +kernel
theorem cs_X6_copyFrom : Cond.static arraycopyName ∈ wsX6_copyFrom := by decide +kernel
theorem ci_X6_copyFrom : Cond.initialized "java/lang/System" ∈ wsX6_copyFrom := by decide +kernel
theorem in_X6_copyFrom_6 : ∀ w ∈ u_ws RX6 TX6 7, w ∈ wsX6_copyFrom := by decide +kernel
theorem lk_X6_copyFrom_15 : Cond.fieldLink RX6 15 "CuckooShares$Sentence" "sign" "[I" ∈ wsX6_copyFrom := by decide +kernel
theorem lk_X6_copyFrom_18 : Cond.fieldLink RX6 18 "CuckooShares$Sentence" "value" "[I" ∈ wsX6_copyFrom := by decide +kernel
theorem lk_X6_copyFrom_24 : Cond.fieldLink RX6 24 "CuckooShares$Sentence" "told" "Z" ∈ wsX6_copyFrom := by decide +kernel
theorem lk_X6_copyFrom_28 : Cond.fieldLink RX6 28 "CuckooShares$Sentence" "ones" "I" ∈ wsX6_copyFrom := by decide +kernel
theorem lk_X6_copyFrom_32 : Cond.fieldLink RX6 32 "CuckooShares$Sentence" "steps" "I" ∈ wsX6_copyFrom := by decide +kernel
theorem lk_X6_copyFrom_35 : Cond.methodLink RX6 35 arraycopyName ∈ wsX6_copyFrom := by decide +kernel
theorem lk_X6_copyFrom_9 : Cond.fieldLink RX6 9 "CuckooShares$Sentence" "word" "[I" ∈ wsX6_copyFrom := by decide +kernel
abbrev L_X6_copyFrom : List Rc := [(23, 26, 0, 2), (371, 374, 0, 40), (375, 378, 0, 40), (379, 382, 0, 40)]
abbrev LL_X6_copyFrom : List Rc := []
def P_X6_copyFrom (σ0 : Nat → Nat → Int32) (τ0 : Nat → Nat → Int64) (k0 : Nat) (k1 : Nat) (σ : Nat → Nat → Int32) (τ : Nat → Nat → Int64) : Prop := Rg σ ∧ Fr L_X6_copyFrom σ0 σ ∧ FrL LL_X6_copyFrom τ0 τ ∧ ((σ k0 1).toInt = (σ0 k1 1).toInt)
set_option maxHeartbeats 4000000 in
theorem c_X6_copyFrom (l : Launch) (D : va_G) (cA : Nat → ClassId) (ad : Nat → Nat) (hI : Inj ad) (σ0 : Nat → Nat → Int32) (τ0 : Nat → Nat → Int64) (hR : Rg σ0) (k0 : Nat) (k1 : Nat) (hk0 : 23 ≤ k0 ∧ k0 ≤ 26) (hk1 : 23 ≤ k1 ∧ k1 ≤ 26) : Met l yX6_copyFrom wsX6_copyFrom ({ frames := 1, cells := 0, slots := 0, locals := 60 } : Room) (WQc D cA ad [.ref (ad k0), .ref (ad k1)] σ0 τ0) (va_Qv (fun u : SS => P_X6_copyFrom σ0 τ0 k0 k1 u.1 u.2) (WB D cA ad) (AA ad)) 0 0 (AA ad) := by
  refine Met.ofW (cc := cX6_copyFrom) (maxL := 2) (ret := none) (by decide) rfl ?_
  intro p e s m args below meth c s₁ B hml hv
  obtain ⟨rfl, hP, hK, hN⟩ := hv
  have C : Cy p s m _ meth c cX6_copyFrom 2 wsX6_copyFrom RX6 D cA ad none := ⟨B.exec, B.bytes, hml, findClass_of_methodNamed B.named, atoms_spec (ws := wsX6_copyFrom) B.pre, hK, B.notSynchronized, B.returns, hI, hN⟩
  have hl := lv_entry ([.ref (ad k0), .ref (ad k1)]) (n := 2) (Nat.le_of_ble_eq_true rfl)
  rw [lg_entry_eq]
  generalize (lg_sl ([.ref (ad k0), .ref (ad k1)]) ++ List.replicate (2 - (lg_sl ([.ref (ad k0), .ref (ad k1)])).length) Slot.unset).toArray = ls at hl ⊢
  have hl : lv_has ls 2 [(0, .ref (ad k0)), (1, .ref (ad k1))] := hl
  have hS : va_S (AA ad) s.heap s.heap [] := va_S.rf
  have hF : Fr L_X6_copyFrom σ0 σ0 := Fr.rf
  have hFL : FrL LL_X6_copyFrom τ0 τ0 := FrL.rf
  obtain ⟨hx, hb, _, hown, hts, _, hk, hr, _, _⟩ := C
  refine lv_aload_n hx hb dX6_copyFrom_0 rfl (lv_at hl 0 rfl) ?_
  refine lv_aload_n hx hb dX6_copyFrom_1 rfl (lv_at hl 1 rfl) ?_
  refine fg_6_0 (k := k1) hx hb hts in_X6_copyFrom_6 hown hK hP (by omega) (by omega) (hts _ lk_X6_copyFrom_24) dX6_copyFrom_2 ?_
  have hr1 := rg_6_0 hR (k := k1) (by omega) (by omega)
  refine fp_6_0 (k := k0) hx hb hts in_X6_copyFrom_6 hown hK hP (by omega) (by omega) (hts _ lk_X6_copyFrom_24) hI hR hS (by omega) dX6_copyFrom_5 (fun σ2 H2 locs2 u2 v2 hR hP hS => ?_)
  have w0 := u2
  have y0 := v2
  have hF := hF.puts u2 0 rfl (by omega) (by omega) (by decide) (by decide)
  refine lv_aload_n hx hb dX6_copyFrom_8 rfl (lv_at hl 0 rfl) ?_
  refine lv_aload_n hx hb dX6_copyFrom_9 rfl (lv_at hl 1 rfl) ?_
  refine fg_6_1 (k := k1) hx hb hts in_X6_copyFrom_6 hown hK hP (by omega) (by omega) (hts _ lk_X6_copyFrom_28) dX6_copyFrom_10 ?_
  have hr3 := rg_6_1 hR (k := k1) (by omega) (by omega)
  refine fp_6_1 (k := k0) hx hb hts in_X6_copyFrom_6 hown hK hP (by omega) (by omega) (hts _ lk_X6_copyFrom_28) hI hR hS (by omega) dX6_copyFrom_13 (fun σ4 H4 locs4 u4 v4 hR hP hS => ?_)
  have hF := hF.puts u4 0 rfl (by omega) (by omega) (by decide) (by decide)
  refine lv_aload_n hx hb dX6_copyFrom_16 rfl (lv_at hl 0 rfl) ?_
  refine lv_aload_n hx hb dX6_copyFrom_17 rfl (lv_at hl 1 rfl) ?_
  refine fg_6_2 (k := k1) hx hb hts in_X6_copyFrom_6 hown hK hP (by omega) (by omega) (hts _ lk_X6_copyFrom_32) dX6_copyFrom_18 ?_
  have hr5 := rg_6_2 hR (k := k1) (by omega) (by omega)
  refine fp_6_2 (k := k0) hx hb hts in_X6_copyFrom_6 hown hK hP (by omega) (by omega) (hts _ lk_X6_copyFrom_32) hI hR hS (by omega) dX6_copyFrom_21 (fun σ6 H6 locs6 u6 v6 hR hP hS => ?_)
  have hF := hF.puts u6 0 rfl (by omega) (by omega) (by decide) (by decide)
  have t7 : (σ6 k0 1).toInt = (σ4 k0 1).toInt := congrArg Int32.toInt (u6 k0 1 (by omega))
  refine lv_aload_n hx hb dX6_copyFrom_24 rfl (lv_at hl 1 rfl) ?_
  refine fg_6_3 (k := k1) hx hb hts in_X6_copyFrom_6 hown hK hP (by omega) (by omega) (hts _ lk_X6_copyFrom_9) dX6_copyFrom_25 ?_
  refine r_iconst hx hb dX6_copyFrom_28 (by decide) (fun z8 ez8 => ?_)
  refine lv_aload_n hx hb dX6_copyFrom_29 rfl (lv_at hl 0 rfl) ?_
  refine fg_6_3 (k := k0) hx hb hts in_X6_copyFrom_6 hown hK hP (by omega) (by omega) (hts _ lk_X6_copyFrom_9) dX6_copyFrom_30 ?_
  refine r_iconst hx hb dX6_copyFrom_33 (by decide) (fun z9 ez9 => ?_)
  refine r_bipush hx hb dX6_copyFrom_34 (by decide) (fun z10 ez10 => ?_)
  refine cp_sent40 (k := k0 + 348) (q := k1 + 348) hx hb (by rw [hml]; exact hl.1.symm) hown (hts _ lk_X6_copyFrom_35) (hts _ cn_X6_copyFrom) (hts _ cs_X6_copyFrom) (hts _ ci_X6_copyFrom) hK hP hI hR hS (by omega) (by omega) (by omega) (by omega) (by omega) (by omega) (by omega) (by decide) (Nat.le_of_ble_eq_true rfl) dX6_copyFrom_36 (fun σ11 H11 locs11 u11 hR hP hS => ?_)
  have hF := hF.row u11 1 rfl (by omega) (by omega) (by decide) (by decide)
  have t12 : (σ11 k0 1).toInt = (σ6 k0 1).toInt := congrArg Int32.toInt (u11 k0 1 (by omega))
  refine lv_aload_n hx hb dX6_copyFrom_39 rfl (lv_at hl 1 rfl) ?_
  refine fg_6_4 (k := k1) hx hb hts in_X6_copyFrom_6 hown hK hP (by omega) (by omega) (hts _ lk_X6_copyFrom_15) dX6_copyFrom_40 ?_
  refine r_iconst hx hb dX6_copyFrom_43 (by decide) (fun z13 ez13 => ?_)
  refine lv_aload_n hx hb dX6_copyFrom_44 rfl (lv_at hl 0 rfl) ?_
  refine fg_6_4 (k := k0) hx hb hts in_X6_copyFrom_6 hown hK hP (by omega) (by omega) (hts _ lk_X6_copyFrom_15) dX6_copyFrom_45 ?_
  refine r_iconst hx hb dX6_copyFrom_48 (by decide) (fun z14 ez14 => ?_)
  refine r_bipush hx hb dX6_copyFrom_49 (by decide) (fun z15 ez15 => ?_)
  refine cp_sent40 (k := k0 + 352) (q := k1 + 352) hx hb (by rw [hml]; exact hl.1.symm) hown (hts _ lk_X6_copyFrom_35) (hts _ cn_X6_copyFrom) (hts _ cs_X6_copyFrom) (hts _ ci_X6_copyFrom) hK hP hI hR hS (by omega) (by omega) (by omega) (by omega) (by omega) (by omega) (by omega) (by decide) (Nat.le_of_ble_eq_true rfl) dX6_copyFrom_51 (fun σ16 H16 locs16 u16 hR hP hS => ?_)
  have hF := hF.row u16 2 rfl (by omega) (by omega) (by decide) (by decide)
  have t17 : (σ16 k0 1).toInt = (σ11 k0 1).toInt := congrArg Int32.toInt (u16 k0 1 (by omega))
  refine lv_aload_n hx hb dX6_copyFrom_54 rfl (lv_at hl 1 rfl) ?_
  refine fg_6_5 (k := k1) hx hb hts in_X6_copyFrom_6 hown hK hP (by omega) (by omega) (hts _ lk_X6_copyFrom_18) dX6_copyFrom_55 ?_
  refine r_iconst hx hb dX6_copyFrom_58 (by decide) (fun z18 ez18 => ?_)
  refine lv_aload_n hx hb dX6_copyFrom_59 rfl (lv_at hl 0 rfl) ?_
  refine fg_6_5 (k := k0) hx hb hts in_X6_copyFrom_6 hown hK hP (by omega) (by omega) (hts _ lk_X6_copyFrom_18) dX6_copyFrom_60 ?_
  refine r_iconst hx hb dX6_copyFrom_63 (by decide) (fun z19 ez19 => ?_)
  refine r_bipush hx hb dX6_copyFrom_64 (by decide) (fun z20 ez20 => ?_)
  refine cp_sent40 (k := k0 + 356) (q := k1 + 356) hx hb (by rw [hml]; exact hl.1.symm) hown (hts _ lk_X6_copyFrom_35) (hts _ cn_X6_copyFrom) (hts _ cs_X6_copyFrom) (hts _ ci_X6_copyFrom) hK hP hI hR hS (by omega) (by omega) (by omega) (by omega) (by omega) (by omega) (by omega) (by decide) (Nat.le_of_ble_eq_true rfl) dX6_copyFrom_66 (fun σ21 H21 locs21 u21 hR hP hS => ?_)
  have hF := hF.row u21 3 rfl (by omega) (by omega) (by decide) (by decide)
  have t22 : (σ21 k0 1).toInt = (σ16 k0 1).toInt := congrArg Int32.toInt (u21 k0 1 (by omega))
  exact r_vret hx hb hr hK hP hS hk dX6_copyFrom_69 (show P_X6_copyFrom σ0 τ0 k0 k1 σ21 τ0 from ⟨hR, hF, hFL, by have h9 := congrArg Int32.toInt (w0 k1 1 (by omega)); omega⟩)
theorem in_X6_add_6 : ∀ w ∈ u_ws RX6 TX6 7, w ∈ wsX6_add := by decide +kernel
theorem lk_X6_add_15 : Cond.fieldLink RX6 15 "CuckooShares$Sentence" "sign" "[I" ∈ wsX6_add := by decide +kernel
theorem lk_X6_add_18 : Cond.fieldLink RX6 18 "CuckooShares$Sentence" "value" "[I" ∈ wsX6_add := by decide +kernel
theorem lk_X6_add_32 : Cond.fieldLink RX6 32 "CuckooShares$Sentence" "steps" "I" ∈ wsX6_add := by decide +kernel
theorem lk_X6_add_9 : Cond.fieldLink RX6 9 "CuckooShares$Sentence" "word" "[I" ∈ wsX6_add := by decide +kernel
abbrev L_X6_add : List Rc := [(372, 372, 0, 39), (376, 376, 0, 39), (380, 380, 0, 39), (24, 24, 2, 2)]
abbrev LL_X6_add : List Rc := []
def P_X6_add (σ0 : Nat → Nat → Int32) (τ0 : Nat → Nat → Int64) (a1 : Int32) (a2 : Int32) (a3 : Int32) (r : Int32) (σ : Nat → Nat → Int32) (τ : Nat → Nat → Int64) : Prop := Rg σ ∧ Fr L_X6_add σ0 σ ∧ FrL LL_X6_add τ0 τ ∧ (0 ≤ r.toInt ∧ r.toInt ≤ 1) ∧ ((r.toInt = 1 ∧ (σ 24 2).toInt = (σ0 24 2).toInt + 1) ∨ (r.toInt = 0 ∧ 40 ≤ (σ0 24 2).toInt ∧ (σ 24 2).toInt = (σ0 24 2).toInt))
set_option maxHeartbeats 4000000 in
theorem c_X6_add (l : Launch) (D : va_G) (cA : Nat → ClassId) (ad : Nat → Nat) (hI : Inj ad) (σ0 : Nat → Nat → Int32) (τ0 : Nat → Nat → Int64) (hR : Rg σ0) (a1 : Int32) (a2 : Int32) (a3 : Int32) (ha2 : -1 ≤ a2.toInt ∧ a2.toInt ≤ 45) : Met l yX6_add wsX6_add ({ frames := 0, cells := 0, slots := 0, locals := 0 } : Room) (WQc D cA ad [.ref (ad 24), .int a1, .int a2, .int a3] σ0 τ0) (va_Qi (fun (r : Int32) (u : SS) => P_X6_add σ0 τ0 a1 a2 a3 r u.1 u.2) (WB D cA ad) (AA ad)) 0 0 (AA ad) := by
  refine Met.ofW (cc := cX6_add) (maxL := 4) (ret := (some .boolean)) (by decide) rfl ?_
  intro p e s m args below meth c s₁ B hml hv
  obtain ⟨rfl, hP, hK, hN⟩ := hv
  have C : Cy p s m _ meth c cX6_add 4 wsX6_add RX6 D cA ad (some .boolean) := ⟨B.exec, B.bytes, hml, findClass_of_methodNamed B.named, atoms_spec (ws := wsX6_add) B.pre, hK, B.notSynchronized, B.returns, hI, hN⟩
  have hl := lv_entry ([.ref (ad 24), .int a1, .int a2, .int a3]) (n := 4) (Nat.le_of_ble_eq_true rfl)
  rw [lg_entry_eq]
  generalize (lg_sl ([.ref (ad 24), .int a1, .int a2, .int a3]) ++ List.replicate (4 - (lg_sl ([.ref (ad 24), .int a1, .int a2, .int a3])).length) Slot.unset).toArray = ls at hl ⊢
  have hl : lv_has ls 4 [(0, .ref (ad 24)), (1, .int a1), (2, .int a2), (3, .int a3)] := hl
  have hS : va_S (AA ad) s.heap s.heap [] := va_S.rf
  have hF : Fr L_X6_add σ0 σ0 := Fr.rf
  have hFL : FrL LL_X6_add τ0 τ0 := FrL.rf
  obtain ⟨hx, hb, _, hown, hts, _, hk, hr, _, _⟩ := C
  refine lv_aload_n hx hb dX6_add_0 rfl (lv_at hl 0 rfl) ?_
  refine fg_6_2 (k := 24) hx hb hts in_X6_add_6 hown hK hP (by decide) (by decide) (hts _ lk_X6_add_32) dX6_add_1 ?_
  have hr1 := rg_6_2 hR (k := 24) (by decide) (by decide)
  refine r_bipush hx hb dX6_add_4 (by decide) (fun z2 ez2 => ?_)
  refine r_icmp_lt (tgt := 11) hx hb dX6_add_6 (by decide) (fun c3 => ?_) (fun c3 => ?_)
  · refine lv_aload_n hx hb dX6_add_11 rfl (lv_at hl 0 rfl) ?_
    refine fg_6_3 (k := 24) hx hb hts in_X6_add_6 hown hK hP (by decide) (by decide) (hts _ lk_X6_add_9) dX6_add_12 ?_
    refine lv_aload_n hx hb dX6_add_15 rfl (lv_at hl 0 rfl) ?_
    refine fg_6_2 (k := 24) hx hb hts in_X6_add_6 hown hK hP (by decide) (by decide) (hts _ lk_X6_add_32) dX6_add_16 ?_
    refine lv_iload_n hx hb dX6_add_19 rfl (lv_at hl 1 rfl) ?_
    obtain ⟨j4, ej4⟩ : ∃ j : Nat, (σ0 24 2).toInt = (j : Int) := ⟨_, ti_nat (by omega)⟩
    refine as_sent40 (k := 372) (j := j4) hx hb hK hP hI hR hS (by decide) (by decide) ej4 (by omega) dX6_add_20 (fun σ5 H5 locs5 u5 v5 hR hP hS => ?_)
    have hF := hF.puts u5 0 rfl (by decide) (by decide) (by omega) (by omega)
    have t6 : (σ5 24 2).toInt = (σ0 24 2).toInt := congrArg Int32.toInt (u5 24 2 (by omega))
    refine lv_aload_n hx hb dX6_add_21 rfl (lv_at hl 0 rfl) ?_
    refine fg_6_4 (k := 24) hx hb hts in_X6_add_6 hown hK hP (by decide) (by decide) (hts _ lk_X6_add_15) dX6_add_22 ?_
    refine lv_aload_n hx hb dX6_add_25 rfl (lv_at hl 0 rfl) ?_
    refine fg_6_2 (k := 24) hx hb hts in_X6_add_6 hown hK hP (by decide) (by decide) (hts _ lk_X6_add_32) dX6_add_26 ?_
    refine lv_iload_n hx hb dX6_add_29 rfl (lv_at hl 2 rfl) ?_
    refine as_sent40 (k := 376) (j := j4) hx hb hK hP hI hR hS (by decide) (by decide) (by omega) (by omega) dX6_add_30 (fun σ7 H7 locs7 u7 v7 hR hP hS => ?_)
    have hF := hF.puts u7 1 rfl (by decide) (by decide) (by omega) (by omega)
    have t8 : (σ7 24 2).toInt = (σ5 24 2).toInt := congrArg Int32.toInt (u7 24 2 (by omega))
    refine lv_aload_n hx hb dX6_add_31 rfl (lv_at hl 0 rfl) ?_
    refine fg_6_5 (k := 24) hx hb hts in_X6_add_6 hown hK hP (by decide) (by decide) (hts _ lk_X6_add_18) dX6_add_32 ?_
    refine lv_aload_n hx hb dX6_add_35 rfl (lv_at hl 0 rfl) ?_
    refine fg_6_2 (k := 24) hx hb hts in_X6_add_6 hown hK hP (by decide) (by decide) (hts _ lk_X6_add_32) dX6_add_36 ?_
    refine lv_iload_n hx hb dX6_add_39 rfl (lv_at hl 3 rfl) ?_
    refine as_sent40 (k := 380) (j := j4) hx hb hK hP hI hR hS (by decide) (by decide) (by omega) (by omega) dX6_add_40 (fun σ9 H9 locs9 u9 v9 hR hP hS => ?_)
    have hF := hF.puts u9 2 rfl (by decide) (by decide) (by omega) (by omega)
    have t10 : (σ9 24 2).toInt = (σ7 24 2).toInt := congrArg Int32.toInt (u9 24 2 (by omega))
    refine lv_aload_n hx hb dX6_add_41 rfl (lv_at hl 0 rfl) ?_
    refine lv_dup hx hb dX6_add_42 rfl ?_
    refine fg_6_2 (k := 24) hx hb hts in_X6_add_6 hown hK hP (by decide) (by decide) (hts _ lk_X6_add_32) dX6_add_43 ?_
    refine r_iconst hx hb dX6_add_46 (by decide) (fun z11 ez11 => ?_)
    refine r_iadd hx hb dX6_add_47 (by omega) (fun z12 ez12 => ?_)
    refine fp_6_2 (k := 24) hx hb hts in_X6_add_6 hown hK hP (by decide) (by decide) (hts _ lk_X6_add_32) hI hR hS (by omega) dX6_add_48 (fun σ13 H13 locs13 u13 v13 hR hP hS => ?_)
    have hF := hF.puts u13 3 rfl (by decide) (by decide) (by decide) (by decide)
    refine r_iconst hx hb dX6_add_51 (by decide) (fun z14 ez14 => ?_)
    exact r_zret hx hb hr hK hP hS hk (by omega) dX6_add_52 (show P_X6_add σ0 τ0 a1 a2 a3 z14 σ13 τ0 from ⟨hR, hF, hFL, by omega, by omega⟩)
  · refine r_iconst hx hb dX6_add_9 (by decide) (fun z15 ez15 => ?_)
    exact r_zret hx hb hr hK hP hS hk (by omega) dX6_add_10 (show P_X6_add σ0 τ0 a1 a2 a3 z15 σ0 τ0 from ⟨hR, hF, hFL, by omega, by omega⟩)
abbrev L_X7_beginsOne : List Rc := []
abbrev LL_X7_beginsOne : List Rc := []
def P_X7_beginsOne (σ0 : Nat → Nat → Int32) (τ0 : Nat → Nat → Int64) (a0 : Int32) (r : Int32) (σ : Nat → Nat → Int32) (τ : Nat → Nat → Int64) : Prop := Rg σ ∧ Fr L_X7_beginsOne σ0 σ ∧ FrL LL_X7_beginsOne τ0 τ ∧ (0 ≤ r.toInt ∧ r.toInt ≤ 1) ∧ ((r.toInt = 1 ∧ begq a0.toInt) ∨ (r.toInt = 0 ∧ ¬ begq a0.toInt))
set_option maxHeartbeats 4000000 in
theorem c_X7_beginsOne (l : Launch) (D : va_G) (cA : Nat → ClassId) (ad : Nat → Nat) (hI : Inj ad) (σ0 : Nat → Nat → Int32) (τ0 : Nat → Nat → Int64) (hR : Rg σ0) (a0 : Int32)  : Met l yX7_beginsOne wsX7_beginsOne ({ frames := 0, cells := 0, slots := 0, locals := 0 } : Room) (WQc D cA ad [.int a0] σ0 τ0) (va_Qi (fun (r : Int32) (u : SS) => P_X7_beginsOne σ0 τ0 a0 r u.1 u.2) (WB D cA ad) (AA ad)) 0 0 (AA ad) := by
  refine Met.ofW (cc := cX7_beginsOne) (maxL := 1) (ret := (some .boolean)) (by decide) rfl ?_
  intro p e s m args below meth c s₁ B hml hv
  obtain ⟨rfl, hP, hK, hN⟩ := hv
  have C : Cy p s m _ meth c cX7_beginsOne 1 wsX7_beginsOne RX7 D cA ad (some .boolean) := ⟨B.exec, B.bytes, hml, findClass_of_methodNamed B.named, atoms_spec (ws := wsX7_beginsOne) B.pre, hK, B.notSynchronized, B.returns, hI, hN⟩
  have hl := lv_entry ([.int a0]) (n := 1) (Nat.le_of_ble_eq_true rfl)
  rw [lg_entry_eq]
  generalize (lg_sl ([.int a0]) ++ List.replicate (1 - (lg_sl ([.int a0])).length) Slot.unset).toArray = ls at hl ⊢
  have hl : lv_has ls 1 [(0, .int a0)] := hl
  have hS : va_S (AA ad) s.heap s.heap [] := va_S.rf
  have hF : Fr L_X7_beginsOne σ0 σ0 := Fr.rf
  have hFL : FrL LL_X7_beginsOne τ0 τ0 := FrL.rf
  obtain ⟨hx, hb, _, hown, hts, _, hk, hr, _, _⟩ := C
  refine lv_iload_n hx hb dX7_beginsOne_0 rfl (lv_at hl 0 rfl) ?_
  by_cases c1 : a0.toInt = 10
  · refine lv_tableIn (off := 155) (tgt := 156) hx hb dX7_beginsOne_1 (by omega) (by omega) (by rw [c1]; rfl) (by decide) ?_
    refine r_iconst hx hb dX7_beginsOne_156 (by decide) (fun z2 ez2 => ?_)
    exact r_zret hx hb hr hK hP hS hk (by omega) dX7_beginsOne_157 (show P_X7_beginsOne σ0 τ0 a0 z2 σ0 τ0 from ⟨hR, hF, hFL, by omega, by omega⟩)
  by_cases c3 : a0.toInt = 11
  · refine lv_tableIn (off := 155) (tgt := 156) hx hb dX7_beginsOne_1 (by omega) (by omega) (by rw [c3]; rfl) (by decide) ?_
    refine r_iconst hx hb dX7_beginsOne_156 (by decide) (fun z4 ez4 => ?_)
    exact r_zret hx hb hr hK hP hS hk (by omega) dX7_beginsOne_157 (show P_X7_beginsOne σ0 τ0 a0 z4 σ0 τ0 from ⟨hR, hF, hFL, by omega, by omega⟩)
  by_cases c5 : a0.toInt = 12
  · refine lv_tableIn (off := 157) (tgt := 158) hx hb dX7_beginsOne_1 (by omega) (by omega) (by rw [c5]; rfl) (by decide) ?_
    refine r_iconst hx hb dX7_beginsOne_158 (by decide) (fun z6 ez6 => ?_)
    exact r_zret hx hb hr hK hP hS hk (by omega) dX7_beginsOne_159 (show P_X7_beginsOne σ0 τ0 a0 z6 σ0 τ0 from ⟨hR, hF, hFL, by omega, by omega⟩)
  by_cases c7 : a0.toInt = 13
  · refine lv_tableIn (off := 157) (tgt := 158) hx hb dX7_beginsOne_1 (by omega) (by omega) (by rw [c7]; rfl) (by decide) ?_
    refine r_iconst hx hb dX7_beginsOne_158 (by decide) (fun z8 ez8 => ?_)
    exact r_zret hx hb hr hK hP hS hk (by omega) dX7_beginsOne_159 (show P_X7_beginsOne σ0 τ0 a0 z8 σ0 τ0 from ⟨hR, hF, hFL, by omega, by omega⟩)
  by_cases c9 : a0.toInt = 14
  · refine lv_tableIn (off := 157) (tgt := 158) hx hb dX7_beginsOne_1 (by omega) (by omega) (by rw [c9]; rfl) (by decide) ?_
    refine r_iconst hx hb dX7_beginsOne_158 (by decide) (fun z10 ez10 => ?_)
    exact r_zret hx hb hr hK hP hS hk (by omega) dX7_beginsOne_159 (show P_X7_beginsOne σ0 τ0 a0 z10 σ0 τ0 from ⟨hR, hF, hFL, by omega, by omega⟩)
  by_cases c11 : a0.toInt = 15
  · refine lv_tableIn (off := 157) (tgt := 158) hx hb dX7_beginsOne_1 (by omega) (by omega) (by rw [c11]; rfl) (by decide) ?_
    refine r_iconst hx hb dX7_beginsOne_158 (by decide) (fun z12 ez12 => ?_)
    exact r_zret hx hb hr hK hP hS hk (by omega) dX7_beginsOne_159 (show P_X7_beginsOne σ0 τ0 a0 z12 σ0 τ0 from ⟨hR, hF, hFL, by omega, by omega⟩)
  by_cases c13 : a0.toInt = 16
  · refine lv_tableIn (off := 157) (tgt := 158) hx hb dX7_beginsOne_1 (by omega) (by omega) (by rw [c13]; rfl) (by decide) ?_
    refine r_iconst hx hb dX7_beginsOne_158 (by decide) (fun z14 ez14 => ?_)
    exact r_zret hx hb hr hK hP hS hk (by omega) dX7_beginsOne_159 (show P_X7_beginsOne σ0 τ0 a0 z14 σ0 τ0 from ⟨hR, hF, hFL, by omega, by omega⟩)
  by_cases c15 : a0.toInt = 17
  · refine lv_tableIn (off := 157) (tgt := 158) hx hb dX7_beginsOne_1 (by omega) (by omega) (by rw [c15]; rfl) (by decide) ?_
    refine r_iconst hx hb dX7_beginsOne_158 (by decide) (fun z16 ez16 => ?_)
    exact r_zret hx hb hr hK hP hS hk (by omega) dX7_beginsOne_159 (show P_X7_beginsOne σ0 τ0 a0 z16 σ0 τ0 from ⟨hR, hF, hFL, by omega, by omega⟩)
  by_cases c17 : a0.toInt = 18
  · refine lv_tableIn (off := 157) (tgt := 158) hx hb dX7_beginsOne_1 (by omega) (by omega) (by rw [c17]; rfl) (by decide) ?_
    refine r_iconst hx hb dX7_beginsOne_158 (by decide) (fun z18 ez18 => ?_)
    exact r_zret hx hb hr hK hP hS hk (by omega) dX7_beginsOne_159 (show P_X7_beginsOne σ0 τ0 a0 z18 σ0 τ0 from ⟨hR, hF, hFL, by omega, by omega⟩)
  by_cases c19 : a0.toInt = 19
  · refine lv_tableIn (off := 157) (tgt := 158) hx hb dX7_beginsOne_1 (by omega) (by omega) (by rw [c19]; rfl) (by decide) ?_
    refine r_iconst hx hb dX7_beginsOne_158 (by decide) (fun z20 ez20 => ?_)
    exact r_zret hx hb hr hK hP hS hk (by omega) dX7_beginsOne_159 (show P_X7_beginsOne σ0 τ0 a0 z20 σ0 τ0 from ⟨hR, hF, hFL, by omega, by omega⟩)
  by_cases c21 : a0.toInt = 20
  · refine lv_tableIn (off := 157) (tgt := 158) hx hb dX7_beginsOne_1 (by omega) (by omega) (by rw [c21]; rfl) (by decide) ?_
    refine r_iconst hx hb dX7_beginsOne_158 (by decide) (fun z22 ez22 => ?_)
    exact r_zret hx hb hr hK hP hS hk (by omega) dX7_beginsOne_159 (show P_X7_beginsOne σ0 τ0 a0 z22 σ0 τ0 from ⟨hR, hF, hFL, by omega, by omega⟩)
  by_cases c23 : a0.toInt = 21
  · refine lv_tableIn (off := 157) (tgt := 158) hx hb dX7_beginsOne_1 (by omega) (by omega) (by rw [c23]; rfl) (by decide) ?_
    refine r_iconst hx hb dX7_beginsOne_158 (by decide) (fun z24 ez24 => ?_)
    exact r_zret hx hb hr hK hP hS hk (by omega) dX7_beginsOne_159 (show P_X7_beginsOne σ0 τ0 a0 z24 σ0 τ0 from ⟨hR, hF, hFL, by omega, by omega⟩)
  by_cases c25 : a0.toInt = 22
  · refine lv_tableIn (off := 155) (tgt := 156) hx hb dX7_beginsOne_1 (by omega) (by omega) (by rw [c25]; rfl) (by decide) ?_
    refine r_iconst hx hb dX7_beginsOne_156 (by decide) (fun z26 ez26 => ?_)
    exact r_zret hx hb hr hK hP hS hk (by omega) dX7_beginsOne_157 (show P_X7_beginsOne σ0 τ0 a0 z26 σ0 τ0 from ⟨hR, hF, hFL, by omega, by omega⟩)
  by_cases c27 : a0.toInt = 23
  · refine lv_tableIn (off := 155) (tgt := 156) hx hb dX7_beginsOne_1 (by omega) (by omega) (by rw [c27]; rfl) (by decide) ?_
    refine r_iconst hx hb dX7_beginsOne_156 (by decide) (fun z28 ez28 => ?_)
    exact r_zret hx hb hr hK hP hS hk (by omega) dX7_beginsOne_157 (show P_X7_beginsOne σ0 τ0 a0 z28 σ0 τ0 from ⟨hR, hF, hFL, by omega, by omega⟩)
  by_cases c29 : a0.toInt = 24
  · refine lv_tableIn (off := 155) (tgt := 156) hx hb dX7_beginsOne_1 (by omega) (by omega) (by rw [c29]; rfl) (by decide) ?_
    refine r_iconst hx hb dX7_beginsOne_156 (by decide) (fun z30 ez30 => ?_)
    exact r_zret hx hb hr hK hP hS hk (by omega) dX7_beginsOne_157 (show P_X7_beginsOne σ0 τ0 a0 z30 σ0 τ0 from ⟨hR, hF, hFL, by omega, by omega⟩)
  by_cases c31 : a0.toInt = 25
  · refine lv_tableIn (off := 155) (tgt := 156) hx hb dX7_beginsOne_1 (by omega) (by omega) (by rw [c31]; rfl) (by decide) ?_
    refine r_iconst hx hb dX7_beginsOne_156 (by decide) (fun z32 ez32 => ?_)
    exact r_zret hx hb hr hK hP hS hk (by omega) dX7_beginsOne_157 (show P_X7_beginsOne σ0 τ0 a0 z32 σ0 τ0 from ⟨hR, hF, hFL, by omega, by omega⟩)
  by_cases c33 : a0.toInt = 26
  · refine lv_tableIn (off := 155) (tgt := 156) hx hb dX7_beginsOne_1 (by omega) (by omega) (by rw [c33]; rfl) (by decide) ?_
    refine r_iconst hx hb dX7_beginsOne_156 (by decide) (fun z34 ez34 => ?_)
    exact r_zret hx hb hr hK hP hS hk (by omega) dX7_beginsOne_157 (show P_X7_beginsOne σ0 τ0 a0 z34 σ0 τ0 from ⟨hR, hF, hFL, by omega, by omega⟩)
  by_cases c35 : a0.toInt = 27
  · refine lv_tableIn (off := 155) (tgt := 156) hx hb dX7_beginsOne_1 (by omega) (by omega) (by rw [c35]; rfl) (by decide) ?_
    refine r_iconst hx hb dX7_beginsOne_156 (by decide) (fun z36 ez36 => ?_)
    exact r_zret hx hb hr hK hP hS hk (by omega) dX7_beginsOne_157 (show P_X7_beginsOne σ0 τ0 a0 z36 σ0 τ0 from ⟨hR, hF, hFL, by omega, by omega⟩)
  by_cases c37 : a0.toInt = 28
  · refine lv_tableIn (off := 155) (tgt := 156) hx hb dX7_beginsOne_1 (by omega) (by omega) (by rw [c37]; rfl) (by decide) ?_
    refine r_iconst hx hb dX7_beginsOne_156 (by decide) (fun z38 ez38 => ?_)
    exact r_zret hx hb hr hK hP hS hk (by omega) dX7_beginsOne_157 (show P_X7_beginsOne σ0 τ0 a0 z38 σ0 τ0 from ⟨hR, hF, hFL, by omega, by omega⟩)
  by_cases c39 : a0.toInt = 29
  · refine lv_tableIn (off := 155) (tgt := 156) hx hb dX7_beginsOne_1 (by omega) (by omega) (by rw [c39]; rfl) (by decide) ?_
    refine r_iconst hx hb dX7_beginsOne_156 (by decide) (fun z40 ez40 => ?_)
    exact r_zret hx hb hr hK hP hS hk (by omega) dX7_beginsOne_157 (show P_X7_beginsOne σ0 τ0 a0 z40 σ0 τ0 from ⟨hR, hF, hFL, by omega, by omega⟩)
  by_cases c41 : a0.toInt = 30
  · refine lv_tableIn (off := 155) (tgt := 156) hx hb dX7_beginsOne_1 (by omega) (by omega) (by rw [c41]; rfl) (by decide) ?_
    refine r_iconst hx hb dX7_beginsOne_156 (by decide) (fun z42 ez42 => ?_)
    exact r_zret hx hb hr hK hP hS hk (by omega) dX7_beginsOne_157 (show P_X7_beginsOne σ0 τ0 a0 z42 σ0 τ0 from ⟨hR, hF, hFL, by omega, by omega⟩)
  by_cases c43 : a0.toInt = 31
  · refine lv_tableIn (off := 157) (tgt := 158) hx hb dX7_beginsOne_1 (by omega) (by omega) (by rw [c43]; rfl) (by decide) ?_
    refine r_iconst hx hb dX7_beginsOne_158 (by decide) (fun z44 ez44 => ?_)
    exact r_zret hx hb hr hK hP hS hk (by omega) dX7_beginsOne_159 (show P_X7_beginsOne σ0 τ0 a0 z44 σ0 τ0 from ⟨hR, hF, hFL, by omega, by omega⟩)
  by_cases c45 : a0.toInt = 32
  · refine lv_tableIn (off := 157) (tgt := 158) hx hb dX7_beginsOne_1 (by omega) (by omega) (by rw [c45]; rfl) (by decide) ?_
    refine r_iconst hx hb dX7_beginsOne_158 (by decide) (fun z46 ez46 => ?_)
    exact r_zret hx hb hr hK hP hS hk (by omega) dX7_beginsOne_159 (show P_X7_beginsOne σ0 τ0 a0 z46 σ0 τ0 from ⟨hR, hF, hFL, by omega, by omega⟩)
  by_cases c47 : a0.toInt = 33
  · refine lv_tableIn (off := 157) (tgt := 158) hx hb dX7_beginsOne_1 (by omega) (by omega) (by rw [c47]; rfl) (by decide) ?_
    refine r_iconst hx hb dX7_beginsOne_158 (by decide) (fun z48 ez48 => ?_)
    exact r_zret hx hb hr hK hP hS hk (by omega) dX7_beginsOne_159 (show P_X7_beginsOne σ0 τ0 a0 z48 σ0 τ0 from ⟨hR, hF, hFL, by omega, by omega⟩)
  by_cases c49 : a0.toInt = 34
  · refine lv_tableIn (off := 157) (tgt := 158) hx hb dX7_beginsOne_1 (by omega) (by omega) (by rw [c49]; rfl) (by decide) ?_
    refine r_iconst hx hb dX7_beginsOne_158 (by decide) (fun z50 ez50 => ?_)
    exact r_zret hx hb hr hK hP hS hk (by omega) dX7_beginsOne_159 (show P_X7_beginsOne σ0 τ0 a0 z50 σ0 τ0 from ⟨hR, hF, hFL, by omega, by omega⟩)
  by_cases c51 : a0.toInt = 35
  · refine lv_tableIn (off := 157) (tgt := 158) hx hb dX7_beginsOne_1 (by omega) (by omega) (by rw [c51]; rfl) (by decide) ?_
    refine r_iconst hx hb dX7_beginsOne_158 (by decide) (fun z52 ez52 => ?_)
    exact r_zret hx hb hr hK hP hS hk (by omega) dX7_beginsOne_159 (show P_X7_beginsOne σ0 τ0 a0 z52 σ0 τ0 from ⟨hR, hF, hFL, by omega, by omega⟩)
  by_cases c53 : a0.toInt = 36
  · refine lv_tableIn (off := 157) (tgt := 158) hx hb dX7_beginsOne_1 (by omega) (by omega) (by rw [c53]; rfl) (by decide) ?_
    refine r_iconst hx hb dX7_beginsOne_158 (by decide) (fun z54 ez54 => ?_)
    exact r_zret hx hb hr hK hP hS hk (by omega) dX7_beginsOne_159 (show P_X7_beginsOne σ0 τ0 a0 z54 σ0 τ0 from ⟨hR, hF, hFL, by omega, by omega⟩)
  by_cases c55 : a0.toInt = 37
  · refine lv_tableIn (off := 157) (tgt := 158) hx hb dX7_beginsOne_1 (by omega) (by omega) (by rw [c55]; rfl) (by decide) ?_
    refine r_iconst hx hb dX7_beginsOne_158 (by decide) (fun z56 ez56 => ?_)
    exact r_zret hx hb hr hK hP hS hk (by omega) dX7_beginsOne_159 (show P_X7_beginsOne σ0 τ0 a0 z56 σ0 τ0 from ⟨hR, hF, hFL, by omega, by omega⟩)
  by_cases c57 : a0.toInt = 38
  · refine lv_tableIn (off := 157) (tgt := 158) hx hb dX7_beginsOne_1 (by omega) (by omega) (by rw [c57]; rfl) (by decide) ?_
    refine r_iconst hx hb dX7_beginsOne_158 (by decide) (fun z58 ez58 => ?_)
    exact r_zret hx hb hr hK hP hS hk (by omega) dX7_beginsOne_159 (show P_X7_beginsOne σ0 τ0 a0 z58 σ0 τ0 from ⟨hR, hF, hFL, by omega, by omega⟩)
  by_cases c59 : a0.toInt = 39
  · refine lv_tableIn (off := 157) (tgt := 158) hx hb dX7_beginsOne_1 (by omega) (by omega) (by rw [c59]; rfl) (by decide) ?_
    refine r_iconst hx hb dX7_beginsOne_158 (by decide) (fun z60 ez60 => ?_)
    exact r_zret hx hb hr hK hP hS hk (by omega) dX7_beginsOne_159 (show P_X7_beginsOne σ0 τ0 a0 z60 σ0 τ0 from ⟨hR, hF, hFL, by omega, by omega⟩)
  by_cases c61 : a0.toInt = 40
  · refine lv_tableIn (off := 157) (tgt := 158) hx hb dX7_beginsOne_1 (by omega) (by omega) (by rw [c61]; rfl) (by decide) ?_
    refine r_iconst hx hb dX7_beginsOne_158 (by decide) (fun z62 ez62 => ?_)
    exact r_zret hx hb hr hK hP hS hk (by omega) dX7_beginsOne_159 (show P_X7_beginsOne σ0 τ0 a0 z62 σ0 τ0 from ⟨hR, hF, hFL, by omega, by omega⟩)
  by_cases c63 : a0.toInt = 41
  · refine lv_tableIn (off := 157) (tgt := 158) hx hb dX7_beginsOne_1 (by omega) (by omega) (by rw [c63]; rfl) (by decide) ?_
    refine r_iconst hx hb dX7_beginsOne_158 (by decide) (fun z64 ez64 => ?_)
    exact r_zret hx hb hr hK hP hS hk (by omega) dX7_beginsOne_159 (show P_X7_beginsOne σ0 τ0 a0 z64 σ0 τ0 from ⟨hR, hF, hFL, by omega, by omega⟩)
  by_cases c65 : a0.toInt = 42
  · refine lv_tableIn (off := 157) (tgt := 158) hx hb dX7_beginsOne_1 (by omega) (by omega) (by rw [c65]; rfl) (by decide) ?_
    refine r_iconst hx hb dX7_beginsOne_158 (by decide) (fun z66 ez66 => ?_)
    exact r_zret hx hb hr hK hP hS hk (by omega) dX7_beginsOne_159 (show P_X7_beginsOne σ0 τ0 a0 z66 σ0 τ0 from ⟨hR, hF, hFL, by omega, by omega⟩)
  by_cases c67 : a0.toInt = 43
  · refine lv_tableIn (off := 157) (tgt := 158) hx hb dX7_beginsOne_1 (by omega) (by omega) (by rw [c67]; rfl) (by decide) ?_
    refine r_iconst hx hb dX7_beginsOne_158 (by decide) (fun z68 ez68 => ?_)
    exact r_zret hx hb hr hK hP hS hk (by omega) dX7_beginsOne_159 (show P_X7_beginsOne σ0 τ0 a0 z68 σ0 τ0 from ⟨hR, hF, hFL, by omega, by omega⟩)
  by_cases c69 : a0.toInt = 44
  · refine lv_tableIn (off := 155) (tgt := 156) hx hb dX7_beginsOne_1 (by omega) (by omega) (by rw [c69]; rfl) (by decide) ?_
    refine r_iconst hx hb dX7_beginsOne_156 (by decide) (fun z70 ez70 => ?_)
    exact r_zret hx hb hr hK hP hS hk (by omega) dX7_beginsOne_157 (show P_X7_beginsOne σ0 τ0 a0 z70 σ0 τ0 from ⟨hR, hF, hFL, by omega, by omega⟩)
  refine lv_tableOut (tgt := 158) hx hb dX7_beginsOne_1 (by omega) (by decide) ?_
  refine r_iconst hx hb dX7_beginsOne_158 (by decide) (fun z71 ez71 => ?_)
  exact r_zret hx hb hr hK hP hS hk (by omega) dX7_beginsOne_159 (show P_X7_beginsOne σ0 τ0 a0 z71 σ0 τ0 from ⟨hR, hF, hFL, by omega, by omega⟩)
theorem in_X7_readOne_6 : ∀ w ∈ u_ws RX6 TX6 7, w ∈ wsX7_readOne := by decide +kernel
theorem in_X7_readOne_7 : ∀ w ∈ u_ws RX7 TX7 3, w ∈ wsX7_readOne := by decide +kernel
theorem in_X7_readOne_8 : ∀ w ∈ u_ws RX8 TX8 15, w ∈ wsX7_readOne := by decide +kernel
theorem lk_X7_readOne_19 : Cond.fieldLink RX7 19 "CuckooShares$SentenceText" "into" "LCuckooShares$Sentence;" ∈ wsX7_readOne := by decide +kernel
theorem lk_X7_readOne_9 : Cond.fieldLink RX7 9 "CuckooShares$SentenceText" "tape" "LCuckooShares$Tape;" ∈ wsX7_readOne := by decide +kernel
abbrev L_X7_readOne_d9 : List Rc := [(1, 1, 13, 14)]
abbrev LL_X7_readOne_d9 : List Rc := []
def P_X7_readOne_d9 (σ0 : Nat → Nat → Int32) (τ0 : Nat → Nat → Int64) (a1 : Int32) (b : Nat → Int) (N : Nat) (mo : Nat) (q : Nat) (nn : Nat) (nm : Nat → Int) (hc : Nat) (r : Int32) (σ : Nat → Nat → Int32) (τ : Nat → Nat → Int64) : Prop := Rg σ ∧ Fr L_X7_readOne_d9 σ0 σ ∧ FrL LL_X7_readOne_d9 τ0 τ ∧ (0 ≤ r.toInt ∧ r.toInt ≤ 0) ∧ (RO r σ (oneP b N mo nm hc 0 q nn) (fun s => CT σ τ b N mo s.1 ∧ (σ 24 1).toInt = (s.2 : Int) ∧ (σ 24 2).toInt + 2 * (nn : Int) + 1 ≤ (σ0 24 2).toInt + 2 * (s.2 : Int))) ∧ WH σ τ nm hc
set_option maxHeartbeats 4000000 in
theorem c_X7_readOne_d9 (l : Launch) (D : va_G) (cA : Nat → ClassId) (ad : Nat → Nat) (hI : Inj ad) (σ0 : Nat → Nat → Int32) (τ0 : Nat → Nat → Int64) (hR : Rg σ0) (a1 : Int32) (b : Nat → Int) (N : Nat) (mo : Nat) (q : Nat) (nn : Nat) (nm : Nat → Int) (hc : Nat) (ha1 : 9 ≤ a1.toInt ∧ a1.toInt ≤ 9) (hpre0 : (σ0 24 1).toInt = (nn : Int)) (hpre1 : 0 ≤ (σ0 24 2).toInt ∧ (σ0 24 2).toInt ≤ 2 * (nn : Int)) (hpre2 : nn ≤ 20) (gCT0 : CT σ0 τ0 b N mo q) (gWH0 : WH σ0 τ0 nm hc) : Met l yX7_readOne wsX7_readOne ({ frames := 1, cells := 0, slots := 0, locals := 21 } : Room) (WQc D cA ad [.ref (ad 27), .int a1] σ0 τ0) (va_Qi (fun (r : Int32) (u : SS) => P_X7_readOne_d9 σ0 τ0 a1 b N mo q nn nm hc r u.1 u.2) (WB D cA ad) (AA ad)) 0 0 (AA ad) := by
  refine Met.ofW (cc := cX7_readOne) (maxL := 3) (ret := (some .boolean)) (by decide) rfl ?_
  intro p e s m args below meth c s₁ B hml hv
  obtain ⟨rfl, hP, hK, hN⟩ := hv
  have C : Cy p s m _ meth c cX7_readOne 3 wsX7_readOne RX7 D cA ad (some .boolean) := ⟨B.exec, B.bytes, hml, findClass_of_methodNamed B.named, atoms_spec (ws := wsX7_readOne) B.pre, hK, B.notSynchronized, B.returns, hI, hN⟩
  have hl := lv_entry ([.ref (ad 27), .int a1]) (n := 3) (Nat.le_of_ble_eq_true rfl)
  rw [lg_entry_eq]
  generalize (lg_sl ([.ref (ad 27), .int a1]) ++ List.replicate (3 - (lg_sl ([.ref (ad 27), .int a1])).length) Slot.unset).toArray = ls at hl ⊢
  have hl : lv_has ls 3 [(0, .ref (ad 27)), (1, .int a1)] := hl
  have hS : va_S (AA ad) s.heap s.heap [] := va_S.rf
  have hF : Fr L_X7_readOne_d9 σ0 σ0 := Fr.rf
  have hFL : FrL LL_X7_readOne_d9 τ0 τ0 := FrL.rf
  have gCT := gCT0
  have gWH := gWH0
  obtain ⟨hx, hb, _, hown, hts, _, hk, hr, _, _⟩ := C
  have htk := gCT.tk
  refine lv_aload_n hx hb dX7_readOne_0 rfl (lv_at hl 0 rfl) ?_
  refine fg_7_0 (k := 27) hx hb hts in_X7_readOne_7 hown hK hP (by decide) (by decide) (hts _ lk_X7_readOne_9) dX7_readOne_1 ?_
  refine fgN_8_9 (k := 1) hx hb hts in_X7_readOne_8 hown hK hP (by decide) (by decide) (hN.use nw_7_32) dX7_readOne_4 ?_
  refine lv_istore_n (lv' := [(2, .int (σ0 1 9)), (0, .ref (ad 27)), (1, .int a1)]) hx hb dX7_readOne_7 rfl hl (by decide) rfl (fun ls hl => ?_)
  refine lv_iload_n hx hb dX7_readOne_8 rfl (lv_at hl 0 rfl) ?_
  refine r_cSi (As := [.int (σ0 1 9)]) (rest := []) ⟨hx, hb, hml, hown, hts⟩ hK hP hN hS (c_X7_beginsOne l D cA ad hI σ0 τ0 hR (σ0 1 9)) (va_cwS 1 hts gX7_readOne_X7_beginsOne rfl rfl rfl (by decide +kernel) ⟨by decide, by decide⟩) rfl hl.1 rfl (Nat.le_of_ble_eq_true rfl) dX7_readOne_9 (Nat.zero_le _) (Nat.zero_le _) (fun r1 u1 H1 locs1 hp1 hP hS => ?_)
  obtain ⟨σ1, τ1⟩ := u1
  obtain ⟨hR, f1, fL1, hq1, hp1_0⟩ : P_X7_beginsOne σ0 τ0 (σ0 1 9) r1 σ1 τ1 := hp1
  have hP : va_P D vwCl (gw cA ad σ1 τ1) H1 := hP
  obtain rfl := FrL.nil fL1
  obtain rfl := Fr.nil f1
  refine r_if_ne (tgt := 24) hx hb dX7_readOne_12 (by decide) (fun c2 => ?_) (fun c2 => ?_)
  · refine lv_aload_n hx hb dX7_readOne_24 rfl (lv_at hl 1 rfl) ?_
    refine fg_7_2 (k := 27) hx hb hts in_X7_readOne_7 hown hK hP (by decide) (by decide) (hts _ lk_X7_readOne_19) dX7_readOne_25 ?_
    refine fgN_6_1 (k := 24) hx hb hts in_X7_readOne_6 hown hK hP (by decide) (by decide) (hN.use nw_7_61) dX7_readOne_28 ?_
    refine r_bipush hx hb dX7_readOne_31 (by decide) (fun z3 ez3 => ?_)
    refine r_icmp_ge (tgt := 42) hx hb dX7_readOne_33 (by decide) (fun c4 => ?_) (fun c4 => ?_)
    · refine lv_aload_n hx hb dX7_readOne_42 rfl (lv_at hl 1 rfl) ?_
      refine fg_7_0 (k := 27) hx hb hts in_X7_readOne_7 hown hK hP (by decide) (by decide) (hts _ lk_X7_readOne_9) dX7_readOne_43 ?_
      refine r_iconst hx hb dX7_readOne_46 (by decide) (fun z5 ez5 => ?_)
      refine r_cVi (k := 1) (As := [.int z5]) (rest := []) ⟨hx, hb, hml, hown, hts⟩ hK hP hN hS (c_X8_blame_v l D cA ad hI σ0 τ0 hR z5 _ _ _ _ (by omega) gCT) (cwV 1 hts gX7_readOne_X8_blame rfl rfl rfl (by decide +kernel) ⟨by decide, by decide⟩) (rv_Tape hK hP (by decide) (by decide)) rfl hl.1 rfl (Nat.le_of_ble_eq_true rfl) dX7_readOne_47 (Nat.zero_le _) (Nat.zero_le _) (fun r6 u6 H6 locs6 hp6 hP hS => ?_)
      obtain ⟨σ6, τ6⟩ := u6
      obtain ⟨hR, f6, fL6, hq6, hp6_0, hp6_1, hp6_2, gnCT⟩ : P_X8_blame_v σ0 τ0 z5 _ _ _ _ r6 σ6 τ6 := hp6
      have hP : va_P D vwCl (gw cA ad σ6 τ6) H6 := hP
      obtain rfl := FrL.nil fL6
      have hF := hF.step f6 (by decide)
      have gCT := gCT.ag (Agr.fr f6 (by decide))
      have gWH := gWH.ag (Agr.fr f6 (by decide))
      have t7 : (σ6 24 1).toInt = (σ0 24 1).toInt := congrArg Int32.toInt (f6.at 24 1 (by decide))
      have t8 : (σ6 24 2).toInt = (σ0 24 2).toInt := congrArg Int32.toInt (f6.at 24 2 (by decide))
      exact r_zret hx hb hr hK hP hS hk (by omega) dX7_readOne_50 (show P_X7_readOne_d9 σ0 τ0 a1 b N mo q nn nm hc r6 σ6 τ0 from ⟨hR, hF, hFL, by omega, by first | exact RO.ofk (one_x (by omega)) (by omega) (by omega) (by omega) | exact RO.ofk (one_4 (by omega) (by omega)) (by omega) (by omega) (by omega), gWH⟩)
    · refine lv_iload_n hx hb dX7_readOne_36 rfl (lv_at hl 2 rfl) ?_
      refine r_bipush hx hb dX7_readOne_37 (by decide) (fun z9 ez9 => ?_)
      refine r_icmp_le (tgt := 51) hx hb dX7_readOne_39 (by decide) (fun c10 => ?_) (fun c10 => ?_)
      · exfalso; omega
      · refine lv_aload_n hx hb dX7_readOne_42 rfl (lv_at hl 1 rfl) ?_
        refine fg_7_0 (k := 27) hx hb hts in_X7_readOne_7 hown hK hP (by decide) (by decide) (hts _ lk_X7_readOne_9) dX7_readOne_43 ?_
        refine r_iconst hx hb dX7_readOne_46 (by decide) (fun z11 ez11 => ?_)
        refine r_cVi (k := 1) (As := [.int z11]) (rest := []) ⟨hx, hb, hml, hown, hts⟩ hK hP hN hS (c_X8_blame_v l D cA ad hI σ0 τ0 hR z11 _ _ _ _ (by omega) gCT) (cwV 1 hts gX7_readOne_X8_blame rfl rfl rfl (by decide +kernel) ⟨by decide, by decide⟩) (rv_Tape hK hP (by decide) (by decide)) rfl hl.1 rfl (Nat.le_of_ble_eq_true rfl) dX7_readOne_47 (Nat.zero_le _) (Nat.zero_le _) (fun r12 u12 H12 locs12 hp12 hP hS => ?_)
        obtain ⟨σ12, τ12⟩ := u12
        obtain ⟨hR, f12, fL12, hq12, hp12_0, hp12_1, hp12_2, gnCT⟩ : P_X8_blame_v σ0 τ0 z11 _ _ _ _ r12 σ12 τ12 := hp12
        have hP : va_P D vwCl (gw cA ad σ12 τ12) H12 := hP
        obtain rfl := FrL.nil fL12
        have hF := hF.step f12 (by decide)
        have gCT := gCT.ag (Agr.fr f12 (by decide))
        have gWH := gWH.ag (Agr.fr f12 (by decide))
        have t13 : (σ12 24 1).toInt = (σ0 24 1).toInt := congrArg Int32.toInt (f12.at 24 1 (by decide))
        have t14 : (σ12 24 2).toInt = (σ0 24 2).toInt := congrArg Int32.toInt (f12.at 24 2 (by decide))
        exact r_zret hx hb hr hK hP hS hk (by omega) dX7_readOne_50 (show P_X7_readOne_d9 σ0 τ0 a1 b N mo q nn nm hc r12 σ12 τ0 from ⟨hR, hF, hFL, by omega, by first | exact RO.ofk (one_x (by omega)) (by omega) (by omega) (by omega) | exact RO.ofk (one_4 (by omega) (by omega)) (by omega) (by omega) (by omega), gWH⟩)
  · refine lv_aload_n hx hb dX7_readOne_15 rfl (lv_at hl 1 rfl) ?_
    refine fg_7_0 (k := 27) hx hb hts in_X7_readOne_7 hown hK hP (by decide) (by decide) (hts _ lk_X7_readOne_9) dX7_readOne_16 ?_
    refine r_iconst hx hb dX7_readOne_19 (by decide) (fun z15 ez15 => ?_)
    refine r_cVi (k := 1) (As := [.int z15]) (rest := []) ⟨hx, hb, hml, hown, hts⟩ hK hP hN hS (c_X8_blame_v l D cA ad hI σ0 τ0 hR z15 _ _ _ _ (by omega) gCT) (cwV 1 hts gX7_readOne_X8_blame rfl rfl rfl (by decide +kernel) ⟨by decide, by decide⟩) (rv_Tape hK hP (by decide) (by decide)) rfl hl.1 rfl (Nat.le_of_ble_eq_true rfl) dX7_readOne_20 (Nat.zero_le _) (Nat.zero_le _) (fun r16 u16 H16 locs16 hp16 hP hS => ?_)
    obtain ⟨σ16, τ16⟩ := u16
    obtain ⟨hR, f16, fL16, hq16, hp16_0, hp16_1, hp16_2, gnCT⟩ : P_X8_blame_v σ0 τ0 z15 _ _ _ _ r16 σ16 τ16 := hp16
    have hP : va_P D vwCl (gw cA ad σ16 τ16) H16 := hP
    obtain rfl := FrL.nil fL16
    have hF := hF.step f16 (by decide)
    have gCT := gCT.ag (Agr.fr f16 (by decide))
    have gWH := gWH.ag (Agr.fr f16 (by decide))
    have t17 : (σ16 24 1).toInt = (σ0 24 1).toInt := congrArg Int32.toInt (f16.at 24 1 (by decide))
    have t18 : (σ16 24 2).toInt = (σ0 24 2).toInt := congrArg Int32.toInt (f16.at 24 2 (by decide))
    exact r_zret hx hb hr hK hP hS hk (by omega) dX7_readOne_23 (show P_X7_readOne_d9 σ0 τ0 a1 b N mo q nn nm hc r16 σ16 τ0 from ⟨hR, hF, hFL, by omega, by first | exact RO.ofk (one_x (by omega)) (by omega) (by omega) (by omega) | exact RO.ofk (one_4 (by omega) (by omega)) (by omega) (by omega) (by omega), gWH⟩)
abbrev L_X7_readAll_d9 : List Rc := [(1, 1, 13, 14)]
abbrev LL_X7_readAll_d9 : List Rc := []
def P_X7_readAll_d9 (σ0 : Nat → Nat → Int32) (τ0 : Nat → Nat → Int64) (a1 : Int32) (b : Nat → Int) (N : Nat) (mo : Nat) (q : Nat) (nn : Nat) (nm : Nat → Int) (hc : Nat) (r : Int32) (σ : Nat → Nat → Int32) (τ : Nat → Nat → Int64) : Prop := Rg σ ∧ Fr L_X7_readAll_d9 σ0 σ ∧ FrL LL_X7_readAll_d9 τ0 τ ∧ (0 ≤ r.toInt ∧ r.toInt ≤ 0) ∧ (RO r σ (allP b N mo (fun q nn => oneP b N mo nm hc 0 q nn) q nn) (fun s => CT σ τ b N mo s.1 ∧ (σ 24 1).toInt = (s.2 : Int) ∧ (σ 24 2).toInt + 2 * (nn : Int) + 1 ≤ (σ0 24 2).toInt + 2 * (s.2 : Int))) ∧ WH σ τ nm hc
set_option maxHeartbeats 4000000 in
theorem c_X7_readAll_d9 (l : Launch) (D : va_G) (cA : Nat → ClassId) (ad : Nat → Nat) (hI : Inj ad) (σ0 : Nat → Nat → Int32) (τ0 : Nat → Nat → Int64) (hR : Rg σ0) (a1 : Int32) (b : Nat → Int) (N : Nat) (mo : Nat) (q : Nat) (nn : Nat) (nm : Nat → Int) (hc : Nat) (ha1 : 9 ≤ a1.toInt ∧ a1.toInt ≤ 9) (hpre0 : (σ0 24 1).toInt = (nn : Int)) (hpre1 : 0 ≤ (σ0 24 2).toInt ∧ (σ0 24 2).toInt ≤ 2 * (nn : Int)) (hpre2 : nn ≤ 20) (gCT0 : CT σ0 τ0 b N mo q) (gWH0 : WH σ0 τ0 nm hc) : Met l yX7_readAll wsX7_readAll ({ frames := 2, cells := 0, slots := 0, locals := 43 } : Room) (WQc D cA ad [.ref (ad 27), .int a1] σ0 τ0) (va_Qi (fun (r : Int32) (u : SS) => P_X7_readAll_d9 σ0 τ0 a1 b N mo q nn nm hc r u.1 u.2) (WB D cA ad) (AA ad)) 0 0 (AA ad) := by
  refine Met.ofW (cc := cX7_readAll) (maxL := 3) (ret := (some .boolean)) (by decide) rfl ?_
  intro p e s m args below meth c s₁ B hml hv
  obtain ⟨rfl, hP, hK, hN⟩ := hv
  have C : Cy p s m _ meth c cX7_readAll 3 wsX7_readAll RX7 D cA ad (some .boolean) := ⟨B.exec, B.bytes, hml, findClass_of_methodNamed B.named, atoms_spec (ws := wsX7_readAll) B.pre, hK, B.notSynchronized, B.returns, hI, hN⟩
  have hl := lv_entry ([.ref (ad 27), .int a1]) (n := 3) (Nat.le_of_ble_eq_true rfl)
  rw [lg_entry_eq]
  generalize (lg_sl ([.ref (ad 27), .int a1]) ++ List.replicate (3 - (lg_sl ([.ref (ad 27), .int a1])).length) Slot.unset).toArray = ls at hl ⊢
  have hl : lv_has ls 3 [(0, .ref (ad 27)), (1, .int a1)] := hl
  have hS : va_S (AA ad) s.heap s.heap [] := va_S.rf
  have hF : Fr L_X7_readAll_d9 σ0 σ0 := Fr.rf
  have hFL : FrL LL_X7_readAll_d9 τ0 τ0 := FrL.rf
  have gCT := gCT0
  have gWH := gWH0
  obtain ⟨hx, hb, _, hown, hts, _, hk, hr, _, _⟩ := C
  refine lv_aload_n hx hb dX7_readAll_0 rfl (lv_at hl 0 rfl) ?_
  refine lv_iload_n hx hb dX7_readAll_1 rfl (lv_at hl 1 rfl) ?_
  refine r_cVi (k := 27) (As := [.int a1]) (rest := []) ⟨hx, hb, hml, hown, hts⟩ hK hP hN hS (c_X7_readOne_d9 l D cA ad hI σ0 τ0 hR a1 b N mo q nn nm hc (by omega) (by omega) (by omega) (by omega) gCT gWH) (cwV 1 hts gX7_readAll_X7_readOne rfl rfl rfl (by decide +kernel) ⟨by decide, by decide⟩) (rv_SText hK hP (by decide) (by decide)) rfl hl.1 rfl (Nat.le_of_ble_eq_true rfl) dX7_readAll_2 (Nat.zero_le _) (Nat.zero_le _) (fun r1 u1 H1 locs1 hp1 hP hS => ?_)
  obtain ⟨σ1, τ1⟩ := u1
  obtain ⟨hR, f1, fL1, hq1, hp1_0, gnWH⟩ : P_X7_readOne_d9 σ0 τ0 a1 b N mo q nn nm hc r1 σ1 τ1 := hp1
  have o1 := hp1_0
  have hP : va_P D vwCl (gw cA ad σ1 τ1) H1 := hP
  obtain rfl := FrL.nil fL1
  have hF := hF.step f1 (by decide)
  have gCT := gCT.ag (Agr.fr f1 (by decide))
  have gWH := gWH.ag (Agr.fr f1 (by decide))
  have t2 : (σ1 24 1).toInt = (σ0 24 1).toInt := congrArg Int32.toInt (f1.at 24 1 (by decide))
  have t3 : (σ1 24 2).toInt = (σ0 24 2).toInt := congrArg Int32.toInt (f1.at 24 2 (by decide))
  refine r_if_ne (tgt := 10) hx hb dX7_readAll_5 (by decide) (fun c4 => ?_) (fun c4 => ?_)
  · exfalso; omega
  · refine r_iconst hx hb dX7_readAll_8 (by decide) (fun z5 ez5 => ?_)
    exact r_zret hx hb hr hK hP hS hk (by omega) dX7_readAll_9 (show P_X7_readAll_d9 σ0 τ0 a1 b N mo q nn nm hc z5 σ1 τ0 from ⟨hR, hF, hFL, by omega, by first | (exfalso; omega) | (obtain ⟨f, e1, x1, x2⟩ := o1.no (by omega); exact RO.ofl (all_f e1) (by omega) x1 x2) | exact RO.ofr (by rw [iv, lop_e (by omega)]) (by omega) ⟨gCT, by omega, by omega⟩ | (obtain ⟨f, e2, x1, x2⟩ := o2.no (by omega); exact RO.ofl (by rw [iv, lop_f (f := (fun q nn => oneP b N mo nm hc 0 q nn)) (by omega) (by omega) e2]) (by omega) x1 x2) | (exfalso; omega), gWH⟩)
abbrev L_X7_readCond_d9 : List Rc := [(1, 1, 13, 14)]
abbrev LL_X7_readCond_d9 : List Rc := []
def P_X7_readCond_d9 (σ0 : Nat → Nat → Int32) (τ0 : Nat → Nat → Int64) (a1 : Int32) (b : Nat → Int) (N : Nat) (mo : Nat) (q : Nat) (nn : Nat) (nm : Nat → Int) (hc : Nat) (r : Int32) (σ : Nat → Nat → Int32) (τ : Nat → Nat → Int64) : Prop := Rg σ ∧ Fr L_X7_readCond_d9 σ0 σ ∧ FrL LL_X7_readCond_d9 τ0 τ ∧ (0 ≤ r.toInt ∧ r.toInt ≤ 0) ∧ (RO r σ (conP b N mo (fun q nn => oneP b N mo nm hc 0 q nn) q nn) (fun s => CT σ τ b N mo s.1 ∧ (σ 24 1).toInt = (s.2 : Int) ∧ (σ 24 2).toInt + 2 * (nn : Int) + 1 ≤ (σ0 24 2).toInt + 2 * (s.2 : Int))) ∧ WH σ τ nm hc
set_option maxHeartbeats 4000000 in
theorem c_X7_readCond_d9 (l : Launch) (D : va_G) (cA : Nat → ClassId) (ad : Nat → Nat) (hI : Inj ad) (σ0 : Nat → Nat → Int32) (τ0 : Nat → Nat → Int64) (hR : Rg σ0) (a1 : Int32) (b : Nat → Int) (N : Nat) (mo : Nat) (q : Nat) (nn : Nat) (nm : Nat → Int) (hc : Nat) (ha1 : 9 ≤ a1.toInt ∧ a1.toInt ≤ 9) (hpre0 : (σ0 24 1).toInt = (nn : Int)) (hpre1 : 0 ≤ (σ0 24 2).toInt ∧ (σ0 24 2).toInt ≤ 2 * (nn : Int)) (hpre2 : nn ≤ 20) (gCT0 : CT σ0 τ0 b N mo q) (gWH0 : WH σ0 τ0 nm hc) : Met l yX7_readCond wsX7_readCond ({ frames := 3, cells := 0, slots := 0, locals := 65 } : Room) (WQc D cA ad [.ref (ad 27), .int a1] σ0 τ0) (va_Qi (fun (r : Int32) (u : SS) => P_X7_readCond_d9 σ0 τ0 a1 b N mo q nn nm hc r u.1 u.2) (WB D cA ad) (AA ad)) 0 0 (AA ad) := by
  refine Met.ofW (cc := cX7_readCond) (maxL := 3) (ret := (some .boolean)) (by decide) rfl ?_
  intro p e s m args below meth c s₁ B hml hv
  obtain ⟨rfl, hP, hK, hN⟩ := hv
  have C : Cy p s m _ meth c cX7_readCond 3 wsX7_readCond RX7 D cA ad (some .boolean) := ⟨B.exec, B.bytes, hml, findClass_of_methodNamed B.named, atoms_spec (ws := wsX7_readCond) B.pre, hK, B.notSynchronized, B.returns, hI, hN⟩
  have hl := lv_entry ([.ref (ad 27), .int a1]) (n := 3) (Nat.le_of_ble_eq_true rfl)
  rw [lg_entry_eq]
  generalize (lg_sl ([.ref (ad 27), .int a1]) ++ List.replicate (3 - (lg_sl ([.ref (ad 27), .int a1])).length) Slot.unset).toArray = ls at hl ⊢
  have hl : lv_has ls 3 [(0, .ref (ad 27)), (1, .int a1)] := hl
  have hS : va_S (AA ad) s.heap s.heap [] := va_S.rf
  have hF : Fr L_X7_readCond_d9 σ0 σ0 := Fr.rf
  have hFL : FrL LL_X7_readCond_d9 τ0 τ0 := FrL.rf
  have gCT := gCT0
  have gWH := gWH0
  obtain ⟨hx, hb, _, hown, hts, _, hk, hr, _, _⟩ := C
  refine lv_aload_n hx hb dX7_readCond_0 rfl (lv_at hl 0 rfl) ?_
  refine lv_iload_n hx hb dX7_readCond_1 rfl (lv_at hl 1 rfl) ?_
  refine r_cVi (k := 27) (As := [.int a1]) (rest := []) ⟨hx, hb, hml, hown, hts⟩ hK hP hN hS (c_X7_readAll_d9 l D cA ad hI σ0 τ0 hR a1 b N mo q nn nm hc (by omega) (by omega) (by omega) (by omega) gCT gWH) (cwV 1 hts gX7_readCond_X7_readAll rfl rfl rfl (by decide +kernel) ⟨by decide, by decide⟩) (rv_SText hK hP (by decide) (by decide)) rfl hl.1 rfl (Nat.le_of_ble_eq_true rfl) dX7_readCond_2 (Nat.zero_le _) (Nat.zero_le _) (fun r1 u1 H1 locs1 hp1 hP hS => ?_)
  obtain ⟨σ1, τ1⟩ := u1
  obtain ⟨hR, f1, fL1, hq1, hp1_0, gnWH⟩ : P_X7_readAll_d9 σ0 τ0 a1 b N mo q nn nm hc r1 σ1 τ1 := hp1
  have o1 := hp1_0
  have hP : va_P D vwCl (gw cA ad σ1 τ1) H1 := hP
  obtain rfl := FrL.nil fL1
  have hF := hF.step f1 (by decide)
  have gCT := gCT.ag (Agr.fr f1 (by decide))
  have gWH := gWH.ag (Agr.fr f1 (by decide))
  have t2 : (σ1 24 1).toInt = (σ0 24 1).toInt := congrArg Int32.toInt (f1.at 24 1 (by decide))
  have t3 : (σ1 24 2).toInt = (σ0 24 2).toInt := congrArg Int32.toInt (f1.at 24 2 (by decide))
  refine r_if_ne (tgt := 10) hx hb dX7_readCond_5 (by decide) (fun c4 => ?_) (fun c4 => ?_)
  · exfalso; omega
  · refine r_iconst hx hb dX7_readCond_8 (by decide) (fun z5 ez5 => ?_)
    exact r_zret hx hb hr hK hP hS hk (by omega) dX7_readCond_9 (show P_X7_readCond_d9 σ0 τ0 a1 b N mo q nn nm hc z5 σ1 τ0 from ⟨hR, hF, hFL, by omega, by first | (exfalso; omega) | (obtain ⟨f, e1, x1, x2⟩ := o1.no (by omega); exact RO.ofl (con_f e1) (by omega) x1 x2) | exact RO.ofr (by rw [iv, lop_e (by omega)]) (by omega) ⟨gCT, by omega, by omega⟩ | (obtain ⟨f, e2, x1, x2⟩ := o2.no (by omega); exact RO.ofl (by rw [iv, lop_f (f := (allP b N mo (fun q nn => oneP b N mo nm hc 0 q nn))) (by omega) (by omega) e2]) (by omega) x1 x2) | (exfalso; omega), gWH⟩)
theorem in_X7_readMeasure_7 : ∀ w ∈ u_ws RX7 TX7 3, w ∈ wsX7_readMeasure := by decide +kernel
theorem in_X7_readMeasure_8 : ∀ w ∈ u_ws RX8 TX8 15, w ∈ wsX7_readMeasure := by decide +kernel
theorem lk_X7_readMeasure_19 : Cond.fieldLink RX7 19 "CuckooShares$SentenceText" "into" "LCuckooShares$Sentence;" ∈ wsX7_readMeasure := by decide +kernel
theorem lk_X7_readMeasure_9 : Cond.fieldLink RX7 9 "CuckooShares$SentenceText" "tape" "LCuckooShares$Tape;" ∈ wsX7_readMeasure := by decide +kernel
abbrev L_X7_readMeasure : List Rc := [(1, 1, 7, 10), (1, 1, 12, 14), (372, 372, 0, 39), (376, 376, 0, 39), (380, 380, 0, 39), (24, 24, 2, 2)]
abbrev LL_X7_readMeasure : List Rc := [(1, 1, 11, 11)]
def P_X7_readMeasure (σ0 : Nat → Nat → Int32) (τ0 : Nat → Nat → Int64) (a1 : Int32) (b : Nat → Int) (N : Nat) (mo : Nat) (q : Nat) (nn : Nat) (nm : Nat → Int) (hc : Nat) (kk : Int) (r : Int32) (σ : Nat → Nat → Int32) (τ : Nat → Nat → Int64) : Prop := Rg σ ∧ Fr L_X7_readMeasure σ0 σ ∧ FrL LL_X7_readMeasure τ0 τ ∧ (0 ≤ r.toInt ∧ r.toInt ≤ 1) ∧ (RO r σ (leaP b N mo nm hc kk q nn) (fun s => CT σ τ b N mo s.1 ∧ (σ 24 1).toInt = (s.2 : Int) ∧ (σ 24 2).toInt = (σ0 24 2).toInt + 1)) ∧ WH σ τ nm hc
set_option maxHeartbeats 4000000 in
theorem c_X7_readMeasure (l : Launch) (D : va_G) (cA : Nat → ClassId) (ad : Nat → Nat) (hI : Inj ad) (σ0 : Nat → Nat → Int32) (τ0 : Nat → Nat → Int64) (hR : Rg σ0) (a1 : Int32) (b : Nat → Int) (N : Nat) (mo : Nat) (q : Nat) (nn : Nat) (nm : Nat → Int) (hc : Nat) (kk : Int) (ha1 : 27 ≤ a1.toInt ∧ a1.toInt ≤ 30) (hpre0 : 27 ≤ kk ∧ kk ≤ 30) (hpre1 : (σ0 24 1).toInt = (nn : Int) ∧ nn ≤ 20) (hpre2 : 0 ≤ (σ0 24 2).toInt ∧ (σ0 24 2).toInt ≤ 38) (gCT0 : CT σ0 τ0 b N mo q) (gWH0 : WH σ0 τ0 nm hc) : Met l yX7_readMeasure wsX7_readMeasure ({ frames := 2, cells := 0, slots := 0, locals := 43 } : Room) (WQc D cA ad [.ref (ad 27), .int a1] σ0 τ0) (va_Qi (fun (r : Int32) (u : SS) => P_X7_readMeasure σ0 τ0 a1 b N mo q nn nm hc kk r u.1 u.2) (WB D cA ad) (AA ad)) 0 0 (AA ad) := by
  refine Met.ofW (cc := cX7_readMeasure) (maxL := 3) (ret := (some .boolean)) (by decide) rfl ?_
  intro p e s m args below meth c s₁ B hml hv
  obtain ⟨rfl, hP, hK, hN⟩ := hv
  have C : Cy p s m _ meth c cX7_readMeasure 3 wsX7_readMeasure RX7 D cA ad (some .boolean) := ⟨B.exec, B.bytes, hml, findClass_of_methodNamed B.named, atoms_spec (ws := wsX7_readMeasure) B.pre, hK, B.notSynchronized, B.returns, hI, hN⟩
  have hl := lv_entry ([.ref (ad 27), .int a1]) (n := 3) (Nat.le_of_ble_eq_true rfl)
  rw [lg_entry_eq]
  generalize (lg_sl ([.ref (ad 27), .int a1]) ++ List.replicate (3 - (lg_sl ([.ref (ad 27), .int a1])).length) Slot.unset).toArray = ls at hl ⊢
  have hl : lv_has ls 3 [(0, .ref (ad 27)), (1, .int a1)] := hl
  have hS : va_S (AA ad) s.heap s.heap [] := va_S.rf
  have hF : Fr L_X7_readMeasure σ0 σ0 := Fr.rf
  have hFL : FrL LL_X7_readMeasure τ0 τ0 := FrL.rf
  have gCT := gCT0
  have gWH := gWH0
  obtain ⟨hx, hb, _, hown, hts, _, hk, hr, _, _⟩ := C
  have htk := gCT.tk
  refine lv_aload_n hx hb dX7_readMeasure_0 rfl (lv_at hl 0 rfl) ?_
  refine fg_7_0 (k := 27) hx hb hts in_X7_readMeasure_7 hown hK hP (by decide) (by decide) (hts _ lk_X7_readMeasure_9) dX7_readMeasure_1 ?_
  refine fgN_8_9 (k := 1) hx hb hts in_X7_readMeasure_8 hown hK hP (by decide) (by decide) (hN.use nw_7_32) dX7_readMeasure_4 ?_
  refine lv_istore_n (lv' := [(2, .int (σ0 1 9)), (0, .ref (ad 27)), (1, .int a1)]) hx hb dX7_readMeasure_7 rfl hl (by decide) rfl (fun ls hl => ?_)
  refine lv_iload_n hx hb dX7_readMeasure_8 rfl (lv_at hl 0 rfl) ?_
  refine r_bipush hx hb dX7_readMeasure_9 (by decide) (fun z1 ez1 => ?_)
  refine r_icmp_eq (tgt := 35) hx hb dX7_readMeasure_11 (by decide) (fun c2 => ?_) (fun c2 => ?_)
  · refine lv_aload_n hx hb dX7_readMeasure_35 rfl (lv_at hl 1 rfl) ?_
    refine fg_7_0 (k := 27) hx hb hts in_X7_readMeasure_7 hown hK hP (by decide) (by decide) (hts _ lk_X7_readMeasure_9) dX7_readMeasure_36 ?_
    refine r_cVv (k := 1) (As := []) (rest := []) ⟨hx, hb, hml, hown, hts⟩ hK hP hN hS (c_X8_next_v l D cA ad hI σ0 τ0 hR _ _ _ _ gCT) (cwV 0 hts gX7_readMeasure_X8_next rfl rfl rfl (by decide +kernel) ⟨by decide, by decide⟩) (rv_Tape hK hP (by decide) (by decide)) rfl hl.1 rfl (Nat.le_of_ble_eq_true rfl) dX7_readMeasure_39 (Nat.zero_le _) (Nat.zero_le _) (fun u3 H3 locs3 hp3 hP hS => ?_)
    obtain ⟨σ3, τ3⟩ := u3
    obtain ⟨hR, f3, fL3, hp3_0⟩ : P_X8_next_v σ0 τ0 _ _ _ _ σ3 τ3 := hp3
    have hP : va_P D vwCl (gw cA ad σ3 τ3) H3 := hP
    have hFL := hFL.step fL3 (by decide)
    have gWH := gWH.agL (AgrL.fr fL3 (by decide))
    have hF := hF.step f3 (by decide)
    have gWH := gWH.ag (Agr.fr f3 (by decide))
    have t4 : (σ3 24 1).toInt = (σ0 24 1).toInt := congrArg Int32.toInt (f3.at 24 1 (by decide))
    have t5 : (σ3 24 2).toInt = (σ0 24 2).toInt := congrArg Int32.toInt (f3.at 24 2 (by decide))
    have gCT := hp3_0
    refine lv_aload_n hx hb dX7_readMeasure_42 rfl (lv_at hl 1 rfl) ?_
    refine fg_7_0 (k := 27) hx hb hts in_X7_readMeasure_7 hown hK hP (by decide) (by decide) (hts _ lk_X7_readMeasure_9) dX7_readMeasure_43 ?_
    refine r_iconst hx hb dX7_readMeasure_46 (by decide) (fun z6 ez6 => ?_)
    refine r_sipush hx hb dX7_readMeasure_47 (by decide) (fun z7 ez7 => ?_)
    refine r_cVi (k := 1) (As := [.int z6, .int z7]) (rest := []) ⟨hx, hb, hml, hown, hts⟩ hK hP hN hS (c_X8_takeNumber_v l D cA ad hI σ3 τ3 hR z6 z7 b N mo _ 0 999 (by omega) (by omega) (by omega) (by omega) gCT) (cwV 2 hts gX7_readMeasure_X8_takeNumber rfl rfl rfl (by decide +kernel) ⟨by decide, by decide⟩) (rv_Tape hK hP (by decide) (by decide)) rfl hl.1 rfl (Nat.le_of_ble_eq_true rfl) dX7_readMeasure_50 (Nat.zero_le _) (Nat.zero_le _) (fun r8 u8 H8 locs8 hp8 hP hS => ?_)
    obtain ⟨σ8, τ8⟩ := u8
    obtain ⟨hR, f8, fL8, hq8, hp8_0⟩ : P_X8_takeNumber_v σ3 τ3 z6 z7 b N mo _ 0 999 r8 σ8 τ8 := hp8
    have o1 := hp8_0
    have hP : va_P D vwCl (gw cA ad σ8 τ8) H8 := hP
    have hFL := hFL.step fL8 (by decide)
    have gWH := gWH.agL (AgrL.fr fL8 (by decide))
    have hF := hF.step f8 (by decide)
    have gWH := gWH.ag (Agr.fr f8 (by decide))
    have t9 : (σ8 24 1).toInt = (σ3 24 1).toInt := congrArg Int32.toInt (f8.at 24 1 (by decide))
    have t10 : (σ8 24 2).toInt = (σ3 24 2).toInt := congrArg Int32.toInt (f8.at 24 2 (by decide))
    refine r_if_eq (tgt := 79) hx hb dX7_readMeasure_53 (by decide) (fun c11 => ?_) (fun c11 => ?_)
    · refine r_iconst hx hb dX7_readMeasure_79 (by decide) (fun z12 ez12 => ?_)
      exact r_zret hx hb hr hK hP hS hk (by omega) dX7_readMeasure_80 (show P_X7_readMeasure σ0 τ0 a1 b N mo q nn nm hc kk z12 σ8 τ8 from ⟨hR, hF, hFL, by omega, by first | exact RO.ofk (by unfold leaP; rw [if_neg (by omega), if_pos (by omega), if_pos (by omega)]) (by omega) (by omega) (by omega) | (obtain ⟨f, e1, x1, x2⟩ := o1.no (by omega); exact RO.ofl (by unfold leaP; rw [if_neg (by omega), if_pos (by omega), if_neg (by omega), e1, bnd_l]) (by omega) x1 x2) | exact RO.ofr (by unfold leaP; rw [if_neg (by omega), if_pos (by omega), if_neg (by omega), e1, bnd_r]) (by omega) ⟨gCT, by omega, by omega⟩ | (exfalso; omega), gWH⟩)
    · obtain ⟨y, e1, gCT, _⟩ := o1.ye (by omega)
      refine lv_aload_n hx hb dX7_readMeasure_56 rfl (lv_at hl 1 rfl) ?_
      refine fg_7_2 (k := 27) hx hb hts in_X7_readMeasure_7 hown hK hP (by decide) (by decide) (hts _ lk_X7_readMeasure_19) dX7_readMeasure_57 ?_
      refine lv_iload_n hx hb dX7_readMeasure_60 rfl (lv_at hl 2 rfl) ?_
      refine lv_iload_n hx hb dX7_readMeasure_61 rfl (lv_at hl 0 rfl) ?_
      refine lv_aload_n hx hb dX7_readMeasure_62 rfl (lv_at hl 1 rfl) ?_
      refine fg_7_0 (k := 27) hx hb hts in_X7_readMeasure_7 hown hK hP (by decide) (by decide) (hts _ lk_X7_readMeasure_9) dX7_readMeasure_63 ?_
      refine fgN_8_12 (k := 1) hx hb hts in_X7_readMeasure_8 hown hK hP (by decide) (by decide) (hN.use nw_7_82) dX7_readMeasure_66 ?_
      refine r_cVi (k := 24) (As := [.int a1, .int (σ0 1 9), .int (σ8 1 12)]) (rest := []) ⟨hx, hb, hml, hown, hts⟩ hK hP hN hS (c_X6_add l D cA ad hI σ8 τ8 hR a1 (σ0 1 9) (σ8 1 12) (by omega)) (cwV 3 hts gX7_readMeasure_X6_add rfl rfl rfl (by decide +kernel) ⟨by decide, by decide⟩) (rv_Sent hK hP (by decide) (by decide)) rfl hl.1 rfl (Nat.le_of_ble_eq_true rfl) dX7_readMeasure_69 (Nat.zero_le _) (Nat.zero_le _) (fun r13 u13 H13 locs13 hp13 hP hS => ?_)
      obtain ⟨σ13, τ13⟩ := u13
      obtain ⟨hR, f13, fL13, hq13, hp13_0⟩ : P_X6_add σ8 τ8 a1 (σ0 1 9) (σ8 1 12) r13 σ13 τ13 := hp13
      have hP : va_P D vwCl (gw cA ad σ13 τ13) H13 := hP
      obtain rfl := FrL.nil fL13
      have hF := hF.step f13 (by decide)
      have gCT := gCT.ag (Agr.fr f13 (by decide))
      have gWH := gWH.ag (Agr.fr f13 (by decide))
      have t14 : (σ13 24 1).toInt = (σ8 24 1).toInt := congrArg Int32.toInt (f13.at 24 1 (by decide))
      have hr15 := rg_6_2 hR (k := 24) (by decide) (by decide)
      refine r_if_eq (tgt := 79) hx hb dX7_readMeasure_72 (by decide) (fun c16 => ?_) (fun c16 => ?_)
      · refine r_iconst hx hb dX7_readMeasure_79 (by decide) (fun z17 ez17 => ?_)
        exact r_zret hx hb hr hK hP hS hk (by omega) dX7_readMeasure_80 (show P_X7_readMeasure σ0 τ0 a1 b N mo q nn nm hc kk z17 σ13 τ8 from ⟨hR, hF, hFL, by omega, by first | exact RO.ofk (by unfold leaP; rw [if_neg (by omega), if_pos (by omega), if_pos (by omega)]) (by omega) (by omega) (by omega) | (obtain ⟨f, e1, x1, x2⟩ := o1.no (by omega); exact RO.ofl (by unfold leaP; rw [if_neg (by omega), if_pos (by omega), if_neg (by omega), e1, bnd_l]) (by omega) x1 x2) | exact RO.ofr (by unfold leaP; rw [if_neg (by omega), if_pos (by omega), if_neg (by omega), e1, bnd_r]) (by omega) ⟨gCT, by omega, by omega⟩ | (exfalso; omega), gWH⟩)
      · refine r_iconst hx hb dX7_readMeasure_75 (by decide) (fun z18 ez18 => ?_)
        refine lv_goto (tgt := 80) hx hb dX7_readMeasure_76 (by decide) ?_
        exact r_zret hx hb hr hK hP hS hk (by omega) dX7_readMeasure_80 (show P_X7_readMeasure σ0 τ0 a1 b N mo q nn nm hc kk z18 σ13 τ8 from ⟨hR, hF, hFL, by omega, by first | exact RO.ofk (by unfold leaP; rw [if_neg (by omega), if_pos (by omega), if_pos (by omega)]) (by omega) (by omega) (by omega) | (obtain ⟨f, e1, x1, x2⟩ := o1.no (by omega); exact RO.ofl (by unfold leaP; rw [if_neg (by omega), if_pos (by omega), if_neg (by omega), e1, bnd_l]) (by omega) x1 x2) | exact RO.ofr (by unfold leaP; rw [if_neg (by omega), if_pos (by omega), if_neg (by omega), e1, bnd_r]) (by omega) ⟨gCT, by omega, by omega⟩ | (exfalso; omega), gWH⟩)
  · refine lv_iload_n hx hb dX7_readMeasure_14 rfl (lv_at hl 0 rfl) ?_
    refine r_bipush hx hb dX7_readMeasure_15 (by decide) (fun z19 ez19 => ?_)
    refine r_icmp_eq (tgt := 35) hx hb dX7_readMeasure_17 (by decide) (fun c20 => ?_) (fun c20 => ?_)
    · refine lv_aload_n hx hb dX7_readMeasure_35 rfl (lv_at hl 1 rfl) ?_
      refine fg_7_0 (k := 27) hx hb hts in_X7_readMeasure_7 hown hK hP (by decide) (by decide) (hts _ lk_X7_readMeasure_9) dX7_readMeasure_36 ?_
      refine r_cVv (k := 1) (As := []) (rest := []) ⟨hx, hb, hml, hown, hts⟩ hK hP hN hS (c_X8_next_v l D cA ad hI σ0 τ0 hR _ _ _ _ gCT) (cwV 0 hts gX7_readMeasure_X8_next rfl rfl rfl (by decide +kernel) ⟨by decide, by decide⟩) (rv_Tape hK hP (by decide) (by decide)) rfl hl.1 rfl (Nat.le_of_ble_eq_true rfl) dX7_readMeasure_39 (Nat.zero_le _) (Nat.zero_le _) (fun u21 H21 locs21 hp21 hP hS => ?_)
      obtain ⟨σ21, τ21⟩ := u21
      obtain ⟨hR, f21, fL21, hp21_0⟩ : P_X8_next_v σ0 τ0 _ _ _ _ σ21 τ21 := hp21
      have hP : va_P D vwCl (gw cA ad σ21 τ21) H21 := hP
      have hFL := hFL.step fL21 (by decide)
      have gWH := gWH.agL (AgrL.fr fL21 (by decide))
      have hF := hF.step f21 (by decide)
      have gWH := gWH.ag (Agr.fr f21 (by decide))
      have t22 : (σ21 24 1).toInt = (σ0 24 1).toInt := congrArg Int32.toInt (f21.at 24 1 (by decide))
      have t23 : (σ21 24 2).toInt = (σ0 24 2).toInt := congrArg Int32.toInt (f21.at 24 2 (by decide))
      have gCT := hp21_0
      refine lv_aload_n hx hb dX7_readMeasure_42 rfl (lv_at hl 1 rfl) ?_
      refine fg_7_0 (k := 27) hx hb hts in_X7_readMeasure_7 hown hK hP (by decide) (by decide) (hts _ lk_X7_readMeasure_9) dX7_readMeasure_43 ?_
      refine r_iconst hx hb dX7_readMeasure_46 (by decide) (fun z24 ez24 => ?_)
      refine r_sipush hx hb dX7_readMeasure_47 (by decide) (fun z25 ez25 => ?_)
      refine r_cVi (k := 1) (As := [.int z24, .int z25]) (rest := []) ⟨hx, hb, hml, hown, hts⟩ hK hP hN hS (c_X8_takeNumber_v l D cA ad hI σ21 τ21 hR z24 z25 b N mo _ 0 999 (by omega) (by omega) (by omega) (by omega) gCT) (cwV 2 hts gX7_readMeasure_X8_takeNumber rfl rfl rfl (by decide +kernel) ⟨by decide, by decide⟩) (rv_Tape hK hP (by decide) (by decide)) rfl hl.1 rfl (Nat.le_of_ble_eq_true rfl) dX7_readMeasure_50 (Nat.zero_le _) (Nat.zero_le _) (fun r26 u26 H26 locs26 hp26 hP hS => ?_)
      obtain ⟨σ26, τ26⟩ := u26
      obtain ⟨hR, f26, fL26, hq26, hp26_0⟩ : P_X8_takeNumber_v σ21 τ21 z24 z25 b N mo _ 0 999 r26 σ26 τ26 := hp26
      have o1 := hp26_0
      have hP : va_P D vwCl (gw cA ad σ26 τ26) H26 := hP
      have hFL := hFL.step fL26 (by decide)
      have gWH := gWH.agL (AgrL.fr fL26 (by decide))
      have hF := hF.step f26 (by decide)
      have gWH := gWH.ag (Agr.fr f26 (by decide))
      have t27 : (σ26 24 1).toInt = (σ21 24 1).toInt := congrArg Int32.toInt (f26.at 24 1 (by decide))
      have t28 : (σ26 24 2).toInt = (σ21 24 2).toInt := congrArg Int32.toInt (f26.at 24 2 (by decide))
      refine r_if_eq (tgt := 79) hx hb dX7_readMeasure_53 (by decide) (fun c29 => ?_) (fun c29 => ?_)
      · refine r_iconst hx hb dX7_readMeasure_79 (by decide) (fun z30 ez30 => ?_)
        exact r_zret hx hb hr hK hP hS hk (by omega) dX7_readMeasure_80 (show P_X7_readMeasure σ0 τ0 a1 b N mo q nn nm hc kk z30 σ26 τ26 from ⟨hR, hF, hFL, by omega, by first | exact RO.ofk (by unfold leaP; rw [if_neg (by omega), if_pos (by omega), if_pos (by omega)]) (by omega) (by omega) (by omega) | (obtain ⟨f, e1, x1, x2⟩ := o1.no (by omega); exact RO.ofl (by unfold leaP; rw [if_neg (by omega), if_pos (by omega), if_neg (by omega), e1, bnd_l]) (by omega) x1 x2) | exact RO.ofr (by unfold leaP; rw [if_neg (by omega), if_pos (by omega), if_neg (by omega), e1, bnd_r]) (by omega) ⟨gCT, by omega, by omega⟩ | (exfalso; omega), gWH⟩)
      · obtain ⟨y, e1, gCT, _⟩ := o1.ye (by omega)
        refine lv_aload_n hx hb dX7_readMeasure_56 rfl (lv_at hl 1 rfl) ?_
        refine fg_7_2 (k := 27) hx hb hts in_X7_readMeasure_7 hown hK hP (by decide) (by decide) (hts _ lk_X7_readMeasure_19) dX7_readMeasure_57 ?_
        refine lv_iload_n hx hb dX7_readMeasure_60 rfl (lv_at hl 2 rfl) ?_
        refine lv_iload_n hx hb dX7_readMeasure_61 rfl (lv_at hl 0 rfl) ?_
        refine lv_aload_n hx hb dX7_readMeasure_62 rfl (lv_at hl 1 rfl) ?_
        refine fg_7_0 (k := 27) hx hb hts in_X7_readMeasure_7 hown hK hP (by decide) (by decide) (hts _ lk_X7_readMeasure_9) dX7_readMeasure_63 ?_
        refine fgN_8_12 (k := 1) hx hb hts in_X7_readMeasure_8 hown hK hP (by decide) (by decide) (hN.use nw_7_82) dX7_readMeasure_66 ?_
        refine r_cVi (k := 24) (As := [.int a1, .int (σ0 1 9), .int (σ26 1 12)]) (rest := []) ⟨hx, hb, hml, hown, hts⟩ hK hP hN hS (c_X6_add l D cA ad hI σ26 τ26 hR a1 (σ0 1 9) (σ26 1 12) (by omega)) (cwV 3 hts gX7_readMeasure_X6_add rfl rfl rfl (by decide +kernel) ⟨by decide, by decide⟩) (rv_Sent hK hP (by decide) (by decide)) rfl hl.1 rfl (Nat.le_of_ble_eq_true rfl) dX7_readMeasure_69 (Nat.zero_le _) (Nat.zero_le _) (fun r31 u31 H31 locs31 hp31 hP hS => ?_)
        obtain ⟨σ31, τ31⟩ := u31
        obtain ⟨hR, f31, fL31, hq31, hp31_0⟩ : P_X6_add σ26 τ26 a1 (σ0 1 9) (σ26 1 12) r31 σ31 τ31 := hp31
        have hP : va_P D vwCl (gw cA ad σ31 τ31) H31 := hP
        obtain rfl := FrL.nil fL31
        have hF := hF.step f31 (by decide)
        have gCT := gCT.ag (Agr.fr f31 (by decide))
        have gWH := gWH.ag (Agr.fr f31 (by decide))
        have t32 : (σ31 24 1).toInt = (σ26 24 1).toInt := congrArg Int32.toInt (f31.at 24 1 (by decide))
        have hr33 := rg_6_2 hR (k := 24) (by decide) (by decide)
        refine r_if_eq (tgt := 79) hx hb dX7_readMeasure_72 (by decide) (fun c34 => ?_) (fun c34 => ?_)
        · refine r_iconst hx hb dX7_readMeasure_79 (by decide) (fun z35 ez35 => ?_)
          exact r_zret hx hb hr hK hP hS hk (by omega) dX7_readMeasure_80 (show P_X7_readMeasure σ0 τ0 a1 b N mo q nn nm hc kk z35 σ31 τ26 from ⟨hR, hF, hFL, by omega, by first | exact RO.ofk (by unfold leaP; rw [if_neg (by omega), if_pos (by omega), if_pos (by omega)]) (by omega) (by omega) (by omega) | (obtain ⟨f, e1, x1, x2⟩ := o1.no (by omega); exact RO.ofl (by unfold leaP; rw [if_neg (by omega), if_pos (by omega), if_neg (by omega), e1, bnd_l]) (by omega) x1 x2) | exact RO.ofr (by unfold leaP; rw [if_neg (by omega), if_pos (by omega), if_neg (by omega), e1, bnd_r]) (by omega) ⟨gCT, by omega, by omega⟩ | (exfalso; omega), gWH⟩)
        · refine r_iconst hx hb dX7_readMeasure_75 (by decide) (fun z36 ez36 => ?_)
          refine lv_goto (tgt := 80) hx hb dX7_readMeasure_76 (by decide) ?_
          exact r_zret hx hb hr hK hP hS hk (by omega) dX7_readMeasure_80 (show P_X7_readMeasure σ0 τ0 a1 b N mo q nn nm hc kk z36 σ31 τ26 from ⟨hR, hF, hFL, by omega, by first | exact RO.ofk (by unfold leaP; rw [if_neg (by omega), if_pos (by omega), if_pos (by omega)]) (by omega) (by omega) (by omega) | (obtain ⟨f, e1, x1, x2⟩ := o1.no (by omega); exact RO.ofl (by unfold leaP; rw [if_neg (by omega), if_pos (by omega), if_neg (by omega), e1, bnd_l]) (by omega) x1 x2) | exact RO.ofr (by unfold leaP; rw [if_neg (by omega), if_pos (by omega), if_neg (by omega), e1, bnd_r]) (by omega) ⟨gCT, by omega, by omega⟩ | (exfalso; omega), gWH⟩)
    · refine lv_iload_n hx hb dX7_readMeasure_20 rfl (lv_at hl 0 rfl) ?_
      refine r_bipush hx hb dX7_readMeasure_21 (by decide) (fun z37 ez37 => ?_)
      refine r_icmp_eq (tgt := 35) hx hb dX7_readMeasure_23 (by decide) (fun c38 => ?_) (fun c38 => ?_)
      · refine lv_aload_n hx hb dX7_readMeasure_35 rfl (lv_at hl 1 rfl) ?_
        refine fg_7_0 (k := 27) hx hb hts in_X7_readMeasure_7 hown hK hP (by decide) (by decide) (hts _ lk_X7_readMeasure_9) dX7_readMeasure_36 ?_
        refine r_cVv (k := 1) (As := []) (rest := []) ⟨hx, hb, hml, hown, hts⟩ hK hP hN hS (c_X8_next_v l D cA ad hI σ0 τ0 hR _ _ _ _ gCT) (cwV 0 hts gX7_readMeasure_X8_next rfl rfl rfl (by decide +kernel) ⟨by decide, by decide⟩) (rv_Tape hK hP (by decide) (by decide)) rfl hl.1 rfl (Nat.le_of_ble_eq_true rfl) dX7_readMeasure_39 (Nat.zero_le _) (Nat.zero_le _) (fun u39 H39 locs39 hp39 hP hS => ?_)
        obtain ⟨σ39, τ39⟩ := u39
        obtain ⟨hR, f39, fL39, hp39_0⟩ : P_X8_next_v σ0 τ0 _ _ _ _ σ39 τ39 := hp39
        have hP : va_P D vwCl (gw cA ad σ39 τ39) H39 := hP
        have hFL := hFL.step fL39 (by decide)
        have gWH := gWH.agL (AgrL.fr fL39 (by decide))
        have hF := hF.step f39 (by decide)
        have gWH := gWH.ag (Agr.fr f39 (by decide))
        have t40 : (σ39 24 1).toInt = (σ0 24 1).toInt := congrArg Int32.toInt (f39.at 24 1 (by decide))
        have t41 : (σ39 24 2).toInt = (σ0 24 2).toInt := congrArg Int32.toInt (f39.at 24 2 (by decide))
        have gCT := hp39_0
        refine lv_aload_n hx hb dX7_readMeasure_42 rfl (lv_at hl 1 rfl) ?_
        refine fg_7_0 (k := 27) hx hb hts in_X7_readMeasure_7 hown hK hP (by decide) (by decide) (hts _ lk_X7_readMeasure_9) dX7_readMeasure_43 ?_
        refine r_iconst hx hb dX7_readMeasure_46 (by decide) (fun z42 ez42 => ?_)
        refine r_sipush hx hb dX7_readMeasure_47 (by decide) (fun z43 ez43 => ?_)
        refine r_cVi (k := 1) (As := [.int z42, .int z43]) (rest := []) ⟨hx, hb, hml, hown, hts⟩ hK hP hN hS (c_X8_takeNumber_v l D cA ad hI σ39 τ39 hR z42 z43 b N mo _ 0 999 (by omega) (by omega) (by omega) (by omega) gCT) (cwV 2 hts gX7_readMeasure_X8_takeNumber rfl rfl rfl (by decide +kernel) ⟨by decide, by decide⟩) (rv_Tape hK hP (by decide) (by decide)) rfl hl.1 rfl (Nat.le_of_ble_eq_true rfl) dX7_readMeasure_50 (Nat.zero_le _) (Nat.zero_le _) (fun r44 u44 H44 locs44 hp44 hP hS => ?_)
        obtain ⟨σ44, τ44⟩ := u44
        obtain ⟨hR, f44, fL44, hq44, hp44_0⟩ : P_X8_takeNumber_v σ39 τ39 z42 z43 b N mo _ 0 999 r44 σ44 τ44 := hp44
        have o1 := hp44_0
        have hP : va_P D vwCl (gw cA ad σ44 τ44) H44 := hP
        have hFL := hFL.step fL44 (by decide)
        have gWH := gWH.agL (AgrL.fr fL44 (by decide))
        have hF := hF.step f44 (by decide)
        have gWH := gWH.ag (Agr.fr f44 (by decide))
        have t45 : (σ44 24 1).toInt = (σ39 24 1).toInt := congrArg Int32.toInt (f44.at 24 1 (by decide))
        have t46 : (σ44 24 2).toInt = (σ39 24 2).toInt := congrArg Int32.toInt (f44.at 24 2 (by decide))
        refine r_if_eq (tgt := 79) hx hb dX7_readMeasure_53 (by decide) (fun c47 => ?_) (fun c47 => ?_)
        · refine r_iconst hx hb dX7_readMeasure_79 (by decide) (fun z48 ez48 => ?_)
          exact r_zret hx hb hr hK hP hS hk (by omega) dX7_readMeasure_80 (show P_X7_readMeasure σ0 τ0 a1 b N mo q nn nm hc kk z48 σ44 τ44 from ⟨hR, hF, hFL, by omega, by first | exact RO.ofk (by unfold leaP; rw [if_neg (by omega), if_pos (by omega), if_pos (by omega)]) (by omega) (by omega) (by omega) | (obtain ⟨f, e1, x1, x2⟩ := o1.no (by omega); exact RO.ofl (by unfold leaP; rw [if_neg (by omega), if_pos (by omega), if_neg (by omega), e1, bnd_l]) (by omega) x1 x2) | exact RO.ofr (by unfold leaP; rw [if_neg (by omega), if_pos (by omega), if_neg (by omega), e1, bnd_r]) (by omega) ⟨gCT, by omega, by omega⟩ | (exfalso; omega), gWH⟩)
        · obtain ⟨y, e1, gCT, _⟩ := o1.ye (by omega)
          refine lv_aload_n hx hb dX7_readMeasure_56 rfl (lv_at hl 1 rfl) ?_
          refine fg_7_2 (k := 27) hx hb hts in_X7_readMeasure_7 hown hK hP (by decide) (by decide) (hts _ lk_X7_readMeasure_19) dX7_readMeasure_57 ?_
          refine lv_iload_n hx hb dX7_readMeasure_60 rfl (lv_at hl 2 rfl) ?_
          refine lv_iload_n hx hb dX7_readMeasure_61 rfl (lv_at hl 0 rfl) ?_
          refine lv_aload_n hx hb dX7_readMeasure_62 rfl (lv_at hl 1 rfl) ?_
          refine fg_7_0 (k := 27) hx hb hts in_X7_readMeasure_7 hown hK hP (by decide) (by decide) (hts _ lk_X7_readMeasure_9) dX7_readMeasure_63 ?_
          refine fgN_8_12 (k := 1) hx hb hts in_X7_readMeasure_8 hown hK hP (by decide) (by decide) (hN.use nw_7_82) dX7_readMeasure_66 ?_
          refine r_cVi (k := 24) (As := [.int a1, .int (σ0 1 9), .int (σ44 1 12)]) (rest := []) ⟨hx, hb, hml, hown, hts⟩ hK hP hN hS (c_X6_add l D cA ad hI σ44 τ44 hR a1 (σ0 1 9) (σ44 1 12) (by omega)) (cwV 3 hts gX7_readMeasure_X6_add rfl rfl rfl (by decide +kernel) ⟨by decide, by decide⟩) (rv_Sent hK hP (by decide) (by decide)) rfl hl.1 rfl (Nat.le_of_ble_eq_true rfl) dX7_readMeasure_69 (Nat.zero_le _) (Nat.zero_le _) (fun r49 u49 H49 locs49 hp49 hP hS => ?_)
          obtain ⟨σ49, τ49⟩ := u49
          obtain ⟨hR, f49, fL49, hq49, hp49_0⟩ : P_X6_add σ44 τ44 a1 (σ0 1 9) (σ44 1 12) r49 σ49 τ49 := hp49
          have hP : va_P D vwCl (gw cA ad σ49 τ49) H49 := hP
          obtain rfl := FrL.nil fL49
          have hF := hF.step f49 (by decide)
          have gCT := gCT.ag (Agr.fr f49 (by decide))
          have gWH := gWH.ag (Agr.fr f49 (by decide))
          have t50 : (σ49 24 1).toInt = (σ44 24 1).toInt := congrArg Int32.toInt (f49.at 24 1 (by decide))
          have hr51 := rg_6_2 hR (k := 24) (by decide) (by decide)
          refine r_if_eq (tgt := 79) hx hb dX7_readMeasure_72 (by decide) (fun c52 => ?_) (fun c52 => ?_)
          · refine r_iconst hx hb dX7_readMeasure_79 (by decide) (fun z53 ez53 => ?_)
            exact r_zret hx hb hr hK hP hS hk (by omega) dX7_readMeasure_80 (show P_X7_readMeasure σ0 τ0 a1 b N mo q nn nm hc kk z53 σ49 τ44 from ⟨hR, hF, hFL, by omega, by first | exact RO.ofk (by unfold leaP; rw [if_neg (by omega), if_pos (by omega), if_pos (by omega)]) (by omega) (by omega) (by omega) | (obtain ⟨f, e1, x1, x2⟩ := o1.no (by omega); exact RO.ofl (by unfold leaP; rw [if_neg (by omega), if_pos (by omega), if_neg (by omega), e1, bnd_l]) (by omega) x1 x2) | exact RO.ofr (by unfold leaP; rw [if_neg (by omega), if_pos (by omega), if_neg (by omega), e1, bnd_r]) (by omega) ⟨gCT, by omega, by omega⟩ | (exfalso; omega), gWH⟩)
          · refine r_iconst hx hb dX7_readMeasure_75 (by decide) (fun z54 ez54 => ?_)
            refine lv_goto (tgt := 80) hx hb dX7_readMeasure_76 (by decide) ?_
            exact r_zret hx hb hr hK hP hS hk (by omega) dX7_readMeasure_80 (show P_X7_readMeasure σ0 τ0 a1 b N mo q nn nm hc kk z54 σ49 τ44 from ⟨hR, hF, hFL, by omega, by first | exact RO.ofk (by unfold leaP; rw [if_neg (by omega), if_pos (by omega), if_pos (by omega)]) (by omega) (by omega) (by omega) | (obtain ⟨f, e1, x1, x2⟩ := o1.no (by omega); exact RO.ofl (by unfold leaP; rw [if_neg (by omega), if_pos (by omega), if_neg (by omega), e1, bnd_l]) (by omega) x1 x2) | exact RO.ofr (by unfold leaP; rw [if_neg (by omega), if_pos (by omega), if_neg (by omega), e1, bnd_r]) (by omega) ⟨gCT, by omega, by omega⟩ | (exfalso; omega), gWH⟩)
      · refine lv_aload_n hx hb dX7_readMeasure_26 rfl (lv_at hl 1 rfl) ?_
        refine fg_7_0 (k := 27) hx hb hts in_X7_readMeasure_7 hown hK hP (by decide) (by decide) (hts _ lk_X7_readMeasure_9) dX7_readMeasure_27 ?_
        refine r_iconst hx hb dX7_readMeasure_30 (by decide) (fun z55 ez55 => ?_)
        refine r_cVi (k := 1) (As := [.int z55]) (rest := []) ⟨hx, hb, hml, hown, hts⟩ hK hP hN hS (c_X8_blame_v l D cA ad hI σ0 τ0 hR z55 _ _ _ _ (by omega) gCT) (cwV 1 hts gX7_readMeasure_X8_blame rfl rfl rfl (by decide +kernel) ⟨by decide, by decide⟩) (rv_Tape hK hP (by decide) (by decide)) rfl hl.1 rfl (Nat.le_of_ble_eq_true rfl) dX7_readMeasure_31 (Nat.zero_le _) (Nat.zero_le _) (fun r56 u56 H56 locs56 hp56 hP hS => ?_)
        obtain ⟨σ56, τ56⟩ := u56
        obtain ⟨hR, f56, fL56, hq56, hp56_0, hp56_1, hp56_2, gnCT⟩ : P_X8_blame_v σ0 τ0 z55 _ _ _ _ r56 σ56 τ56 := hp56
        have hP : va_P D vwCl (gw cA ad σ56 τ56) H56 := hP
        obtain rfl := FrL.nil fL56
        have hF := hF.step f56 (by decide)
        have gCT := gCT.ag (Agr.fr f56 (by decide))
        have gWH := gWH.ag (Agr.fr f56 (by decide))
        have t57 : (σ56 24 1).toInt = (σ0 24 1).toInt := congrArg Int32.toInt (f56.at 24 1 (by decide))
        have t58 : (σ56 24 2).toInt = (σ0 24 2).toInt := congrArg Int32.toInt (f56.at 24 2 (by decide))
        exact r_zret hx hb hr hK hP hS hk (by omega) dX7_readMeasure_34 (show P_X7_readMeasure σ0 τ0 a1 b N mo q nn nm hc kk r56 σ56 τ0 from ⟨hR, hF, hFL, by omega, by first | exact RO.ofk (by unfold leaP; rw [if_neg (by omega), if_pos (by omega), if_pos (by omega)]) (by omega) (by omega) (by omega) | (obtain ⟨f, e1, x1, x2⟩ := o1.no (by omega); exact RO.ofl (by unfold leaP; rw [if_neg (by omega), if_pos (by omega), if_neg (by omega), e1, bnd_l]) (by omega) x1 x2) | exact RO.ofr (by unfold leaP; rw [if_neg (by omega), if_pos (by omega), if_neg (by omega), e1, bnd_r]) (by omega) ⟨gCT, by omega, by omega⟩ | (exfalso; omega), gWH⟩)
