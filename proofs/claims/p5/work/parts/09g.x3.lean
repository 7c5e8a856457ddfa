abbrev L_X11_greatestCommon_w : List Rc := []
abbrev LL_X11_greatestCommon_w : List Rc := []
def P_X11_greatestCommon_w (σ0 : Nat → Nat → Int32) (τ0 : Nat → Nat → Int64) (a0 : Int32) (a1 : Int32) (r : Int32) (σ : Nat → Nat → Int32) (τ : Nat → Nat → Int64) : Prop := Rg σ ∧ Fr L_X11_greatestCommon_w σ0 σ ∧ FrL LL_X11_greatestCommon_w τ0 τ ∧ (1 ≤ r.toInt)
def J_X11_greatestCommon_w_7 (p : Program) (l : Launch) (e : Env) (s : State) (m : MethodId) (args : Array Value) (below : List Frame) (meth : Method) (c : Code) (D : va_G) (cA : Nat → ClassId) (ad : Nat → Nat) (σ0 : Nat → Nat → Int32) (τ0 : Nat → Nat → Int64) (a0 : Int32) (a1 : Int32) (n : Nat) : Prop := ∀ (σ : Nat → Nat → Int32) (τ : Nat → Nat → Int64) (H : Heap) (locs : List Loc) (x2 : Int32) (x3 : Int32) (x4 : Int32) (ls : Array Slot), Rg σ → Fr L_X11_greatestCommon_w σ0 σ → FrL LL_X11_greatestCommon_w τ0 τ → va_P D vwCl (gw cA ad σ τ) H → va_S (AA ad) s.heap H locs → (0 ≤ x4.toInt ∧ x4.toInt ≤ 64) → lv_has ls 6 [(0, .int a0), (1, .int a1), (2, .int x2), (3, .int x3), (4, .int x4)] → 2 * (64 - x4.toInt) + 1 < (n : Int) → W p l e ({ frames := 0, cells := 0, slots := 0, locals := 0 } : Room) s m args below meth c H locs 0 0 (MQ below (va_Qi (fun (r : Int32) (u : SS) => P_X11_greatestCommon_w σ0 τ0 a0 a1 r u.1 u.2) (WB D cA ad) (AA ad)) args s 0 0 (AA ad)) (F0 m 7 ls [])
set_option maxHeartbeats 4000000 in
theorem B_X11_greatestCommon_w_7 (p : Program) (l : Launch) (e : Env) (s : State) (m : MethodId) (args : Array Value) (below : List Frame) (meth : Method) (c : Code) (D : va_G) (cA : Nat → ClassId) (ad : Nat → Nat) (σ0 : Nat → Nat → Int32) (τ0 : Nat → Nat → Int64) (a0 : Int32) (a1 : Int32) (n : Nat) (C : Cy p s m args meth c cX11_greatestCommon 6 wsX11_greatestCommon RX11 D cA ad (some .int))  (K7 : J_X11_greatestCommon_w_7 p l e s m args below meth c D cA ad σ0 τ0 a0 a1 n) : J_X11_greatestCommon_w_7 p l e s m args below meth c D cA ad σ0 τ0 a0 a1 (n + 1) := by
  obtain ⟨hx, hb, hml, hown, hts, hK, hk, hr, hI, hN⟩ := C
  intro σ τ H locs x2 x3 x4 ls hR hF hFL hP hS hc0 hl hm
  obtain rfl := Fr.nil hF
  obtain rfl := FrL.nil hFL
  refine lv_iload hx hb dX11_greatestCommon_7 (lv_at hl 4 rfl) ?_
  refine r_bipush hx hb dX11_greatestCommon_9 (by decide) (fun z1 ez1 => ?_)
  refine r_icmp_ge (tgt := 34) hx hb dX11_greatestCommon_11 (by decide) (fun c2 => ?_) (fun c2 => ?_)
  · refine lv_iload_n hx hb dX11_greatestCommon_34 rfl (lv_at hl 2 rfl) ?_
    refine r_if_le (tgt := 42) hx hb dX11_greatestCommon_35 (by decide) (fun c3 => ?_) (fun c3 => ?_)
    · refine r_iconst hx hb dX11_greatestCommon_42 (by decide) (fun z4 ez4 => ?_)
      exact r_iret hx hb hr hK hP hS hk dX11_greatestCommon_43 (show P_X11_greatestCommon_w σ0 τ0 a0 a1 z4 σ0 τ0 from ⟨hR, hF, hFL, by omega⟩)
    · refine lv_iload_n hx hb dX11_greatestCommon_38 rfl (lv_at hl 2 rfl) ?_
      refine lv_goto (tgt := 43) hx hb dX11_greatestCommon_39 (by decide) ?_
      exact r_iret hx hb hr hK hP hS hk dX11_greatestCommon_43 (show P_X11_greatestCommon_w σ0 τ0 a0 a1 x2 σ0 τ0 from ⟨hR, hF, hFL, by omega⟩)
  · refine lv_iload_n hx hb dX11_greatestCommon_14 rfl (lv_at hl 3 rfl) ?_
    refine r_if_le (tgt := 34) hx hb dX11_greatestCommon_15 (by decide) (fun c5 => ?_) (fun c5 => ?_)
    · refine lv_iload_n hx hb dX11_greatestCommon_34 rfl (lv_at hl 2 rfl) ?_
      refine r_if_le (tgt := 42) hx hb dX11_greatestCommon_35 (by decide) (fun c6 => ?_) (fun c6 => ?_)
      · refine r_iconst hx hb dX11_greatestCommon_42 (by decide) (fun z7 ez7 => ?_)
        exact r_iret hx hb hr hK hP hS hk dX11_greatestCommon_43 (show P_X11_greatestCommon_w σ0 τ0 a0 a1 z7 σ0 τ0 from ⟨hR, hF, hFL, by omega⟩)
      · refine lv_iload_n hx hb dX11_greatestCommon_38 rfl (lv_at hl 2 rfl) ?_
        refine lv_goto (tgt := 43) hx hb dX11_greatestCommon_39 (by decide) ?_
        exact r_iret hx hb hr hK hP hS hk dX11_greatestCommon_43 (show P_X11_greatestCommon_w σ0 τ0 a0 a1 x2 σ0 τ0 from ⟨hR, hF, hFL, by omega⟩)
    · refine lv_iload_n hx hb dX11_greatestCommon_18 rfl (lv_at hl 2 rfl) ?_
      refine lv_iload_n hx hb dX11_greatestCommon_19 rfl (lv_at hl 3 rfl) ?_
      refine r_irem hx hb dX11_greatestCommon_20 (by omega) (fun z8 ez8 => ?_)
      have fz8 := ti_tm (a := x2.toInt) (b := x3.toInt) (by omega)
      refine lv_istore (lv' := [(5, .int z8), (0, .int a0), (1, .int a1), (2, .int x2), (3, .int x3), (4, .int x4)]) hx hb dX11_greatestCommon_21 hl (by decide) rfl (fun ls hl => ?_)
      refine lv_iload_n hx hb dX11_greatestCommon_23 rfl (lv_at hl 4 rfl) ?_
      refine lv_istore_n (lv' := [(2, .int x3), (5, .int z8), (0, .int a0), (1, .int a1), (3, .int x3), (4, .int x4)]) hx hb dX11_greatestCommon_24 rfl hl (by decide) rfl (fun ls hl => ?_)
      refine lv_iload hx hb dX11_greatestCommon_25 (lv_at hl 1 rfl) ?_
      refine lv_istore_n (lv' := [(3, .int z8), (2, .int x3), (5, .int z8), (0, .int a0), (1, .int a1), (4, .int x4)]) hx hb dX11_greatestCommon_27 rfl hl (by decide) rfl (fun ls hl => ?_)
      refine r_iinc (k := 5) (lv1 := fun z9 => [(4, .int z9), (3, .int z8), (2, .int x3), (5, .int z8), (0, .int a0), (1, .int a1)]) hx hb dX11_greatestCommon_28 hl rfl (by decide) (fun _ => rfl) (by decide) (by omega) (fun z9 ls ez9 hl => ?_)
      refine lv_goto (tgt := 7) hx hb dX11_greatestCommon_31 (by decide) ?_
      exact K7 σ0 τ0 H locs x3 z8 z9 ls hR hF hFL hP hS (by omega) (lv_sub hl [4, 5, 2, 1, 0] rfl) (by omega)
theorem A_X11_greatestCommon_w (p : Program) (l : Launch) (e : Env) (s : State) (m : MethodId) (args : Array Value) (below : List Frame) (meth : Method) (c : Code) (D : va_G) (cA : Nat → ClassId) (ad : Nat → Nat) (σ0 : Nat → Nat → Int32) (τ0 : Nat → Nat → Int64) (a0 : Int32) (a1 : Int32) (C : Cy p s m args meth c cX11_greatestCommon 6 wsX11_greatestCommon RX11 D cA ad (some .int))  : ∀ n : Nat, J_X11_greatestCommon_w_7 p l e s m args below meth c D cA ad σ0 τ0 a0 a1 n := by
  intro n
  induction n with
  | zero =>
    exact (by intro σ τ H locs x2 x3 x4 ls hR hF hFL hP hS hc0 hl hm; exfalso; omega)
  | succ n ih =>
    exact B_X11_greatestCommon_w_7 p l e s m args below meth c D cA ad σ0 τ0 a0 a1 n C  ih
set_option maxHeartbeats 4000000 in
theorem c_X11_greatestCommon_w (l : Launch) (D : va_G) (cA : Nat → ClassId) (ad : Nat → Nat) (hI : Inj ad) (σ0 : Nat → Nat → Int32) (τ0 : Nat → Nat → Int64) (hR : Rg σ0) (a0 : Int32) (a1 : Int32)  : Met l yX11_greatestCommon wsX11_greatestCommon ({ frames := 0, cells := 0, slots := 0, locals := 0 } : Room) (WQc D cA ad [.int a0, .int a1] σ0 τ0) (va_Qi (fun (r : Int32) (u : SS) => P_X11_greatestCommon_w σ0 τ0 a0 a1 r u.1 u.2) (WB D cA ad) (AA ad)) 0 0 (AA ad) := by
  refine Met.ofW (cc := cX11_greatestCommon) (maxL := 6) (ret := (some .int)) (by decide) rfl ?_
  intro p e s m args below meth c s₁ B hml hv
  obtain ⟨rfl, hP, hK, hN⟩ := hv
  have C : Cy p s m _ meth c cX11_greatestCommon 6 wsX11_greatestCommon RX11 D cA ad (some .int) := ⟨B.exec, B.bytes, hml, findClass_of_methodNamed B.named, atoms_spec (ws := wsX11_greatestCommon) B.pre, hK, B.notSynchronized, B.returns, hI, hN⟩
  have hl := lv_entry ([.int a0, .int a1]) (n := 6) (Nat.le_of_ble_eq_true rfl)
  rw [lg_entry_eq]
  generalize (lg_sl ([.int a0, .int a1]) ++ List.replicate (6 - (lg_sl ([.int a0, .int a1])).length) Slot.unset).toArray = ls at hl ⊢
  have hl : lv_has ls 6 [(0, .int a0), (1, .int a1)] := hl
  have hS : va_S (AA ad) s.heap s.heap [] := va_S.rf
  have hF : Fr L_X11_greatestCommon_w σ0 σ0 := Fr.rf
  have hFL : FrL LL_X11_greatestCommon_w τ0 τ0 := FrL.rf
  have hA := A_X11_greatestCommon_w p l e s m _ below meth c D cA ad σ0 τ0 a0 a1 C  266
  have K7 := hA
  clear hA
  obtain ⟨hx, hb, _, hown, hts, _, hk, hr, _, _⟩ := C
  refine lv_iload_n hx hb dX11_greatestCommon_0 rfl (lv_at hl 0 rfl) ?_
  refine lv_istore_n (lv' := [(2, .int a0), (0, .int a0), (1, .int a1)]) hx hb dX11_greatestCommon_1 rfl hl (by decide) rfl (fun ls hl => ?_)
  refine lv_iload_n hx hb dX11_greatestCommon_2 rfl (lv_at hl 2 rfl) ?_
  refine lv_istore_n (lv' := [(3, .int a1), (2, .int a0), (0, .int a0), (1, .int a1)]) hx hb dX11_greatestCommon_3 rfl hl (by decide) rfl (fun ls hl => ?_)
  refine r_iconst hx hb dX11_greatestCommon_4 (by decide) (fun z1 ez1 => ?_)
  refine lv_istore (lv' := [(4, .int z1), (3, .int a1), (2, .int a0), (0, .int a0), (1, .int a1)]) hx hb dX11_greatestCommon_5 hl (by decide) rfl (fun ls hl => ?_)
  exact K7 σ0 τ0 s.heap [] a0 a1 z1 ls hR hF hFL hP hS (by omega) (lv_sub hl [3, 4, 2, 1, 0] rfl) (by omega)
theorem in_X11_man_11 : ∀ w ∈ u_ws RX11 TX11 19, w ∈ wsY11_man := by decide +kernel
theorem in_X11_man_2 : ∀ w ∈ u_ws RX2 TX2 7, w ∈ wsY11_man := by decide +kernel
theorem in_X11_man_9 : ∀ w ∈ u_ws RX9 TX9 14, w ∈ wsY11_man := by decide +kernel
theorem lk_X11_man_177 : Cond.classLink RX11 177 "java/util/NoSuchElementException" ∈ wsY11_man := by decide +kernel
theorem lk_X11_man_17700 : Cond.initialized "java/util/NoSuchElementException" ∈ wsY11_man := by decide +kernel
theorem lk_X11_man_19 : Cond.fieldLink RX11 19 "CuckooShares" "valley" "LCuckooShares$Valley;" ∈ wsY11_man := by decide +kernel
theorem lk_X11_man_38 : Cond.fieldLink RX11 38 "CuckooShares" "days" "LCuckooShares$Days;" ∈ wsY11_man := by decide +kernel
abbrev L_X11_man : List Rc := []
abbrev LL_X11_man : List Rc := []
def P_X11_man (σ0 : Nat → Nat → Int32) (τ0 : Nat → Nat → Int64) (a1 : Int32) (a2 : Int32) (r : Int32) (σ : Nat → Nat → Int32) (τ : Nat → Nat → Int64) : Prop := Rg σ ∧ Fr L_X11_man σ0 σ ∧ FrL LL_X11_man τ0 τ
set_option maxHeartbeats 4000000 in
theorem c_X11_man (l : Launch) (hl0 : l.stackTraces = false) (D : va_G) (cA : Nat → ClassId) (ad : Nat → Nat) (hI : Inj ad) (σ0 : Nat → Nat → Int32) (τ0 : Nat → Nat → Int64) (hR : Rg σ0) (a1 : Int32) (a2 : Int32)  : vx_Met l yX11_man wsY11_man ({ frames := 6, cells := 1, slots := 6, locals := 82 } : Room) (WQx D cA ad [.ref (ad 0), .int a1, .int a2] σ0 τ0) (va_Qi (fun (r : Int32) (u : SS) => P_X11_man σ0 τ0 a1 a2 r u.1 u.2) (WB D cA ad) (AA ad)) (XX D cA ad L_X11_man LL_X11_man σ0 τ0) 1 6 (AA ad) := by
  refine vx_ofW (cc := cX11_man) (maxL := 3) (ret := (some .int)) (by decide) rfl ?_
  intro p e s m args below meth c s₁ B hml hnoex hv
  obtain ⟨rfl, hP, hK, hV⟩ := hv
  have hN := hV.1
  have C : Cy p s m _ meth c cX11_man 3 wsY11_man RX11 D cA ad (some .int) := ⟨B.exec, B.bytes, hml, findClass_of_methodNamed B.named, atoms_spec (ws := wsY11_man) B.pre, hK, B.notSynchronized, B.returns, hI, hN⟩
  have hl := lv_entry ([.ref (ad 0), .int a1, .int a2]) (n := 3) (Nat.le_of_ble_eq_true rfl)
  rw [lg_entry_eq]
  generalize (lg_sl ([.ref (ad 0), .int a1, .int a2]) ++ List.replicate (3 - (lg_sl ([.ref (ad 0), .int a1, .int a2])).length) Slot.unset).toArray = ls at hl ⊢
  have hl : lv_has ls 3 [(0, .ref (ad 0)), (1, .int a1), (2, .int a2)] := hl
  have hS : va_S (AA ad) s.heap s.heap [] := va_S.rf
  have hF : Fr L_X11_man σ0 σ0 := Fr.rf
  have hFL : FrL LL_X11_man τ0 τ0 := FrL.rf
  obtain ⟨hx, hb, _, hown, hts, _, hk, hr, _, _⟩ := C
  refine lv_aload_n hx hb dX11_man_0 rfl (lv_at hl 0 rfl) ?_
  refine fg_11_1 (k := 0) hx hb hts in_X11_man_11 hown hK hP (by decide) (by decide) (hts _ lk_X11_man_19) dX11_man_1 ?_
  refine lv_iload_n hx hb dX11_man_4 rfl (lv_at hl 1 rfl) ?_
  refine r_cVi (k := 2) (As := [.int a1]) (rest := []) ⟨hx, hb, hml, hown, hts⟩ hK hP hN hS (c_X9_hasMan l D cA ad hI σ0 τ0 hR 2 a1 ⟨by omega, by omega⟩) (cwV 1 hts gY11_man_X9_hasMan rfl rfl rfl (by decide +kernel) ⟨by decide, by decide⟩) (rv_Valley hK hP (by decide) (by decide)) rfl hl.1 rfl (Nat.le_of_ble_eq_true rfl) dX11_man_5 (Nat.zero_le _) (Nat.zero_le _) (fun r1 u1 H1 locs1 hp1 hP hS => ?_)
  obtain ⟨σ1, τ1⟩ := u1
  obtain ⟨hR, f1, fL1, hq1, hp1_0⟩ : P_X9_hasMan σ0 τ0 2 a1 r1 σ1 τ1 := hp1
  have hP : va_P D vwCl (gw cA ad σ1 τ1) H1 := hP
  obtain rfl := FrL.nil fL1
  obtain rfl := Fr.nil f1
  refine r_if_ne (tgt := 21) hx hb dX11_man_8 (by decide) (fun c2 => ?_) (fun c2 => ?_)
  · refine lv_iload_n hx hb dX11_man_21 rfl (lv_at hl 2 rfl) ?_
    by_cases c3 : a2.toInt = 0
    · refine lv_tableIn (off := 46) (tgt := 68) hx hb dX11_man_22 (by omega) (by omega) (by rw [c3]; rfl) (by decide) ?_
      refine lv_aload_n hx hb dX11_man_68 rfl (lv_at hl 0 rfl) ?_
      refine fg_11_4 (k := 0) hx hb hts in_X11_man_11 hown hK hP (by decide) (by decide) (hts _ lk_X11_man_38) dX11_man_69 ?_
      refine fgN_2_3 (k := 7) hx hb hts in_X11_man_2 hown hK hP (by decide) (by decide) (hN.use nw_11_184) dX11_man_72 ?_
      refine lv_iload_n hx hb dX11_man_75 rfl (lv_at hl 1 rfl) ?_
      obtain ⟨j4, ej4⟩ : ∃ j : Nat, a1.toInt = (j : Int) := ⟨_, ti_nat (by omega)⟩
      refine ad_days8 (k := 308) (j := j4) hx hb hK hP (by decide) (by decide) ej4 (by omega) dX11_man_76 ?_
      refine W.widen (k := 1) (n := 6) (by omega) (by omega) ?_
      exact vx_ret (r_iret hx hb hr hK hP hS hk dX11_man_77 (show P_X11_man σ0 τ0 a1 a2 (σ0 308 j4) σ0 τ0 from ⟨hR, hF, hFL⟩))
    by_cases c5 : a2.toInt = 1
    · refine lv_tableIn (off := 56) (tgt := 78) hx hb dX11_man_22 (by omega) (by omega) (by rw [c5]; rfl) (by decide) ?_
      refine lv_aload_n hx hb dX11_man_78 rfl (lv_at hl 0 rfl) ?_
      refine fg_11_1 (k := 0) hx hb hts in_X11_man_11 hown hK hP (by decide) (by decide) (hts _ lk_X11_man_19) dX11_man_79 ?_
      refine fgN_9_10 (k := 2) hx hb hts in_X11_man_9 hown hK hP (by decide) (by decide) (hN.use nw_11_186) dX11_man_82 ?_
      refine lv_iload_n hx hb dX11_man_85 rfl (lv_at hl 1 rfl) ?_
      obtain ⟨j6, ej6⟩ : ∃ j : Nat, a1.toInt = (j : Int) := ⟨_, ti_nat (by omega)⟩
      refine ad_manA (k := 52) (j := j6) hx hb hK hP (by decide) (by decide) ej6 (by omega) dX11_man_86 ?_
      refine r_iconst hx hb dX11_man_87 (by decide) (fun z7 ez7 => ?_)
      refine ad_manR (k := 100 + j6) (j := 1) hx hb hK hP (by omega) (by omega) (by omega) (by omega) dX11_man_88 ?_
      refine W.widen (k := 1) (n := 6) (by omega) (by omega) ?_
      exact vx_ret (r_iret hx hb hr hK hP hS hk dX11_man_89 (show P_X11_man σ0 τ0 a1 a2 (σ0 (100 + j6) 1) σ0 τ0 from ⟨hR, hF, hFL⟩))
    by_cases c8 : a2.toInt = 2
    · refine lv_tableIn (off := 68) (tgt := 90) hx hb dX11_man_22 (by omega) (by omega) (by rw [c8]; rfl) (by decide) ?_
      refine lv_aload_n hx hb dX11_man_90 rfl (lv_at hl 0 rfl) ?_
      refine fg_11_4 (k := 0) hx hb hts in_X11_man_11 hown hK hP (by decide) (by decide) (hts _ lk_X11_man_38) dX11_man_91 ?_
      refine fgN_2_4 (k := 7) hx hb hts in_X11_man_2 hown hK hP (by decide) (by decide) (hN.use nw_11_189) dX11_man_94 ?_
      refine lv_iload_n hx hb dX11_man_97 rfl (lv_at hl 1 rfl) ?_
      obtain ⟨j9, ej9⟩ : ∃ j : Nat, a1.toInt = (j : Int) := ⟨_, ti_nat (by omega)⟩
      refine ad_days8 (k := 321) (j := j9) hx hb hK hP (by decide) (by decide) ej9 (by omega) dX11_man_98 ?_
      refine W.widen (k := 1) (n := 6) (by omega) (by omega) ?_
      exact vx_ret (r_iret hx hb hr hK hP hS hk dX11_man_99 (show P_X11_man σ0 τ0 a1 a2 (σ0 321 j9) σ0 τ0 from ⟨hR, hF, hFL⟩))
    by_cases c10 : a2.toInt = 3
    · refine lv_tableIn (off := 78) (tgt := 100) hx hb dX11_man_22 (by omega) (by omega) (by rw [c10]; rfl) (by decide) ?_
      refine lv_aload_n hx hb dX11_man_100 rfl (lv_at hl 0 rfl) ?_
      refine fg_11_1 (k := 0) hx hb hts in_X11_man_11 hown hK hP (by decide) (by decide) (hts _ lk_X11_man_19) dX11_man_101 ?_
      refine fgN_9_10 (k := 2) hx hb hts in_X11_man_9 hown hK hP (by decide) (by decide) (hN.use nw_11_186) dX11_man_104 ?_
      refine lv_iload_n hx hb dX11_man_107 rfl (lv_at hl 1 rfl) ?_
      obtain ⟨j11, ej11⟩ : ∃ j : Nat, a1.toInt = (j : Int) := ⟨_, ti_nat (by omega)⟩
      refine ad_manA (k := 52) (j := j11) hx hb hK hP (by decide) (by decide) ej11 (by omega) dX11_man_108 ?_
      refine r_iconst hx hb dX11_man_109 (by decide) (fun z12 ez12 => ?_)
      refine ad_manR (k := 100 + j11) (j := 3) hx hb hK hP (by omega) (by omega) (by omega) (by omega) dX11_man_110 ?_
      refine W.widen (k := 1) (n := 6) (by omega) (by omega) ?_
      exact vx_ret (r_iret hx hb hr hK hP hS hk dX11_man_111 (show P_X11_man σ0 τ0 a1 a2 (σ0 (100 + j11) 3) σ0 τ0 from ⟨hR, hF, hFL⟩))
    by_cases c13 : a2.toInt = 4
    · refine lv_tableIn (off := 90) (tgt := 112) hx hb dX11_man_22 (by omega) (by omega) (by rw [c13]; rfl) (by decide) ?_
      refine lv_aload_n hx hb dX11_man_112 rfl (lv_at hl 0 rfl) ?_
      refine fg_11_1 (k := 0) hx hb hts in_X11_man_11 hown hK hP (by decide) (by decide) (hts _ lk_X11_man_19) dX11_man_113 ?_
      refine fgN_9_10 (k := 2) hx hb hts in_X11_man_9 hown hK hP (by decide) (by decide) (hN.use nw_11_186) dX11_man_116 ?_
      refine lv_iload_n hx hb dX11_man_119 rfl (lv_at hl 1 rfl) ?_
      obtain ⟨j14, ej14⟩ : ∃ j : Nat, a1.toInt = (j : Int) := ⟨_, ti_nat (by omega)⟩
      refine ad_manA (k := 52) (j := j14) hx hb hK hP (by decide) (by decide) ej14 (by omega) dX11_man_120 ?_
      refine r_iconst hx hb dX11_man_121 (by decide) (fun z15 ez15 => ?_)
      refine ad_manR (k := 100 + j14) (j := 4) hx hb hK hP (by omega) (by omega) (by omega) (by omega) dX11_man_122 ?_
      refine W.widen (k := 1) (n := 6) (by omega) (by omega) ?_
      exact vx_ret (r_iret hx hb hr hK hP hS hk dX11_man_123 (show P_X11_man σ0 τ0 a1 a2 (σ0 (100 + j14) 4) σ0 τ0 from ⟨hR, hF, hFL⟩))
    by_cases c16 : a2.toInt = 5
    · refine lv_tableIn (off := 102) (tgt := 124) hx hb dX11_man_22 (by omega) (by omega) (by rw [c16]; rfl) (by decide) ?_
      refine lv_aload_n hx hb dX11_man_124 rfl (lv_at hl 0 rfl) ?_
      refine fg_11_4 (k := 0) hx hb hts in_X11_man_11 hown hK hP (by decide) (by decide) (hts _ lk_X11_man_38) dX11_man_125 ?_
      refine fgN_2_5 (k := 7) hx hb hts in_X11_man_2 hown hK hP (by decide) (by decide) (hN.use nw_11_192) dX11_man_128 ?_
      refine lv_iload_n hx hb dX11_man_131 rfl (lv_at hl 1 rfl) ?_
      obtain ⟨j17, ej17⟩ : ∃ j : Nat, a1.toInt = (j : Int) := ⟨_, ti_nat (by omega)⟩
      refine ad_days8 (k := 334) (j := j17) hx hb hK hP (by decide) (by decide) ej17 (by omega) dX11_man_132 ?_
      refine W.widen (k := 1) (n := 6) (by omega) (by omega) ?_
      exact vx_ret (r_iret hx hb hr hK hP hS hk dX11_man_133 (show P_X11_man σ0 τ0 a1 a2 (σ0 334 j17) σ0 τ0 from ⟨hR, hF, hFL⟩))
    by_cases c18 : a2.toInt = 6
    · refine lv_tableIn (off := 112) (tgt := 134) hx hb dX11_man_22 (by omega) (by omega) (by rw [c18]; rfl) (by decide) ?_
      refine lv_aload_n hx hb dX11_man_134 rfl (lv_at hl 0 rfl) ?_
      refine fg_11_4 (k := 0) hx hb hts in_X11_man_11 hown hK hP (by decide) (by decide) (hts _ lk_X11_man_38) dX11_man_135 ?_
      refine fgN_2_6 (k := 7) hx hb hts in_X11_man_2 hown hK hP (by decide) (by decide) (hN.use nw_11_195) dX11_man_138 ?_
      refine lv_iload_n hx hb dX11_man_141 rfl (lv_at hl 1 rfl) ?_
      obtain ⟨j19, ej19⟩ : ∃ j : Nat, a1.toInt = (j : Int) := ⟨_, ti_nat (by omega)⟩
      refine ad_days8 (k := 347) (j := j19) hx hb hK hP (by decide) (by decide) ej19 (by omega) dX11_man_142 ?_
      refine W.widen (k := 1) (n := 6) (by omega) (by omega) ?_
      exact vx_ret (r_iret hx hb hr hK hP hS hk dX11_man_143 (show P_X11_man σ0 τ0 a1 a2 (σ0 347 j19) σ0 τ0 from ⟨hR, hF, hFL⟩))
    by_cases c20 : a2.toInt = 7
    · refine lv_tableIn (off := 122) (tgt := 144) hx hb dX11_man_22 (by omega) (by omega) (by rw [c20]; rfl) (by decide) ?_
      refine lv_aload_n hx hb dX11_man_144 rfl (lv_at hl 0 rfl) ?_
      refine fg_11_1 (k := 0) hx hb hts in_X11_man_11 hown hK hP (by decide) (by decide) (hts _ lk_X11_man_19) dX11_man_145 ?_
      refine fgN_9_10 (k := 2) hx hb hts in_X11_man_9 hown hK hP (by decide) (by decide) (hN.use nw_11_186) dX11_man_148 ?_
      refine lv_iload_n hx hb dX11_man_151 rfl (lv_at hl 1 rfl) ?_
      obtain ⟨j21, ej21⟩ : ∃ j : Nat, a1.toInt = (j : Int) := ⟨_, ti_nat (by omega)⟩
      refine ad_manA (k := 52) (j := j21) hx hb hK hP (by decide) (by decide) ej21 (by omega) dX11_man_152 ?_
      refine r_iconst hx hb dX11_man_153 (by decide) (fun z22 ez22 => ?_)
      refine ad_manR (k := 100 + j21) (j := 5) hx hb hK hP (by omega) (by omega) (by omega) (by omega) dX11_man_154 ?_
      refine W.widen (k := 1) (n := 6) (by omega) (by omega) ?_
      exact vx_ret (r_iret hx hb hr hK hP hS hk dX11_man_155 (show P_X11_man σ0 τ0 a1 a2 (σ0 (100 + j21) 5) σ0 τ0 from ⟨hR, hF, hFL⟩))
    refine lv_tableOut (tgt := 156) hx hb dX11_man_22 (by omega) (by decide) ?_
    exact r_thrS hx hb hl0 hown (hts _ lk_X11_man_177) (hts _ lk_X11_man_17700) hN.2.2.2.2.2.2.1 (hat11 hts (fun _ h => List.mem_cons_of_mem _ (List.mem_append_right _ h)) hV.2.1) hV hS (by rw [hml]; exact hl.1) dX11_man_156 dX11_man_159 dX11_man_160 dX11_man_162 dX11_man_165 hnoex (Nat.le_of_ble_eq_true rfl) (Nat.le_of_ble_eq_true rfl) (Nat.le_of_ble_eq_true rfl) (Nat.le_of_ble_eq_true rfl) hk hR hF hFL hP hK
  · exact r_thrS hx hb hl0 hown (hts _ lk_X11_man_177) (hts _ lk_X11_man_17700) hN.2.2.2.2.2.1 (hat11 hts (fun _ h => List.mem_cons_of_mem _ (List.mem_append_right _ h)) hV.2.1) hV hS (by rw [hml]; exact hl.1) dX11_man_11 dX11_man_14 dX11_man_15 dX11_man_17 dX11_man_20 hnoex (Nat.le_of_ble_eq_true rfl) (Nat.le_of_ble_eq_true rfl) (Nat.le_of_ble_eq_true rfl) (Nat.le_of_ble_eq_true rfl) hk hR hF hFL hP hK
theorem in_X11_mean_11 : ∀ w ∈ u_ws RX11 TX11 19, w ∈ wsY11_mean := by decide +kernel
theorem in_X11_mean_9 : ∀ w ∈ u_ws RX9 TX9 14, w ∈ wsY11_mean := by decide +kernel
theorem lk_X11_mean_177 : Cond.classLink RX11 177 "java/util/NoSuchElementException" ∈ wsY11_mean := by decide +kernel
theorem lk_X11_mean_17700 : Cond.initialized "java/util/NoSuchElementException" ∈ wsY11_mean := by decide +kernel
theorem lk_X11_mean_19 : Cond.fieldLink RX11 19 "CuckooShares" "valley" "LCuckooShares$Valley;" ∈ wsY11_mean := by decide +kernel
theorem lk_X11_mean_38 : Cond.fieldLink RX11 38 "CuckooShares" "days" "LCuckooShares$Days;" ∈ wsY11_mean := by decide +kernel
theorem lk_X11_mean_60 : Cond.fieldLink RX11 60 "CuckooShares" "camp" "LCuckooShares$Camp;" ∈ wsY11_mean := by decide +kernel
abbrev L_X11_mean : List Rc := [(360, 360, 0, 7), (361, 361, 0, 7), (362, 362, 0, 7), (363, 363, 0, 39), (365, 365, 0, 1), (366, 366, 0, 1), (367, 367, 0, 1)]
abbrev LL_X11_mean : List Rc := []
def P_X11_mean (σ0 : Nat → Nat → Int32) (τ0 : Nat → Nat → Int64) (a1 : Int32) (a2 : Int32) (r : Int32) (σ : Nat → Nat → Int32) (τ : Nat → Nat → Int64) : Prop := Rg σ ∧ Fr L_X11_mean σ0 σ ∧ FrL LL_X11_mean τ0 τ
set_option maxHeartbeats 4000000 in
theorem c_X11_mean (l : Launch) (hl0 : l.stackTraces = false) (D : va_G) (cA : Nat → ClassId) (ad : Nat → Nat) (hI : Inj ad) (σ0 : Nat → Nat → Int32) (τ0 : Nat → Nat → Int64) (hR : Rg σ0) (a1 : Int32) (a2 : Int32)  : vx_Met l yX11_mean wsY11_mean ({ frames := 6, cells := 1, slots := 6, locals := 138 } : Room) (WQx D cA ad [.ref (ad 0), .int a1, .int a2] σ0 τ0) (va_Qi (fun (r : Int32) (u : SS) => P_X11_mean σ0 τ0 a1 a2 r u.1 u.2) (WB D cA ad) (AA ad)) (XX D cA ad L_X11_mean LL_X11_mean σ0 τ0) 1 6 (AA ad) := by
  refine vx_ofW (cc := cX11_mean) (maxL := 6) (ret := (some .int)) (by decide) rfl ?_
  intro p e s m args below meth c s₁ B hml hnoex hv
  obtain ⟨rfl, hP, hK, hV⟩ := hv
  have hN := hV.1
  have C : Cy p s m _ meth c cX11_mean 6 wsY11_mean RX11 D cA ad (some .int) := ⟨B.exec, B.bytes, hml, findClass_of_methodNamed B.named, atoms_spec (ws := wsY11_mean) B.pre, hK, B.notSynchronized, B.returns, hI, hN⟩
  have hl := lv_entry ([.ref (ad 0), .int a1, .int a2]) (n := 6) (Nat.le_of_ble_eq_true rfl)
  rw [lg_entry_eq]
  generalize (lg_sl ([.ref (ad 0), .int a1, .int a2]) ++ List.replicate (6 - (lg_sl ([.ref (ad 0), .int a1, .int a2])).length) Slot.unset).toArray = ls at hl ⊢
  have hl : lv_has ls 6 [(0, .ref (ad 0)), (1, .int a1), (2, .int a2)] := hl
  have hS : va_S (AA ad) s.heap s.heap [] := va_S.rf
  have hF : Fr L_X11_mean σ0 σ0 := Fr.rf
  have hFL : FrL LL_X11_mean τ0 τ0 := FrL.rf
  obtain ⟨hx, hb, _, hown, hts, _, hk, hr, _, _⟩ := C
  refine lv_aload_n hx hb dX11_mean_0 rfl (lv_at hl 0 rfl) ?_
  refine fg_11_1 (k := 0) hx hb hts in_X11_mean_11 hown hK hP (by decide) (by decide) (hts _ lk_X11_mean_19) dX11_mean_1 ?_
  refine lv_iload_n hx hb dX11_mean_4 rfl (lv_at hl 1 rfl) ?_
  refine r_cVi (k := 2) (As := [.int a1]) (rest := []) ⟨hx, hb, hml, hown, hts⟩ hK hP hN hS (c_X9_hasMan l D cA ad hI σ0 τ0 hR 2 a1 ⟨by omega, by omega⟩) (cwV 1 hts gY11_mean_X9_hasMan rfl rfl rfl (by decide +kernel) ⟨by decide, by decide⟩) (rv_Valley hK hP (by decide) (by decide)) rfl hl.1 rfl (Nat.le_of_ble_eq_true rfl) dX11_mean_5 (Nat.zero_le _) (Nat.zero_le _) (fun r1 u1 H1 locs1 hp1 hP hS => ?_)
  obtain ⟨σ1, τ1⟩ := u1
  obtain ⟨hR, f1, fL1, hq1, hp1_0⟩ : P_X9_hasMan σ0 τ0 2 a1 r1 σ1 τ1 := hp1
  have hP : va_P D vwCl (gw cA ad σ1 τ1) H1 := hP
  obtain rfl := FrL.nil fL1
  obtain rfl := Fr.nil f1
  refine r_if_eq (tgt := 30) hx hb dX11_mean_8 (by decide) (fun c2 => ?_) (fun c2 => ?_)
  · exact r_thrW hx hb hl0 hown (hts _ lk_X11_mean_177) (hts _ lk_X11_mean_17700) hN.2.2.2.2.2.2.2.1 (hat11 hts (fun _ h => List.mem_cons_of_mem _ (List.mem_append_right _ h)) hV.2.1) hV hS (by rw [hml]; exact hl.1) dX11_mean_30 dX11_mean_33 dX11_mean_34 dX11_mean_37 dX11_mean_40 hnoex (Nat.le_of_ble_eq_true rfl) (Nat.le_of_ble_eq_true rfl) (Nat.le_of_ble_eq_true rfl) (Nat.le_of_ble_eq_true rfl) hk hR hF hFL hP hK
  · refine lv_aload_n hx hb dX11_mean_11 rfl (lv_at hl 0 rfl) ?_
    refine fg_11_1 (k := 0) hx hb hts in_X11_mean_11 hown hK hP (by decide) (by decide) (hts _ lk_X11_mean_19) dX11_mean_12 ?_
    refine fgN_9_6 (k := 2) hx hb hts in_X11_mean_9 hown hK hP (by decide) (by decide) (hN.use nw_11_238) dX11_mean_15 ?_
    have hr3 := rg_9_6 hR (k := 2) (by decide) (by decide)
    refine r_if_eq (tgt := 30) hx hb dX11_mean_18 (by decide) (fun c4 => ?_) (fun c4 => ?_)
    · exact r_thrW hx hb hl0 hown (hts _ lk_X11_mean_177) (hts _ lk_X11_mean_17700) hN.2.2.2.2.2.2.2.1 (hat11 hts (fun _ h => List.mem_cons_of_mem _ (List.mem_append_right _ h)) hV.2.1) hV hS (by rw [hml]; exact hl.1) dX11_mean_30 dX11_mean_33 dX11_mean_34 dX11_mean_37 dX11_mean_40 hnoex (Nat.le_of_ble_eq_true rfl) (Nat.le_of_ble_eq_true rfl) (Nat.le_of_ble_eq_true rfl) (Nat.le_of_ble_eq_true rfl) hk hR hF hFL hP hK
    · refine lv_iload_n hx hb dX11_mean_21 rfl (lv_at hl 2 rfl) ?_
      refine r_if_lt (tgt := 30) hx hb dX11_mean_22 (by decide) (fun c5 => ?_) (fun c5 => ?_)
      · exact r_thrW hx hb hl0 hown (hts _ lk_X11_mean_177) (hts _ lk_X11_mean_17700) hN.2.2.2.2.2.2.2.1 (hat11 hts (fun _ h => List.mem_cons_of_mem _ (List.mem_append_right _ h)) hV.2.1) hV hS (by rw [hml]; exact hl.1) dX11_mean_30 dX11_mean_33 dX11_mean_34 dX11_mean_37 dX11_mean_40 hnoex (Nat.le_of_ble_eq_true rfl) (Nat.le_of_ble_eq_true rfl) (Nat.le_of_ble_eq_true rfl) (Nat.le_of_ble_eq_true rfl) hk hR hF hFL hP hK
      · refine lv_iload_n hx hb dX11_mean_25 rfl (lv_at hl 2 rfl) ?_
        refine r_iconst hx hb dX11_mean_26 (by decide) (fun z6 ez6 => ?_)
        refine r_icmp_le (tgt := 41) hx hb dX11_mean_27 (by decide) (fun c7 => ?_) (fun c7 => ?_)
        · refine lv_aload_n hx hb dX11_mean_41 rfl (lv_at hl 0 rfl) ?_
          refine fg_11_8 (k := 0) hx hb hts in_X11_mean_11 hown hK hP (by decide) (by decide) (hts _ lk_X11_mean_60) dX11_mean_42 ?_
          refine lv_aload_n hx hb dX11_mean_45 rfl (lv_at hl 0 rfl) ?_
          refine fg_11_4 (k := 0) hx hb hts in_X11_mean_11 hown hK hP (by decide) (by decide) (hts _ lk_X11_mean_38) dX11_mean_46 ?_
          refine r_cVv (k := 21) (As := [.ref (ad 7)]) (rest := []) ⟨hx, hb, hml, hown, hts⟩ hK hP hN hS (c_X1_pitch l D cA ad hI σ0 τ0 hR 7 ⟨by omega, by omega⟩) (cwV 1 hts gY11_mean_X1_pitch rfl rfl rfl (by decide +kernel) ⟨by decide, by decide⟩) (rv_Camp hK hP (by decide) (by decide)) rfl hl.1 rfl (Nat.le_of_ble_eq_true rfl) dX11_mean_49 (Nat.zero_le _) (Nat.zero_le _) (fun u8 H8 locs8 hp8 hP hS => ?_)
          obtain ⟨σ8, τ8⟩ := u8
          obtain ⟨hR, f8, fL8⟩ : P_X1_pitch σ0 τ0 7 σ8 τ8 := hp8
          have hP : va_P D vwCl (gw cA ad σ8 τ8) H8 := hP
          obtain rfl := FrL.nil fL8
          have hF := hF.step f8 (by decide)
          refine lv_aload_n hx hb dX11_mean_52 rfl (lv_at hl 0 rfl) ?_
          refine fg_11_8 (k := 0) hx hb hts in_X11_mean_11 hown hK hP (by decide) (by decide) (hts _ lk_X11_mean_60) dX11_mean_53 ?_
          refine r_cVv (k := 21) (As := []) (rest := []) ⟨hx, hb, hml, hown, hts⟩ hK hP hN hS (c_X1_listenToAll l D cA ad hI σ8 τ0 hR) (cwV 0 hts gY11_mean_X1_listenToAll rfl rfl rfl (by decide +kernel) ⟨by decide, by decide⟩) (rv_Camp hK hP (by decide) (by decide)) rfl hl.1 rfl (Nat.le_of_ble_eq_true rfl) dX11_mean_56 (Nat.zero_le _) (Nat.zero_le _) (fun u9 H9 locs9 hp9 hP hS => ?_)
          obtain ⟨σ9, τ9⟩ := u9
          obtain ⟨hR, f9, fL9⟩ : P_X1_listenToAll σ8 τ0 σ9 τ9 := hp9
          have hP : va_P D vwCl (gw cA ad σ9 τ9) H9 := hP
          obtain rfl := FrL.nil fL9
          have hF := hF.step f9 (by decide)
          refine lv_aload_n hx hb dX11_mean_59 rfl (lv_at hl 0 rfl) ?_
          refine fg_11_8 (k := 0) hx hb hts in_X11_mean_11 hown hK hP (by decide) (by decide) (hts _ lk_X11_mean_60) dX11_mean_60 ?_
          refine lv_iload_n hx hb dX11_mean_63 rfl (lv_at hl 1 rfl) ?_
          refine r_cVi (k := 21) (As := [.int a1]) (rest := []) ⟨hx, hb, hml, hown, hts⟩ hK hP hN hS (c_X1_weighedShare l D cA ad hI σ9 τ0 hR a1 (by omega)) (cwV 1 hts gY11_mean_X1_weighedShare rfl rfl rfl (by decide +kernel) ⟨by decide, by decide⟩) (rv_Camp hK hP (by decide) (by decide)) rfl hl.1 rfl (Nat.le_of_ble_eq_true rfl) dX11_mean_64 (Nat.zero_le _) (Nat.zero_le _) (fun r10 u10 H10 locs10 hp10 hP hS => ?_)
          obtain ⟨σ10, τ10⟩ := u10
          obtain ⟨hR, f10, fL10⟩ : P_X1_weighedShare σ9 τ0 a1 r10 σ10 τ10 := hp10
          have hP : va_P D vwCl (gw cA ad σ10 τ10) H10 := hP
          obtain rfl := FrL.nil fL10
          have hF := hF.step f10 (by decide)
          refine lv_istore_n (lv' := [(3, .int r10), (0, .ref (ad 0)), (1, .int a1), (2, .int a2)]) hx hb dX11_mean_67 rfl hl (by decide) rfl (fun ls hl => ?_)
          refine lv_aload_n hx hb dX11_mean_68 rfl (lv_at hl 1 rfl) ?_
          refine fg_11_1 (k := 0) hx hb hts in_X11_mean_11 hown hK hP (by decide) (by decide) (hts _ lk_X11_mean_19) dX11_mean_69 ?_
          refine r_cVi (k := 2) (As := []) (rest := []) ⟨hx, hb, hml, hown, hts⟩ hK hP hN hS (c_X9_chances l D cA ad hI σ10 τ0 hR) (cwV 0 hts gY11_mean_X9_chances rfl rfl rfl (by decide +kernel) ⟨by decide, by decide⟩) (rv_Valley hK hP (by decide) (by decide)) rfl hl.1 rfl (Nat.le_of_ble_eq_true rfl) dX11_mean_72 (Nat.zero_le _) (Nat.zero_le _) (fun r11 u11 H11 locs11 hp11 hP hS => ?_)
          obtain ⟨σ11, τ11⟩ := u11
          obtain ⟨hR, f11, fL11⟩ : P_X9_chances σ10 τ0 r11 σ11 τ11 := hp11
          have hP : va_P D vwCl (gw cA ad σ11 τ11) H11 := hP
          obtain rfl := FrL.nil fL11
          obtain rfl := Fr.nil f11
          refine lv_istore (lv' := [(4, .int r11), (3, .int r10), (0, .ref (ad 0)), (1, .int a1), (2, .int a2)]) hx hb dX11_mean_75 hl (by decide) rfl (fun ls hl => ?_)
          refine lv_iload_n hx hb dX11_mean_77 rfl (lv_at hl 1 rfl) ?_
          refine lv_iload hx hb dX11_mean_78 (lv_at hl 0 rfl) ?_
          refine r_cSi (As := [.int r10, .int r11]) (rest := []) ⟨hx, hb, hml, hown, hts⟩ hK hP hN hS (c_X11_greatestCommon_w l D cA ad hI σ10 τ0 hR r10 r11) (va_cwS 2 hts gY11_mean_X11_greatestCommon rfl rfl rfl (by decide +kernel) ⟨by decide, by decide⟩) rfl hl.1 rfl (Nat.le_of_ble_eq_true rfl) dX11_mean_80 (Nat.zero_le _) (Nat.zero_le _) (fun r12 u12 H12 locs12 hp12 hP hS => ?_)
          obtain ⟨σ12, τ12⟩ := u12
          obtain ⟨hR, f12, fL12, hq12⟩ : P_X11_greatestCommon_w σ10 τ0 r10 r11 r12 σ12 τ12 := hp12
          have hP : va_P D vwCl (gw cA ad σ12 τ12) H12 := hP
          obtain rfl := FrL.nil fL12
          obtain rfl := Fr.nil f12
          refine lv_istore (lv' := [(5, .int r12), (4, .int r11), (3, .int r10), (0, .ref (ad 0)), (1, .int a1), (2, .int a2)]) hx hb dX11_mean_83 hl (by decide) rfl (fun ls hl => ?_)
          refine lv_iload_n hx hb dX11_mean_85 rfl (lv_at hl 5 rfl) ?_
          refine r_if_ne (tgt := 93) hx hb dX11_mean_86 (by decide) (fun c13 => ?_) (fun c13 => ?_)
          · refine lv_iload hx hb dX11_mean_93 (lv_at hl 1 rfl) ?_
            refine lv_iload hx hb dX11_mean_95 (lv_at hl 0 rfl) ?_
            refine r_idiv hx hb dX11_mean_97 (by omega) (fun z14 => ?_)
            refine W.widen (k := 1) (n := 6) (by omega) (by omega) ?_
            exact vx_ret (r_iret hx hb hr hK hP hS hk dX11_mean_98 (show P_X11_mean σ0 τ0 a1 a2 z14 σ10 τ0 from ⟨hR, hF, hFL⟩))
          · refine lv_iload_n hx hb dX11_mean_89 rfl (lv_at hl 2 rfl) ?_
            refine lv_goto (tgt := 95) hx hb dX11_mean_90 (by decide) ?_
            refine lv_iload hx hb dX11_mean_95 (lv_at hl 0 rfl) ?_
            refine r_idiv hx hb dX11_mean_97 (by omega) (fun z15 => ?_)
            refine W.widen (k := 1) (n := 6) (by omega) (by omega) ?_
            exact vx_ret (r_iret hx hb hr hK hP hS hk dX11_mean_98 (show P_X11_mean σ0 τ0 a1 a2 z15 σ10 τ0 from ⟨hR, hF, hFL⟩))
        · exact r_thrW hx hb hl0 hown (hts _ lk_X11_mean_177) (hts _ lk_X11_mean_17700) hN.2.2.2.2.2.2.2.1 (hat11 hts (fun _ h => List.mem_cons_of_mem _ (List.mem_append_right _ h)) hV.2.1) hV hS (by rw [hml]; exact hl.1) dX11_mean_30 dX11_mean_33 dX11_mean_34 dX11_mean_37 dX11_mean_40 hnoex (Nat.le_of_ble_eq_true rfl) (Nat.le_of_ble_eq_true rfl) (Nat.le_of_ble_eq_true rfl) (Nat.le_of_ble_eq_true rfl) hk hR hF hFL hP hK
theorem in_X11_better_11 : ∀ w ∈ u_ws RX11 TX11 19, w ∈ wsY11_better := by decide +kernel
theorem lk_X11_better_108 : Cond.fieldLink RX11 108 "CuckooShares" "bestMean" "[I" ∈ wsY11_better := by decide +kernel
theorem lk_X11_better_177 : Cond.classLink RX11 177 "java/util/NoSuchElementException" ∈ wsY11_better := by decide +kernel
theorem lk_X11_better_17700 : Cond.initialized "java/util/NoSuchElementException" ∈ wsY11_better := by decide +kernel
abbrev L_X11_better : List Rc := []
abbrev LL_X11_better : List Rc := []
def P_X11_better (σ0 : Nat → Nat → Int32) (τ0 : Nat → Nat → Int64) (a1 : Int32) (r : Int32) (σ : Nat → Nat → Int32) (τ : Nat → Nat → Int64) : Prop := Rg σ ∧ Fr L_X11_better σ0 σ ∧ FrL LL_X11_better τ0 τ
set_option maxHeartbeats 4000000 in
theorem c_X11_better (l : Launch) (hl0 : l.stackTraces = false) (D : va_G) (cA : Nat → ClassId) (ad : Nat → Nat) (hI : Inj ad) (σ0 : Nat → Nat → Int32) (τ0 : Nat → Nat → Int64) (hR : Rg σ0) (a1 : Int32)  : vx_Met l yX11_better wsY11_better ({ frames := 6, cells := 1, slots := 6, locals := 82 } : Room) (WQx D cA ad [.ref (ad 0), .int a1] σ0 τ0) (va_Qi (fun (r : Int32) (u : SS) => P_X11_better σ0 τ0 a1 r u.1 u.2) (WB D cA ad) (AA ad)) (XX D cA ad L_X11_better LL_X11_better σ0 τ0) 1 6 (AA ad) := by
  refine vx_ofW (cc := cX11_better) (maxL := 2) (ret := (some .int)) (by decide) rfl ?_
  intro p e s m args below meth c s₁ B hml hnoex hv
  obtain ⟨rfl, hP, hK, hV⟩ := hv
  have hN := hV.1
  have C : Cy p s m _ meth c cX11_better 2 wsY11_better RX11 D cA ad (some .int) := ⟨B.exec, B.bytes, hml, findClass_of_methodNamed B.named, atoms_spec (ws := wsY11_better) B.pre, hK, B.notSynchronized, B.returns, hI, hN⟩
  have hl := lv_entry ([.ref (ad 0), .int a1]) (n := 2) (Nat.le_of_ble_eq_true rfl)
  rw [lg_entry_eq]
  generalize (lg_sl ([.ref (ad 0), .int a1]) ++ List.replicate (2 - (lg_sl ([.ref (ad 0), .int a1])).length) Slot.unset).toArray = ls at hl ⊢
  have hl : lv_has ls 2 [(0, .ref (ad 0)), (1, .int a1)] := hl
  have hS : va_S (AA ad) s.heap s.heap [] := va_S.rf
  have hF : Fr L_X11_better σ0 σ0 := Fr.rf
  have hFL : FrL LL_X11_better τ0 τ0 := FrL.rf
  obtain ⟨hx, hb, _, hown, hts, _, hk, hr, _, _⟩ := C
  refine lv_aload_n hx hb dX11_better_0 rfl (lv_at hl 0 rfl) ?_
  refine fg_11_15 (k := 0) hx hb hts in_X11_better_11 hown hK hP (by decide) (by decide) (hts _ lk_X11_better_108) dX11_better_1 ?_
  refine r_iconst hx hb dX11_better_4 (by decide) (fun z1 ez1 => ?_)
  refine ad_best (k := 33) (j := 1) hx hb hK hP (by decide) (by decide) (by omega) (by omega) dX11_better_5 ?_
  refine r_if_eq (tgt := 18) hx hb dX11_better_6 (by decide) (fun c2 => ?_) (fun c2 => ?_)
  · exact r_thrW hx hb hl0 hown (hts _ lk_X11_better_177) (hts _ lk_X11_better_17700) hN.2.2.2.2.2.2.2.2 (hat11 hts (fun _ h => List.mem_cons_of_mem _ (List.mem_append_right _ h)) hV.2.1) hV hS (by rw [hml]; exact hl.1) dX11_better_18 dX11_better_21 dX11_better_22 dX11_better_25 dX11_better_28 hnoex (Nat.le_of_ble_eq_true rfl) (Nat.le_of_ble_eq_true rfl) (Nat.le_of_ble_eq_true rfl) (Nat.le_of_ble_eq_true rfl) hk hR hF hFL hP hK
  · refine lv_iload_n hx hb dX11_better_9 rfl (lv_at hl 1 rfl) ?_
    refine r_if_lt (tgt := 18) hx hb dX11_better_10 (by decide) (fun c3 => ?_) (fun c3 => ?_)
    · exact r_thrW hx hb hl0 hown (hts _ lk_X11_better_177) (hts _ lk_X11_better_17700) hN.2.2.2.2.2.2.2.2 (hat11 hts (fun _ h => List.mem_cons_of_mem _ (List.mem_append_right _ h)) hV.2.1) hV hS (by rw [hml]; exact hl.1) dX11_better_18 dX11_better_21 dX11_better_22 dX11_better_25 dX11_better_28 hnoex (Nat.le_of_ble_eq_true rfl) (Nat.le_of_ble_eq_true rfl) (Nat.le_of_ble_eq_true rfl) (Nat.le_of_ble_eq_true rfl) hk hR hF hFL hP hK
    · refine lv_iload_n hx hb dX11_better_13 rfl (lv_at hl 1 rfl) ?_
      refine r_iconst hx hb dX11_better_14 (by decide) (fun z4 ez4 => ?_)
      refine r_icmp_le (tgt := 29) hx hb dX11_better_15 (by decide) (fun c5 => ?_) (fun c5 => ?_)
      · refine lv_aload_n hx hb dX11_better_29 rfl (lv_at hl 0 rfl) ?_
        refine fg_11_15 (k := 0) hx hb hts in_X11_better_11 hown hK hP (by decide) (by decide) (hts _ lk_X11_better_108) dX11_better_30 ?_
        refine lv_iload_n hx hb dX11_better_33 rfl (lv_at hl 1 rfl) ?_
        obtain ⟨j6, ej6⟩ : ∃ j : Nat, a1.toInt = (j : Int) := ⟨_, ti_nat (by omega)⟩
        refine ad_best (k := 33) (j := j6) hx hb hK hP (by decide) (by decide) ej6 (by omega) dX11_better_34 ?_
        refine W.widen (k := 1) (n := 6) (by omega) (by omega) ?_
        exact vx_ret (r_iret hx hb hr hK hP hS hk dX11_better_35 (show P_X11_better σ0 τ0 a1 (σ0 33 j6) σ0 τ0 from ⟨hR, hF, hFL⟩))
      · exact r_thrW hx hb hl0 hown (hts _ lk_X11_better_177) (hts _ lk_X11_better_17700) hN.2.2.2.2.2.2.2.2 (hat11 hts (fun _ h => List.mem_cons_of_mem _ (List.mem_append_right _ h)) hV.2.1) hV hS (by rw [hml]; exact hl.1) dX11_better_18 dX11_better_21 dX11_better_22 dX11_better_25 dX11_better_28 hnoex (Nat.le_of_ble_eq_true rfl) (Nat.le_of_ble_eq_true rfl) (Nat.le_of_ble_eq_true rfl) (Nat.le_of_ble_eq_true rfl) hk hR hF hFL hP hK
