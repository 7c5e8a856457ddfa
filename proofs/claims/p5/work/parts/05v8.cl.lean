abbrev L_X7_readAll_d1 : List Rc := [(1, 1, 7, 10), (372, 372, 0, 39), (376, 376, 0, 39), (380, 380, 0, 39), (24, 24, 1, 2), (1, 1, 12, 14)]
abbrev LL_X7_readAll_d1 : List Rc := [(1, 1, 11, 11)]
def P_X7_readAll_d1 (σ0 : Nat → Nat → Int32) (τ0 : Nat → Nat → Int64) (a1 : Int32) (b : Nat → Int) (N : Nat) (mo : Nat) (q : Nat) (nn : Nat) (nm : Nat → Int) (hc : Nat) (r : Int32) (σ : Nat → Nat → Int32) (τ : Nat → Nat → Int64) : Prop := Rg σ ∧ Fr L_X7_readAll_d1 σ0 σ ∧ FrL LL_X7_readAll_d1 τ0 τ ∧ (0 ≤ r.toInt ∧ r.toInt ≤ 1) ∧ (RO r σ (allP b N mo (fun q nn => oneP b N mo nm hc 8 q nn) q nn) (fun s => CT σ τ b N mo s.1 ∧ (σ 24 1).toInt = (s.2 : Int) ∧ (σ 24 2).toInt + 2 * (nn : Int) + 1 ≤ (σ0 24 2).toInt + 2 * (s.2 : Int))) ∧ (r.toInt = 0 ∨ (σ 1 13).toInt = (σ0 1 13).toInt) ∧ WH σ τ nm hc
def J_X7_readAll_d1_12 (p : Program) (l : Launch) (e : Env) (s : State) (m : MethodId) (args : Array Value) (below : List Frame) (meth : Method) (c : Code) (D : va_G) (cA : Nat → ClassId) (ad : Nat → Nat) (σ0 : Nat → Nat → Int32) (τ0 : Nat → Nat → Int64) (a1 : Int32) (b : Nat → Int) (N : Nat) (mo : Nat) (q : Nat) (nn : Nat) (nm : Nat → Int) (hc : Nat) (n : Nat) : Prop := ∀ (σ : Nat → Nat → Int32) (τ : Nat → Nat → Int64) (H : Heap) (locs : List Loc) (x2 : Int32) (fu : Nat) (q1 : Nat) (n1 : Nat) (ls : Array Slot), Rg σ → Fr L_X7_readAll_d1 σ0 σ → FrL LL_X7_readAll_d1 τ0 τ → va_P D vwCl (gw cA ad σ τ) H → va_S (AA ad) s.heap H locs → (0 ≤ x2.toInt ∧ x2.toInt ≤ 200) → (0 ≤ (σ 24 1).toInt ∧ (σ 24 1).toInt ≤ 20) → (0 ≤ (σ 24 2).toInt ∧ (σ 24 2).toInt ≤ 40) → (allP b N mo (fun q nn => oneP b N mo nm hc 8 q nn) q nn = lopP b N mo 21 (fun q nn => oneP b N mo nm hc 8 q nn) fu q1 n1) → ((σ 24 1).toInt = (n1 : Int)) → (0 ≤ (σ 24 2).toInt ∧ (σ 24 2).toInt + 2 * (nn : Int) + 1 ≤ (σ0 24 2).toInt + 2 * (n1 : Int)) → ((fu : Int) + x2.toInt = 200) → (n1 ≤ 20) → ((σ 1 13).toInt = (σ0 1 13).toInt) → (CT σ τ b N mo q1) → (WH σ τ nm hc) → (CT σ τ b N mo q1) → lv_has ls 3 [(0, .ref (ad 27)), (1, .int a1), (2, .int x2)] → 2 * (200 - x2.toInt) + 1 < (n : Int) → W p l e ({ frames := 26, cells := 0, slots := 0, locals := 571 } : Room) s m args below meth c H locs 0 0 (MQ below (va_Qi (fun (r : Int32) (u : SS) => P_X7_readAll_d1 σ0 τ0 a1 b N mo q nn nm hc r u.1 u.2) (WB D cA ad) (AA ad)) args s 0 0 (AA ad)) (F0 m 12 ls [])
set_option maxHeartbeats 4000000 in
theorem B_X7_readAll_d1_12 (p : Program) (l : Launch) (e : Env) (s : State) (m : MethodId) (args : Array Value) (below : List Frame) (meth : Method) (c : Code) (D : va_G) (cA : Nat → ClassId) (ad : Nat → Nat) (σ0 : Nat → Nat → Int32) (τ0 : Nat → Nat → Int64) (a1 : Int32) (b : Nat → Int) (N : Nat) (mo : Nat) (q : Nat) (nn : Nat) (nm : Nat → Int) (hc : Nat) (n : Nat) (C : Cy p s m args meth c cX7_readAll 3 wsX7_readAll RX7 D cA ad (some .boolean)) (ha1 : 1 ≤ a1.toInt ∧ a1.toInt ≤ 1) (hpre0 : (σ0 24 1).toInt = (nn : Int)) (hpre1 : 0 ≤ (σ0 24 2).toInt ∧ (σ0 24 2).toInt ≤ 2 * (nn : Int)) (hpre2 : nn ≤ 20) (gCT0 : CT σ0 τ0 b N mo q) (gWH0 : WH σ0 τ0 nm hc) (K12 : J_X7_readAll_d1_12 p l e s m args below meth c D cA ad σ0 τ0 a1 b N mo q nn nm hc n) : J_X7_readAll_d1_12 p l e s m args below meth c D cA ad σ0 τ0 a1 b N mo q nn nm hc (n + 1) := by
  obtain ⟨hx, hb, hml, hown, hts, hK, hk, hr, hI, hN⟩ := C
  intro σ τ H locs x2 fu q1 n1 ls hR hF hFL hP hS hc0 hc1 hc2 iv ib2 ib3 ifu in20 ik13 gCT gWH gCT hl hm
  refine lv_iload_n hx hb dX7_readAll_12 rfl (lv_at hl 2 rfl) ?_
  refine r_sipush hx hb dX7_readAll_13 (by decide) (fun z1 ez1 => ?_)
  refine r_icmp_ge (tgt := 68) hx hb dX7_readAll_16 (by decide) (fun c2 => ?_) (fun c2 => ?_)
  · refine r_iconst hx hb dX7_readAll_68 (by decide) (fun z3 ez3 => ?_)
    exact r_zret hx hb hr hK hP hS hk (by omega) dX7_readAll_69 (show P_X7_readAll_d1 σ0 τ0 a1 b N mo q nn nm hc z3 σ τ from ⟨hR, hF, hFL, by omega, by first | (exfalso; omega) | (obtain ⟨f, e1, x1, x2⟩ := o1.no (by omega); exact RO.ofl (all_f e1) (by omega) x1 x2) | exact RO.ofr (by rw [iv, lop_e (by omega)]) (by omega) ⟨gCT, by omega, by omega⟩ | (obtain ⟨f, e2, x1, x2⟩ := o2.no (by omega); exact RO.ofl (by rw [iv, lop_f (f := (fun q nn => oneP b N mo nm hc 8 q nn)) (by omega) (by omega) e2]) (by omega) x1 x2) | (exfalso; omega), by omega, gWH⟩)
  · have htk := gCT.tk
    refine lv_aload_n hx hb dX7_readAll_19 rfl (lv_at hl 0 rfl) ?_
    refine fg_7_0 (k := 27) hx hb hts in_X7_readAll_7 hown hK hP (by decide) (by decide) (hts _ lk_X7_readAll_9) dX7_readAll_20 ?_
    refine fgN_8_9 (k := 1) hx hb hts in_X7_readAll_8 hown hK hP (by decide) (by decide) (hN.use nw_7_32) dX7_readAll_23 ?_
    refine r_bipush hx hb dX7_readAll_26 (by decide) (fun z4 ez4 => ?_)
    refine r_icmp_ne (tgt := 68) hx hb dX7_readAll_28 (by decide) (fun c5 => ?_) (fun c5 => ?_)
    · refine r_iconst hx hb dX7_readAll_68 (by decide) (fun z6 ez6 => ?_)
      exact r_zret hx hb hr hK hP hS hk (by omega) dX7_readAll_69 (show P_X7_readAll_d1 σ0 τ0 a1 b N mo q nn nm hc z6 σ τ from ⟨hR, hF, hFL, by omega, by first | (exfalso; omega) | (obtain ⟨f, e1, x1, x2⟩ := o1.no (by omega); exact RO.ofl (all_f e1) (by omega) x1 x2) | exact RO.ofr (by rw [iv, lop_e (by omega)]) (by omega) ⟨gCT, by omega, by omega⟩ | (obtain ⟨f, e2, x1, x2⟩ := o2.no (by omega); exact RO.ofl (by rw [iv, lop_f (f := (fun q nn => oneP b N mo nm hc 8 q nn)) (by omega) (by omega) e2]) (by omega) x1 x2) | (exfalso; omega), by omega, gWH⟩)
    · refine lv_aload_n hx hb dX7_readAll_31 rfl (lv_at hl 0 rfl) ?_
      refine fg_7_0 (k := 27) hx hb hts in_X7_readAll_7 hown hK hP (by decide) (by decide) (hts _ lk_X7_readAll_9) dX7_readAll_32 ?_
      refine r_cVv (k := 1) (As := []) (rest := []) ⟨hx, hb, hml, hown, hts⟩ hK hP hN hS (c_X8_next_v l D cA ad hI σ τ hR _ _ _ _ gCT) (cwV 0 hts gX7_readAll_X8_next rfl rfl rfl (by decide +kernel) ⟨by decide, by decide⟩) (rv_Tape hK hP (by decide) (by decide)) rfl hl.1 rfl (Nat.le_of_ble_eq_true rfl) dX7_readAll_35 (Nat.zero_le _) (Nat.zero_le _) (fun u7 H7 locs7 hp7 hP hS => ?_)
      obtain ⟨σ7, τ7⟩ := u7
      obtain ⟨hR, f7, fL7, hp7_0⟩ : P_X8_next_v σ τ _ _ _ _ σ7 τ7 := hp7
      have hP : va_P D vwCl (gw cA ad σ7 τ7) H7 := hP
      have hFL := hFL.step fL7 (by decide)
      have gWH := gWH.agL (AgrL.fr fL7 (by decide))
      have hF := hF.step f7 (by decide)
      have gWH := gWH.ag (Agr.fr f7 (by decide))
      have t8 : (σ7 24 1).toInt = (σ 24 1).toInt := congrArg Int32.toInt (f7.at 24 1 (by decide))
      have t9 : (σ7 24 2).toInt = (σ 24 2).toInt := congrArg Int32.toInt (f7.at 24 2 (by decide))
      have t10 : (σ7 1 13).toInt = (σ 1 13).toInt := congrArg Int32.toInt (f7.at 1 13 (by decide))
      have gCT := hp7_0
      refine lv_aload_n hx hb dX7_readAll_38 rfl (lv_at hl 0 rfl) ?_
      refine lv_iload_n hx hb dX7_readAll_39 rfl (lv_at hl 1 rfl) ?_
      refine r_cVi (k := 27) (As := [.int a1]) (rest := []) ⟨hx, hb, hml, hown, hts⟩ hK hP hN hS (c_X7_readOne_d1 l D cA ad hI σ7 τ7 hR a1 b N mo _ n1 nm hc (by omega) (by omega) (by omega) (by omega) gCT gWH) (cwV 1 hts gX7_readAll_X7_readOne rfl rfl rfl (by decide +kernel) ⟨by decide, by decide⟩) (rv_SText hK hP (by decide) (by decide)) rfl hl.1 rfl (Nat.le_of_ble_eq_true rfl) dX7_readAll_40 (Nat.zero_le _) (Nat.zero_le _) (fun r11 u11 H11 locs11 hp11 hP hS => ?_)
      obtain ⟨σ11, τ11⟩ := u11
      obtain ⟨hR, f11, fL11, hq11, hp11_0, hp11_1, gnWH⟩ : P_X7_readOne_d1 σ7 τ7 a1 b N mo _ n1 nm hc r11 σ11 τ11 := hp11
      have o2 := hp11_0
      have hP : va_P D vwCl (gw cA ad σ11 τ11) H11 := hP
      have hFL := hFL.step fL11 (by decide)
      have gWH := gWH.agL (AgrL.fr fL11 (by decide))
      have hF := hF.step f11 (by decide)
      have gWH := gWH.ag (Agr.fr f11 (by decide))
      have hr12 := rg_6_1 hR (k := 24) (by decide) (by decide)
      have hr13 := rg_6_2 hR (k := 24) (by decide) (by decide)
      refine r_if_eq (tgt := 60) hx hb dX7_readAll_43 (by decide) (fun c14 => ?_) (fun c14 => ?_)
      · clear hp11_1
        refine r_iconst hx hb dX7_readAll_60 (by decide) (fun z15 ez15 => ?_)
        exact r_zret hx hb hr hK hP hS hk (by omega) dX7_readAll_61 (show P_X7_readAll_d1 σ0 τ0 a1 b N mo q nn nm hc z15 σ11 τ11 from ⟨hR, hF, hFL, by omega, by first | (exfalso; omega) | (obtain ⟨f, e1, x1, x2⟩ := o1.no (by omega); exact RO.ofl (all_f e1) (by omega) x1 x2) | exact RO.ofr (by rw [iv, lop_e (by omega)]) (by omega) ⟨gCT, by omega, by omega⟩ | (obtain ⟨f, e2, x1, x2⟩ := o2.no (by omega); exact RO.ofl (by rw [iv, lop_f (f := (fun q nn => oneP b N mo nm hc 8 q nn)) (by omega) (by omega) e2]) (by omega) x1 x2) | (exfalso; omega), by omega, gWH⟩)
      · replace hp11_1 := hp11_1.resolve_left (by omega)
        obtain ⟨s2, e2, gCT, hs3, hs4⟩ := o2.ye (by omega)
        have hu2 := one_up _ _ _ _ e2
        refine lv_aload_n hx hb dX7_readAll_46 rfl (lv_at hl 0 rfl) ?_
        refine fg_7_2 (k := 27) hx hb hts in_X7_readAll_7 hown hK hP (by decide) (by decide) (hts _ lk_X7_readAll_19) dX7_readAll_47 ?_
        refine r_bipush hx hb dX7_readAll_50 (by decide) (fun z16 ez16 => ?_)
        refine r_iconst hx hb dX7_readAll_52 (by decide) (fun z17 ez17 => ?_)
        refine r_iconst hx hb dX7_readAll_53 (by decide) (fun z18 ez18 => ?_)
        refine r_cVi (k := 24) (As := [.int z16, .int z17, .int z18]) (rest := []) ⟨hx, hb, hml, hown, hts⟩ hK hP hN hS (c_X6_add l D cA ad hI σ11 τ11 hR z16 z17 z18 (by omega)) (cwV 3 hts gX7_readAll_X6_add rfl rfl rfl (by decide +kernel) ⟨by decide, by decide⟩) (rv_Sent hK hP (by decide) (by decide)) rfl hl.1 rfl (Nat.le_of_ble_eq_true rfl) dX7_readAll_54 (Nat.zero_le _) (Nat.zero_le _) (fun r19 u19 H19 locs19 hp19 hP hS => ?_)
        obtain ⟨σ19, τ19⟩ := u19
        obtain ⟨hR, f19, fL19, hq19, hp19_0⟩ : P_X6_add σ11 τ11 z16 z17 z18 r19 σ19 τ19 := hp19
        have hP : va_P D vwCl (gw cA ad σ19 τ19) H19 := hP
        obtain rfl := FrL.nil fL19
        have hF := hF.step f19 (by decide)
        have gCT := gCT.ag (Agr.fr f19 (by decide))
        have gWH := gWH.ag (Agr.fr f19 (by decide))
        have t20 : (σ19 24 1).toInt = (σ11 24 1).toInt := congrArg Int32.toInt (f19.at 24 1 (by decide))
        have t21 : (σ19 1 13).toInt = (σ11 1 13).toInt := congrArg Int32.toInt (f19.at 1 13 (by decide))
        have hr22 := rg_6_2 hR (k := 24) (by decide) (by decide)
        refine r_if_ne (tgt := 62) hx hb dX7_readAll_57 (by decide) (fun c23 => ?_) (fun c23 => ?_)
        · refine r_iinc (k := 2) (lv1 := fun z24 => [(2, .int z24), (0, .ref (ad 27)), (1, .int a1)]) hx hb dX7_readAll_62 hl rfl (by decide) (fun _ => rfl) (by decide) (by omega) (fun z24 ls ez24 hl => ?_)
          refine lv_goto (tgt := 12) hx hb dX7_readAll_65 (by decide) ?_
          exact K12 σ19 τ11 H19 locs19 z24 (fu - 1) _ _ ls hR hF hFL hP hS (by omega) (by omega) (by omega) (by first | exact all_s e1 | rw [iv, lop_s (f := (fun q nn => oneP b N mo nm hc 8 q nn)) (by omega) (by omega) e2]) (by omega) (by omega) (by omega) (by omega) (by omega) gCT gWH gCT (lv_sub hl [1, 2, 0] rfl) (by omega)
        · refine r_iconst hx hb dX7_readAll_60 (by decide) (fun z25 ez25 => ?_)
          exact r_zret hx hb hr hK hP hS hk (by omega) dX7_readAll_61 (show P_X7_readAll_d1 σ0 τ0 a1 b N mo q nn nm hc z25 σ19 τ11 from ⟨hR, hF, hFL, by omega, by first | (exfalso; omega) | (obtain ⟨f, e1, x1, x2⟩ := o1.no (by omega); exact RO.ofl (all_f e1) (by omega) x1 x2) | exact RO.ofr (by rw [iv, lop_e (by omega)]) (by omega) ⟨gCT, by omega, by omega⟩ | (obtain ⟨f, e2, x1, x2⟩ := o2.no (by omega); exact RO.ofl (by rw [iv, lop_f (f := (fun q nn => oneP b N mo nm hc 8 q nn)) (by omega) (by omega) e2]) (by omega) x1 x2) | (exfalso; omega), by omega, gWH⟩)
theorem A_X7_readAll_d1 (p : Program) (l : Launch) (e : Env) (s : State) (m : MethodId) (args : Array Value) (below : List Frame) (meth : Method) (c : Code) (D : va_G) (cA : Nat → ClassId) (ad : Nat → Nat) (σ0 : Nat → Nat → Int32) (τ0 : Nat → Nat → Int64) (a1 : Int32) (b : Nat → Int) (N : Nat) (mo : Nat) (q : Nat) (nn : Nat) (nm : Nat → Int) (hc : Nat) (C : Cy p s m args meth c cX7_readAll 3 wsX7_readAll RX7 D cA ad (some .boolean)) (ha1 : 1 ≤ a1.toInt ∧ a1.toInt ≤ 1) (hpre0 : (σ0 24 1).toInt = (nn : Int)) (hpre1 : 0 ≤ (σ0 24 2).toInt ∧ (σ0 24 2).toInt ≤ 2 * (nn : Int)) (hpre2 : nn ≤ 20) (gCT0 : CT σ0 τ0 b N mo q) (gWH0 : WH σ0 τ0 nm hc) : ∀ n : Nat, J_X7_readAll_d1_12 p l e s m args below meth c D cA ad σ0 τ0 a1 b N mo q nn nm hc n := by
  intro n
  induction n with
  | zero =>
    exact (by intro σ τ H locs x2 fu q1 n1 ls hR hF hFL hP hS hc0 hc1 hc2 iv ib2 ib3 ifu in20 ik13 gCT gWH gCT hl hm; exfalso; omega)
  | succ n ih =>
    exact B_X7_readAll_d1_12 p l e s m args below meth c D cA ad σ0 τ0 a1 b N mo q nn nm hc n C ha1 hpre0 hpre1 hpre2 gCT0 gWH0 ih
set_option maxHeartbeats 4000000 in
theorem c_X7_readAll_d1 (l : Launch) (D : va_G) (cA : Nat → ClassId) (ad : Nat → Nat) (hI : Inj ad) (σ0 : Nat → Nat → Int32) (τ0 : Nat → Nat → Int64) (hR : Rg σ0) (a1 : Int32) (b : Nat → Int) (N : Nat) (mo : Nat) (q : Nat) (nn : Nat) (nm : Nat → Int) (hc : Nat) (ha1 : 1 ≤ a1.toInt ∧ a1.toInt ≤ 1) (hpre0 : (σ0 24 1).toInt = (nn : Int)) (hpre1 : 0 ≤ (σ0 24 2).toInt ∧ (σ0 24 2).toInt ≤ 2 * (nn : Int)) (hpre2 : nn ≤ 20) (gCT0 : CT σ0 τ0 b N mo q) (gWH0 : WH σ0 τ0 nm hc) : Met l yX7_readAll wsX7_readAll ({ frames := 26, cells := 0, slots := 0, locals := 571 } : Room) (WQc D cA ad [.ref (ad 27), .int a1] σ0 τ0) (va_Qi (fun (r : Int32) (u : SS) => P_X7_readAll_d1 σ0 τ0 a1 b N mo q nn nm hc r u.1 u.2) (WB D cA ad) (AA ad)) 0 0 (AA ad) := by
  refine Met.ofW (cc := cX7_readAll) (maxL := 3) (ret := (some .boolean)) (by decide) rfl ?_
  intro p e s m args below meth c s₁ B hml hv
  obtain ⟨rfl, hP, hK, hN⟩ := hv
  have C : Cy p s m _ meth c cX7_readAll 3 wsX7_readAll RX7 D cA ad (some .boolean) := ⟨B.exec, B.bytes, hml, findClass_of_methodNamed B.named, atoms_spec (ws := wsX7_readAll) B.pre, hK, B.notSynchronized, B.returns, hI, hN⟩
  have hl := lv_entry ([.ref (ad 27), .int a1]) (n := 3) (Nat.le_of_ble_eq_true rfl)
  rw [lg_entry_eq]
  generalize (lg_sl ([.ref (ad 27), .int a1]) ++ List.replicate (3 - (lg_sl ([.ref (ad 27), .int a1])).length) Slot.unset).toArray = ls at hl ⊢
  have hl : lv_has ls 3 [(0, .ref (ad 27)), (1, .int a1)] := hl
  have hS : va_S (AA ad) s.heap s.heap [] := va_S.rf
  have hF : Fr L_X7_readAll_d1 σ0 σ0 := Fr.rf
  have hFL : FrL LL_X7_readAll_d1 τ0 τ0 := FrL.rf
  have gCT := gCT0
  have gWH := gWH0
  have hA := A_X7_readAll_d1 p l e s m _ below meth c D cA ad σ0 τ0 a1 b N mo q nn nm hc C ha1 hpre0 hpre1 hpre2 gCT0 gWH0 810
  have K12 := hA
  clear hA
  obtain ⟨hx, hb, _, hown, hts, _, hk, hr, _, _⟩ := C
  refine lv_aload_n hx hb dX7_readAll_0 rfl (lv_at hl 0 rfl) ?_
  refine lv_iload_n hx hb dX7_readAll_1 rfl (lv_at hl 1 rfl) ?_
  refine r_cVi (k := 27) (As := [.int a1]) (rest := []) ⟨hx, hb, hml, hown, hts⟩ hK hP hN hS (c_X7_readOne_d1 l D cA ad hI σ0 τ0 hR a1 b N mo q nn nm hc (by omega) (by omega) (by omega) (by omega) gCT gWH) (cwV 1 hts gX7_readAll_X7_readOne rfl rfl rfl (by decide +kernel) ⟨by decide, by decide⟩) (rv_SText hK hP (by decide) (by decide)) rfl hl.1 rfl (Nat.le_of_ble_eq_true rfl) dX7_readAll_2 (Nat.zero_le _) (Nat.zero_le _) (fun r1 u1 H1 locs1 hp1 hP hS => ?_)
  obtain ⟨σ1, τ1⟩ := u1
  obtain ⟨hR, f1, fL1, hq1, hp1_0, hp1_1, gnWH⟩ : P_X7_readOne_d1 σ0 τ0 a1 b N mo q nn nm hc r1 σ1 τ1 := hp1
  have o1 := hp1_0
  have hP : va_P D vwCl (gw cA ad σ1 τ1) H1 := hP
  have hFL := hFL.step fL1 (by decide)
  have gWH := gWH.agL (AgrL.fr fL1 (by decide))
  have hF := hF.step f1 (by decide)
  have gWH := gWH.ag (Agr.fr f1 (by decide))
  have hr2 := rg_6_1 hR (k := 24) (by decide) (by decide)
  have hr3 := rg_6_2 hR (k := 24) (by decide) (by decide)
  refine r_if_ne (tgt := 10) hx hb dX7_readAll_5 (by decide) (fun c4 => ?_) (fun c4 => ?_)
  · replace hp1_1 := hp1_1.resolve_left (by omega)
    obtain ⟨s1, e1, gCT, hs1, hs2⟩ := o1.ye (by omega)
    have hu1 := one_up _ _ _ _ e1
    refine r_iconst hx hb dX7_readAll_10 (by decide) (fun z5 ez5 => ?_)
    refine lv_istore_n (lv' := [(2, .int z5), (0, .ref (ad 27)), (1, .int a1)]) hx hb dX7_readAll_11 rfl hl (by decide) rfl (fun ls hl => ?_)
    exact K12 σ1 τ1 H1 locs1 z5 200 _ _ ls hR hF hFL hP hS (by omega) (by omega) (by omega) (by first | exact all_s e1 | rw [iv, lop_s (f := (fun q nn => oneP b N mo nm hc 8 q nn)) (by omega) (by omega) e2]) (by omega) (by omega) (by omega) (by omega) (by omega) gCT gWH gCT (lv_sub hl [1, 2, 0] rfl) (by omega)
  · clear hp1_1
    refine r_iconst hx hb dX7_readAll_8 (by decide) (fun z6 ez6 => ?_)
    exact r_zret hx hb hr hK hP hS hk (by omega) dX7_readAll_9 (show P_X7_readAll_d1 σ0 τ0 a1 b N mo q nn nm hc z6 σ1 τ1 from ⟨hR, hF, hFL, by omega, by first | (exfalso; omega) | (obtain ⟨f, e1, x1, x2⟩ := o1.no (by omega); exact RO.ofl (all_f e1) (by omega) x1 x2) | exact RO.ofr (by rw [iv, lop_e (by omega)]) (by omega) ⟨gCT, by omega, by omega⟩ | (obtain ⟨f, e2, x1, x2⟩ := o2.no (by omega); exact RO.ofl (by rw [iv, lop_f (f := (fun q nn => oneP b N mo nm hc 8 q nn)) (by omega) (by omega) e2]) (by omega) x1 x2) | (exfalso; omega), by omega, gWH⟩)
abbrev L_X7_readCond_d1 : List Rc := [(1, 1, 7, 10), (372, 372, 0, 39), (376, 376, 0, 39), (380, 380, 0, 39), (24, 24, 1, 2), (1, 1, 12, 14)]
abbrev LL_X7_readCond_d1 : List Rc := [(1, 1, 11, 11)]
def P_X7_readCond_d1 (σ0 : Nat → Nat → Int32) (τ0 : Nat → Nat → Int64) (a1 : Int32) (b : Nat → Int) (N : Nat) (mo : Nat) (q : Nat) (nn : Nat) (nm : Nat → Int) (hc : Nat) (r : Int32) (σ : Nat → Nat → Int32) (τ : Nat → Nat → Int64) : Prop := Rg σ ∧ Fr L_X7_readCond_d1 σ0 σ ∧ FrL LL_X7_readCond_d1 τ0 τ ∧ (0 ≤ r.toInt ∧ r.toInt ≤ 1) ∧ (RO r σ (conP b N mo (fun q nn => oneP b N mo nm hc 8 q nn) q nn) (fun s => CT σ τ b N mo s.1 ∧ (σ 24 1).toInt = (s.2 : Int) ∧ (σ 24 2).toInt + 2 * (nn : Int) + 1 ≤ (σ0 24 2).toInt + 2 * (s.2 : Int))) ∧ (r.toInt = 0 ∨ (σ 1 13).toInt = (σ0 1 13).toInt) ∧ WH σ τ nm hc
def J_X7_readCond_d1_12 (p : Program) (l : Launch) (e : Env) (s : State) (m : MethodId) (args : Array Value) (below : List Frame) (meth : Method) (c : Code) (D : va_G) (cA : Nat → ClassId) (ad : Nat → Nat) (σ0 : Nat → Nat → Int32) (τ0 : Nat → Nat → Int64) (a1 : Int32) (b : Nat → Int) (N : Nat) (mo : Nat) (q : Nat) (nn : Nat) (nm : Nat → Int) (hc : Nat) (n : Nat) : Prop := ∀ (σ : Nat → Nat → Int32) (τ : Nat → Nat → Int64) (H : Heap) (locs : List Loc) (x2 : Int32) (fu : Nat) (q1 : Nat) (n1 : Nat) (ls : Array Slot), Rg σ → Fr L_X7_readCond_d1 σ0 σ → FrL LL_X7_readCond_d1 τ0 τ → va_P D vwCl (gw cA ad σ τ) H → va_S (AA ad) s.heap H locs → (0 ≤ x2.toInt ∧ x2.toInt ≤ 200) → (0 ≤ (σ 24 1).toInt ∧ (σ 24 1).toInt ≤ 20) → (0 ≤ (σ 24 2).toInt ∧ (σ 24 2).toInt ≤ 40) → (conP b N mo (fun q nn => oneP b N mo nm hc 8 q nn) q nn = lopP b N mo 20 (allP b N mo (fun q nn => oneP b N mo nm hc 8 q nn)) fu q1 n1) → ((σ 24 1).toInt = (n1 : Int)) → (0 ≤ (σ 24 2).toInt ∧ (σ 24 2).toInt + 2 * (nn : Int) + 1 ≤ (σ0 24 2).toInt + 2 * (n1 : Int)) → ((fu : Int) + x2.toInt = 200) → (n1 ≤ 20) → ((σ 1 13).toInt = (σ0 1 13).toInt) → (CT σ τ b N mo q1) → (WH σ τ nm hc) → (CT σ τ b N mo q1) → lv_has ls 3 [(0, .ref (ad 27)), (1, .int a1), (2, .int x2)] → 2 * (200 - x2.toInt) + 1 < (n : Int) → W p l e ({ frames := 27, cells := 0, slots := 0, locals := 593 } : Room) s m args below meth c H locs 0 0 (MQ below (va_Qi (fun (r : Int32) (u : SS) => P_X7_readCond_d1 σ0 τ0 a1 b N mo q nn nm hc r u.1 u.2) (WB D cA ad) (AA ad)) args s 0 0 (AA ad)) (F0 m 12 ls [])
set_option maxHeartbeats 4000000 in
theorem B_X7_readCond_d1_12 (p : Program) (l : Launch) (e : Env) (s : State) (m : MethodId) (args : Array Value) (below : List Frame) (meth : Method) (c : Code) (D : va_G) (cA : Nat → ClassId) (ad : Nat → Nat) (σ0 : Nat → Nat → Int32) (τ0 : Nat → Nat → Int64) (a1 : Int32) (b : Nat → Int) (N : Nat) (mo : Nat) (q : Nat) (nn : Nat) (nm : Nat → Int) (hc : Nat) (n : Nat) (C : Cy p s m args meth c cX7_readCond 3 wsX7_readCond RX7 D cA ad (some .boolean)) (ha1 : 1 ≤ a1.toInt ∧ a1.toInt ≤ 1) (hpre0 : (σ0 24 1).toInt = (nn : Int)) (hpre1 : 0 ≤ (σ0 24 2).toInt ∧ (σ0 24 2).toInt ≤ 2 * (nn : Int)) (hpre2 : nn ≤ 20) (gCT0 : CT σ0 τ0 b N mo q) (gWH0 : WH σ0 τ0 nm hc) (K12 : J_X7_readCond_d1_12 p l e s m args below meth c D cA ad σ0 τ0 a1 b N mo q nn nm hc n) : J_X7_readCond_d1_12 p l e s m args below meth c D cA ad σ0 τ0 a1 b N mo q nn nm hc (n + 1) := by
  obtain ⟨hx, hb, hml, hown, hts, hK, hk, hr, hI, hN⟩ := C
  intro σ τ H locs x2 fu q1 n1 ls hR hF hFL hP hS hc0 hc1 hc2 iv ib2 ib3 ifu in20 ik13 gCT gWH gCT hl hm
  refine lv_iload_n hx hb dX7_readCond_12 rfl (lv_at hl 2 rfl) ?_
  refine r_sipush hx hb dX7_readCond_13 (by decide) (fun z1 ez1 => ?_)
  refine r_icmp_ge (tgt := 68) hx hb dX7_readCond_16 (by decide) (fun c2 => ?_) (fun c2 => ?_)
  · refine r_iconst hx hb dX7_readCond_68 (by decide) (fun z3 ez3 => ?_)
    exact r_zret hx hb hr hK hP hS hk (by omega) dX7_readCond_69 (show P_X7_readCond_d1 σ0 τ0 a1 b N mo q nn nm hc z3 σ τ from ⟨hR, hF, hFL, by omega, by first | (exfalso; omega) | (obtain ⟨f, e1, x1, x2⟩ := o1.no (by omega); exact RO.ofl (con_f e1) (by omega) x1 x2) | exact RO.ofr (by rw [iv, lop_e (by omega)]) (by omega) ⟨gCT, by omega, by omega⟩ | (obtain ⟨f, e2, x1, x2⟩ := o2.no (by omega); exact RO.ofl (by rw [iv, lop_f (f := (allP b N mo (fun q nn => oneP b N mo nm hc 8 q nn))) (by omega) (by omega) e2]) (by omega) x1 x2) | (exfalso; omega), by omega, gWH⟩)
  · have htk := gCT.tk
    refine lv_aload_n hx hb dX7_readCond_19 rfl (lv_at hl 0 rfl) ?_
    refine fg_7_0 (k := 27) hx hb hts in_X7_readCond_7 hown hK hP (by decide) (by decide) (hts _ lk_X7_readCond_9) dX7_readCond_20 ?_
    refine fgN_8_9 (k := 1) hx hb hts in_X7_readCond_8 hown hK hP (by decide) (by decide) (hN.use nw_7_32) dX7_readCond_23 ?_
    refine r_bipush hx hb dX7_readCond_26 (by decide) (fun z4 ez4 => ?_)
    refine r_icmp_ne (tgt := 68) hx hb dX7_readCond_28 (by decide) (fun c5 => ?_) (fun c5 => ?_)
    · refine r_iconst hx hb dX7_readCond_68 (by decide) (fun z6 ez6 => ?_)
      exact r_zret hx hb hr hK hP hS hk (by omega) dX7_readCond_69 (show P_X7_readCond_d1 σ0 τ0 a1 b N mo q nn nm hc z6 σ τ from ⟨hR, hF, hFL, by omega, by first | (exfalso; omega) | (obtain ⟨f, e1, x1, x2⟩ := o1.no (by omega); exact RO.ofl (con_f e1) (by omega) x1 x2) | exact RO.ofr (by rw [iv, lop_e (by omega)]) (by omega) ⟨gCT, by omega, by omega⟩ | (obtain ⟨f, e2, x1, x2⟩ := o2.no (by omega); exact RO.ofl (by rw [iv, lop_f (f := (allP b N mo (fun q nn => oneP b N mo nm hc 8 q nn))) (by omega) (by omega) e2]) (by omega) x1 x2) | (exfalso; omega), by omega, gWH⟩)
    · refine lv_aload_n hx hb dX7_readCond_31 rfl (lv_at hl 0 rfl) ?_
      refine fg_7_0 (k := 27) hx hb hts in_X7_readCond_7 hown hK hP (by decide) (by decide) (hts _ lk_X7_readCond_9) dX7_readCond_32 ?_
      refine r_cVv (k := 1) (As := []) (rest := []) ⟨hx, hb, hml, hown, hts⟩ hK hP hN hS (c_X8_next_v l D cA ad hI σ τ hR _ _ _ _ gCT) (cwV 0 hts gX7_readCond_X8_next rfl rfl rfl (by decide +kernel) ⟨by decide, by decide⟩) (rv_Tape hK hP (by decide) (by decide)) rfl hl.1 rfl (Nat.le_of_ble_eq_true rfl) dX7_readCond_35 (Nat.zero_le _) (Nat.zero_le _) (fun u7 H7 locs7 hp7 hP hS => ?_)
      obtain ⟨σ7, τ7⟩ := u7
      obtain ⟨hR, f7, fL7, hp7_0⟩ : P_X8_next_v σ τ _ _ _ _ σ7 τ7 := hp7
      have hP : va_P D vwCl (gw cA ad σ7 τ7) H7 := hP
      have hFL := hFL.step fL7 (by decide)
      have gWH := gWH.agL (AgrL.fr fL7 (by decide))
      have hF := hF.step f7 (by decide)
      have gWH := gWH.ag (Agr.fr f7 (by decide))
      have t8 : (σ7 24 1).toInt = (σ 24 1).toInt := congrArg Int32.toInt (f7.at 24 1 (by decide))
      have t9 : (σ7 24 2).toInt = (σ 24 2).toInt := congrArg Int32.toInt (f7.at 24 2 (by decide))
      have t10 : (σ7 1 13).toInt = (σ 1 13).toInt := congrArg Int32.toInt (f7.at 1 13 (by decide))
      have gCT := hp7_0
      refine lv_aload_n hx hb dX7_readCond_38 rfl (lv_at hl 0 rfl) ?_
      refine lv_iload_n hx hb dX7_readCond_39 rfl (lv_at hl 1 rfl) ?_
      refine r_cVi (k := 27) (As := [.int a1]) (rest := []) ⟨hx, hb, hml, hown, hts⟩ hK hP hN hS (c_X7_readAll_d1 l D cA ad hI σ7 τ7 hR a1 b N mo _ n1 nm hc (by omega) (by omega) (by omega) (by omega) gCT gWH) (cwV 1 hts gX7_readCond_X7_readAll rfl rfl rfl (by decide +kernel) ⟨by decide, by decide⟩) (rv_SText hK hP (by decide) (by decide)) rfl hl.1 rfl (Nat.le_of_ble_eq_true rfl) dX7_readCond_40 (Nat.zero_le _) (Nat.zero_le _) (fun r11 u11 H11 locs11 hp11 hP hS => ?_)
      obtain ⟨σ11, τ11⟩ := u11
      obtain ⟨hR, f11, fL11, hq11, hp11_0, hp11_1, gnWH⟩ : P_X7_readAll_d1 σ7 τ7 a1 b N mo _ n1 nm hc r11 σ11 τ11 := hp11
      have o2 := hp11_0
      have hP : va_P D vwCl (gw cA ad σ11 τ11) H11 := hP
      have hFL := hFL.step fL11 (by decide)
      have gWH := gWH.agL (AgrL.fr fL11 (by decide))
      have hF := hF.step f11 (by decide)
      have gWH := gWH.ag (Agr.fr f11 (by decide))
      have hr12 := rg_6_1 hR (k := 24) (by decide) (by decide)
      have hr13 := rg_6_2 hR (k := 24) (by decide) (by decide)
      refine r_if_eq (tgt := 60) hx hb dX7_readCond_43 (by decide) (fun c14 => ?_) (fun c14 => ?_)
      · clear hp11_1
        refine r_iconst hx hb dX7_readCond_60 (by decide) (fun z15 ez15 => ?_)
        exact r_zret hx hb hr hK hP hS hk (by omega) dX7_readCond_61 (show P_X7_readCond_d1 σ0 τ0 a1 b N mo q nn nm hc z15 σ11 τ11 from ⟨hR, hF, hFL, by omega, by first | (exfalso; omega) | (obtain ⟨f, e1, x1, x2⟩ := o1.no (by omega); exact RO.ofl (con_f e1) (by omega) x1 x2) | exact RO.ofr (by rw [iv, lop_e (by omega)]) (by omega) ⟨gCT, by omega, by omega⟩ | (obtain ⟨f, e2, x1, x2⟩ := o2.no (by omega); exact RO.ofl (by rw [iv, lop_f (f := (allP b N mo (fun q nn => oneP b N mo nm hc 8 q nn))) (by omega) (by omega) e2]) (by omega) x1 x2) | (exfalso; omega), by omega, gWH⟩)
      · replace hp11_1 := hp11_1.resolve_left (by omega)
        obtain ⟨s2, e2, gCT, hs3, hs4⟩ := o2.ye (by omega)
        have hu2 := all_up (one_up _) _ _ _ e2
        refine lv_aload_n hx hb dX7_readCond_46 rfl (lv_at hl 0 rfl) ?_
        refine fg_7_2 (k := 27) hx hb hts in_X7_readCond_7 hown hK hP (by decide) (by decide) (hts _ lk_X7_readCond_19) dX7_readCond_47 ?_
        refine r_bipush hx hb dX7_readCond_50 (by decide) (fun z16 ez16 => ?_)
        refine r_iconst hx hb dX7_readCond_52 (by decide) (fun z17 ez17 => ?_)
        refine r_iconst hx hb dX7_readCond_53 (by decide) (fun z18 ez18 => ?_)
        refine r_cVi (k := 24) (As := [.int z16, .int z17, .int z18]) (rest := []) ⟨hx, hb, hml, hown, hts⟩ hK hP hN hS (c_X6_add l D cA ad hI σ11 τ11 hR z16 z17 z18 (by omega)) (cwV 3 hts gX7_readCond_X6_add rfl rfl rfl (by decide +kernel) ⟨by decide, by decide⟩) (rv_Sent hK hP (by decide) (by decide)) rfl hl.1 rfl (Nat.le_of_ble_eq_true rfl) dX7_readCond_54 (Nat.zero_le _) (Nat.zero_le _) (fun r19 u19 H19 locs19 hp19 hP hS => ?_)
        obtain ⟨σ19, τ19⟩ := u19
        obtain ⟨hR, f19, fL19, hq19, hp19_0⟩ : P_X6_add σ11 τ11 z16 z17 z18 r19 σ19 τ19 := hp19
        have hP : va_P D vwCl (gw cA ad σ19 τ19) H19 := hP
        obtain rfl := FrL.nil fL19
        have hF := hF.step f19 (by decide)
        have gCT := gCT.ag (Agr.fr f19 (by decide))
        have gWH := gWH.ag (Agr.fr f19 (by decide))
        have t20 : (σ19 24 1).toInt = (σ11 24 1).toInt := congrArg Int32.toInt (f19.at 24 1 (by decide))
        have t21 : (σ19 1 13).toInt = (σ11 1 13).toInt := congrArg Int32.toInt (f19.at 1 13 (by decide))
        have hr22 := rg_6_2 hR (k := 24) (by decide) (by decide)
        refine r_if_ne (tgt := 62) hx hb dX7_readCond_57 (by decide) (fun c23 => ?_) (fun c23 => ?_)
        · refine r_iinc (k := 2) (lv1 := fun z24 => [(2, .int z24), (0, .ref (ad 27)), (1, .int a1)]) hx hb dX7_readCond_62 hl rfl (by decide) (fun _ => rfl) (by decide) (by omega) (fun z24 ls ez24 hl => ?_)
          refine lv_goto (tgt := 12) hx hb dX7_readCond_65 (by decide) ?_
          exact K12 σ19 τ11 H19 locs19 z24 (fu - 1) _ _ ls hR hF hFL hP hS (by omega) (by omega) (by omega) (by first | exact con_s e1 | rw [iv, lop_s (f := (allP b N mo (fun q nn => oneP b N mo nm hc 8 q nn))) (by omega) (by omega) e2]) (by omega) (by omega) (by omega) (by omega) (by omega) gCT gWH gCT (lv_sub hl [1, 2, 0] rfl) (by omega)
        · refine r_iconst hx hb dX7_readCond_60 (by decide) (fun z25 ez25 => ?_)
          exact r_zret hx hb hr hK hP hS hk (by omega) dX7_readCond_61 (show P_X7_readCond_d1 σ0 τ0 a1 b N mo q nn nm hc z25 σ19 τ11 from ⟨hR, hF, hFL, by omega, by first | (exfalso; omega) | (obtain ⟨f, e1, x1, x2⟩ := o1.no (by omega); exact RO.ofl (con_f e1) (by omega) x1 x2) | exact RO.ofr (by rw [iv, lop_e (by omega)]) (by omega) ⟨gCT, by omega, by omega⟩ | (obtain ⟨f, e2, x1, x2⟩ := o2.no (by omega); exact RO.ofl (by rw [iv, lop_f (f := (allP b N mo (fun q nn => oneP b N mo nm hc 8 q nn))) (by omega) (by omega) e2]) (by omega) x1 x2) | (exfalso; omega), by omega, gWH⟩)
theorem A_X7_readCond_d1 (p : Program) (l : Launch) (e : Env) (s : State) (m : MethodId) (args : Array Value) (below : List Frame) (meth : Method) (c : Code) (D : va_G) (cA : Nat → ClassId) (ad : Nat → Nat) (σ0 : Nat → Nat → Int32) (τ0 : Nat → Nat → Int64) (a1 : Int32) (b : Nat → Int) (N : Nat) (mo : Nat) (q : Nat) (nn : Nat) (nm : Nat → Int) (hc : Nat) (C : Cy p s m args meth c cX7_readCond 3 wsX7_readCond RX7 D cA ad (some .boolean)) (ha1 : 1 ≤ a1.toInt ∧ a1.toInt ≤ 1) (hpre0 : (σ0 24 1).toInt = (nn : Int)) (hpre1 : 0 ≤ (σ0 24 2).toInt ∧ (σ0 24 2).toInt ≤ 2 * (nn : Int)) (hpre2 : nn ≤ 20) (gCT0 : CT σ0 τ0 b N mo q) (gWH0 : WH σ0 τ0 nm hc) : ∀ n : Nat, J_X7_readCond_d1_12 p l e s m args below meth c D cA ad σ0 τ0 a1 b N mo q nn nm hc n := by
  intro n
  induction n with
  | zero =>
    exact (by intro σ τ H locs x2 fu q1 n1 ls hR hF hFL hP hS hc0 hc1 hc2 iv ib2 ib3 ifu in20 ik13 gCT gWH gCT hl hm; exfalso; omega)
  | succ n ih =>
    exact B_X7_readCond_d1_12 p l e s m args below meth c D cA ad σ0 τ0 a1 b N mo q nn nm hc n C ha1 hpre0 hpre1 hpre2 gCT0 gWH0 ih
set_option maxHeartbeats 4000000 in
theorem c_X7_readCond_d1 (l : Launch) (D : va_G) (cA : Nat → ClassId) (ad : Nat → Nat) (hI : Inj ad) (σ0 : Nat → Nat → Int32) (τ0 : Nat → Nat → Int64) (hR : Rg σ0) (a1 : Int32) (b : Nat → Int) (N : Nat) (mo : Nat) (q : Nat) (nn : Nat) (nm : Nat → Int) (hc : Nat) (ha1 : 1 ≤ a1.toInt ∧ a1.toInt ≤ 1) (hpre0 : (σ0 24 1).toInt = (nn : Int)) (hpre1 : 0 ≤ (σ0 24 2).toInt ∧ (σ0 24 2).toInt ≤ 2 * (nn : Int)) (hpre2 : nn ≤ 20) (gCT0 : CT σ0 τ0 b N mo q) (gWH0 : WH σ0 τ0 nm hc) : Met l yX7_readCond wsX7_readCond ({ frames := 27, cells := 0, slots := 0, locals := 593 } : Room) (WQc D cA ad [.ref (ad 27), .int a1] σ0 τ0) (va_Qi (fun (r : Int32) (u : SS) => P_X7_readCond_d1 σ0 τ0 a1 b N mo q nn nm hc r u.1 u.2) (WB D cA ad) (AA ad)) 0 0 (AA ad) := by
  refine Met.ofW (cc := cX7_readCond) (maxL := 3) (ret := (some .boolean)) (by decide) rfl ?_
  intro p e s m args below meth c s₁ B hml hv
  obtain ⟨rfl, hP, hK, hN⟩ := hv
  have C : Cy p s m _ meth c cX7_readCond 3 wsX7_readCond RX7 D cA ad (some .boolean) := ⟨B.exec, B.bytes, hml, findClass_of_methodNamed B.named, atoms_spec (ws := wsX7_readCond) B.pre, hK, B.notSynchronized, B.returns, hI, hN⟩
  have hl := lv_entry ([.ref (ad 27), .int a1]) (n := 3) (Nat.le_of_ble_eq_true rfl)
  rw [lg_entry_eq]
  generalize (lg_sl ([.ref (ad 27), .int a1]) ++ List.replicate (3 - (lg_sl ([.ref (ad 27), .int a1])).length) Slot.unset).toArray = ls at hl ⊢
  have hl : lv_has ls 3 [(0, .ref (ad 27)), (1, .int a1)] := hl
  have hS : va_S (AA ad) s.heap s.heap [] := va_S.rf
  have hF : Fr L_X7_readCond_d1 σ0 σ0 := Fr.rf
  have hFL : FrL LL_X7_readCond_d1 τ0 τ0 := FrL.rf
  have gCT := gCT0
  have gWH := gWH0
  have hA := A_X7_readCond_d1 p l e s m _ below meth c D cA ad σ0 τ0 a1 b N mo q nn nm hc C ha1 hpre0 hpre1 hpre2 gCT0 gWH0 810
  have K12 := hA
  clear hA
  obtain ⟨hx, hb, _, hown, hts, _, hk, hr, _, _⟩ := C
  refine lv_aload_n hx hb dX7_readCond_0 rfl (lv_at hl 0 rfl) ?_
  refine lv_iload_n hx hb dX7_readCond_1 rfl (lv_at hl 1 rfl) ?_
  refine r_cVi (k := 27) (As := [.int a1]) (rest := []) ⟨hx, hb, hml, hown, hts⟩ hK hP hN hS (c_X7_readAll_d1 l D cA ad hI σ0 τ0 hR a1 b N mo q nn nm hc (by omega) (by omega) (by omega) (by omega) gCT gWH) (cwV 1 hts gX7_readCond_X7_readAll rfl rfl rfl (by decide +kernel) ⟨by decide, by decide⟩) (rv_SText hK hP (by decide) (by decide)) rfl hl.1 rfl (Nat.le_of_ble_eq_true rfl) dX7_readCond_2 (Nat.zero_le _) (Nat.zero_le _) (fun r1 u1 H1 locs1 hp1 hP hS => ?_)
  obtain ⟨σ1, τ1⟩ := u1
  obtain ⟨hR, f1, fL1, hq1, hp1_0, hp1_1, gnWH⟩ : P_X7_readAll_d1 σ0 τ0 a1 b N mo q nn nm hc r1 σ1 τ1 := hp1
  have o1 := hp1_0
  have hP : va_P D vwCl (gw cA ad σ1 τ1) H1 := hP
  have hFL := hFL.step fL1 (by decide)
  have gWH := gWH.agL (AgrL.fr fL1 (by decide))
  have hF := hF.step f1 (by decide)
  have gWH := gWH.ag (Agr.fr f1 (by decide))
  have hr2 := rg_6_1 hR (k := 24) (by decide) (by decide)
  have hr3 := rg_6_2 hR (k := 24) (by decide) (by decide)
  refine r_if_ne (tgt := 10) hx hb dX7_readCond_5 (by decide) (fun c4 => ?_) (fun c4 => ?_)
  · replace hp1_1 := hp1_1.resolve_left (by omega)
    obtain ⟨s1, e1, gCT, hs1, hs2⟩ := o1.ye (by omega)
    have hu1 := all_up (one_up _) _ _ _ e1
    refine r_iconst hx hb dX7_readCond_10 (by decide) (fun z5 ez5 => ?_)
    refine lv_istore_n (lv' := [(2, .int z5), (0, .ref (ad 27)), (1, .int a1)]) hx hb dX7_readCond_11 rfl hl (by decide) rfl (fun ls hl => ?_)
    exact K12 σ1 τ1 H1 locs1 z5 200 _ _ ls hR hF hFL hP hS (by omega) (by omega) (by omega) (by first | exact con_s e1 | rw [iv, lop_s (f := (allP b N mo (fun q nn => oneP b N mo nm hc 8 q nn))) (by omega) (by omega) e2]) (by omega) (by omega) (by omega) (by omega) (by omega) gCT gWH gCT (lv_sub hl [1, 2, 0] rfl) (by omega)
  · clear hp1_1
    refine r_iconst hx hb dX7_readCond_8 (by decide) (fun z6 ez6 => ?_)
    exact r_zret hx hb hr hK hP hS hk (by omega) dX7_readCond_9 (show P_X7_readCond_d1 σ0 τ0 a1 b N mo q nn nm hc z6 σ1 τ1 from ⟨hR, hF, hFL, by omega, by first | (exfalso; omega) | (obtain ⟨f, e1, x1, x2⟩ := o1.no (by omega); exact RO.ofl (con_f e1) (by omega) x1 x2) | exact RO.ofr (by rw [iv, lop_e (by omega)]) (by omega) ⟨gCT, by omega, by omega⟩ | (obtain ⟨f, e2, x1, x2⟩ := o2.no (by omega); exact RO.ofl (by rw [iv, lop_f (f := (allP b N mo (fun q nn => oneP b N mo nm hc 8 q nn))) (by omega) (by omega) e2]) (by omega) x1 x2) | (exfalso; omega), by omega, gWH⟩)
theorem in_X7_read_6 : ∀ w ∈ u_ws RX6 TX6 7, w ∈ wsX7_read := by decide +kernel
theorem in_X7_read_7 : ∀ w ∈ u_ws RX7 TX7 3, w ∈ wsX7_read := by decide +kernel
theorem in_X7_read_8 : ∀ w ∈ u_ws RX8 TX8 15, w ∈ wsX7_read := by decide +kernel
theorem lk_X7_read_19 : Cond.fieldLink RX7 19 "CuckooShares$SentenceText" "into" "LCuckooShares$Sentence;" ∈ wsX7_read := by decide +kernel
theorem lk_X7_read_9 : Cond.fieldLink RX7 9 "CuckooShares$SentenceText" "tape" "LCuckooShares$Tape;" ∈ wsX7_read := by decide +kernel
abbrev L_X7_read : List Rc := [(23, 24, 0, 2), (1, 1, 7, 10), (372, 372, 0, 39), (376, 376, 0, 39), (380, 380, 0, 39), (1, 1, 12, 14)]
abbrev LL_X7_read : List Rc := [(1, 1, 11, 11)]
def P_X7_read (σ0 : Nat → Nat → Int32) (τ0 : Nat → Nat → Int64) (b : Nat → Int) (N : Nat) (mo : Nat) (nm : Nat → Int) (hc : Nat) (r : Int32) (σ : Nat → Nat → Int32) (τ : Nat → Nat → Int64) : Prop := Rg σ ∧ Fr L_X7_read σ0 σ ∧ FrL LL_X7_read τ0 τ ∧ (0 ≤ r.toInt ∧ r.toInt ≤ 1) ∧ (RO r σ (senP b N mo nm hc) (fun k => (σ 24 1).toInt = (k : Int))) ∧ (r.toInt = 0 ∨ (σ 1 13).toInt = (σ0 1 13).toInt) ∧ WH σ τ nm hc
set_option maxHeartbeats 4000000 in
theorem c_X7_read (l : Launch) (D : va_G) (cA : Nat → ClassId) (ad : Nat → Nat) (hI : Inj ad) (σ0 : Nat → Nat → Int32) (τ0 : Nat → Nat → Int64) (hR : Rg σ0) (b : Nat → Int) (N : Nat) (mo : Nat) (nm : Nat → Int) (hc : Nat) (hpre0 : CT σ0 τ0 b N mo (posq b N mo 0)) (gWH0 : WH σ0 τ0 nm hc) : Met l yX7_read wsX7_read ({ frames := 28, cells := 0, slots := 0, locals := 615 } : Room) (WQc D cA ad [.ref (ad 27)] σ0 τ0) (va_Qi (fun (r : Int32) (u : SS) => P_X7_read σ0 τ0 b N mo nm hc r u.1 u.2) (WB D cA ad) (AA ad)) 0 0 (AA ad) := by
  refine Met.ofW (cc := cX7_read) (maxL := 1) (ret := (some .boolean)) (by decide) rfl ?_
  intro p e s m args below meth c s₁ B hml hv
  obtain ⟨rfl, hP, hK, hN⟩ := hv
  have C : Cy p s m _ meth c cX7_read 1 wsX7_read RX7 D cA ad (some .boolean) := ⟨B.exec, B.bytes, hml, findClass_of_methodNamed B.named, atoms_spec (ws := wsX7_read) B.pre, hK, B.notSynchronized, B.returns, hI, hN⟩
  have hl := lv_entry ([.ref (ad 27)]) (n := 1) (Nat.le_of_ble_eq_true rfl)
  rw [lg_entry_eq]
  generalize (lg_sl ([.ref (ad 27)]) ++ List.replicate (1 - (lg_sl ([.ref (ad 27)])).length) Slot.unset).toArray = ls at hl ⊢
  have hl : lv_has ls 1 [(0, .ref (ad 27))] := hl
  have hS : va_S (AA ad) s.heap s.heap [] := va_S.rf
  have hF : Fr L_X7_read σ0 σ0 := Fr.rf
  have hFL : FrL LL_X7_read τ0 τ0 := FrL.rf
  have gWH := gWH0
  obtain ⟨hx, hb, _, hown, hts, _, hk, hr, _, _⟩ := C
  have gCT := hpre0
  refine lv_aload_n hx hb dX7_read_0 rfl (lv_at hl 0 rfl) ?_
  refine fg_7_2 (k := 27) hx hb hts in_X7_read_7 hown hK hP (by decide) (by decide) (hts _ lk_X7_read_19) dX7_read_1 ?_
  refine r_cVv (k := 24) (As := []) (rest := []) ⟨hx, hb, hml, hown, hts⟩ hK hP hN hS (c_X6_clear l D cA ad hI σ0 τ0 hR 24 ⟨by omega, by omega⟩) (cwV 0 hts gX7_read_X6_clear rfl rfl rfl (by decide +kernel) ⟨by decide, by decide⟩) (rv_Sent hK hP (by decide) (by decide)) rfl hl.1 rfl (Nat.le_of_ble_eq_true rfl) dX7_read_4 (Nat.zero_le _) (Nat.zero_le _) (fun u1 H1 locs1 hp1 hP hS => ?_)
  obtain ⟨σ1, τ1⟩ := u1
  obtain ⟨hR, f1, fL1, hp1_0, hp1_1⟩ : P_X6_clear σ0 τ0 24 σ1 τ1 := hp1
  have hP : va_P D vwCl (gw cA ad σ1 τ1) H1 := hP
  obtain rfl := FrL.nil fL1
  have hF := hF.step f1 (by decide)
  have gCT := gCT.ag (Agr.fr f1 (by decide))
  have gWH := gWH.ag (Agr.fr f1 (by decide))
  have t2 : (σ1 1 13).toInt = (σ0 1 13).toInt := congrArg Int32.toInt (f1.at 1 13 (by decide))
  have hr3 := rg_6_1 hR (k := 24) (by decide) (by decide)
  have hr4 := rg_6_2 hR (k := 24) (by decide) (by decide)
  refine lv_aload_n hx hb dX7_read_7 rfl (lv_at hl 0 rfl) ?_
  refine r_iconst hx hb dX7_read_8 (by decide) (fun z5 ez5 => ?_)
  refine r_cVi (k := 27) (As := [.int z5]) (rest := []) ⟨hx, hb, hml, hown, hts⟩ hK hP hN hS (c_X7_readCond_d1 l D cA ad hI σ1 τ0 hR z5 b N mo (posq b N mo 0) 0 nm hc (by omega) (by omega) (by omega) (by omega) gCT gWH) (cwV 1 hts gX7_read_X7_readCond rfl rfl rfl (by decide +kernel) ⟨by decide, by decide⟩) (rv_SText hK hP (by decide) (by decide)) rfl hl.1 rfl (Nat.le_of_ble_eq_true rfl) dX7_read_9 (Nat.zero_le _) (Nat.zero_le _) (fun r6 u6 H6 locs6 hp6 hP hS => ?_)
  obtain ⟨σ6, τ6⟩ := u6
  obtain ⟨hR, f6, fL6, hq6, hp6_0, hp6_1, gnWH⟩ : P_X7_readCond_d1 σ1 τ0 z5 b N mo (posq b N mo 0) 0 nm hc r6 σ6 τ6 := hp6
  have o1 := hp6_0
  have hP : va_P D vwCl (gw cA ad σ6 τ6) H6 := hP
  have hFL := hFL.step fL6 (by decide)
  have gWH := gWH.agL (AgrL.fr fL6 (by decide))
  have hF := hF.step f6 (by decide)
  have gWH := gWH.ag (Agr.fr f6 (by decide))
  have hr7 := rg_6_1 hR (k := 24) (by decide) (by decide)
  have hr8 := rg_6_2 hR (k := 24) (by decide) (by decide)
  refine r_if_ne (tgt := 17) hx hb dX7_read_12 (by decide) (fun c9 => ?_) (fun c9 => ?_)
  · replace hp6_1 := hp6_1.resolve_left (by omega)
    obtain ⟨s1, e1, gCT, hs1, hs2⟩ := o1.ye (by omega)
    have htk := gCT.tk
    refine lv_aload_n hx hb dX7_read_17 rfl (lv_at hl 0 rfl) ?_
    refine fg_7_0 (k := 27) hx hb hts in_X7_read_7 hown hK hP (by decide) (by decide) (hts _ lk_X7_read_9) dX7_read_18 ?_
    refine fgN_8_9 (k := 1) hx hb hts in_X7_read_8 hown hK hP (by decide) (by decide) (hN.use nw_7_32) dX7_read_21 ?_
    refine r_bipush hx hb dX7_read_24 (by decide) (fun z10 ez10 => ?_)
    refine r_icmp_eq (tgt := 38) hx hb dX7_read_26 (by decide) (fun c11 => ?_) (fun c11 => ?_)
    · refine lv_aload_n hx hb dX7_read_38 rfl (lv_at hl 0 rfl) ?_
      refine fg_7_2 (k := 27) hx hb hts in_X7_read_7 hown hK hP (by decide) (by decide) (hts _ lk_X7_read_19) dX7_read_39 ?_
      refine r_iconst hx hb dX7_read_42 (by decide) (fun z12 ez12 => ?_)
      refine fpN_6_0 (k := 24) hx hb hts in_X7_read_6 hown hK hP (by decide) (by decide) (hN.use nw_7_41) hI hR hS (by omega) dX7_read_43 (fun σ13 H13 locs13 u13 v13 hR hP hS => ?_)
      have hF := hF.puts u13 0 rfl (by decide) (by decide) (by decide) (by decide)
      have gCT := gCT.ag (Agr.put u13 (by decide))
      have gWH := gWH.ag (Agr.put u13 (by decide))
      have t14 : (σ13 24 1).toInt = (σ6 24 1).toInt := congrArg Int32.toInt (u13 24 1 (by omega))
      have t15 : (σ13 24 2).toInt = (σ6 24 2).toInt := congrArg Int32.toInt (u13 24 2 (by omega))
      have t16 : (σ13 1 13).toInt = (σ6 1 13).toInt := congrArg Int32.toInt (u13 1 13 (by omega))
      refine r_iconst hx hb dX7_read_46 (by decide) (fun z17 ez17 => ?_)
      exact r_zret hx hb hr hK hP hS hk (by omega) dX7_read_47 (show P_X7_read σ0 τ0 b N mo nm hc z17 σ13 τ6 from ⟨hR, hF, hFL, by omega, by first | (obtain ⟨f, e1, x1, x2⟩ := o1.no (by omega); exact RO.ofl (by unfold senP; rw [e1, bnd_l]) (by omega) x1 x2) | exact RO.ofk (by unfold senP; rw [e1, bnd_r, if_pos (by omega)]) (by omega) (by omega) (by omega) | exact RO.ofr (by unfold senP; rw [e1, bnd_r, if_neg (by omega)]) (by omega) (by omega), by omega, gWH⟩)
    · refine lv_aload_n hx hb dX7_read_29 rfl (lv_at hl 0 rfl) ?_
      refine fg_7_0 (k := 27) hx hb hts in_X7_read_7 hown hK hP (by decide) (by decide) (hts _ lk_X7_read_9) dX7_read_30 ?_
      refine r_iconst hx hb dX7_read_33 (by decide) (fun z18 ez18 => ?_)
      refine r_cVi (k := 1) (As := [.int z18]) (rest := []) ⟨hx, hb, hml, hown, hts⟩ hK hP hN hS (c_X8_blame_v l D cA ad hI σ6 τ6 hR z18 _ _ _ _ (by omega) gCT) (cwV 1 hts gX7_read_X8_blame rfl rfl rfl (by decide +kernel) ⟨by decide, by decide⟩) (rv_Tape hK hP (by decide) (by decide)) rfl hl.1 rfl (Nat.le_of_ble_eq_true rfl) dX7_read_34 (Nat.zero_le _) (Nat.zero_le _) (fun r19 u19 H19 locs19 hp19 hP hS => ?_)
      obtain ⟨σ19, τ19⟩ := u19
      obtain ⟨hR, f19, fL19, hq19, hp19_0, hp19_1, hp19_2, gnCT⟩ : P_X8_blame_v σ6 τ6 z18 _ _ _ _ r19 σ19 τ19 := hp19
      have hP : va_P D vwCl (gw cA ad σ19 τ19) H19 := hP
      obtain rfl := FrL.nil fL19
      have hF := hF.step f19 (by decide)
      have gCT := gCT.ag (Agr.fr f19 (by decide))
      have gWH := gWH.ag (Agr.fr f19 (by decide))
      have t20 : (σ19 24 1).toInt = (σ6 24 1).toInt := congrArg Int32.toInt (f19.at 24 1 (by decide))
      have t21 : (σ19 24 2).toInt = (σ6 24 2).toInt := congrArg Int32.toInt (f19.at 24 2 (by decide))
      exact r_zret hx hb hr hK hP hS hk (by omega) dX7_read_37 (show P_X7_read σ0 τ0 b N mo nm hc r19 σ19 τ6 from ⟨hR, hF, hFL, by omega, by first | (obtain ⟨f, e1, x1, x2⟩ := o1.no (by omega); exact RO.ofl (by unfold senP; rw [e1, bnd_l]) (by omega) x1 x2) | exact RO.ofk (by unfold senP; rw [e1, bnd_r, if_pos (by omega)]) (by omega) (by omega) (by omega) | exact RO.ofr (by unfold senP; rw [e1, bnd_r, if_neg (by omega)]) (by omega) (by omega), by omega, gWH⟩)
  · clear hp6_1
    refine r_iconst hx hb dX7_read_15 (by decide) (fun z22 ez22 => ?_)
    exact r_zret hx hb hr hK hP hS hk (by omega) dX7_read_16 (show P_X7_read σ0 τ0 b N mo nm hc z22 σ6 τ6 from ⟨hR, hF, hFL, by omega, by first | (obtain ⟨f, e1, x1, x2⟩ := o1.no (by omega); exact RO.ofl (by unfold senP; rw [e1, bnd_l]) (by omega) x1 x2) | exact RO.ofk (by unfold senP; rw [e1, bnd_r, if_pos (by omega)]) (by omega) (by omega) (by omega) | exact RO.ofr (by unfold senP; rw [e1, bnd_r, if_neg (by omega)]) (by omega) (by omega), by omega, gWH⟩)
theorem in_X0_hearersSoFar_0 : ∀ w ∈ u_ws RX0 TX0 3, w ∈ wsX0_hearersSoFar := by decide +kernel
theorem in_X0_hearersSoFar_2 : ∀ w ∈ u_ws RX2 TX2 7, w ∈ wsX0_hearersSoFar := by decide +kernel
theorem lk_X0_hearersSoFar_15 : Cond.fieldLink RX0 15 "CuckooShares$Acts" "camp" "LCuckooShares$Camp;" ∈ wsX0_hearersSoFar := by decide +kernel
abbrev L_X0_hearersSoFar : List Rc := [(360, 360, 0, 7), (361, 361, 0, 7), (362, 362, 0, 7)]
abbrev LL_X0_hearersSoFar : List Rc := []
def P_X0_hearersSoFar (σ0 : Nat → Nat → Int32) (τ0 : Nat → Nat → Int64)  (r : Int32) (σ : Nat → Nat → Int32) (τ : Nat → Nat → Int64) : Prop := Rg σ ∧ Fr L_X0_hearersSoFar σ0 σ ∧ FrL LL_X0_hearersSoFar τ0 τ
def J_X0_hearersSoFar_19 (p : Program) (l : Launch) (e : Env) (s : State) (m : MethodId) (args : Array Value) (below : List Frame) (meth : Method) (c : Code) (D : va_G) (cA : Nat → ClassId) (ad : Nat → Nat) (σ0 : Nat → Nat → Int32) (τ0 : Nat → Nat → Int64)  (n : Nat) : Prop := ∀ (σ : Nat → Nat → Int32) (τ : Nat → Nat → Int64) (H : Heap) (locs : List Loc) (x2 : Int32) (x3 : Int32) (x4 : Int32) (ls : Array Slot), Rg σ → Fr L_X0_hearersSoFar σ0 σ → FrL LL_X0_hearersSoFar τ0 τ → va_P D vwCl (gw cA ad σ τ) H → va_S (AA ad) s.heap H locs → (0 ≤ x2.toInt ∧ x2.toInt ≤ 10) → (0 ≤ x4.toInt ∧ x4.toInt ≤ 10) → (x2.toInt = 0 ∨ (0 ≤ (σ 7 1).toInt ∧ (σ 7 1).toInt ≤ 3)) → lv_has ls 5 [(0, .ref (ad 22)), (1, .ref (ad 7)), (2, .int x2), (3, .int x3), (4, .int x4)] → 2 * (10 - x4.toInt) + 1 < (n : Int) → W p l e ({ frames := 4, cells := 0, slots := 0, locals := 95 } : Room) s m args below meth c H locs 0 0 (MQ below (va_Qi (fun (r : Int32) (u : SS) => P_X0_hearersSoFar σ0 τ0 r u.1 u.2) (WB D cA ad) (AA ad)) args s 0 0 (AA ad)) (F0 m 19 ls [])
set_option maxHeartbeats 4000000 in
theorem B_X0_hearersSoFar_19 (p : Program) (l : Launch) (e : Env) (s : State) (m : MethodId) (args : Array Value) (below : List Frame) (meth : Method) (c : Code) (D : va_G) (cA : Nat → ClassId) (ad : Nat → Nat) (σ0 : Nat → Nat → Int32) (τ0 : Nat → Nat → Int64)  (n : Nat) (C : Cy p s m args meth c cX0_hearersSoFar 5 wsX0_hearersSoFar RX0 D cA ad (some .int))  (K19 : J_X0_hearersSoFar_19 p l e s m args below meth c D cA ad σ0 τ0 n) : J_X0_hearersSoFar_19 p l e s m args below meth c D cA ad σ0 τ0 (n + 1) := by
  obtain ⟨hx, hb, hml, hown, hts, hK, hk, hr, hI, hN⟩ := C
  intro σ τ H locs x2 x3 x4 ls hR hF hFL hP hS hc0 hc1 hi0 hl hm
  obtain rfl := FrL.nil hFL
  refine lv_iload hx hb dX0_hearersSoFar_19 (lv_at hl 4 rfl) ?_
  refine lv_iload_n hx hb dX0_hearersSoFar_21 rfl (lv_at hl 2 rfl) ?_
  refine r_icmp_ge (tgt := 47) hx hb dX0_hearersSoFar_22 (by decide) (fun c1 => ?_) (fun c1 => ?_)
  · refine lv_iload_n hx hb dX0_hearersSoFar_47 rfl (lv_at hl 3 rfl) ?_
    exact r_iret hx hb hr hK hP hS hk dX0_hearersSoFar_48 (show P_X0_hearersSoFar σ0 τ0 x3 σ τ0 from ⟨hR, hF, hFL⟩)
  · refine lv_iload_n hx hb dX0_hearersSoFar_25 rfl (lv_at hl 3 rfl) ?_
    refine lv_aload_n hx hb dX0_hearersSoFar_26 rfl (lv_at hl 0 rfl) ?_
    refine fg_0_1 (k := 22) hx hb hts in_X0_hearersSoFar_0 hown hK hP (by decide) (by decide) (hts _ lk_X0_hearersSoFar_15) dX0_hearersSoFar_27 ?_
    refine lv_aload_n hx hb dX0_hearersSoFar_30 rfl (lv_at hl 1 rfl) ?_
    refine fgN_2_1 (k := 7) hx hb hts in_X0_hearersSoFar_2 hown hK hP (by decide) (by decide) (hN.use nw_0_19) dX0_hearersSoFar_31 ?_
    refine lv_iload hx hb dX0_hearersSoFar_34 (lv_at hl 4 rfl) ?_
    refine r_cVi (k := 21) (As := [.int (σ 7 1), .int x4]) (rest := [.int x3]) ⟨hx, hb, hml, hown, hts⟩ hK hP hN hS (c_X1_hearers l D cA ad hI σ τ0 hR (σ 7 1) x4 (by omega) (by omega)) (cwV 2 hts gX0_hearersSoFar_X1_hearers rfl rfl rfl (by decide +kernel) ⟨by decide, by decide⟩) (rv_Camp hK hP (by decide) (by decide)) rfl hl.1 rfl (Nat.le_of_ble_eq_true rfl) dX0_hearersSoFar_36 (Nat.zero_le _) (Nat.zero_le _) (fun r2 u2 H2 locs2 hp2 hP hS => ?_)
    obtain ⟨σ2, τ2⟩ := u2
    obtain ⟨hR, f2, fL2⟩ : P_X1_hearers σ τ0 (σ 7 1) x4 r2 σ2 τ2 := hp2
    have hP : va_P D vwCl (gw cA ad σ2 τ2) H2 := hP
    obtain rfl := FrL.nil fL2
    obtain rfl := Fr.nil f2
    refine r_iorU hx hb dX0_hearersSoFar_39 (fun z3 => ?_)
    refine lv_istore_n (lv' := [(3, .int z3), (0, .ref (ad 22)), (1, .ref (ad 7)), (2, .int x2), (4, .int x4)]) hx hb dX0_hearersSoFar_40 rfl hl (by decide) rfl (fun ls hl => ?_)
    refine r_iinc (k := 4) (lv1 := fun z4 => [(4, .int z4), (3, .int z3), (0, .ref (ad 22)), (1, .ref (ad 7)), (2, .int x2)]) hx hb dX0_hearersSoFar_41 hl rfl (by decide) (fun _ => rfl) (by decide) (by omega) (fun z4 ls ez4 hl => ?_)
    refine lv_goto (tgt := 19) hx hb dX0_hearersSoFar_44 (by decide) ?_
    exact K19 σ τ0 H2 locs2 x2 z3 z4 ls hR hF hFL hP hS (by omega) (by omega) (by omega) (lv_sub hl [2, 3, 4, 1, 0] rfl) (by omega)
theorem A_X0_hearersSoFar (p : Program) (l : Launch) (e : Env) (s : State) (m : MethodId) (args : Array Value) (below : List Frame) (meth : Method) (c : Code) (D : va_G) (cA : Nat → ClassId) (ad : Nat → Nat) (σ0 : Nat → Nat → Int32) (τ0 : Nat → Nat → Int64)  (C : Cy p s m args meth c cX0_hearersSoFar 5 wsX0_hearersSoFar RX0 D cA ad (some .int))  : ∀ n : Nat, J_X0_hearersSoFar_19 p l e s m args below meth c D cA ad σ0 τ0 n := by
  intro n
  induction n with
  | zero =>
    exact (by intro σ τ H locs x2 x3 x4 ls hR hF hFL hP hS hc0 hc1 hi0 hl hm; exfalso; omega)
  | succ n ih =>
    exact B_X0_hearersSoFar_19 p l e s m args below meth c D cA ad σ0 τ0 n C  ih
set_option maxHeartbeats 4000000 in
theorem c_X0_hearersSoFar (l : Launch) (D : va_G) (cA : Nat → ClassId) (ad : Nat → Nat) (hI : Inj ad) (σ0 : Nat → Nat → Int32) (τ0 : Nat → Nat → Int64) (hR : Rg σ0)   : Met l yX0_hearersSoFar wsX0_hearersSoFar ({ frames := 4, cells := 0, slots := 0, locals := 95 } : Room) (WQc D cA ad [.ref (ad 22), .ref (ad 7)] σ0 τ0) (va_Qi (fun (r : Int32) (u : SS) => P_X0_hearersSoFar σ0 τ0 r u.1 u.2) (WB D cA ad) (AA ad)) 0 0 (AA ad) := by
  refine Met.ofW (cc := cX0_hearersSoFar) (maxL := 5) (ret := (some .int)) (by decide) rfl ?_
  intro p e s m args below meth c s₁ B hml hv
  obtain ⟨rfl, hP, hK, hN⟩ := hv
  have C : Cy p s m _ meth c cX0_hearersSoFar 5 wsX0_hearersSoFar RX0 D cA ad (some .int) := ⟨B.exec, B.bytes, hml, findClass_of_methodNamed B.named, atoms_spec (ws := wsX0_hearersSoFar) B.pre, hK, B.notSynchronized, B.returns, hI, hN⟩
  have hl := lv_entry ([.ref (ad 22), .ref (ad 7)]) (n := 5) (Nat.le_of_ble_eq_true rfl)
  rw [lg_entry_eq]
  generalize (lg_sl ([.ref (ad 22), .ref (ad 7)]) ++ List.replicate (5 - (lg_sl ([.ref (ad 22), .ref (ad 7)])).length) Slot.unset).toArray = ls at hl ⊢
  have hl : lv_has ls 5 [(0, .ref (ad 22)), (1, .ref (ad 7))] := hl
  have hS : va_S (AA ad) s.heap s.heap [] := va_S.rf
  have hF : Fr L_X0_hearersSoFar σ0 σ0 := Fr.rf
  have hFL : FrL LL_X0_hearersSoFar τ0 τ0 := FrL.rf
  have hA := A_X0_hearersSoFar p l e s m _ below meth c D cA ad σ0 τ0 C  50
  have K19 := hA
  clear hA
  obtain ⟨hx, hb, _, hown, hts, _, hk, hr, _, _⟩ := C
  refine lv_aload_n hx hb dX0_hearersSoFar_0 rfl (lv_at hl 0 rfl) ?_
  refine fg_0_1 (k := 22) hx hb hts in_X0_hearersSoFar_0 hown hK hP (by decide) (by decide) (hts _ lk_X0_hearersSoFar_15) dX0_hearersSoFar_1 ?_
  refine lv_aload_n hx hb dX0_hearersSoFar_4 rfl (lv_at hl 1 rfl) ?_
  refine r_cVv (k := 21) (As := [.ref (ad 7)]) (rest := []) ⟨hx, hb, hml, hown, hts⟩ hK hP hN hS (c_X1_pitch l D cA ad hI σ0 τ0 hR 7 ⟨by omega, by omega⟩) (cwV 1 hts gX0_hearersSoFar_X1_pitch rfl rfl rfl (by decide +kernel) ⟨by decide, by decide⟩) (rv_Camp hK hP (by decide) (by decide)) rfl hl.1 rfl (Nat.le_of_ble_eq_true rfl) dX0_hearersSoFar_5 (Nat.zero_le _) (Nat.zero_le _) (fun u1 H1 locs1 hp1 hP hS => ?_)
  obtain ⟨σ1, τ1⟩ := u1
  obtain ⟨hR, f1, fL1⟩ : P_X1_pitch σ0 τ0 7 σ1 τ1 := hp1
  have hP : va_P D vwCl (gw cA ad σ1 τ1) H1 := hP
  obtain rfl := FrL.nil fL1
  have hF := hF.step f1 (by decide)
  refine lv_aload_n hx hb dX0_hearersSoFar_8 rfl (lv_at hl 0 rfl) ?_
  refine lv_aload_n hx hb dX0_hearersSoFar_9 rfl (lv_at hl 1 rfl) ?_
  refine r_cVi (k := 22) (As := [.ref (ad 7)]) (rest := []) ⟨hx, hb, hml, hown, hts⟩ hK hP hN hS (c_X0_past l D cA ad hI σ1 τ0 hR 7 ⟨by omega, by omega⟩) (cwV 1 hts gX0_hearersSoFar_X0_past rfl rfl rfl (by decide +kernel) ⟨by decide, by decide⟩) (rv_Acts hK hP (by decide) (by decide)) rfl hl.1 rfl (Nat.le_of_ble_eq_true rfl) dX0_hearersSoFar_10 (Nat.zero_le _) (Nat.zero_le _) (fun r2 u2 H2 locs2 hp2 hP hS => ?_)
  obtain ⟨σ2, τ2⟩ := u2
  obtain ⟨hR, f2, fL2, hq2, hp2_0⟩ : P_X0_past σ1 τ0 7 r2 σ2 τ2 := hp2
  have hP : va_P D vwCl (gw cA ad σ2 τ2) H2 := hP
  obtain rfl := FrL.nil fL2
  obtain rfl := Fr.nil f2
  refine lv_istore_n (lv' := [(2, .int r2), (0, .ref (ad 22)), (1, .ref (ad 7))]) hx hb dX0_hearersSoFar_13 rfl hl (by decide) rfl (fun ls hl => ?_)
  refine r_iconst hx hb dX0_hearersSoFar_14 (by decide) (fun z3 ez3 => ?_)
  refine lv_istore_n (lv' := [(3, .int z3), (2, .int r2), (0, .ref (ad 22)), (1, .ref (ad 7))]) hx hb dX0_hearersSoFar_15 rfl hl (by decide) rfl (fun ls hl => ?_)
  refine r_iconst hx hb dX0_hearersSoFar_16 (by decide) (fun z4 ez4 => ?_)
  refine lv_istore (lv' := [(4, .int z4), (3, .int z3), (2, .int r2), (0, .ref (ad 22)), (1, .ref (ad 7))]) hx hb dX0_hearersSoFar_17 hl (by decide) rfl (fun ls hl => ?_)
  exact K19 σ1 τ0 H2 locs2 r2 z3 z4 ls hR hF hFL hP hS (by omega) (by omega) (by omega) (lv_sub hl [3, 4, 2, 1, 0] rfl) (by omega)
theorem in_X6_isSo_6 : ∀ w ∈ u_ws RX6 TX6 7, w ∈ wsX6_isSo := by decide +kernel
theorem lk_X6_isSo_15 : Cond.fieldLink RX6 15 "CuckooShares$Sentence" "sign" "[I" ∈ wsX6_isSo := by decide +kernel
theorem lk_X6_isSo_18 : Cond.fieldLink RX6 18 "CuckooShares$Sentence" "value" "[I" ∈ wsX6_isSo := by decide +kernel
abbrev L_X6_isSo : List Rc := []
abbrev LL_X6_isSo : List Rc := []
def P_X6_isSo (σ0 : Nat → Nat → Int32) (τ0 : Nat → Nat → Int64) (a1 : Int32) (a2 : Int32) (r : Int32) (σ : Nat → Nat → Int32) (τ : Nat → Nat → Int64) : Prop := Rg σ ∧ Fr L_X6_isSo σ0 σ ∧ FrL LL_X6_isSo τ0 τ ∧ (0 ≤ r.toInt ∧ r.toInt ≤ 1)
set_option maxHeartbeats 4000000 in
theorem c_X6_isSo (l : Launch) (D : va_G) (cA : Nat → ClassId) (ad : Nat → Nat) (hI : Inj ad) (σ0 : Nat → Nat → Int32) (τ0 : Nat → Nat → Int64) (hR : Rg σ0) (a1 : Int32) (a2 : Int32) (ha1 : 0 ≤ a1.toInt ∧ a1.toInt ≤ 39) : Met l yX6_isSo wsX6_isSo ({ frames := 0, cells := 0, slots := 0, locals := 0 } : Room) (WQc D cA ad [.ref (ad 23), .int a1, .int a2] σ0 τ0) (va_Qi (fun (r : Int32) (u : SS) => P_X6_isSo σ0 τ0 a1 a2 r u.1 u.2) (WB D cA ad) (AA ad)) 0 0 (AA ad) := by
  refine Met.ofW (cc := cX6_isSo) (maxL := 3) (ret := (some .boolean)) (by decide) rfl ?_
  intro p e s m args below meth c s₁ B hml hv
  obtain ⟨rfl, hP, hK, hN⟩ := hv
  have C : Cy p s m _ meth c cX6_isSo 3 wsX6_isSo RX6 D cA ad (some .boolean) := ⟨B.exec, B.bytes, hml, findClass_of_methodNamed B.named, atoms_spec (ws := wsX6_isSo) B.pre, hK, B.notSynchronized, B.returns, hI, hN⟩
  have hl := lv_entry ([.ref (ad 23), .int a1, .int a2]) (n := 3) (Nat.le_of_ble_eq_true rfl)
  rw [lg_entry_eq]
  generalize (lg_sl ([.ref (ad 23), .int a1, .int a2]) ++ List.replicate (3 - (lg_sl ([.ref (ad 23), .int a1, .int a2])).length) Slot.unset).toArray = ls at hl ⊢
  have hl : lv_has ls 3 [(0, .ref (ad 23)), (1, .int a1), (2, .int a2)] := hl
  have hS : va_S (AA ad) s.heap s.heap [] := va_S.rf
  have hF : Fr L_X6_isSo σ0 σ0 := Fr.rf
  have hFL : FrL LL_X6_isSo τ0 τ0 := FrL.rf
  obtain ⟨hx, hb, _, hown, hts, _, hk, hr, _, _⟩ := C
  refine lv_aload_n hx hb dX6_isSo_0 rfl (lv_at hl 0 rfl) ?_
  refine fg_6_4 (k := 23) hx hb hts in_X6_isSo_6 hown hK hP (by decide) (by decide) (hts _ lk_X6_isSo_15) dX6_isSo_1 ?_
  refine lv_iload_n hx hb dX6_isSo_4 rfl (lv_at hl 1 rfl) ?_
  obtain ⟨j1, ej1⟩ : ∃ j : Nat, a1.toInt = (j : Int) := ⟨_, ti_nat (by omega)⟩
  refine ad_sent40 (k := 375) (j := j1) hx hb hK hP (by decide) (by decide) ej1 (by omega) dX6_isSo_5 ?_
  by_cases c2 : (σ0 375 j1).toInt = 41
  · refine lv_lookup (off := 26) (tgt := 32) hx hb dX6_isSo_6 (by decide) (by rw [c2]; rfl) (by decide) ?_
    refine lv_iload_n hx hb dX6_isSo_32 rfl (lv_at hl 2 rfl) ?_
    refine lv_aload_n hx hb dX6_isSo_33 rfl (lv_at hl 0 rfl) ?_
    refine fg_6_5 (k := 23) hx hb hts in_X6_isSo_6 hown hK hP (by decide) (by decide) (hts _ lk_X6_isSo_18) dX6_isSo_34 ?_
    refine lv_iload_n hx hb dX6_isSo_37 rfl (lv_at hl 1 rfl) ?_
    refine ad_sent40 (k := 379) (j := j1) hx hb hK hP (by decide) (by decide) ej1 (by omega) dX6_isSo_38 ?_
    refine r_icmp_ge (tgt := 46) hx hb dX6_isSo_39 (by decide) (fun c3 => ?_) (fun c3 => ?_)
    · refine r_iconst hx hb dX6_isSo_46 (by decide) (fun z4 ez4 => ?_)
      exact r_zret hx hb hr hK hP hS hk (by omega) dX6_isSo_47 (show P_X6_isSo σ0 τ0 a1 a2 z4 σ0 τ0 from ⟨hR, hF, hFL, by omega⟩)
    · refine r_iconst hx hb dX6_isSo_42 (by decide) (fun z5 ez5 => ?_)
      refine lv_goto (tgt := 47) hx hb dX6_isSo_43 (by decide) ?_
      exact r_zret hx hb hr hK hP hS hk (by omega) dX6_isSo_47 (show P_X6_isSo σ0 τ0 a1 a2 z5 σ0 τ0 from ⟨hR, hF, hFL, by omega⟩)
  by_cases c6 : (σ0 375 j1).toInt = 43
  · refine lv_lookup (off := 42) (tgt := 48) hx hb dX6_isSo_6 (by decide) (by rw [c6]; rfl) (by decide) ?_
    refine lv_iload_n hx hb dX6_isSo_48 rfl (lv_at hl 2 rfl) ?_
    refine lv_aload_n hx hb dX6_isSo_49 rfl (lv_at hl 0 rfl) ?_
    refine fg_6_5 (k := 23) hx hb hts in_X6_isSo_6 hown hK hP (by decide) (by decide) (hts _ lk_X6_isSo_18) dX6_isSo_50 ?_
    refine lv_iload_n hx hb dX6_isSo_53 rfl (lv_at hl 1 rfl) ?_
    refine ad_sent40 (k := 379) (j := j1) hx hb hK hP (by decide) (by decide) ej1 (by omega) dX6_isSo_54 ?_
    refine r_icmp_le (tgt := 62) hx hb dX6_isSo_55 (by decide) (fun c7 => ?_) (fun c7 => ?_)
    · refine r_iconst hx hb dX6_isSo_62 (by decide) (fun z8 ez8 => ?_)
      exact r_zret hx hb hr hK hP hS hk (by omega) dX6_isSo_63 (show P_X6_isSo σ0 τ0 a1 a2 z8 σ0 τ0 from ⟨hR, hF, hFL, by omega⟩)
    · refine r_iconst hx hb dX6_isSo_58 (by decide) (fun z9 ez9 => ?_)
      refine lv_goto (tgt := 63) hx hb dX6_isSo_59 (by decide) ?_
      exact r_zret hx hb hr hK hP hS hk (by omega) dX6_isSo_63 (show P_X6_isSo σ0 τ0 a1 a2 z9 σ0 τ0 from ⟨hR, hF, hFL, by omega⟩)
  refine lv_lookup (off := 58) (tgt := 64) hx hb dX6_isSo_6 (by decide) (by simp [Op.lookupswitch.offset, c2, Ne.symm c2, c6, Ne.symm c6]) (by decide) ?_
  refine lv_iload_n hx hb dX6_isSo_64 rfl (lv_at hl 2 rfl) ?_
  refine lv_aload_n hx hb dX6_isSo_65 rfl (lv_at hl 0 rfl) ?_
  refine fg_6_5 (k := 23) hx hb hts in_X6_isSo_6 hown hK hP (by decide) (by decide) (hts _ lk_X6_isSo_18) dX6_isSo_66 ?_
  refine lv_iload_n hx hb dX6_isSo_69 rfl (lv_at hl 1 rfl) ?_
  refine ad_sent40 (k := 379) (j := j1) hx hb hK hP (by decide) (by decide) ej1 (by omega) dX6_isSo_70 ?_
  refine r_icmp_ne (tgt := 78) hx hb dX6_isSo_71 (by decide) (fun c10 => ?_) (fun c10 => ?_)
  · refine r_iconst hx hb dX6_isSo_78 (by decide) (fun z11 ez11 => ?_)
    exact r_zret hx hb hr hK hP hS hk (by omega) dX6_isSo_79 (show P_X6_isSo σ0 τ0 a1 a2 z11 σ0 τ0 from ⟨hR, hF, hFL, by omega⟩)
  · refine r_iconst hx hb dX6_isSo_74 (by decide) (fun z12 ez12 => ?_)
    refine lv_goto (tgt := 79) hx hb dX6_isSo_75 (by decide) ?_
    exact r_zret hx hb hr hK hP hS hk (by omega) dX6_isSo_79 (show P_X6_isSo σ0 τ0 a1 a2 z12 σ0 τ0 from ⟨hR, hF, hFL, by omega⟩)
theorem in_X6_measure_2 : ∀ w ∈ u_ws RX2 TX2 7, w ∈ wsX6_measure := by decide +kernel
theorem in_X6_measure_9 : ∀ w ∈ u_ws RX9 TX9 14, w ∈ wsX6_measure := by decide +kernel
abbrev L_X6_measure : List Rc := []
abbrev LL_X6_measure : List Rc := []
def P_X6_measure (σ0 : Nat → Nat → Int32) (τ0 : Nat → Nat → Int64) (a0 : Int32) (a1 : Int32) (r : Int32) (σ : Nat → Nat → Int32) (τ : Nat → Nat → Int64) : Prop := Rg σ ∧ Fr L_X6_measure σ0 σ ∧ FrL LL_X6_measure τ0 τ
set_option maxHeartbeats 4000000 in
theorem c_X6_measure (l : Launch) (D : va_G) (cA : Nat → ClassId) (ad : Nat → Nat) (hI : Inj ad) (σ0 : Nat → Nat → Int32) (τ0 : Nat → Nat → Int64) (hR : Rg σ0) (a0 : Int32) (a1 : Int32) (ha1 : 0 ≤ a1.toInt ∧ a1.toInt ≤ 7) : Met l yX6_measure wsX6_measure ({ frames := 0, cells := 0, slots := 0, locals := 0 } : Room) (WQc D cA ad [.int a0, .int a1, .ref (ad 2), .ref (ad 7)] σ0 τ0) (va_Qi (fun (r : Int32) (u : SS) => P_X6_measure σ0 τ0 a0 a1 r u.1 u.2) (WB D cA ad) (AA ad)) 0 0 (AA ad) := by
  refine Met.ofW (cc := cX6_measure) (maxL := 4) (ret := (some .int)) (by decide) rfl ?_
  intro p e s m args below meth c s₁ B hml hv
  obtain ⟨rfl, hP, hK, hN⟩ := hv
  have C : Cy p s m _ meth c cX6_measure 4 wsX6_measure RX6 D cA ad (some .int) := ⟨B.exec, B.bytes, hml, findClass_of_methodNamed B.named, atoms_spec (ws := wsX6_measure) B.pre, hK, B.notSynchronized, B.returns, hI, hN⟩
  have hl := lv_entry ([.int a0, .int a1, .ref (ad 2), .ref (ad 7)]) (n := 4) (Nat.le_of_ble_eq_true rfl)
  rw [lg_entry_eq]
  generalize (lg_sl ([.int a0, .int a1, .ref (ad 2), .ref (ad 7)]) ++ List.replicate (4 - (lg_sl ([.int a0, .int a1, .ref (ad 2), .ref (ad 7)])).length) Slot.unset).toArray = ls at hl ⊢
  have hl : lv_has ls 4 [(0, .int a0), (1, .int a1), (2, .ref (ad 2)), (3, .ref (ad 7))] := hl
  have hS : va_S (AA ad) s.heap s.heap [] := va_S.rf
  have hF : Fr L_X6_measure σ0 σ0 := Fr.rf
  have hFL : FrL LL_X6_measure τ0 τ0 := FrL.rf
  obtain ⟨hx, hb, _, hown, hts, _, hk, hr, _, _⟩ := C
  refine lv_iload_n hx hb dX6_measure_0 rfl (lv_at hl 0 rfl) ?_
  by_cases c1 : a0.toInt = 10
  · refine lv_lookup (off := 51) (tgt := 52) hx hb dX6_measure_1 (by decide) (by rw [c1]; rfl) (by decide) ?_
    refine lv_aload_n hx hb dX6_measure_52 rfl (lv_at hl 2 rfl) ?_
    refine fgN_9_10 (k := 2) hx hb hts in_X6_measure_9 hown hK hP (by decide) (by decide) (hN.use nw_6_85) dX6_measure_53 ?_
    refine lv_iload_n hx hb dX6_measure_56 rfl (lv_at hl 1 rfl) ?_
    obtain ⟨j2, ej2⟩ : ∃ j : Nat, a1.toInt = (j : Int) := ⟨_, ti_nat (by omega)⟩
    refine ad_manA (k := 52) (j := j2) hx hb hK hP (by decide) (by decide) ej2 (by omega) dX6_measure_57 ?_
    refine r_iconst hx hb dX6_measure_58 (by decide) (fun z3 ez3 => ?_)
    refine ad_manR (k := 100 + j2) (j := 3) hx hb hK hP (by omega) (by omega) (by omega) (by omega) dX6_measure_59 ?_
    exact r_iret hx hb hr hK hP hS hk dX6_measure_60 (show P_X6_measure σ0 τ0 a0 a1 (σ0 (100 + j2) 3) σ0 τ0 from ⟨hR, hF, hFL⟩)
  by_cases c4 : a0.toInt = 11
  · refine lv_lookup (off := 60) (tgt := 61) hx hb dX6_measure_1 (by decide) (by rw [c4]; rfl) (by decide) ?_
    refine lv_aload_n hx hb dX6_measure_61 rfl (lv_at hl 2 rfl) ?_
    refine fgN_9_10 (k := 2) hx hb hts in_X6_measure_9 hown hK hP (by decide) (by decide) (hN.use nw_6_85) dX6_measure_62 ?_
    refine lv_iload_n hx hb dX6_measure_65 rfl (lv_at hl 1 rfl) ?_
    obtain ⟨j5, ej5⟩ : ∃ j : Nat, a1.toInt = (j : Int) := ⟨_, ti_nat (by omega)⟩
    refine ad_manA (k := 52) (j := j5) hx hb hK hP (by decide) (by decide) ej5 (by omega) dX6_measure_66 ?_
    refine r_iconst hx hb dX6_measure_67 (by decide) (fun z6 ez6 => ?_)
    refine ad_manR (k := 100 + j5) (j := 4) hx hb hK hP (by omega) (by omega) (by omega) (by omega) dX6_measure_68 ?_
    refine r_iconst hx hb dX6_measure_69 (by decide) (fun z7 ez7 => ?_)
    refine r_icmp_ne (tgt := 77) hx hb dX6_measure_70 (by decide) (fun c8 => ?_) (fun c8 => ?_)
    · refine r_iconst hx hb dX6_measure_77 (by decide) (fun z9 ez9 => ?_)
      exact r_iret hx hb hr hK hP hS hk dX6_measure_78 (show P_X6_measure σ0 τ0 a0 a1 z9 σ0 τ0 from ⟨hR, hF, hFL⟩)
    · refine r_iconst hx hb dX6_measure_73 (by decide) (fun z10 ez10 => ?_)
      refine lv_goto (tgt := 78) hx hb dX6_measure_74 (by decide) ?_
      exact r_iret hx hb hr hK hP hS hk dX6_measure_78 (show P_X6_measure σ0 τ0 a0 a1 z10 σ0 τ0 from ⟨hR, hF, hFL⟩)
  by_cases c11 : a0.toInt = 27
  · refine lv_lookup (off := 78) (tgt := 79) hx hb dX6_measure_1 (by decide) (by rw [c11]; rfl) (by decide) ?_
    refine lv_aload_n hx hb dX6_measure_79 rfl (lv_at hl 3 rfl) ?_
    refine fgN_2_4 (k := 7) hx hb hts in_X6_measure_2 hown hK hP (by decide) (by decide) (hN.use nw_6_89) dX6_measure_80 ?_
    refine lv_iload_n hx hb dX6_measure_83 rfl (lv_at hl 1 rfl) ?_
    obtain ⟨j12, ej12⟩ : ∃ j : Nat, a1.toInt = (j : Int) := ⟨_, ti_nat (by omega)⟩
    refine ad_days8 (k := 321) (j := j12) hx hb hK hP (by decide) (by decide) ej12 (by omega) dX6_measure_84 ?_
    exact r_iret hx hb hr hK hP hS hk dX6_measure_85 (show P_X6_measure σ0 τ0 a0 a1 (σ0 321 j12) σ0 τ0 from ⟨hR, hF, hFL⟩)
  by_cases c13 : a0.toInt = 28
  · refine lv_lookup (off := 85) (tgt := 86) hx hb dX6_measure_1 (by decide) (by rw [c13]; rfl) (by decide) ?_
    refine lv_aload_n hx hb dX6_measure_86 rfl (lv_at hl 3 rfl) ?_
    refine fgN_2_6 (k := 7) hx hb hts in_X6_measure_2 hown hK hP (by decide) (by decide) (hN.use nw_6_92) dX6_measure_87 ?_
    refine lv_iload_n hx hb dX6_measure_90 rfl (lv_at hl 1 rfl) ?_
    obtain ⟨j14, ej14⟩ : ∃ j : Nat, a1.toInt = (j : Int) := ⟨_, ti_nat (by omega)⟩
    refine ad_days8 (k := 347) (j := j14) hx hb hK hP (by decide) (by decide) ej14 (by omega) dX6_measure_91 ?_
    exact r_iret hx hb hr hK hP hS hk dX6_measure_92 (show P_X6_measure σ0 τ0 a0 a1 (σ0 347 j14) σ0 τ0 from ⟨hR, hF, hFL⟩)
  by_cases c15 : a0.toInt = 29
  · refine lv_lookup (off := 92) (tgt := 93) hx hb dX6_measure_1 (by decide) (by rw [c15]; rfl) (by decide) ?_
    refine lv_aload_n hx hb dX6_measure_93 rfl (lv_at hl 2 rfl) ?_
    refine fgN_9_10 (k := 2) hx hb hts in_X6_measure_9 hown hK hP (by decide) (by decide) (hN.use nw_6_85) dX6_measure_94 ?_
    refine lv_iload_n hx hb dX6_measure_97 rfl (lv_at hl 1 rfl) ?_
    obtain ⟨j16, ej16⟩ : ∃ j : Nat, a1.toInt = (j : Int) := ⟨_, ti_nat (by omega)⟩
    refine ad_manA (k := 52) (j := j16) hx hb hK hP (by decide) (by decide) ej16 (by omega) dX6_measure_98 ?_
    refine r_iconst hx hb dX6_measure_99 (by decide) (fun z17 ez17 => ?_)
    refine ad_manR (k := 100 + j16) (j := 1) hx hb hK hP (by omega) (by omega) (by omega) (by omega) dX6_measure_100 ?_
    exact r_iret hx hb hr hK hP hS hk dX6_measure_101 (show P_X6_measure σ0 τ0 a0 a1 (σ0 (100 + j16) 1) σ0 τ0 from ⟨hR, hF, hFL⟩)
  refine lv_lookup (off := 101) (tgt := 102) hx hb dX6_measure_1 (by decide) (by simp [Op.lookupswitch.offset, c1, Ne.symm c1, c4, Ne.symm c4, c11, Ne.symm c11, c13, Ne.symm c13, c15, Ne.symm c15]) (by decide) ?_
  refine lv_iload_n hx hb dX6_measure_102 rfl (lv_at hl 1 rfl) ?_
  exact r_iret hx hb hr hK hP hS hk dX6_measure_103 (show P_X6_measure σ0 τ0 a0 a1 a1 σ0 τ0 from ⟨hR, hF, hFL⟩)
theorem in_X6_menWhoAre_6 : ∀ w ∈ u_ws RX6 TX6 7, w ∈ wsX6_menWhoAre := by decide +kernel
theorem in_X6_menWhoAre_9 : ∀ w ∈ u_ws RX9 TX9 14, w ∈ wsX6_menWhoAre := by decide +kernel
theorem lk_X6_menWhoAre_9 : Cond.fieldLink RX6 9 "CuckooShares$Sentence" "word" "[I" ∈ wsX6_menWhoAre := by decide +kernel
abbrev L_X6_menWhoAre : List Rc := []
abbrev LL_X6_menWhoAre : List Rc := []
def P_X6_menWhoAre (σ0 : Nat → Nat → Int32) (τ0 : Nat → Nat → Int64) (a1 : Int32) (r : Int32) (σ : Nat → Nat → Int32) (τ : Nat → Nat → Int64) : Prop := Rg σ ∧ Fr L_X6_menWhoAre σ0 σ ∧ FrL LL_X6_menWhoAre τ0 τ
def J_X6_menWhoAre_6 (p : Program) (l : Launch) (e : Env) (s : State) (m : MethodId) (args : Array Value) (below : List Frame) (meth : Method) (c : Code) (D : va_G) (cA : Nat → ClassId) (ad : Nat → Nat) (σ0 : Nat → Nat → Int32) (τ0 : Nat → Nat → Int64) (a1 : Int32) (n : Nat) : Prop := ∀ (σ : Nat → Nat → Int32) (τ : Nat → Nat → Int64) (H : Heap) (locs : List Loc) (x4 : Int32) (x5 : Int32) (ls : Array Slot), Rg σ → Fr L_X6_menWhoAre σ0 σ → FrL LL_X6_menWhoAre τ0 τ → va_P D vwCl (gw cA ad σ τ) H → va_S (AA ad) s.heap H locs → (0 ≤ x5.toInt ∧ x5.toInt ≤ 8) → lv_has ls 6 [(0, .ref (ad 23)), (1, .int a1), (2, .ref (ad 2)), (3, .ref (ad 7)), (4, .int x4), (5, .int x5)] → 2 * (8 - x5.toInt) + 1 < (n : Int) → W p l e ({ frames := 1, cells := 0, slots := 0, locals := 23 } : Room) s m args below meth c H locs 0 0 (MQ below (va_Qi (fun (r : Int32) (u : SS) => P_X6_menWhoAre σ0 τ0 a1 r u.1 u.2) (WB D cA ad) (AA ad)) args s 0 0 (AA ad)) (F0 m 6 ls [])
set_option maxHeartbeats 4000000 in
theorem B_X6_menWhoAre_6 (p : Program) (l : Launch) (e : Env) (s : State) (m : MethodId) (args : Array Value) (below : List Frame) (meth : Method) (c : Code) (D : va_G) (cA : Nat → ClassId) (ad : Nat → Nat) (σ0 : Nat → Nat → Int32) (τ0 : Nat → Nat → Int64) (a1 : Int32) (n : Nat) (C : Cy p s m args meth c cX6_menWhoAre 6 wsX6_menWhoAre RX6 D cA ad (some .int)) (ha1 : 0 ≤ a1.toInt ∧ a1.toInt ≤ 39) (K6 : J_X6_menWhoAre_6 p l e s m args below meth c D cA ad σ0 τ0 a1 n) : J_X6_menWhoAre_6 p l e s m args below meth c D cA ad σ0 τ0 a1 (n + 1) := by
  obtain ⟨hx, hb, hml, hown, hts, hK, hk, hr, hI, hN⟩ := C
  intro σ τ H locs x4 x5 ls hR hF hFL hP hS hc0 hl hm
  obtain rfl := Fr.nil hF
  obtain rfl := FrL.nil hFL
  refine lv_iload hx hb dX6_menWhoAre_6 (lv_at hl 5 rfl) ?_
  refine lv_aload_n hx hb dX6_menWhoAre_8 rfl (lv_at hl 2 rfl) ?_
  refine fgN_9_5 (k := 2) hx hb hts in_X6_menWhoAre_9 hown hK hP (by decide) (by decide) (hN.use nw_6_51) dX6_menWhoAre_9 ?_
  have hr1 := rg_9_5 hR (k := 2) (by decide) (by decide)
  refine r_icmp_ge (tgt := 51) hx hb dX6_menWhoAre_12 (by decide) (fun c2 => ?_) (fun c2 => ?_)
  · refine lv_iload hx hb dX6_menWhoAre_51 (lv_at hl 4 rfl) ?_
    exact r_iret hx hb hr hK hP hS hk dX6_menWhoAre_53 (show P_X6_menWhoAre σ0 τ0 a1 x4 σ0 τ0 from ⟨hR, hF, hFL⟩)
  · refine lv_aload_n hx hb dX6_menWhoAre_15 rfl (lv_at hl 0 rfl) ?_
    refine lv_iload_n hx hb dX6_menWhoAre_16 rfl (lv_at hl 1 rfl) ?_
    refine lv_aload_n hx hb dX6_menWhoAre_17 rfl (lv_at hl 0 rfl) ?_
    refine fg_6_3 (k := 23) hx hb hts in_X6_menWhoAre_6 hown hK hP (by decide) (by decide) (hts _ lk_X6_menWhoAre_9) dX6_menWhoAre_18 ?_
    refine lv_iload_n hx hb dX6_menWhoAre_21 rfl (lv_at hl 1 rfl) ?_
    obtain ⟨j3, ej3⟩ : ∃ j : Nat, a1.toInt = (j : Int) := ⟨_, ti_nat (by omega)⟩
    refine ad_sent40 (k := 371) (j := j3) hx hb hK hP (by decide) (by decide) ej3 (by omega) dX6_menWhoAre_22 ?_
    refine lv_iload hx hb dX6_menWhoAre_23 (lv_at hl 5 rfl) ?_
    refine lv_aload_n hx hb dX6_menWhoAre_25 rfl (lv_at hl 2 rfl) ?_
    refine lv_aload_n hx hb dX6_menWhoAre_26 rfl (lv_at hl 3 rfl) ?_
    refine r_cSi (As := [.int (σ0 371 j3), .int x5, .ref (ad 2), .ref (ad 7)]) (rest := [.int a1, .ref (ad 23)]) ⟨hx, hb, hml, hown, hts⟩ hK hP hN hS (c_X6_measure l D cA ad hI σ0 τ0 hR (σ0 371 j3) x5 (by omega)) (va_cwS 4 hts gX6_menWhoAre_X6_measure rfl rfl rfl (by decide +kernel) ⟨by decide, by decide⟩) rfl hl.1 rfl (Nat.le_of_ble_eq_true rfl) dX6_menWhoAre_27 (Nat.zero_le _) (Nat.zero_le _) (fun r4 u4 H4 locs4 hp4 hP hS => ?_)
    obtain ⟨σ4, τ4⟩ := u4
    obtain ⟨hR, f4, fL4⟩ : P_X6_measure σ0 τ0 (σ0 371 j3) x5 r4 σ4 τ4 := hp4
    have hP : va_P D vwCl (gw cA ad σ4 τ4) H4 := hP
    obtain rfl := FrL.nil fL4
    obtain rfl := Fr.nil f4
    refine r_cVi (k := 23) (As := [.int a1, .int r4]) (rest := []) ⟨hx, hb, hml, hown, hts⟩ hK hP hN hS (c_X6_isSo l D cA ad hI σ0 τ0 hR a1 r4 (by omega)) (cwV 2 hts gX6_menWhoAre_X6_isSo rfl rfl rfl (by decide +kernel) ⟨by decide, by decide⟩) (rv_Sent hK hP (by decide) (by decide)) rfl hl.1 rfl (Nat.le_of_ble_eq_true rfl) dX6_menWhoAre_30 (Nat.zero_le _) (Nat.zero_le _) (fun r5 u5 H5 locs5 hp5 hP hS => ?_)
    obtain ⟨σ5, τ5⟩ := u5
    obtain ⟨hR, f5, fL5, hq5⟩ : P_X6_isSo σ0 τ0 a1 r4 r5 σ5 τ5 := hp5
    have hP : va_P D vwCl (gw cA ad σ5 τ5) H5 := hP
    obtain rfl := FrL.nil fL5
    obtain rfl := Fr.nil f5
    refine r_if_eq (tgt := 45) hx hb dX6_menWhoAre_33 (by decide) (fun c6 => ?_) (fun c6 => ?_)
    · refine r_iinc (k := 5) (lv1 := fun z7 => [(5, .int z7), (0, .ref (ad 23)), (1, .int a1), (2, .ref (ad 2)), (3, .ref (ad 7)), (4, .int x4)]) hx hb dX6_menWhoAre_45 hl rfl (by decide) (fun _ => rfl) (by decide) (by omega) (fun z7 ls ez7 hl => ?_)
      refine lv_goto (tgt := 6) hx hb dX6_menWhoAre_48 (by decide) ?_
      exact K6 σ0 τ0 H5 locs5 x4 z7 ls hR hF hFL hP hS (by omega) (lv_sub hl [1, 2, 3, 4, 5, 0] rfl) (by omega)
    · refine lv_iload hx hb dX6_menWhoAre_36 (lv_at hl 4 rfl) ?_
      refine r_iconst hx hb dX6_menWhoAre_38 (by decide) (fun z8 ez8 => ?_)
      refine lv_iload hx hb dX6_menWhoAre_39 (lv_at hl 5 rfl) ?_
      refine r_ishlU hx hb dX6_menWhoAre_41 (fun z9 => ?_)
      refine r_iorU hx hb dX6_menWhoAre_42 (fun z10 => ?_)
      refine lv_istore (lv' := [(4, .int z10), (0, .ref (ad 23)), (1, .int a1), (2, .ref (ad 2)), (3, .ref (ad 7)), (5, .int x5)]) hx hb dX6_menWhoAre_43 hl (by decide) rfl (fun ls hl => ?_)
      refine r_iinc (k := 5) (lv1 := fun z11 => [(5, .int z11), (4, .int z10), (0, .ref (ad 23)), (1, .int a1), (2, .ref (ad 2)), (3, .ref (ad 7))]) hx hb dX6_menWhoAre_45 hl rfl (by decide) (fun _ => rfl) (by decide) (by omega) (fun z11 ls ez11 hl => ?_)
      refine lv_goto (tgt := 6) hx hb dX6_menWhoAre_48 (by decide) ?_
      exact K6 σ0 τ0 H5 locs5 z10 z11 ls hR hF hFL hP hS (by omega) (lv_sub hl [2, 3, 4, 5, 1, 0] rfl) (by omega)
theorem A_X6_menWhoAre (p : Program) (l : Launch) (e : Env) (s : State) (m : MethodId) (args : Array Value) (below : List Frame) (meth : Method) (c : Code) (D : va_G) (cA : Nat → ClassId) (ad : Nat → Nat) (σ0 : Nat → Nat → Int32) (τ0 : Nat → Nat → Int64) (a1 : Int32) (C : Cy p s m args meth c cX6_menWhoAre 6 wsX6_menWhoAre RX6 D cA ad (some .int)) (ha1 : 0 ≤ a1.toInt ∧ a1.toInt ≤ 39) : ∀ n : Nat, J_X6_menWhoAre_6 p l e s m args below meth c D cA ad σ0 τ0 a1 n := by
  intro n
  induction n with
  | zero =>
    exact (by intro σ τ H locs x4 x5 ls hR hF hFL hP hS hc0 hl hm; exfalso; omega)
  | succ n ih =>
    exact B_X6_menWhoAre_6 p l e s m args below meth c D cA ad σ0 τ0 a1 n C ha1 ih
set_option maxHeartbeats 4000000 in
theorem c_X6_menWhoAre (l : Launch) (D : va_G) (cA : Nat → ClassId) (ad : Nat → Nat) (hI : Inj ad) (σ0 : Nat → Nat → Int32) (τ0 : Nat → Nat → Int64) (hR : Rg σ0) (a1 : Int32) (ha1 : 0 ≤ a1.toInt ∧ a1.toInt ≤ 39) : Met l yX6_menWhoAre wsX6_menWhoAre ({ frames := 1, cells := 0, slots := 0, locals := 23 } : Room) (WQc D cA ad [.ref (ad 23), .int a1, .ref (ad 2), .ref (ad 7)] σ0 τ0) (va_Qi (fun (r : Int32) (u : SS) => P_X6_menWhoAre σ0 τ0 a1 r u.1 u.2) (WB D cA ad) (AA ad)) 0 0 (AA ad) := by
  refine Met.ofW (cc := cX6_menWhoAre) (maxL := 6) (ret := (some .int)) (by decide) rfl ?_
  intro p e s m args below meth c s₁ B hml hv
  obtain ⟨rfl, hP, hK, hN⟩ := hv
  have C : Cy p s m _ meth c cX6_menWhoAre 6 wsX6_menWhoAre RX6 D cA ad (some .int) := ⟨B.exec, B.bytes, hml, findClass_of_methodNamed B.named, atoms_spec (ws := wsX6_menWhoAre) B.pre, hK, B.notSynchronized, B.returns, hI, hN⟩
  have hl := lv_entry ([.ref (ad 23), .int a1, .ref (ad 2), .ref (ad 7)]) (n := 6) (Nat.le_of_ble_eq_true rfl)
  rw [lg_entry_eq]
  generalize (lg_sl ([.ref (ad 23), .int a1, .ref (ad 2), .ref (ad 7)]) ++ List.replicate (6 - (lg_sl ([.ref (ad 23), .int a1, .ref (ad 2), .ref (ad 7)])).length) Slot.unset).toArray = ls at hl ⊢
  have hl : lv_has ls 6 [(0, .ref (ad 23)), (1, .int a1), (2, .ref (ad 2)), (3, .ref (ad 7))] := hl
  have hS : va_S (AA ad) s.heap s.heap [] := va_S.rf
  have hF : Fr L_X6_menWhoAre σ0 σ0 := Fr.rf
  have hFL : FrL LL_X6_menWhoAre τ0 τ0 := FrL.rf
  have hA := A_X6_menWhoAre p l e s m _ below meth c D cA ad σ0 τ0 a1 C ha1 42
  have K6 := hA
  clear hA
  obtain ⟨hx, hb, _, hown, hts, _, hk, hr, _, _⟩ := C
  refine r_iconst hx hb dX6_menWhoAre_0 (by decide) (fun z1 ez1 => ?_)
  refine lv_istore (lv' := [(4, .int z1), (0, .ref (ad 23)), (1, .int a1), (2, .ref (ad 2)), (3, .ref (ad 7))]) hx hb dX6_menWhoAre_1 hl (by decide) rfl (fun ls hl => ?_)
  refine r_iconst hx hb dX6_menWhoAre_3 (by decide) (fun z2 ez2 => ?_)
  refine lv_istore (lv' := [(5, .int z2), (4, .int z1), (0, .ref (ad 23)), (1, .int a1), (2, .ref (ad 2)), (3, .ref (ad 7))]) hx hb dX6_menWhoAre_4 hl (by decide) rfl (fun ls hl => ?_)
  exact K6 σ0 τ0 s.heap [] z1 z2 ls hR hF hFL hP hS (by omega) (lv_sub hl [2, 3, 4, 5, 1, 0] rfl) (by omega)
theorem in_X6_menOfStep_6 : ∀ w ∈ u_ws RX6 TX6 7, w ∈ wsX6_menOfStep := by decide +kernel
theorem in_X6_menOfStep_9 : ∀ w ∈ u_ws RX9 TX9 14, w ∈ wsX6_menOfStep := by decide +kernel
theorem lk_X6_menOfStep_18 : Cond.fieldLink RX6 18 "CuckooShares$Sentence" "value" "[I" ∈ wsX6_menOfStep := by decide +kernel
theorem lk_X6_menOfStep_9 : Cond.fieldLink RX6 9 "CuckooShares$Sentence" "word" "[I" ∈ wsX6_menOfStep := by decide +kernel
abbrev L_X6_menOfStep : List Rc := [(360, 360, 0, 7), (361, 361, 0, 7), (362, 362, 0, 7)]
abbrev LL_X6_menOfStep : List Rc := []
def P_X6_menOfStep (σ0 : Nat → Nat → Int32) (τ0 : Nat → Nat → Int64) (a1 : Int32) (r : Int32) (σ : Nat → Nat → Int32) (τ : Nat → Nat → Int64) : Prop := Rg σ ∧ Fr L_X6_menOfStep σ0 σ ∧ FrL LL_X6_menOfStep τ0 τ
set_option maxHeartbeats 4000000 in
theorem c_X6_menOfStep (l : Launch) (D : va_G) (cA : Nat → ClassId) (ad : Nat → Nat) (hI : Inj ad) (σ0 : Nat → Nat → Int32) (τ0 : Nat → Nat → Int64) (hR : Rg σ0) (a1 : Int32) (ha1 : 0 ≤ a1.toInt ∧ a1.toInt ≤ 39) : Met l yX6_menOfStep wsX6_menOfStep ({ frames := 5, cells := 0, slots := 0, locals := 119 } : Room) (WQc D cA ad [.ref (ad 23), .int a1, .ref (ad 2), .ref (ad 7), .ref (ad 22)] σ0 τ0) (va_Qi (fun (r : Int32) (u : SS) => P_X6_menOfStep σ0 τ0 a1 r u.1 u.2) (WB D cA ad) (AA ad)) 0 0 (AA ad) := by
  refine Met.ofW (cc := cX6_menOfStep) (maxL := 5) (ret := (some .int)) (by decide) rfl ?_
  intro p e s m args below meth c s₁ B hml hv
  obtain ⟨rfl, hP, hK, hN⟩ := hv
  have C : Cy p s m _ meth c cX6_menOfStep 5 wsX6_menOfStep RX6 D cA ad (some .int) := ⟨B.exec, B.bytes, hml, findClass_of_methodNamed B.named, atoms_spec (ws := wsX6_menOfStep) B.pre, hK, B.notSynchronized, B.returns, hI, hN⟩
  have hl := lv_entry ([.ref (ad 23), .int a1, .ref (ad 2), .ref (ad 7), .ref (ad 22)]) (n := 5) (Nat.le_of_ble_eq_true rfl)
  rw [lg_entry_eq]
  generalize (lg_sl ([.ref (ad 23), .int a1, .ref (ad 2), .ref (ad 7), .ref (ad 22)]) ++ List.replicate (5 - (lg_sl ([.ref (ad 23), .int a1, .ref (ad 2), .ref (ad 7), .ref (ad 22)])).length) Slot.unset).toArray = ls at hl ⊢
  have hl : lv_has ls 5 [(0, .ref (ad 23)), (1, .int a1), (2, .ref (ad 2)), (3, .ref (ad 7)), (4, .ref (ad 22))] := hl
  have hS : va_S (AA ad) s.heap s.heap [] := va_S.rf
  have hF : Fr L_X6_menOfStep σ0 σ0 := Fr.rf
  have hFL : FrL LL_X6_menOfStep τ0 τ0 := FrL.rf
  obtain ⟨hx, hb, _, hown, hts, _, hk, hr, _, _⟩ := C
  refine lv_aload_n hx hb dX6_menOfStep_0 rfl (lv_at hl 0 rfl) ?_
  refine fg_6_3 (k := 23) hx hb hts in_X6_menOfStep_6 hown hK hP (by decide) (by decide) (hts _ lk_X6_menOfStep_9) dX6_menOfStep_1 ?_
  refine lv_iload_n hx hb dX6_menOfStep_4 rfl (lv_at hl 1 rfl) ?_
  obtain ⟨j1, ej1⟩ : ∃ j : Nat, a1.toInt = (j : Int) := ⟨_, ti_nat (by omega)⟩
  refine ad_sent40 (k := 371) (j := j1) hx hb hK hP (by decide) (by decide) ej1 (by omega) dX6_menOfStep_5 ?_
  by_cases c2 : (σ0 371 j1).toInt = 23
  · refine lv_tableIn (off := 30) (tgt := 36) hx hb dX6_menOfStep_6 (by omega) (by omega) (by rw [c2]; rfl) (by decide) ?_
    refine lv_aload_n hx hb dX6_menOfStep_36 rfl (lv_at hl 3 rfl) ?_
    refine lv_aload_n hx hb dX6_menOfStep_37 rfl (lv_at hl 2 rfl) ?_
    refine fgN_9_5 (k := 2) hx hb hts in_X6_menOfStep_9 hown hK hP (by decide) (by decide) (hN.use nw_6_51) dX6_menOfStep_38 ?_
    have hr3 := rg_9_5 hR (k := 2) (by decide) (by decide)
    refine r_cVi (k := 7) (As := [.int (σ0 2 5)]) (rest := []) ⟨hx, hb, hml, hown, hts⟩ hK hP hN hS (c_X2_swornMen l D cA ad hI σ0 τ0 hR (σ0 2 5) (by omega)) (cwV 1 hts gX6_menOfStep_X2_swornMen rfl rfl rfl (by decide +kernel) ⟨by decide, by decide⟩) (rv_Days hK hP (by decide) (by decide)) rfl hl.1 rfl (Nat.le_of_ble_eq_true rfl) dX6_menOfStep_41 (Nat.zero_le _) (Nat.zero_le _) (fun r4 u4 H4 locs4 hp4 hP hS => ?_)
    obtain ⟨σ4, τ4⟩ := u4
    obtain ⟨hR, f4, fL4⟩ : P_X2_swornMen σ0 τ0 (σ0 2 5) r4 σ4 τ4 := hp4
    have hP : va_P D vwCl (gw cA ad σ4 τ4) H4 := hP
    obtain rfl := FrL.nil fL4
    obtain rfl := Fr.nil f4
    exact r_iret hx hb hr hK hP hS hk dX6_menOfStep_44 (show P_X6_menOfStep σ0 τ0 a1 r4 σ0 τ0 from ⟨hR, hF, hFL⟩)
  by_cases c5 : (σ0 371 j1).toInt = 24
  · refine lv_tableIn (off := 39) (tgt := 45) hx hb dX6_menOfStep_6 (by omega) (by omega) (by rw [c5]; rfl) (by decide) ?_
    refine lv_aload hx hb dX6_menOfStep_45 (lv_at hl 4 rfl) ?_
    refine lv_aload_n hx hb dX6_menOfStep_47 rfl (lv_at hl 3 rfl) ?_
    refine r_cVi (k := 22) (As := [.ref (ad 7)]) (rest := []) ⟨hx, hb, hml, hown, hts⟩ hK hP hN hS (c_X0_liars l D cA ad hI σ0 τ0 hR) (cwV 1 hts gX6_menOfStep_X0_liars rfl rfl rfl (by decide +kernel) ⟨by decide, by decide⟩) (rv_Acts hK hP (by decide) (by decide)) rfl hl.1 rfl (Nat.le_of_ble_eq_true rfl) dX6_menOfStep_48 (Nat.zero_le _) (Nat.zero_le _) (fun r6 u6 H6 locs6 hp6 hP hS => ?_)
    obtain ⟨σ6, τ6⟩ := u6
    obtain ⟨hR, f6, fL6⟩ : P_X0_liars σ0 τ0 r6 σ6 τ6 := hp6
    have hP : va_P D vwCl (gw cA ad σ6 τ6) H6 := hP
    obtain rfl := FrL.nil fL6
    have hF := hF.step f6 (by decide)
    exact r_iret hx hb hr hK hP hS hk dX6_menOfStep_51 (show P_X6_menOfStep σ0 τ0 a1 r6 σ6 τ0 from ⟨hR, hF, hFL⟩)
  by_cases c7 : (σ0 371 j1).toInt = 25
  · refine lv_tableIn (off := 46) (tgt := 52) hx hb dX6_menOfStep_6 (by omega) (by omega) (by rw [c7]; rfl) (by decide) ?_
    refine lv_aload_n hx hb dX6_menOfStep_52 rfl (lv_at hl 3 rfl) ?_
    refine lv_aload_n hx hb dX6_menOfStep_53 rfl (lv_at hl 0 rfl) ?_
    refine fg_6_5 (k := 23) hx hb hts in_X6_menOfStep_6 hown hK hP (by decide) (by decide) (hts _ lk_X6_menOfStep_18) dX6_menOfStep_54 ?_
    refine lv_iload_n hx hb dX6_menOfStep_57 rfl (lv_at hl 1 rfl) ?_
    refine ad_sent40 (k := 379) (j := j1) hx hb hK hP (by decide) (by decide) ej1 (by omega) dX6_menOfStep_58 ?_
    refine lv_aload_n hx hb dX6_menOfStep_59 rfl (lv_at hl 2 rfl) ?_
    refine fgN_9_5 (k := 2) hx hb hts in_X6_menOfStep_9 hown hK hP (by decide) (by decide) (hN.use nw_6_51) dX6_menOfStep_60 ?_
    have hr8 := rg_9_5 hR (k := 2) (by decide) (by decide)
    refine r_cVi (k := 7) (As := [.int (σ0 379 j1), .int (σ0 2 5)]) (rest := []) ⟨hx, hb, hml, hown, hts⟩ hK hP hN hS (c_X2_menOn l D cA ad hI σ0 τ0 hR (σ0 379 j1) (σ0 2 5) (by omega)) (cwV 2 hts gX6_menOfStep_X2_menOn rfl rfl rfl (by decide +kernel) ⟨by decide, by decide⟩) (rv_Days hK hP (by decide) (by decide)) rfl hl.1 rfl (Nat.le_of_ble_eq_true rfl) dX6_menOfStep_63 (Nat.zero_le _) (Nat.zero_le _) (fun r9 u9 H9 locs9 hp9 hP hS => ?_)
    obtain ⟨σ9, τ9⟩ := u9
    obtain ⟨hR, f9, fL9⟩ : P_X2_menOn σ0 τ0 (σ0 379 j1) (σ0 2 5) r9 σ9 τ9 := hp9
    have hP : va_P D vwCl (gw cA ad σ9 τ9) H9 := hP
    obtain rfl := FrL.nil fL9
    obtain rfl := Fr.nil f9
    exact r_iret hx hb hr hK hP hS hk dX6_menOfStep_66 (show P_X6_menOfStep σ0 τ0 a1 r9 σ0 τ0 from ⟨hR, hF, hFL⟩)
  by_cases c10 : (σ0 371 j1).toInt = 26
  · refine lv_tableIn (off := 61) (tgt := 67) hx hb dX6_menOfStep_6 (by omega) (by omega) (by rw [c10]; rfl) (by decide) ?_
    refine lv_aload hx hb dX6_menOfStep_67 (lv_at hl 4 rfl) ?_
    refine lv_aload_n hx hb dX6_menOfStep_69 rfl (lv_at hl 3 rfl) ?_
    refine r_cVi (k := 22) (As := [.ref (ad 7)]) (rest := []) ⟨hx, hb, hml, hown, hts⟩ hK hP hN hS (c_X0_hearersSoFar l D cA ad hI σ0 τ0 hR) (cwV 1 hts gX6_menOfStep_X0_hearersSoFar rfl rfl rfl (by decide +kernel) ⟨by decide, by decide⟩) (rv_Acts hK hP (by decide) (by decide)) rfl hl.1 rfl (Nat.le_of_ble_eq_true rfl) dX6_menOfStep_70 (Nat.zero_le _) (Nat.zero_le _) (fun r11 u11 H11 locs11 hp11 hP hS => ?_)
    obtain ⟨σ11, τ11⟩ := u11
    obtain ⟨hR, f11, fL11⟩ : P_X0_hearersSoFar σ0 τ0 r11 σ11 τ11 := hp11
    have hP : va_P D vwCl (gw cA ad σ11 τ11) H11 := hP
    obtain rfl := FrL.nil fL11
    have hF := hF.step f11 (by decide)
    exact r_iret hx hb hr hK hP hS hk dX6_menOfStep_73 (show P_X6_menOfStep σ0 τ0 a1 r11 σ11 τ0 from ⟨hR, hF, hFL⟩)
  refine lv_tableOut (tgt := 74) hx hb dX6_menOfStep_6 (by omega) (by decide) ?_
  refine lv_aload_n hx hb dX6_menOfStep_74 rfl (lv_at hl 0 rfl) ?_
  refine lv_iload_n hx hb dX6_menOfStep_75 rfl (lv_at hl 1 rfl) ?_
  refine lv_aload_n hx hb dX6_menOfStep_76 rfl (lv_at hl 2 rfl) ?_
  refine lv_aload_n hx hb dX6_menOfStep_77 rfl (lv_at hl 3 rfl) ?_
  refine r_cVi (k := 23) (As := [.int a1, .ref (ad 2), .ref (ad 7)]) (rest := []) ⟨hx, hb, hml, hown, hts⟩ hK hP hN hS (c_X6_menWhoAre l D cA ad hI σ0 τ0 hR a1 (by omega)) (cwV 3 hts gX6_menOfStep_X6_menWhoAre rfl rfl rfl (by decide +kernel) ⟨by decide, by decide⟩) (rv_Sent hK hP (by decide) (by decide)) rfl hl.1 rfl (Nat.le_of_ble_eq_true rfl) dX6_menOfStep_78 (Nat.zero_le _) (Nat.zero_le _) (fun r12 u12 H12 locs12 hp12 hP hS => ?_)
  obtain ⟨σ12, τ12⟩ := u12
  obtain ⟨hR, f12, fL12⟩ : P_X6_menWhoAre σ0 τ0 a1 r12 σ12 τ12 := hp12
  have hP : va_P D vwCl (gw cA ad σ12 τ12) H12 := hP
  obtain rfl := FrL.nil fL12
  obtain rfl := Fr.nil f12
  exact r_iret hx hb hr hK hP hS hk dX6_menOfStep_81 (show P_X6_menOfStep σ0 τ0 a1 r12 σ0 τ0 from ⟨hR, hF, hFL⟩)
theorem in_X6_menOfWhom_6 : ∀ w ∈ u_ws RX6 TX6 7, w ∈ wsX6_menOfWhom := by decide +kernel
theorem lk_X6_menOfWhom_21 : Cond.fieldLink RX6 21 "CuckooShares$Sentence" "stack" "[I" ∈ wsX6_menOfWhom := by decide +kernel
theorem lk_X6_menOfWhom_32 : Cond.fieldLink RX6 32 "CuckooShares$Sentence" "steps" "I" ∈ wsX6_menOfWhom := by decide +kernel
theorem lk_X6_menOfWhom_9 : Cond.fieldLink RX6 9 "CuckooShares$Sentence" "word" "[I" ∈ wsX6_menOfWhom := by decide +kernel
abbrev L_X6_menOfWhom : List Rc := [(383, 383, 0, 39), (360, 360, 0, 7), (361, 361, 0, 7), (362, 362, 0, 7)]
abbrev LL_X6_menOfWhom : List Rc := []
def P_X6_menOfWhom (σ0 : Nat → Nat → Int32) (τ0 : Nat → Nat → Int64)  (r : Int32) (σ : Nat → Nat → Int32) (τ : Nat → Nat → Int64) : Prop := Rg σ ∧ Fr L_X6_menOfWhom σ0 σ ∧ FrL LL_X6_menOfWhom τ0 τ
def J_X6_menOfWhom_6 (p : Program) (l : Launch) (e : Env) (s : State) (m : MethodId) (args : Array Value) (below : List Frame) (meth : Method) (c : Code) (D : va_G) (cA : Nat → ClassId) (ad : Nat → Nat) (σ0 : Nat → Nat → Int32) (τ0 : Nat → Nat → Int64)  (n : Nat) : Prop := ∀ (σ : Nat → Nat → Int32) (τ : Nat → Nat → Int64) (H : Heap) (locs : List Loc) (x4 : Int32) (x5 : Int32) (ls : Array Slot), Rg σ → Fr L_X6_menOfWhom σ0 σ → FrL LL_X6_menOfWhom τ0 τ → va_P D vwCl (gw cA ad σ τ) H → va_S (AA ad) s.heap H locs → (0 ≤ x4.toInt ∧ x4.toInt ≤ 40) → (0 ≤ x5.toInt ∧ x5.toInt ≤ 40) → lv_has ls 7 [(0, .ref (ad 23)), (1, .ref (ad 2)), (2, .ref (ad 7)), (3, .ref (ad 22)), (4, .int x4), (5, .int x5)] → 5 * (40 - x5.toInt) + 4 < (n : Int) → W p l e ({ frames := 6, cells := 0, slots := 0, locals := 143 } : Room) s m args below meth c H locs 0 0 (MQ below (va_Qi (fun (r : Int32) (u : SS) => P_X6_menOfWhom σ0 τ0 r u.1 u.2) (WB D cA ad) (AA ad)) args s 0 0 (AA ad)) (F0 m 6 ls [])
def J_X6_menOfWhom_72 (p : Program) (l : Launch) (e : Env) (s : State) (m : MethodId) (args : Array Value) (below : List Frame) (meth : Method) (c : Code) (D : va_G) (cA : Nat → ClassId) (ad : Nat → Nat) (σ0 : Nat → Nat → Int32) (τ0 : Nat → Nat → Int64)  (n : Nat) : Prop := ∀ (σ : Nat → Nat → Int32) (τ : Nat → Nat → Int64) (H : Heap) (locs : List Loc) (x4 : Int32) (x5 : Int32) (x6 : Int32) (ls : Array Slot), Rg σ → Fr L_X6_menOfWhom σ0 σ → FrL LL_X6_menOfWhom τ0 τ → va_P D vwCl (gw cA ad σ τ) H → va_S (AA ad) s.heap H locs → (0 ≤ x4.toInt ∧ x4.toInt ≤ 40) → (0 ≤ x5.toInt ∧ x5.toInt ≤ 39) → lv_has ls 7 [(0, .ref (ad 23)), (1, .ref (ad 2)), (2, .ref (ad 7)), (3, .ref (ad 22)), (4, .int x4), (5, .int x5), (6, .int x6)] → 5 * (40 - x5.toInt) + 3 < (n : Int) → W p l e ({ frames := 6, cells := 0, slots := 0, locals := 143 } : Room) s m args below meth c H locs 0 0 (MQ below (va_Qi (fun (r : Int32) (u : SS) => P_X6_menOfWhom σ0 τ0 r u.1 u.2) (WB D cA ad) (AA ad)) args s 0 0 (AA ad)) (F0 m 72 ls [])
def J_X6_menOfWhom_110 (p : Program) (l : Launch) (e : Env) (s : State) (m : MethodId) (args : Array Value) (below : List Frame) (meth : Method) (c : Code) (D : va_G) (cA : Nat → ClassId) (ad : Nat → Nat) (σ0 : Nat → Nat → Int32) (τ0 : Nat → Nat → Int64)  (n : Nat) : Prop := ∀ (σ : Nat → Nat → Int32) (τ : Nat → Nat → Int64) (H : Heap) (locs : List Loc) (x4 : Int32) (x5 : Int32) (x6 : Int32) (ls : Array Slot), Rg σ → Fr L_X6_menOfWhom σ0 σ → FrL LL_X6_menOfWhom τ0 τ → va_P D vwCl (gw cA ad σ τ) H → va_S (AA ad) s.heap H locs → (0 ≤ x4.toInt ∧ x4.toInt ≤ 40) → (0 ≤ x5.toInt ∧ x5.toInt ≤ 39) → lv_has ls 7 [(0, .ref (ad 23)), (1, .ref (ad 2)), (2, .ref (ad 7)), (3, .ref (ad 22)), (4, .int x4), (5, .int x5), (6, .int x6)] → 5 * (40 - x5.toInt) + 2 < (n : Int) → W p l e ({ frames := 6, cells := 0, slots := 0, locals := 143 } : Room) s m args below meth c H locs 0 0 (MQ below (va_Qi (fun (r : Int32) (u : SS) => P_X6_menOfWhom σ0 τ0 r u.1 u.2) (WB D cA ad) (AA ad)) args s 0 0 (AA ad)) (F0 m 110 ls [])
def J_X6_menOfWhom_148 (p : Program) (l : Launch) (e : Env) (s : State) (m : MethodId) (args : Array Value) (below : List Frame) (meth : Method) (c : Code) (D : va_G) (cA : Nat → ClassId) (ad : Nat → Nat) (σ0 : Nat → Nat → Int32) (τ0 : Nat → Nat → Int64)  (n : Nat) : Prop := ∀ (σ : Nat → Nat → Int32) (τ : Nat → Nat → Int64) (H : Heap) (locs : List Loc) (x4 : Int32) (x5 : Int32) (x6 : Int32) (ls : Array Slot), Rg σ → Fr L_X6_menOfWhom σ0 σ → FrL LL_X6_menOfWhom τ0 τ → va_P D vwCl (gw cA ad σ τ) H → va_S (AA ad) s.heap H locs → (0 ≤ x4.toInt ∧ x4.toInt ≤ 40) → (0 ≤ x5.toInt ∧ x5.toInt ≤ 39) → lv_has ls 7 [(0, .ref (ad 23)), (1, .ref (ad 2)), (2, .ref (ad 7)), (3, .ref (ad 22)), (4, .int x4), (5, .int x5), (6, .int x6)] → 5 * (40 - x5.toInt) + 1 < (n : Int) → W p l e ({ frames := 6, cells := 0, slots := 0, locals := 143 } : Room) s m args below meth c H locs 0 0 (MQ below (va_Qi (fun (r : Int32) (u : SS) => P_X6_menOfWhom σ0 τ0 r u.1 u.2) (WB D cA ad) (AA ad)) args s 0 0 (AA ad)) (F0 m 148 ls [])
set_option maxHeartbeats 4000000 in
theorem B_X6_menOfWhom_6 (p : Program) (l : Launch) (e : Env) (s : State) (m : MethodId) (args : Array Value) (below : List Frame) (meth : Method) (c : Code) (D : va_G) (cA : Nat → ClassId) (ad : Nat → Nat) (σ0 : Nat → Nat → Int32) (τ0 : Nat → Nat → Int64)  (n : Nat) (C : Cy p s m args meth c cX6_menOfWhom 7 wsX6_menOfWhom RX6 D cA ad (some .int))  (K6 : J_X6_menOfWhom_6 p l e s m args below meth c D cA ad σ0 τ0 n) (K72 : J_X6_menOfWhom_72 p l e s m args below meth c D cA ad σ0 τ0 n) (K110 : J_X6_menOfWhom_110 p l e s m args below meth c D cA ad σ0 τ0 n) (K148 : J_X6_menOfWhom_148 p l e s m args below meth c D cA ad σ0 τ0 n) : J_X6_menOfWhom_6 p l e s m args below meth c D cA ad σ0 τ0 (n + 1) := by
  obtain ⟨hx, hb, hml, hown, hts, hK, hk, hr, hI, hN⟩ := C
  intro σ τ H locs x4 x5 ls hR hF hFL hP hS hc0 hc1 hl hm
  obtain rfl := FrL.nil hFL
  refine lv_iload hx hb dX6_menOfWhom_6 (lv_at hl 5 rfl) ?_
  refine lv_aload_n hx hb dX6_menOfWhom_8 rfl (lv_at hl 0 rfl) ?_
  refine fg_6_2 (k := 23) hx hb hts in_X6_menOfWhom_6 hown hK hP (by decide) (by decide) (hts _ lk_X6_menOfWhom_32) dX6_menOfWhom_9 ?_
  have hr1 := rg_6_2 hR (k := 23) (by decide) (by decide)
  refine r_icmp_ge (tgt := 180) hx hb dX6_menOfWhom_12 (by decide) (fun c2 => ?_) (fun c2 => ?_)
  · refine lv_iload hx hb dX6_menOfWhom_180 (lv_at hl 4 rfl) ?_
    refine r_iconst hx hb dX6_menOfWhom_182 (by decide) (fun z3 ez3 => ?_)
    refine r_icmp_ne (tgt := 195) hx hb dX6_menOfWhom_183 (by decide) (fun c4 => ?_) (fun c4 => ?_)
    · refine r_iconst hx hb dX6_menOfWhom_195 (by decide) (fun z5 ez5 => ?_)
      exact r_iret hx hb hr hK hP hS hk dX6_menOfWhom_196 (show P_X6_menOfWhom σ0 τ0 z5 σ τ0 from ⟨hR, hF, hFL⟩)
    · refine lv_aload_n hx hb dX6_menOfWhom_186 rfl (lv_at hl 0 rfl) ?_
      refine fg_6_6 (k := 23) hx hb hts in_X6_menOfWhom_6 hown hK hP (by decide) (by decide) (hts _ lk_X6_menOfWhom_21) dX6_menOfWhom_187 ?_
      refine r_iconst hx hb dX6_menOfWhom_190 (by decide) (fun z6 ez6 => ?_)
      refine ad_sent40 (k := 383) (j := 0) hx hb hK hP (by decide) (by decide) (by omega) (by omega) dX6_menOfWhom_191 ?_
      refine lv_goto (tgt := 196) hx hb dX6_menOfWhom_192 (by decide) ?_
      exact r_iret hx hb hr hK hP hS hk dX6_menOfWhom_196 (show P_X6_menOfWhom σ0 τ0 (σ 383 0) σ τ0 from ⟨hR, hF, hFL⟩)
  · refine lv_iload hx hb dX6_menOfWhom_15 (lv_at hl 5 rfl) ?_
    refine r_bipush hx hb dX6_menOfWhom_17 (by decide) (fun z7 ez7 => ?_)
    refine r_icmp_ge (tgt := 180) hx hb dX6_menOfWhom_19 (by decide) (fun c8 => ?_) (fun c8 => ?_)
    · exfalso; omega
    · refine lv_aload_n hx hb dX6_menOfWhom_22 rfl (lv_at hl 0 rfl) ?_
      refine fg_6_3 (k := 23) hx hb hts in_X6_menOfWhom_6 hown hK hP (by decide) (by decide) (hts _ lk_X6_menOfWhom_9) dX6_menOfWhom_23 ?_
      refine lv_iload hx hb dX6_menOfWhom_26 (lv_at hl 5 rfl) ?_
      obtain ⟨j9, ej9⟩ : ∃ j : Nat, x5.toInt = (j : Int) := ⟨_, ti_nat (by omega)⟩
      refine ad_sent40 (k := 371) (j := j9) hx hb hK hP (by decide) (by decide) ej9 (by omega) dX6_menOfWhom_28 ?_
      refine lv_istore (lv' := [(6, .int (σ 371 j9)), (0, .ref (ad 23)), (1, .ref (ad 2)), (2, .ref (ad 7)), (3, .ref (ad 22)), (4, .int x4), (5, .int x5)]) hx hb dX6_menOfWhom_29 hl (by decide) rfl (fun ls hl => ?_)
      refine lv_iload hx hb dX6_menOfWhom_31 (lv_at hl 0 rfl) ?_
      refine r_bipush hx hb dX6_menOfWhom_33 (by decide) (fun z10 ez10 => ?_)
      refine r_icmp_ne (tgt := 72) hx hb dX6_menOfWhom_35 (by decide) (fun c11 => ?_) (fun c11 => ?_)
      · exact K72 σ τ0 H locs x4 x5 (σ 371 j9) ls hR hF hFL hP hS (by omega) (by omega) (lv_sub hl [1, 2, 3, 4, 5, 6, 0] rfl) (by omega)
      · refine lv_iload hx hb dX6_menOfWhom_38 (lv_at hl 5 rfl) ?_
        refine r_iconst hx hb dX6_menOfWhom_40 (by decide) (fun z12 ez12 => ?_)
        refine r_icmp_lt (tgt := 72) hx hb dX6_menOfWhom_41 (by decide) (fun c13 => ?_) (fun c13 => ?_)
        · exact K72 σ τ0 H locs x4 x5 (σ 371 j9) ls hR hF hFL hP hS (by omega) (by omega) (lv_sub hl [1, 2, 3, 4, 5, 6, 0] rfl) (by omega)
        · refine lv_aload_n hx hb dX6_menOfWhom_44 rfl (lv_at hl 1 rfl) ?_
          refine fg_6_6 (k := 23) hx hb hts in_X6_menOfWhom_6 hown hK hP (by decide) (by decide) (hts _ lk_X6_menOfWhom_21) dX6_menOfWhom_45 ?_
          refine lv_iload hx hb dX6_menOfWhom_48 (lv_at hl 5 rfl) ?_
          refine r_iconst hx hb dX6_menOfWhom_50 (by decide) (fun z14 ez14 => ?_)
          refine r_isub hx hb dX6_menOfWhom_51 (by omega) (fun z15 ez15 => ?_)
          refine lv_aload_n hx hb dX6_menOfWhom_52 rfl (lv_at hl 2 rfl) ?_
          refine r_cVi (k := 2) (As := []) (rest := [.int z15, .ref (ad 383)]) ⟨hx, hb, hml, hown, hts⟩ hK hP hN hS (c_X9_allMen l D cA ad hI σ τ0 hR) (cwV 0 hts gX6_menOfWhom_X9_allMen rfl rfl rfl (by decide +kernel) ⟨by decide, by decide⟩) (rv_Valley hK hP (by decide) (by decide)) rfl hl.1 rfl (Nat.le_of_ble_eq_true rfl) dX6_menOfWhom_53 (Nat.zero_le _) (Nat.zero_le _) (fun r16 u16 H16 locs16 hp16 hP hS => ?_)
          obtain ⟨σ16, τ16⟩ := u16
          obtain ⟨hR, f16, fL16⟩ : P_X9_allMen σ τ0 r16 σ16 τ16 := hp16
          have hP : va_P D vwCl (gw cA ad σ16 τ16) H16 := hP
          obtain rfl := FrL.nil fL16
          obtain rfl := Fr.nil f16
          refine lv_aload_n hx hb dX6_menOfWhom_56 rfl (lv_at hl 1 rfl) ?_
          refine fg_6_6 (k := 23) hx hb hts in_X6_menOfWhom_6 hown hK hP (by decide) (by decide) (hts _ lk_X6_menOfWhom_21) dX6_menOfWhom_57 ?_
          refine lv_iload hx hb dX6_menOfWhom_60 (lv_at hl 5 rfl) ?_
          refine r_iconst hx hb dX6_menOfWhom_62 (by decide) (fun z17 ez17 => ?_)
          refine r_isub hx hb dX6_menOfWhom_63 (by omega) (fun z18 ez18 => ?_)
          obtain ⟨j19, ej19⟩ : ∃ j : Nat, z18.toInt = (j : Int) := ⟨_, ti_nat (by omega)⟩
          refine ad_sent40 (k := 383) (j := j19) hx hb hK hP (by decide) (by decide) ej19 (by omega) dX6_menOfWhom_64 ?_
          refine r_iconst hx hb dX6_menOfWhom_65 (by decide) (fun z20 ez20 => ?_)
          refine r_ixorU hx hb dX6_menOfWhom_66 (fun z21 => ?_)
          refine r_iandU hx hb dX6_menOfWhom_67 (fun z22 => ?_)
          refine as_sent40 (k := 383) (j := j19) hx hb hK hP hI hR hS (by decide) (by decide) (by omega) (by omega) dX6_menOfWhom_68 (fun σ23 H23 locs23 u23 v23 hR hP hS => ?_)
          have hF := hF.puts u23 0 rfl (by decide) (by decide) (by omega) (by omega)
          refine lv_goto (tgt := 174) hx hb dX6_menOfWhom_69 (by decide) ?_
          refine r_iinc (k := 6) (lv1 := fun z24 => [(5, .int z24), (6, .int (σ 371 j9)), (0, .ref (ad 23)), (1, .ref (ad 2)), (2, .ref (ad 7)), (3, .ref (ad 22)), (4, .int x4)]) hx hb dX6_menOfWhom_174 hl rfl (by decide) (fun _ => rfl) (by decide) (by omega) (fun z24 ls ez24 hl => ?_)
          refine lv_goto (tgt := 6) hx hb dX6_menOfWhom_177 (by decide) ?_
          exact K6 σ23 τ0 H23 locs23 x4 z24 ls hR hF hFL hP hS (by omega) (by omega) (lv_sub hl [2, 3, 4, 5, 6, 0] rfl) (by omega)
set_option maxHeartbeats 4000000 in
theorem B_X6_menOfWhom_72 (p : Program) (l : Launch) (e : Env) (s : State) (m : MethodId) (args : Array Value) (below : List Frame) (meth : Method) (c : Code) (D : va_G) (cA : Nat → ClassId) (ad : Nat → Nat) (σ0 : Nat → Nat → Int32) (τ0 : Nat → Nat → Int64)  (n : Nat) (C : Cy p s m args meth c cX6_menOfWhom 7 wsX6_menOfWhom RX6 D cA ad (some .int))  (K6 : J_X6_menOfWhom_6 p l e s m args below meth c D cA ad σ0 τ0 n) (K72 : J_X6_menOfWhom_72 p l e s m args below meth c D cA ad σ0 τ0 n) (K110 : J_X6_menOfWhom_110 p l e s m args below meth c D cA ad σ0 τ0 n) (K148 : J_X6_menOfWhom_148 p l e s m args below meth c D cA ad σ0 τ0 n) : J_X6_menOfWhom_72 p l e s m args below meth c D cA ad σ0 τ0 (n + 1) := by
  obtain ⟨hx, hb, hml, hown, hts, hK, hk, hr, hI, hN⟩ := C
  intro σ τ H locs x4 x5 x6 ls hR hF hFL hP hS hc0 hc1 hl hm
  obtain rfl := FrL.nil hFL
  refine lv_iload hx hb dX6_menOfWhom_72 (lv_at hl 6 rfl) ?_
  refine r_bipush hx hb dX6_menOfWhom_74 (by decide) (fun z1 ez1 => ?_)
  refine r_icmp_ne (tgt := 110) hx hb dX6_menOfWhom_76 (by decide) (fun c2 => ?_) (fun c2 => ?_)
  · exact K110 σ τ0 H locs x4 x5 x6 ls hR hF hFL hP hS (by omega) (by omega) (lv_sub hl [0, 1, 2, 3, 4, 5, 6] rfl) (by omega)
  · refine lv_iload hx hb dX6_menOfWhom_79 (lv_at hl 4 rfl) ?_
    refine r_iconst hx hb dX6_menOfWhom_81 (by decide) (fun z3 ez3 => ?_)
    refine r_icmp_lt (tgt := 110) hx hb dX6_menOfWhom_82 (by decide) (fun c4 => ?_) (fun c4 => ?_)
    · exact K110 σ τ0 H locs x4 x5 x6 ls hR hF hFL hP hS (by omega) (by omega) (lv_sub hl [0, 1, 2, 3, 4, 5, 6] rfl) (by omega)
    · refine r_iinc (k := 4) (lv1 := fun z5 => [(4, .int z5), (0, .ref (ad 23)), (1, .ref (ad 2)), (2, .ref (ad 7)), (3, .ref (ad 22)), (5, .int x5), (6, .int x6)]) hx hb dX6_menOfWhom_85 hl rfl (by decide) (fun _ => rfl) (by decide) (by omega) (fun z5 ls ez5 hl => ?_)
      refine lv_aload_n hx hb dX6_menOfWhom_88 rfl (lv_at hl 1 rfl) ?_
      refine fg_6_6 (k := 23) hx hb hts in_X6_menOfWhom_6 hown hK hP (by decide) (by decide) (hts _ lk_X6_menOfWhom_21) dX6_menOfWhom_89 ?_
      refine lv_iload hx hb dX6_menOfWhom_92 (lv_at hl 0 rfl) ?_
      refine r_iconst hx hb dX6_menOfWhom_94 (by decide) (fun z6 ez6 => ?_)
      refine r_isub hx hb dX6_menOfWhom_95 (by omega) (fun z7 ez7 => ?_)
      refine lv_dup2_11 hx hb dX6_menOfWhom_96 rfl rfl ?_
      obtain ⟨j8, ej8⟩ : ∃ j : Nat, z7.toInt = (j : Int) := ⟨_, ti_nat (by omega)⟩
      refine ad_sent40 (k := 383) (j := j8) hx hb hK hP (by decide) (by decide) ej8 (by omega) dX6_menOfWhom_97 ?_
      refine lv_aload_n hx hb dX6_menOfWhom_98 rfl (lv_at hl 1 rfl) ?_
      refine fg_6_6 (k := 23) hx hb hts in_X6_menOfWhom_6 hown hK hP (by decide) (by decide) (hts _ lk_X6_menOfWhom_21) dX6_menOfWhom_99 ?_
      refine lv_iload hx hb dX6_menOfWhom_102 (lv_at hl 0 rfl) ?_
      obtain ⟨j9, ej9⟩ : ∃ j : Nat, z5.toInt = (j : Int) := ⟨_, ti_nat (by omega)⟩
      refine ad_sent40 (k := 383) (j := j9) hx hb hK hP (by decide) (by decide) ej9 (by omega) dX6_menOfWhom_104 ?_
      refine r_iandU hx hb dX6_menOfWhom_105 (fun z10 => ?_)
      refine as_sent40 (k := 383) (j := j8) hx hb hK hP hI hR hS (by decide) (by decide) ej8 (by omega) dX6_menOfWhom_106 (fun σ11 H11 locs11 u11 v11 hR hP hS => ?_)
      have hF := hF.puts u11 0 rfl (by decide) (by decide) (by omega) (by omega)
      refine lv_goto (tgt := 174) hx hb dX6_menOfWhom_107 (by decide) ?_
      refine r_iinc (k := 5) (lv1 := fun z12 => [(5, .int z12), (4, .int z5), (0, .ref (ad 23)), (1, .ref (ad 2)), (2, .ref (ad 7)), (3, .ref (ad 22)), (6, .int x6)]) hx hb dX6_menOfWhom_174 hl rfl (by decide) (fun _ => rfl) (by decide) (by omega) (fun z12 ls ez12 hl => ?_)
      refine lv_goto (tgt := 6) hx hb dX6_menOfWhom_177 (by decide) ?_
      exact K6 σ11 τ0 H11 locs11 z5 z12 ls hR hF hFL hP hS (by omega) (by omega) (lv_sub hl [2, 3, 4, 5, 1, 0] rfl) (by omega)
set_option maxHeartbeats 4000000 in
theorem B_X6_menOfWhom_110 (p : Program) (l : Launch) (e : Env) (s : State) (m : MethodId) (args : Array Value) (below : List Frame) (meth : Method) (c : Code) (D : va_G) (cA : Nat → ClassId) (ad : Nat → Nat) (σ0 : Nat → Nat → Int32) (τ0 : Nat → Nat → Int64)  (n : Nat) (C : Cy p s m args meth c cX6_menOfWhom 7 wsX6_menOfWhom RX6 D cA ad (some .int))  (K6 : J_X6_menOfWhom_6 p l e s m args below meth c D cA ad σ0 τ0 n) (K72 : J_X6_menOfWhom_72 p l e s m args below meth c D cA ad σ0 τ0 n) (K110 : J_X6_menOfWhom_110 p l e s m args below meth c D cA ad σ0 τ0 n) (K148 : J_X6_menOfWhom_148 p l e s m args below meth c D cA ad σ0 τ0 n) : J_X6_menOfWhom_110 p l e s m args below meth c D cA ad σ0 τ0 (n + 1) := by
  obtain ⟨hx, hb, hml, hown, hts, hK, hk, hr, hI, hN⟩ := C
  intro σ τ H locs x4 x5 x6 ls hR hF hFL hP hS hc0 hc1 hl hm
  obtain rfl := FrL.nil hFL
  refine lv_iload hx hb dX6_menOfWhom_110 (lv_at hl 6 rfl) ?_
  refine r_bipush hx hb dX6_menOfWhom_112 (by decide) (fun z1 ez1 => ?_)
  refine r_icmp_ne (tgt := 148) hx hb dX6_menOfWhom_114 (by decide) (fun c2 => ?_) (fun c2 => ?_)
  · exact K148 σ τ0 H locs x4 x5 x6 ls hR hF hFL hP hS (by omega) (by omega) (lv_sub hl [0, 1, 2, 3, 4, 5, 6] rfl) (by omega)
  · refine lv_iload hx hb dX6_menOfWhom_117 (lv_at hl 4 rfl) ?_
    refine r_iconst hx hb dX6_menOfWhom_119 (by decide) (fun z3 ez3 => ?_)
    refine r_icmp_lt (tgt := 148) hx hb dX6_menOfWhom_120 (by decide) (fun c4 => ?_) (fun c4 => ?_)
    · exact K148 σ τ0 H locs x4 x5 x6 ls hR hF hFL hP hS (by omega) (by omega) (lv_sub hl [0, 1, 2, 3, 4, 5, 6] rfl) (by omega)
    · refine r_iinc (k := 4) (lv1 := fun z5 => [(4, .int z5), (0, .ref (ad 23)), (1, .ref (ad 2)), (2, .ref (ad 7)), (3, .ref (ad 22)), (5, .int x5), (6, .int x6)]) hx hb dX6_menOfWhom_123 hl rfl (by decide) (fun _ => rfl) (by decide) (by omega) (fun z5 ls ez5 hl => ?_)
      refine lv_aload_n hx hb dX6_menOfWhom_126 rfl (lv_at hl 1 rfl) ?_
      refine fg_6_6 (k := 23) hx hb hts in_X6_menOfWhom_6 hown hK hP (by decide) (by decide) (hts _ lk_X6_menOfWhom_21) dX6_menOfWhom_127 ?_
      refine lv_iload hx hb dX6_menOfWhom_130 (lv_at hl 0 rfl) ?_
      refine r_iconst hx hb dX6_menOfWhom_132 (by decide) (fun z6 ez6 => ?_)
      refine r_isub hx hb dX6_menOfWhom_133 (by omega) (fun z7 ez7 => ?_)
      refine lv_dup2_11 hx hb dX6_menOfWhom_134 rfl rfl ?_
      obtain ⟨j8, ej8⟩ : ∃ j : Nat, z7.toInt = (j : Int) := ⟨_, ti_nat (by omega)⟩
      refine ad_sent40 (k := 383) (j := j8) hx hb hK hP (by decide) (by decide) ej8 (by omega) dX6_menOfWhom_135 ?_
      refine lv_aload_n hx hb dX6_menOfWhom_136 rfl (lv_at hl 1 rfl) ?_
      refine fg_6_6 (k := 23) hx hb hts in_X6_menOfWhom_6 hown hK hP (by decide) (by decide) (hts _ lk_X6_menOfWhom_21) dX6_menOfWhom_137 ?_
      refine lv_iload hx hb dX6_menOfWhom_140 (lv_at hl 0 rfl) ?_
      obtain ⟨j9, ej9⟩ : ∃ j : Nat, z5.toInt = (j : Int) := ⟨_, ti_nat (by omega)⟩
      refine ad_sent40 (k := 383) (j := j9) hx hb hK hP (by decide) (by decide) ej9 (by omega) dX6_menOfWhom_142 ?_
      refine r_iorU hx hb dX6_menOfWhom_143 (fun z10 => ?_)
      refine as_sent40 (k := 383) (j := j8) hx hb hK hP hI hR hS (by decide) (by decide) ej8 (by omega) dX6_menOfWhom_144 (fun σ11 H11 locs11 u11 v11 hR hP hS => ?_)
      have hF := hF.puts u11 0 rfl (by decide) (by decide) (by omega) (by omega)
      refine lv_goto (tgt := 174) hx hb dX6_menOfWhom_145 (by decide) ?_
      refine r_iinc (k := 5) (lv1 := fun z12 => [(5, .int z12), (4, .int z5), (0, .ref (ad 23)), (1, .ref (ad 2)), (2, .ref (ad 7)), (3, .ref (ad 22)), (6, .int x6)]) hx hb dX6_menOfWhom_174 hl rfl (by decide) (fun _ => rfl) (by decide) (by omega) (fun z12 ls ez12 hl => ?_)
      refine lv_goto (tgt := 6) hx hb dX6_menOfWhom_177 (by decide) ?_
      exact K6 σ11 τ0 H11 locs11 z5 z12 ls hR hF hFL hP hS (by omega) (by omega) (lv_sub hl [2, 3, 4, 5, 1, 0] rfl) (by omega)
set_option maxHeartbeats 4000000 in
theorem B_X6_menOfWhom_148 (p : Program) (l : Launch) (e : Env) (s : State) (m : MethodId) (args : Array Value) (below : List Frame) (meth : Method) (c : Code) (D : va_G) (cA : Nat → ClassId) (ad : Nat → Nat) (σ0 : Nat → Nat → Int32) (τ0 : Nat → Nat → Int64)  (n : Nat) (C : Cy p s m args meth c cX6_menOfWhom 7 wsX6_menOfWhom RX6 D cA ad (some .int))  (K6 : J_X6_menOfWhom_6 p l e s m args below meth c D cA ad σ0 τ0 n) (K72 : J_X6_menOfWhom_72 p l e s m args below meth c D cA ad σ0 τ0 n) (K110 : J_X6_menOfWhom_110 p l e s m args below meth c D cA ad σ0 τ0 n) (K148 : J_X6_menOfWhom_148 p l e s m args below meth c D cA ad σ0 τ0 n) : J_X6_menOfWhom_148 p l e s m args below meth c D cA ad σ0 τ0 (n + 1) := by
  obtain ⟨hx, hb, hml, hown, hts, hK, hk, hr, hI, hN⟩ := C
  intro σ τ H locs x4 x5 x6 ls hR hF hFL hP hS hc0 hc1 hl hm
  obtain rfl := FrL.nil hFL
  refine lv_iload hx hb dX6_menOfWhom_148 (lv_at hl 4 rfl) ?_
  refine r_bipush hx hb dX6_menOfWhom_150 (by decide) (fun z1 ez1 => ?_)
  refine r_icmp_ge (tgt := 174) hx hb dX6_menOfWhom_152 (by decide) (fun c2 => ?_) (fun c2 => ?_)
  · refine r_iinc (k := 5) (lv1 := fun z3 => [(5, .int z3), (0, .ref (ad 23)), (1, .ref (ad 2)), (2, .ref (ad 7)), (3, .ref (ad 22)), (4, .int x4), (6, .int x6)]) hx hb dX6_menOfWhom_174 hl rfl (by decide) (fun _ => rfl) (by decide) (by omega) (fun z3 ls ez3 hl => ?_)
    refine lv_goto (tgt := 6) hx hb dX6_menOfWhom_177 (by decide) ?_
    exact K6 σ τ0 H locs x4 z3 ls hR hF hFL hP hS (by omega) (by omega) (lv_sub hl [1, 2, 3, 4, 5, 0] rfl) (by omega)
  · refine lv_aload_n hx hb dX6_menOfWhom_155 rfl (lv_at hl 0 rfl) ?_
    refine fg_6_6 (k := 23) hx hb hts in_X6_menOfWhom_6 hown hK hP (by decide) (by decide) (hts _ lk_X6_menOfWhom_21) dX6_menOfWhom_156 ?_
    refine lv_iload hx hb dX6_menOfWhom_159 (lv_at hl 4 rfl) ?_
    refine lv_aload_n hx hb dX6_menOfWhom_161 rfl (lv_at hl 0 rfl) ?_
    refine lv_iload hx hb dX6_menOfWhom_162 (lv_at hl 5 rfl) ?_
    refine lv_aload_n hx hb dX6_menOfWhom_164 rfl (lv_at hl 1 rfl) ?_
    refine lv_aload_n hx hb dX6_menOfWhom_165 rfl (lv_at hl 2 rfl) ?_
    refine lv_aload_n hx hb dX6_menOfWhom_166 rfl (lv_at hl 3 rfl) ?_
    refine r_cVi (k := 23) (As := [.int x5, .ref (ad 2), .ref (ad 7), .ref (ad 22)]) (rest := [.int x4, .ref (ad 383)]) ⟨hx, hb, hml, hown, hts⟩ hK hP hN hS (c_X6_menOfStep l D cA ad hI σ τ0 hR x5 (by omega)) (cwV 4 hts gX6_menOfWhom_X6_menOfStep rfl rfl rfl (by decide +kernel) ⟨by decide, by decide⟩) (rv_Sent hK hP (by decide) (by decide)) rfl hl.1 rfl (Nat.le_of_ble_eq_true rfl) dX6_menOfWhom_167 (Nat.zero_le _) (Nat.zero_le _) (fun r4 u4 H4 locs4 hp4 hP hS => ?_)
    obtain ⟨σ4, τ4⟩ := u4
    obtain ⟨hR, f4, fL4⟩ : P_X6_menOfStep σ τ0 x5 r4 σ4 τ4 := hp4
    have hP : va_P D vwCl (gw cA ad σ4 τ4) H4 := hP
    obtain rfl := FrL.nil fL4
    have hF := hF.step f4 (by decide)
    obtain ⟨j5, ej5⟩ : ∃ j : Nat, x4.toInt = (j : Int) := ⟨_, ti_nat (by omega)⟩
    refine as_sent40 (k := 383) (j := j5) hx hb hK hP hI hR hS (by decide) (by decide) ej5 (by omega) dX6_menOfWhom_170 (fun σ6 H6 locs6 u6 v6 hR hP hS => ?_)
    have hF := hF.puts u6 0 rfl (by decide) (by decide) (by omega) (by omega)
    refine r_iinc (k := 4) (lv1 := fun z7 => [(4, .int z7), (0, .ref (ad 23)), (1, .ref (ad 2)), (2, .ref (ad 7)), (3, .ref (ad 22)), (5, .int x5), (6, .int x6)]) hx hb dX6_menOfWhom_171 hl rfl (by decide) (fun _ => rfl) (by decide) (by omega) (fun z7 ls ez7 hl => ?_)
    refine r_iinc (k := 5) (lv1 := fun z8 => [(5, .int z8), (4, .int z7), (0, .ref (ad 23)), (1, .ref (ad 2)), (2, .ref (ad 7)), (3, .ref (ad 22)), (6, .int x6)]) hx hb dX6_menOfWhom_174 hl rfl (by decide) (fun _ => rfl) (by decide) (by omega) (fun z8 ls ez8 hl => ?_)
    refine lv_goto (tgt := 6) hx hb dX6_menOfWhom_177 (by decide) ?_
    exact K6 σ6 τ0 H6 locs6 z7 z8 ls hR hF hFL hP hS (by omega) (by omega) (lv_sub hl [2, 3, 4, 5, 1, 0] rfl) (by omega)
theorem A_X6_menOfWhom (p : Program) (l : Launch) (e : Env) (s : State) (m : MethodId) (args : Array Value) (below : List Frame) (meth : Method) (c : Code) (D : va_G) (cA : Nat → ClassId) (ad : Nat → Nat) (σ0 : Nat → Nat → Int32) (τ0 : Nat → Nat → Int64)  (C : Cy p s m args meth c cX6_menOfWhom 7 wsX6_menOfWhom RX6 D cA ad (some .int))  : ∀ n : Nat, J_X6_menOfWhom_6 p l e s m args below meth c D cA ad σ0 τ0 n ∧ J_X6_menOfWhom_72 p l e s m args below meth c D cA ad σ0 τ0 n ∧ J_X6_menOfWhom_110 p l e s m args below meth c D cA ad σ0 τ0 n ∧ J_X6_menOfWhom_148 p l e s m args below meth c D cA ad σ0 τ0 n := by
  intro n
  induction n with
  | zero =>
    exact ⟨(by intro σ τ H locs x4 x5 ls hR hF hFL hP hS hc0 hc1 hl hm; exfalso; omega), (by intro σ τ H locs x4 x5 x6 ls hR hF hFL hP hS hc0 hc1 hl hm; exfalso; omega), (by intro σ τ H locs x4 x5 x6 ls hR hF hFL hP hS hc0 hc1 hl hm; exfalso; omega), (by intro σ τ H locs x4 x5 x6 ls hR hF hFL hP hS hc0 hc1 hl hm; exfalso; omega)⟩
  | succ n ih =>
    exact ⟨B_X6_menOfWhom_6 p l e s m args below meth c D cA ad σ0 τ0 n C  ih.1 ih.2.1 ih.2.2.1 ih.2.2.2, B_X6_menOfWhom_72 p l e s m args below meth c D cA ad σ0 τ0 n C  ih.1 ih.2.1 ih.2.2.1 ih.2.2.2, B_X6_menOfWhom_110 p l e s m args below meth c D cA ad σ0 τ0 n C  ih.1 ih.2.1 ih.2.2.1 ih.2.2.2, B_X6_menOfWhom_148 p l e s m args below meth c D cA ad σ0 τ0 n C  ih.1 ih.2.1 ih.2.2.1 ih.2.2.2⟩
set_option maxHeartbeats 4000000 in
theorem c_X6_menOfWhom (l : Launch) (D : va_G) (cA : Nat → ClassId) (ad : Nat → Nat) (hI : Inj ad) (σ0 : Nat → Nat → Int32) (τ0 : Nat → Nat → Int64) (hR : Rg σ0)   : Met l yX6_menOfWhom wsX6_menOfWhom ({ frames := 6, cells := 0, slots := 0, locals := 143 } : Room) (WQc D cA ad [.ref (ad 23), .ref (ad 2), .ref (ad 7), .ref (ad 22)] σ0 τ0) (va_Qi (fun (r : Int32) (u : SS) => P_X6_menOfWhom σ0 τ0 r u.1 u.2) (WB D cA ad) (AA ad)) 0 0 (AA ad) := by
  refine Met.ofW (cc := cX6_menOfWhom) (maxL := 7) (ret := (some .int)) (by decide) rfl ?_
  intro p e s m args below meth c s₁ B hml hv
  obtain ⟨rfl, hP, hK, hN⟩ := hv
  have C : Cy p s m _ meth c cX6_menOfWhom 7 wsX6_menOfWhom RX6 D cA ad (some .int) := ⟨B.exec, B.bytes, hml, findClass_of_methodNamed B.named, atoms_spec (ws := wsX6_menOfWhom) B.pre, hK, B.notSynchronized, B.returns, hI, hN⟩
  have hl := lv_entry ([.ref (ad 23), .ref (ad 2), .ref (ad 7), .ref (ad 22)]) (n := 7) (Nat.le_of_ble_eq_true rfl)
  rw [lg_entry_eq]
  generalize (lg_sl ([.ref (ad 23), .ref (ad 2), .ref (ad 7), .ref (ad 22)]) ++ List.replicate (7 - (lg_sl ([.ref (ad 23), .ref (ad 2), .ref (ad 7), .ref (ad 22)])).length) Slot.unset).toArray = ls at hl ⊢
  have hl : lv_has ls 7 [(0, .ref (ad 23)), (1, .ref (ad 2)), (2, .ref (ad 7)), (3, .ref (ad 22))] := hl
  have hS : va_S (AA ad) s.heap s.heap [] := va_S.rf
  have hF : Fr L_X6_menOfWhom σ0 σ0 := Fr.rf
  have hFL : FrL LL_X6_menOfWhom τ0 τ0 := FrL.rf
  have hA := A_X6_menOfWhom p l e s m _ below meth c D cA ad σ0 τ0 C  419
  have K6 := hA.1
  have K72 := hA.2.1
  have K110 := hA.2.2.1
  have K148 := hA.2.2.2
  clear hA
  obtain ⟨hx, hb, _, hown, hts, _, hk, hr, _, _⟩ := C
  refine r_iconst hx hb dX6_menOfWhom_0 (by decide) (fun z1 ez1 => ?_)
  refine lv_istore (lv' := [(4, .int z1), (0, .ref (ad 23)), (1, .ref (ad 2)), (2, .ref (ad 7)), (3, .ref (ad 22))]) hx hb dX6_menOfWhom_1 hl (by decide) rfl (fun ls hl => ?_)
  refine r_iconst hx hb dX6_menOfWhom_3 (by decide) (fun z2 ez2 => ?_)
  refine lv_istore (lv' := [(5, .int z2), (4, .int z1), (0, .ref (ad 23)), (1, .ref (ad 2)), (2, .ref (ad 7)), (3, .ref (ad 22))]) hx hb dX6_menOfWhom_4 hl (by decide) rfl (fun ls hl => ?_)
  exact K6 σ0 τ0 s.heap [] z1 z2 ls hR hF hFL hP hS (by omega) (by omega) (lv_sub hl [2, 3, 4, 5, 1, 0] rfl) (by omega)
theorem in_X4_keep_4 : ∀ w ∈ u_ws RX4 TX4 4, w ∈ wsX4_keep := by decide +kernel
theorem lk_X4_keep_10 : Cond.fieldLink RX4 10 "CuckooShares$Image" "valley" "LCuckooShares$Valley;" ∈ wsX4_keep := by decide +kernel
theorem lk_X4_keep_19 : Cond.fieldLink RX4 19 "CuckooShares$Image" "days" "LCuckooShares$Days;" ∈ wsX4_keep := by decide +kernel
theorem lk_X4_keep_26 : Cond.fieldLink RX4 26 "CuckooShares$Image" "sentence" "LCuckooShares$Sentence;" ∈ wsX4_keep := by decide +kernel
theorem lk_X4_keep_40 : Cond.fieldLink RX4 40 "CuckooShares$Image" "kept" "Z" ∈ wsX4_keep := by decide +kernel
abbrev L_X4_keep : List Rc := [(2, 5, 0, 6), (64, 67, 0, 8), (68, 99, 0, 3), (100, 131, 0, 6), (132, 147, 0, 3), (148, 307, 0, 3), (7, 19, 0, 2), (308, 320, 0, 8), (321, 333, 0, 8), (334, 346, 0, 8), (347, 359, 0, 8), (23, 26, 0, 2), (371, 374, 0, 40), (375, 378, 0, 40), (379, 382, 0, 40), (29, 30, 3, 3)]
abbrev LL_X4_keep : List Rc := [(40, 43, 0, 8), (44, 47, 0, 8)]
def P_X4_keep (σ0 : Nat → Nat → Int32) (τ0 : Nat → Nat → Int64) (k0 : Nat) (σ : Nat → Nat → Int32) (τ : Nat → Nat → Int64) : Prop := Rg σ ∧ Fr L_X4_keep σ0 σ ∧ FrL LL_X4_keep τ0 τ ∧ ((σ k0 3).toInt = 1) ∧ (KO σ0 σ k0) ∧ (VCp σ0 σ 2 (k0 - 25)) ∧ (NCp τ0 τ 2 (k0 - 25))
set_option maxHeartbeats 4000000 in
theorem c_X4_keep (l : Launch) (D : va_G) (cA : Nat → ClassId) (ad : Nat → Nat) (hI : Inj ad) (σ0 : Nat → Nat → Int32) (τ0 : Nat → Nat → Int64) (hR : Rg σ0) (k0 : Nat) (hk0 : 29 ≤ k0 ∧ k0 ≤ 30) : Met l yX4_keep wsX4_keep ({ frames := 3, cells := 0, slots := 0, locals := 104 } : Room) (WQc D cA ad [.ref (ad k0), .ref (ad 2), .ref (ad 7), .ref (ad 23)] σ0 τ0) (va_Qv (fun u : SS => P_X4_keep σ0 τ0 k0 u.1 u.2) (WB D cA ad) (AA ad)) 0 0 (AA ad) := by
  refine Met.ofW (cc := cX4_keep) (maxL := 4) (ret := none) (by decide) rfl ?_
  intro p e s m args below meth c s₁ B hml hv
  obtain ⟨rfl, hP, hK, hN⟩ := hv
  have C : Cy p s m _ meth c cX4_keep 4 wsX4_keep RX4 D cA ad none := ⟨B.exec, B.bytes, hml, findClass_of_methodNamed B.named, atoms_spec (ws := wsX4_keep) B.pre, hK, B.notSynchronized, B.returns, hI, hN⟩
  have hl := lv_entry ([.ref (ad k0), .ref (ad 2), .ref (ad 7), .ref (ad 23)]) (n := 4) (Nat.le_of_ble_eq_true rfl)
  rw [lg_entry_eq]
  generalize (lg_sl ([.ref (ad k0), .ref (ad 2), .ref (ad 7), .ref (ad 23)]) ++ List.replicate (4 - (lg_sl ([.ref (ad k0), .ref (ad 2), .ref (ad 7), .ref (ad 23)])).length) Slot.unset).toArray = ls at hl ⊢
  have hl : lv_has ls 4 [(0, .ref (ad k0)), (1, .ref (ad 2)), (2, .ref (ad 7)), (3, .ref (ad 23))] := hl
  have hS : va_S (AA ad) s.heap s.heap [] := va_S.rf
  have hF : Fr L_X4_keep σ0 σ0 := Fr.rf
  have hFL : FrL LL_X4_keep τ0 τ0 := FrL.rf
  obtain ⟨hx, hb, _, hown, hts, _, hk, hr, _, _⟩ := C
  refine lv_aload_n hx hb dX4_keep_0 rfl (lv_at hl 0 rfl) ?_
  refine fg_4_0 (k := k0) hx hb hts in_X4_keep_4 hown hK hP (by omega) (by omega) (hts _ lk_X4_keep_10) dX4_keep_1 ?_
  refine lv_aload_n hx hb dX4_keep_4 rfl (lv_at hl 1 rfl) ?_
  refine r_cVv (k := k0 - 25) (As := [.ref (ad 2)]) (rest := []) ⟨hx, hb, hml, hown, hts⟩ hK hP hN hS (c_X9_copyFrom l D cA ad hI σ0 τ0 hR (k0 - 25) 2 ⟨by omega, by omega⟩ ⟨by omega, by omega⟩) (cwV 1 hts gX4_keep_X9_copyFrom rfl rfl rfl (by decide +kernel) ⟨by decide, by decide⟩) (rv_Valley hK hP (by omega) (by omega)) rfl hl.1 rfl (Nat.le_of_ble_eq_true rfl) dX4_keep_5 (Nat.zero_le _) (Nat.zero_le _) (fun u1 H1 locs1 hp1 hP hS => ?_)
  obtain ⟨σ1, τ1⟩ := u1
  obtain ⟨hR, f1, fL1, hp1_0, hp1_1⟩ : P_X9_copyFrom σ0 τ0 (k0 - 25) 2 σ1 τ1 := hp1
  have vcp := hp1_0
  have ncp := hp1_1
  have fa := f1
  have hP : va_P D vwCl (gw cA ad σ1 τ1) H1 := hP
  have hFL := hFL.step fL1 (by decide)
  have hF := hF.step f1 (by decide)
  refine lv_aload_n hx hb dX4_keep_8 rfl (lv_at hl 0 rfl) ?_
  refine fg_4_1 (k := k0) hx hb hts in_X4_keep_4 hown hK hP (by omega) (by omega) (hts _ lk_X4_keep_19) dX4_keep_9 ?_
  refine lv_aload_n hx hb dX4_keep_12 rfl (lv_at hl 2 rfl) ?_
  refine r_cVv (k := k0 - 11) (As := [.ref (ad 7)]) (rest := []) ⟨hx, hb, hml, hown, hts⟩ hK hP hN hS (c_X2_copyFrom l D cA ad hI σ1 τ1 hR (k0 - 11) 7 ⟨by omega, by omega⟩ ⟨by omega, by omega⟩) (cwV 1 hts gX4_keep_X2_copyFrom rfl rfl rfl (by decide +kernel) ⟨by decide, by decide⟩) (rv_Days hK hP (by omega) (by omega)) rfl hl.1 rfl (Nat.le_of_ble_eq_true rfl) dX4_keep_13 (Nat.zero_le _) (Nat.zero_le _) (fun u2 H2 locs2 hp2 hP hS => ?_)
  obtain ⟨σ2, τ2⟩ := u2
  obtain ⟨hR, f2, fL2⟩ : P_X2_copyFrom σ1 τ1 (k0 - 11) 7 σ2 τ2 := hp2
  have fb := f2
  have hP : va_P D vwCl (gw cA ad σ2 τ2) H2 := hP
  obtain rfl := FrL.nil fL2
  have hF := hF.step f2 (by decide)
  refine lv_aload_n hx hb dX4_keep_16 rfl (lv_at hl 0 rfl) ?_
  refine fg_4_2 (k := k0) hx hb hts in_X4_keep_4 hown hK hP (by omega) (by omega) (hts _ lk_X4_keep_26) dX4_keep_17 ?_
  refine lv_aload_n hx hb dX4_keep_20 rfl (lv_at hl 3 rfl) ?_
  refine r_cVv (k := k0 - 4) (As := [.ref (ad 23)]) (rest := []) ⟨hx, hb, hml, hown, hts⟩ hK hP hN hS (c_X6_copyFrom l D cA ad hI σ2 τ1 hR (k0 - 4) 23 ⟨by omega, by omega⟩ ⟨by omega, by omega⟩) (cwV 1 hts gX4_keep_X6_copyFrom rfl rfl rfl (by decide +kernel) ⟨by decide, by decide⟩) (rv_Sent hK hP (by omega) (by omega)) rfl hl.1 rfl (Nat.le_of_ble_eq_true rfl) dX4_keep_21 (Nat.zero_le _) (Nat.zero_le _) (fun u3 H3 locs3 hp3 hP hS => ?_)
  obtain ⟨σ3, τ3⟩ := u3
  obtain ⟨hR, f3, fL3, hp3_0⟩ : P_X6_copyFrom σ2 τ1 (k0 - 4) 23 σ3 τ3 := hp3
  have fc := f3
  have hP : va_P D vwCl (gw cA ad σ3 τ3) H3 := hP
  obtain rfl := FrL.nil fL3
  have hF := hF.step f3 (by decide)
  refine lv_aload_n hx hb dX4_keep_24 rfl (lv_at hl 0 rfl) ?_
  refine r_iconst hx hb dX4_keep_25 (by decide) (fun z4 ez4 => ?_)
  refine fp_4_3 (k := k0) hx hb hts in_X4_keep_4 hown hK hP (by omega) (by omega) (hts _ lk_X4_keep_40) hI hR hS (by omega) dX4_keep_26 (fun σ5 H5 locs5 u5 v5 hR hP hS => ?_)
  have uk := u5
  have vk := v5
  have hF := hF.puts u5 15 rfl (by omega) (by omega) (by decide) (by decide)
  exact r_vret hx hb hr hK hP hS hk dX4_keep_29 (show P_X4_keep σ0 τ0 k0 σ5 τ1 from ⟨hR, hF, hFL, by omega, KO.of3 fa (by decide) fb (by decide) fc (by decide) uk, ((vcp.fr (by omega) fb (by decide)).fr (by omega) fc (by decide)).up (by omega) uk (by omega), ncp⟩)
theorem in_X4_giveBack_4 : ∀ w ∈ u_ws RX4 TX4 4, w ∈ wsX4_giveBack := by decide +kernel
theorem lk_X4_giveBack_10 : Cond.fieldLink RX4 10 "CuckooShares$Image" "valley" "LCuckooShares$Valley;" ∈ wsX4_giveBack := by decide +kernel
theorem lk_X4_giveBack_19 : Cond.fieldLink RX4 19 "CuckooShares$Image" "days" "LCuckooShares$Days;" ∈ wsX4_giveBack := by decide +kernel
theorem lk_X4_giveBack_26 : Cond.fieldLink RX4 26 "CuckooShares$Image" "sentence" "LCuckooShares$Sentence;" ∈ wsX4_giveBack := by decide +kernel
abbrev L_X4_giveBack : List Rc := [(2, 5, 0, 6), (64, 67, 0, 8), (68, 99, 0, 3), (100, 131, 0, 6), (132, 147, 0, 3), (148, 307, 0, 3), (7, 19, 0, 2), (308, 320, 0, 8), (321, 333, 0, 8), (334, 346, 0, 8), (347, 359, 0, 8), (23, 26, 0, 2), (371, 374, 0, 40), (375, 378, 0, 40), (379, 382, 0, 40)]
abbrev LL_X4_giveBack : List Rc := [(40, 43, 0, 8), (44, 47, 0, 8)]
def P_X4_giveBack (σ0 : Nat → Nat → Int32) (τ0 : Nat → Nat → Int64) (k0 : Nat) (σ : Nat → Nat → Int32) (τ : Nat → Nat → Int64) : Prop := Rg σ ∧ Fr L_X4_giveBack σ0 σ ∧ FrL LL_X4_giveBack τ0 τ ∧ (VCp σ0 σ (k0 - 25) 2) ∧ (NCp τ0 τ (k0 - 25) 2)
set_option maxHeartbeats 4000000 in
theorem c_X4_giveBack (l : Launch) (D : va_G) (cA : Nat → ClassId) (ad : Nat → Nat) (hI : Inj ad) (σ0 : Nat → Nat → Int32) (τ0 : Nat → Nat → Int64) (hR : Rg σ0) (k0 : Nat) (hk0 : 29 ≤ k0 ∧ k0 ≤ 30) : Met l yX4_giveBack wsX4_giveBack ({ frames := 3, cells := 0, slots := 0, locals := 104 } : Room) (WQc D cA ad [.ref (ad k0), .ref (ad 2), .ref (ad 7), .ref (ad 23)] σ0 τ0) (va_Qv (fun u : SS => P_X4_giveBack σ0 τ0 k0 u.1 u.2) (WB D cA ad) (AA ad)) 0 0 (AA ad) := by
  refine Met.ofW (cc := cX4_giveBack) (maxL := 4) (ret := none) (by decide) rfl ?_
  intro p e s m args below meth c s₁ B hml hv
  obtain ⟨rfl, hP, hK, hN⟩ := hv
  have C : Cy p s m _ meth c cX4_giveBack 4 wsX4_giveBack RX4 D cA ad none := ⟨B.exec, B.bytes, hml, findClass_of_methodNamed B.named, atoms_spec (ws := wsX4_giveBack) B.pre, hK, B.notSynchronized, B.returns, hI, hN⟩
  have hl := lv_entry ([.ref (ad k0), .ref (ad 2), .ref (ad 7), .ref (ad 23)]) (n := 4) (Nat.le_of_ble_eq_true rfl)
  rw [lg_entry_eq]
  generalize (lg_sl ([.ref (ad k0), .ref (ad 2), .ref (ad 7), .ref (ad 23)]) ++ List.replicate (4 - (lg_sl ([.ref (ad k0), .ref (ad 2), .ref (ad 7), .ref (ad 23)])).length) Slot.unset).toArray = ls at hl ⊢
  have hl : lv_has ls 4 [(0, .ref (ad k0)), (1, .ref (ad 2)), (2, .ref (ad 7)), (3, .ref (ad 23))] := hl
  have hS : va_S (AA ad) s.heap s.heap [] := va_S.rf
  have hF : Fr L_X4_giveBack σ0 σ0 := Fr.rf
  have hFL : FrL LL_X4_giveBack τ0 τ0 := FrL.rf
  obtain ⟨hx, hb, _, hown, hts, _, hk, hr, _, _⟩ := C
  refine lv_aload_n hx hb dX4_giveBack_0 rfl (lv_at hl 1 rfl) ?_
  refine lv_aload_n hx hb dX4_giveBack_1 rfl (lv_at hl 0 rfl) ?_
  refine fg_4_0 (k := k0) hx hb hts in_X4_giveBack_4 hown hK hP (by omega) (by omega) (hts _ lk_X4_giveBack_10) dX4_giveBack_2 ?_
  refine r_cVv (k := 2) (As := [.ref (ad (k0 - 25))]) (rest := []) ⟨hx, hb, hml, hown, hts⟩ hK hP hN hS (c_X9_copyFrom l D cA ad hI σ0 τ0 hR 2 (k0 - 25) ⟨by omega, by omega⟩ ⟨by omega, by omega⟩) (cwV 1 hts gX4_giveBack_X9_copyFrom rfl rfl rfl (by decide +kernel) ⟨by decide, by decide⟩) (rv_Valley hK hP (by decide) (by decide)) rfl hl.1 rfl (Nat.le_of_ble_eq_true rfl) dX4_giveBack_5 (Nat.zero_le _) (Nat.zero_le _) (fun u1 H1 locs1 hp1 hP hS => ?_)
  obtain ⟨σ1, τ1⟩ := u1
  obtain ⟨hR, f1, fL1, hp1_0, hp1_1⟩ : P_X9_copyFrom σ0 τ0 2 (k0 - 25) σ1 τ1 := hp1
  have vcp := hp1_0
  have ncp := hp1_1
  have hP : va_P D vwCl (gw cA ad σ1 τ1) H1 := hP
  have hFL := hFL.step fL1 (by decide)
  have hF := hF.step f1 (by decide)
  refine lv_aload_n hx hb dX4_giveBack_8 rfl (lv_at hl 2 rfl) ?_
  refine lv_aload_n hx hb dX4_giveBack_9 rfl (lv_at hl 0 rfl) ?_
  refine fg_4_1 (k := k0) hx hb hts in_X4_giveBack_4 hown hK hP (by omega) (by omega) (hts _ lk_X4_giveBack_19) dX4_giveBack_10 ?_
  refine r_cVv (k := 7) (As := [.ref (ad (k0 - 11))]) (rest := []) ⟨hx, hb, hml, hown, hts⟩ hK hP hN hS (c_X2_copyFrom l D cA ad hI σ1 τ1 hR 7 (k0 - 11) ⟨by omega, by omega⟩ ⟨by omega, by omega⟩) (cwV 1 hts gX4_giveBack_X2_copyFrom rfl rfl rfl (by decide +kernel) ⟨by decide, by decide⟩) (rv_Days hK hP (by decide) (by decide)) rfl hl.1 rfl (Nat.le_of_ble_eq_true rfl) dX4_giveBack_13 (Nat.zero_le _) (Nat.zero_le _) (fun u2 H2 locs2 hp2 hP hS => ?_)
  obtain ⟨σ2, τ2⟩ := u2
  obtain ⟨hR, f2, fL2⟩ : P_X2_copyFrom σ1 τ1 7 (k0 - 11) σ2 τ2 := hp2
  have fb := f2
  have hP : va_P D vwCl (gw cA ad σ2 τ2) H2 := hP
  obtain rfl := FrL.nil fL2
  have hF := hF.step f2 (by decide)
  refine lv_aload_n hx hb dX4_giveBack_16 rfl (lv_at hl 3 rfl) ?_
  refine lv_aload_n hx hb dX4_giveBack_17 rfl (lv_at hl 0 rfl) ?_
  refine fg_4_2 (k := k0) hx hb hts in_X4_giveBack_4 hown hK hP (by omega) (by omega) (hts _ lk_X4_giveBack_26) dX4_giveBack_18 ?_
  refine r_cVv (k := 23) (As := [.ref (ad (k0 - 4))]) (rest := []) ⟨hx, hb, hml, hown, hts⟩ hK hP hN hS (c_X6_copyFrom l D cA ad hI σ2 τ1 hR 23 (k0 - 4) ⟨by omega, by omega⟩ ⟨by omega, by omega⟩) (cwV 1 hts gX4_giveBack_X6_copyFrom rfl rfl rfl (by decide +kernel) ⟨by decide, by decide⟩) (rv_Sent hK hP (by decide) (by decide)) rfl hl.1 rfl (Nat.le_of_ble_eq_true rfl) dX4_giveBack_21 (Nat.zero_le _) (Nat.zero_le _) (fun u3 H3 locs3 hp3 hP hS => ?_)
  obtain ⟨σ3, τ3⟩ := u3
  obtain ⟨hR, f3, fL3, hp3_0⟩ : P_X6_copyFrom σ2 τ1 23 (k0 - 4) σ3 τ3 := hp3
  have fc := f3
  have hP : va_P D vwCl (gw cA ad σ3 τ3) H3 := hP
  obtain rfl := FrL.nil fL3
  have hF := hF.step f3 (by decide)
  exact r_vret hx hb hr hK hP hS hk dX4_giveBack_24 (show P_X4_giveBack σ0 τ0 k0 σ3 τ1 from ⟨hR, hF, hFL, (vcp.fr (by omega) fb (by decide)).fr (by omega) fc (by decide), ncp⟩)
