abbrev L_X7_readAll_d4 : List Rc := [(1, 1, 7, 10), (372, 372, 0, 39), (376, 376, 0, 39), (380, 380, 0, 39), (24, 24, 1, 2), (1, 1, 12, 14)]
abbrev LL_X7_readAll_d4 : List Rc := [(1, 1, 11, 11)]
def P_X7_readAll_d4 (σ0 : Nat → Nat → Int32) (τ0 : Nat → Nat → Int64) (a1 : Int32) (b : Nat → Int) (N : Nat) (mo : Nat) (q : Nat) (nn : Nat) (nm : Nat → Int) (hc : Nat) (r : Int32) (σ : Nat → Nat → Int32) (τ : Nat → Nat → Int64) : Prop := Rg σ ∧ Fr L_X7_readAll_d4 σ0 σ ∧ FrL LL_X7_readAll_d4 τ0 τ ∧ (0 ≤ r.toInt ∧ r.toInt ≤ 1) ∧ (RO r σ (allP b N mo (fun q nn => oneP b N mo nm hc 5 q nn) q nn) (fun s => CT σ τ b N mo s.1 ∧ (σ 24 1).toInt = (s.2 : Int) ∧ (σ 24 2).toInt + 2 * (nn : Int) + 1 ≤ (σ0 24 2).toInt + 2 * (s.2 : Int))) ∧ WH σ τ nm hc
def J_X7_readAll_d4_12 (p : Program) (l : Launch) (e : Env) (s : State) (m : MethodId) (args : Array Value) (below : List Frame) (meth : Method) (c : Code) (D : va_G) (cA : Nat → ClassId) (ad : Nat → Nat) (σ0 : Nat → Nat → Int32) (τ0 : Nat → Nat → Int64) (a1 : Int32) (b : Nat → Int) (N : Nat) (mo : Nat) (q : Nat) (nn : Nat) (nm : Nat → Int) (hc : Nat) (n : Nat) : Prop := ∀ (σ : Nat → Nat → Int32) (τ : Nat → Nat → Int64) (H : Heap) (locs : List Loc) (x2 : Int32) (fu : Nat) (q1 : Nat) (n1 : Nat) (ls : Array Slot), Rg σ → Fr L_X7_readAll_d4 σ0 σ → FrL LL_X7_readAll_d4 τ0 τ → va_P D vwCl (gw cA ad σ τ) H → va_S (AA ad) s.heap H locs → (0 ≤ x2.toInt ∧ x2.toInt ≤ 200) → (0 ≤ (σ 24 1).toInt ∧ (σ 24 1).toInt ≤ 20) → (0 ≤ (σ 24 2).toInt ∧ (σ 24 2).toInt ≤ 40) → (allP b N mo (fun q nn => oneP b N mo nm hc 5 q nn) q nn = lopP b N mo 21 (fun q nn => oneP b N mo nm hc 5 q nn) fu q1 n1) → ((σ 24 1).toInt = (n1 : Int)) → (0 ≤ (σ 24 2).toInt ∧ (σ 24 2).toInt + 2 * (nn : Int) + 1 ≤ (σ0 24 2).toInt + 2 * (n1 : Int)) → ((fu : Int) + x2.toInt = 200) → (n1 ≤ 20) → (CT σ τ b N mo q1) → (WH σ τ nm hc) → (CT σ τ b N mo q1) → lv_has ls 3 [(0, .ref (ad 27)), (1, .int a1), (2, .int x2)] → 2 * (200 - x2.toInt) + 1 < (n : Int) → W p l e ({ frames := 17, cells := 0, slots := 0, locals := 373 } : Room) s m args below meth c H locs 0 0 (MQ below (va_Qi (fun (r : Int32) (u : SS) => P_X7_readAll_d4 σ0 τ0 a1 b N mo q nn nm hc r u.1 u.2) (WB D cA ad) (AA ad)) args s 0 0 (AA ad)) (F0 m 12 ls [])
set_option maxHeartbeats 4000000 in
theorem B_X7_readAll_d4_12 (p : Program) (l : Launch) (e : Env) (s : State) (m : MethodId) (args : Array Value) (below : List Frame) (meth : Method) (c : Code) (D : va_G) (cA : Nat → ClassId) (ad : Nat → Nat) (σ0 : Nat → Nat → Int32) (τ0 : Nat → Nat → Int64) (a1 : Int32) (b : Nat → Int) (N : Nat) (mo : Nat) (q : Nat) (nn : Nat) (nm : Nat → Int) (hc : Nat) (n : Nat) (C : Cy p s m args meth c cX7_readAll 3 wsX7_readAll RX7 D cA ad (some .boolean)) (ha1 : 4 ≤ a1.toInt ∧ a1.toInt ≤ 4) (hpre0 : (σ0 24 1).toInt = (nn : Int)) (hpre1 : 0 ≤ (σ0 24 2).toInt ∧ (σ0 24 2).toInt ≤ 2 * (nn : Int)) (hpre2 : nn ≤ 20) (gCT0 : CT σ0 τ0 b N mo q) (gWH0 : WH σ0 τ0 nm hc) (K12 : J_X7_readAll_d4_12 p l e s m args below meth c D cA ad σ0 τ0 a1 b N mo q nn nm hc n) : J_X7_readAll_d4_12 p l e s m args below meth c D cA ad σ0 τ0 a1 b N mo q nn nm hc (n + 1) := by
  obtain ⟨hx, hb, hml, hown, hts, hK, hk, hr, hI, hN⟩ := C
  intro σ τ H locs x2 fu q1 n1 ls hR hF hFL hP hS hc0 hc1 hc2 iv ib2 ib3 ifu in20 gCT gWH gCT hl hm
  refine lv_iload_n hx hb dX7_readAll_12 rfl (lv_at hl 2 rfl) ?_
  refine r_sipush hx hb dX7_readAll_13 (by decide) (fun z1 ez1 => ?_)
  refine r_icmp_ge (tgt := 68) hx hb dX7_readAll_16 (by decide) (fun c2 => ?_) (fun c2 => ?_)
  · refine r_iconst hx hb dX7_readAll_68 (by decide) (fun z3 ez3 => ?_)
    exact r_zret hx hb hr hK hP hS hk (by omega) dX7_readAll_69 (show P_X7_readAll_d4 σ0 τ0 a1 b N mo q nn nm hc z3 σ τ from ⟨hR, hF, hFL, by omega, by first | (exfalso; omega) | (obtain ⟨f, e1, x1, x2⟩ := o1.no (by omega); exact RO.ofl (all_f e1) (by omega) x1 x2) | exact RO.ofr (by rw [iv, lop_e (by omega)]) (by omega) ⟨gCT, by omega, by omega⟩ | (obtain ⟨f, e2, x1, x2⟩ := o2.no (by omega); exact RO.ofl (by rw [iv, lop_f (f := (fun q nn => oneP b N mo nm hc 5 q nn)) (by omega) (by omega) e2]) (by omega) x1 x2) | (exfalso; omega), gWH⟩)
  · have htk := gCT.tk
    refine lv_aload_n hx hb dX7_readAll_19 rfl (lv_at hl 0 rfl) ?_
    refine fg_7_0 (k := 27) hx hb hts in_X7_readAll_7 hown hK hP (by decide) (by decide) (hts _ lk_X7_readAll_9) dX7_readAll_20 ?_
    refine fgN_8_9 (k := 1) hx hb hts in_X7_readAll_8 hown hK hP (by decide) (by decide) (hN.use nw_7_32) dX7_readAll_23 ?_
    refine r_bipush hx hb dX7_readAll_26 (by decide) (fun z4 ez4 => ?_)
    refine r_icmp_ne (tgt := 68) hx hb dX7_readAll_28 (by decide) (fun c5 => ?_) (fun c5 => ?_)
    · refine r_iconst hx hb dX7_readAll_68 (by decide) (fun z6 ez6 => ?_)
      exact r_zret hx hb hr hK hP hS hk (by omega) dX7_readAll_69 (show P_X7_readAll_d4 σ0 τ0 a1 b N mo q nn nm hc z6 σ τ from ⟨hR, hF, hFL, by omega, by first | (exfalso; omega) | (obtain ⟨f, e1, x1, x2⟩ := o1.no (by omega); exact RO.ofl (all_f e1) (by omega) x1 x2) | exact RO.ofr (by rw [iv, lop_e (by omega)]) (by omega) ⟨gCT, by omega, by omega⟩ | (obtain ⟨f, e2, x1, x2⟩ := o2.no (by omega); exact RO.ofl (by rw [iv, lop_f (f := (fun q nn => oneP b N mo nm hc 5 q nn)) (by omega) (by omega) e2]) (by omega) x1 x2) | (exfalso; omega), gWH⟩)
    · refine lv_aload_n hx hb dX7_readAll_31 rfl (lv_at hl 0 rfl) ?_
      refine fg_7_0 (k := 27) hx hb hts in_X7_readAll_7 hown hK hP (by decide) (by decide) (hts _ lk_X7_readAll_9) dX7_readAll_32 ?_
      refine r_cVv (k := 1) (As := []) (rest := []) ⟨hx, hb, hml, hown, hts⟩ hK hP hN hS (c_X8_next_v l D cA ad hI σ τ hR _ _ _ _ gCT) (cwV 0 hts gX7_readAll_X8_next rfl rfl rfl (by decide +kernel) ⟨by decide, by decide⟩) (rv_Tape hK hP (by decide) (by decide)) rfl hl.1 rfl (Nat.le_of_ble_eq_true rfl) dX7_readAll_35 (Nat.zero_le _) (Nat.zero_le _) (fun u7 H7 locs7 hp7 hP hS => ?_)
      obtain ⟨σ7, τ7⟩ := u7
      obtain ⟨hR, f7, fL7, hp7_0⟩ : P_X8_next_v σ τ _ _ _ _ σ7 τ7 := hp7
      have hP : va_P D vwCl (gw cA ad σ7 τ7) H7 := hP
      have hFL := hFL.step fL7 (by decide)
      have gWH := gWH.agL (AgrL.fr fL7 (by decide))
      have hF := hF.step f7 (by decide)
      have gWH := gWH.ag (Agr.fr f7 (by decide))
      have t8 : (σ7 24 1).toInt = (σ 24 1).toInt := congrArg Int32.toInt (f7.at 24 1 (by decide))
      have t9 : (σ7 24 2).toInt = (σ 24 2).toInt := congrArg Int32.toInt (f7.at 24 2 (by decide))
      have gCT := hp7_0
      refine lv_aload_n hx hb dX7_readAll_38 rfl (lv_at hl 0 rfl) ?_
      refine lv_iload_n hx hb dX7_readAll_39 rfl (lv_at hl 1 rfl) ?_
      refine r_cVi (k := 27) (As := [.int a1]) (rest := []) ⟨hx, hb, hml, hown, hts⟩ hK hP hN hS (c_X7_readOne_d4 l D cA ad hI σ7 τ7 hR a1 b N mo _ n1 nm hc (by omega) (by omega) (by omega) (by omega) gCT gWH) (cwV 1 hts gX7_readAll_X7_readOne rfl rfl rfl (by decide +kernel) ⟨by decide, by decide⟩) (rv_SText hK hP (by decide) (by decide)) rfl hl.1 rfl (Nat.le_of_ble_eq_true rfl) dX7_readAll_40 (Nat.zero_le _) (Nat.zero_le _) (fun r10 u10 H10 locs10 hp10 hP hS => ?_)
      obtain ⟨σ10, τ10⟩ := u10
      obtain ⟨hR, f10, fL10, hq10, hp10_0, gnWH⟩ : P_X7_readOne_d4 σ7 τ7 a1 b N mo _ n1 nm hc r10 σ10 τ10 := hp10
      have o2 := hp10_0
      have hP : va_P D vwCl (gw cA ad σ10 τ10) H10 := hP
      have hFL := hFL.step fL10 (by decide)
      have gWH := gWH.agL (AgrL.fr fL10 (by decide))
      have hF := hF.step f10 (by decide)
      have gWH := gWH.ag (Agr.fr f10 (by decide))
      have hr11 := rg_6_1 hR (k := 24) (by decide) (by decide)
      have hr12 := rg_6_2 hR (k := 24) (by decide) (by decide)
      refine r_if_eq (tgt := 60) hx hb dX7_readAll_43 (by decide) (fun c13 => ?_) (fun c13 => ?_)
      · refine r_iconst hx hb dX7_readAll_60 (by decide) (fun z14 ez14 => ?_)
        exact r_zret hx hb hr hK hP hS hk (by omega) dX7_readAll_61 (show P_X7_readAll_d4 σ0 τ0 a1 b N mo q nn nm hc z14 σ10 τ10 from ⟨hR, hF, hFL, by omega, by first | (exfalso; omega) | (obtain ⟨f, e1, x1, x2⟩ := o1.no (by omega); exact RO.ofl (all_f e1) (by omega) x1 x2) | exact RO.ofr (by rw [iv, lop_e (by omega)]) (by omega) ⟨gCT, by omega, by omega⟩ | (obtain ⟨f, e2, x1, x2⟩ := o2.no (by omega); exact RO.ofl (by rw [iv, lop_f (f := (fun q nn => oneP b N mo nm hc 5 q nn)) (by omega) (by omega) e2]) (by omega) x1 x2) | (exfalso; omega), gWH⟩)
      · obtain ⟨s2, e2, gCT, hs3, hs4⟩ := o2.ye (by omega)
        have hu2 := one_up _ _ _ _ e2
        refine lv_aload_n hx hb dX7_readAll_46 rfl (lv_at hl 0 rfl) ?_
        refine fg_7_2 (k := 27) hx hb hts in_X7_readAll_7 hown hK hP (by decide) (by decide) (hts _ lk_X7_readAll_19) dX7_readAll_47 ?_
        refine r_bipush hx hb dX7_readAll_50 (by decide) (fun z15 ez15 => ?_)
        refine r_iconst hx hb dX7_readAll_52 (by decide) (fun z16 ez16 => ?_)
        refine r_iconst hx hb dX7_readAll_53 (by decide) (fun z17 ez17 => ?_)
        refine r_cVi (k := 24) (As := [.int z15, .int z16, .int z17]) (rest := []) ⟨hx, hb, hml, hown, hts⟩ hK hP hN hS (c_X6_add l D cA ad hI σ10 τ10 hR z15 z16 z17 (by omega)) (cwV 3 hts gX7_readAll_X6_add rfl rfl rfl (by decide +kernel) ⟨by decide, by decide⟩) (rv_Sent hK hP (by decide) (by decide)) rfl hl.1 rfl (Nat.le_of_ble_eq_true rfl) dX7_readAll_54 (Nat.zero_le _) (Nat.zero_le _) (fun r18 u18 H18 locs18 hp18 hP hS => ?_)
        obtain ⟨σ18, τ18⟩ := u18
        obtain ⟨hR, f18, fL18, hq18, hp18_0⟩ : P_X6_add σ10 τ10 z15 z16 z17 r18 σ18 τ18 := hp18
        have hP : va_P D vwCl (gw cA ad σ18 τ18) H18 := hP
        obtain rfl := FrL.nil fL18
        have hF := hF.step f18 (by decide)
        have gCT := gCT.ag (Agr.fr f18 (by decide))
        have gWH := gWH.ag (Agr.fr f18 (by decide))
        have t19 : (σ18 24 1).toInt = (σ10 24 1).toInt := congrArg Int32.toInt (f18.at 24 1 (by decide))
        have hr20 := rg_6_2 hR (k := 24) (by decide) (by decide)
        refine r_if_ne (tgt := 62) hx hb dX7_readAll_57 (by decide) (fun c21 => ?_) (fun c21 => ?_)
        · refine r_iinc (k := 2) (lv1 := fun z22 => [(2, .int z22), (0, .ref (ad 27)), (1, .int a1)]) hx hb dX7_readAll_62 hl rfl (by decide) (fun _ => rfl) (by decide) (by omega) (fun z22 ls ez22 hl => ?_)
          refine lv_goto (tgt := 12) hx hb dX7_readAll_65 (by decide) ?_
          exact K12 σ18 τ10 H18 locs18 z22 (fu - 1) _ _ ls hR hF hFL hP hS (by omega) (by omega) (by omega) (by first | exact all_s e1 | rw [iv, lop_s (f := (fun q nn => oneP b N mo nm hc 5 q nn)) (by omega) (by omega) e2]) (by omega) (by omega) (by omega) (by omega) gCT gWH gCT (lv_sub hl [1, 2, 0] rfl) (by omega)
        · refine r_iconst hx hb dX7_readAll_60 (by decide) (fun z23 ez23 => ?_)
          exact r_zret hx hb hr hK hP hS hk (by omega) dX7_readAll_61 (show P_X7_readAll_d4 σ0 τ0 a1 b N mo q nn nm hc z23 σ18 τ10 from ⟨hR, hF, hFL, by omega, by first | (exfalso; omega) | (obtain ⟨f, e1, x1, x2⟩ := o1.no (by omega); exact RO.ofl (all_f e1) (by omega) x1 x2) | exact RO.ofr (by rw [iv, lop_e (by omega)]) (by omega) ⟨gCT, by omega, by omega⟩ | (obtain ⟨f, e2, x1, x2⟩ := o2.no (by omega); exact RO.ofl (by rw [iv, lop_f (f := (fun q nn => oneP b N mo nm hc 5 q nn)) (by omega) (by omega) e2]) (by omega) x1 x2) | (exfalso; omega), gWH⟩)
theorem A_X7_readAll_d4 (p : Program) (l : Launch) (e : Env) (s : State) (m : MethodId) (args : Array Value) (below : List Frame) (meth : Method) (c : Code) (D : va_G) (cA : Nat → ClassId) (ad : Nat → Nat) (σ0 : Nat → Nat → Int32) (τ0 : Nat → Nat → Int64) (a1 : Int32) (b : Nat → Int) (N : Nat) (mo : Nat) (q : Nat) (nn : Nat) (nm : Nat → Int) (hc : Nat) (C : Cy p s m args meth c cX7_readAll 3 wsX7_readAll RX7 D cA ad (some .boolean)) (ha1 : 4 ≤ a1.toInt ∧ a1.toInt ≤ 4) (hpre0 : (σ0 24 1).toInt = (nn : Int)) (hpre1 : 0 ≤ (σ0 24 2).toInt ∧ (σ0 24 2).toInt ≤ 2 * (nn : Int)) (hpre2 : nn ≤ 20) (gCT0 : CT σ0 τ0 b N mo q) (gWH0 : WH σ0 τ0 nm hc) : ∀ n : Nat, J_X7_readAll_d4_12 p l e s m args below meth c D cA ad σ0 τ0 a1 b N mo q nn nm hc n := by
  intro n
  induction n with
  | zero =>
    exact (by intro σ τ H locs x2 fu q1 n1 ls hR hF hFL hP hS hc0 hc1 hc2 iv ib2 ib3 ifu in20 gCT gWH gCT hl hm; exfalso; omega)
  | succ n ih =>
    exact B_X7_readAll_d4_12 p l e s m args below meth c D cA ad σ0 τ0 a1 b N mo q nn nm hc n C ha1 hpre0 hpre1 hpre2 gCT0 gWH0 ih
set_option maxHeartbeats 4000000 in
theorem c_X7_readAll_d4 (l : Launch) (D : va_G) (cA : Nat → ClassId) (ad : Nat → Nat) (hI : Inj ad) (σ0 : Nat → Nat → Int32) (τ0 : Nat → Nat → Int64) (hR : Rg σ0) (a1 : Int32) (b : Nat → Int) (N : Nat) (mo : Nat) (q : Nat) (nn : Nat) (nm : Nat → Int) (hc : Nat) (ha1 : 4 ≤ a1.toInt ∧ a1.toInt ≤ 4) (hpre0 : (σ0 24 1).toInt = (nn : Int)) (hpre1 : 0 ≤ (σ0 24 2).toInt ∧ (σ0 24 2).toInt ≤ 2 * (nn : Int)) (hpre2 : nn ≤ 20) (gCT0 : CT σ0 τ0 b N mo q) (gWH0 : WH σ0 τ0 nm hc) : Met l yX7_readAll wsX7_readAll ({ frames := 17, cells := 0, slots := 0, locals := 373 } : Room) (WQc D cA ad [.ref (ad 27), .int a1] σ0 τ0) (va_Qi (fun (r : Int32) (u : SS) => P_X7_readAll_d4 σ0 τ0 a1 b N mo q nn nm hc r u.1 u.2) (WB D cA ad) (AA ad)) 0 0 (AA ad) := by
  refine Met.ofW (cc := cX7_readAll) (maxL := 3) (ret := (some .boolean)) (by decide) rfl ?_
  intro p e s m args below meth c s₁ B hml hv
  obtain ⟨rfl, hP, hK, hN⟩ := hv
  have C : Cy p s m _ meth c cX7_readAll 3 wsX7_readAll RX7 D cA ad (some .boolean) := ⟨B.exec, B.bytes, hml, findClass_of_methodNamed B.named, atoms_spec (ws := wsX7_readAll) B.pre, hK, B.notSynchronized, B.returns, hI, hN⟩
  have hl := lv_entry ([.ref (ad 27), .int a1]) (n := 3) (Nat.le_of_ble_eq_true rfl)
  rw [lg_entry_eq]
  generalize (lg_sl ([.ref (ad 27), .int a1]) ++ List.replicate (3 - (lg_sl ([.ref (ad 27), .int a1])).length) Slot.unset).toArray = ls at hl ⊢
  have hl : lv_has ls 3 [(0, .ref (ad 27)), (1, .int a1)] := hl
  have hS : va_S (AA ad) s.heap s.heap [] := va_S.rf
  have hF : Fr L_X7_readAll_d4 σ0 σ0 := Fr.rf
  have hFL : FrL LL_X7_readAll_d4 τ0 τ0 := FrL.rf
  have gCT := gCT0
  have gWH := gWH0
  have hA := A_X7_readAll_d4 p l e s m _ below meth c D cA ad σ0 τ0 a1 b N mo q nn nm hc C ha1 hpre0 hpre1 hpre2 gCT0 gWH0 810
  have K12 := hA
  clear hA
  obtain ⟨hx, hb, _, hown, hts, _, hk, hr, _, _⟩ := C
  refine lv_aload_n hx hb dX7_readAll_0 rfl (lv_at hl 0 rfl) ?_
  refine lv_iload_n hx hb dX7_readAll_1 rfl (lv_at hl 1 rfl) ?_
  refine r_cVi (k := 27) (As := [.int a1]) (rest := []) ⟨hx, hb, hml, hown, hts⟩ hK hP hN hS (c_X7_readOne_d4 l D cA ad hI σ0 τ0 hR a1 b N mo q nn nm hc (by omega) (by omega) (by omega) (by omega) gCT gWH) (cwV 1 hts gX7_readAll_X7_readOne rfl rfl rfl (by decide +kernel) ⟨by decide, by decide⟩) (rv_SText hK hP (by decide) (by decide)) rfl hl.1 rfl (Nat.le_of_ble_eq_true rfl) dX7_readAll_2 (Nat.zero_le _) (Nat.zero_le _) (fun r1 u1 H1 locs1 hp1 hP hS => ?_)
  obtain ⟨σ1, τ1⟩ := u1
  obtain ⟨hR, f1, fL1, hq1, hp1_0, gnWH⟩ : P_X7_readOne_d4 σ0 τ0 a1 b N mo q nn nm hc r1 σ1 τ1 := hp1
  have o1 := hp1_0
  have hP : va_P D vwCl (gw cA ad σ1 τ1) H1 := hP
  have hFL := hFL.step fL1 (by decide)
  have gWH := gWH.agL (AgrL.fr fL1 (by decide))
  have hF := hF.step f1 (by decide)
  have gWH := gWH.ag (Agr.fr f1 (by decide))
  have hr2 := rg_6_1 hR (k := 24) (by decide) (by decide)
  have hr3 := rg_6_2 hR (k := 24) (by decide) (by decide)
  refine r_if_ne (tgt := 10) hx hb dX7_readAll_5 (by decide) (fun c4 => ?_) (fun c4 => ?_)
  · obtain ⟨s1, e1, gCT, hs1, hs2⟩ := o1.ye (by omega)
    have hu1 := one_up _ _ _ _ e1
    refine r_iconst hx hb dX7_readAll_10 (by decide) (fun z5 ez5 => ?_)
    refine lv_istore_n (lv' := [(2, .int z5), (0, .ref (ad 27)), (1, .int a1)]) hx hb dX7_readAll_11 rfl hl (by decide) rfl (fun ls hl => ?_)
    exact K12 σ1 τ1 H1 locs1 z5 200 _ _ ls hR hF hFL hP hS (by omega) (by omega) (by omega) (by first | exact all_s e1 | rw [iv, lop_s (f := (fun q nn => oneP b N mo nm hc 5 q nn)) (by omega) (by omega) e2]) (by omega) (by omega) (by omega) (by omega) gCT gWH gCT (lv_sub hl [1, 2, 0] rfl) (by omega)
  · refine r_iconst hx hb dX7_readAll_8 (by decide) (fun z6 ez6 => ?_)
    exact r_zret hx hb hr hK hP hS hk (by omega) dX7_readAll_9 (show P_X7_readAll_d4 σ0 τ0 a1 b N mo q nn nm hc z6 σ1 τ1 from ⟨hR, hF, hFL, by omega, by first | (exfalso; omega) | (obtain ⟨f, e1, x1, x2⟩ := o1.no (by omega); exact RO.ofl (all_f e1) (by omega) x1 x2) | exact RO.ofr (by rw [iv, lop_e (by omega)]) (by omega) ⟨gCT, by omega, by omega⟩ | (obtain ⟨f, e2, x1, x2⟩ := o2.no (by omega); exact RO.ofl (by rw [iv, lop_f (f := (fun q nn => oneP b N mo nm hc 5 q nn)) (by omega) (by omega) e2]) (by omega) x1 x2) | (exfalso; omega), gWH⟩)
abbrev L_X7_readCond_d4 : List Rc := [(1, 1, 7, 10), (372, 372, 0, 39), (376, 376, 0, 39), (380, 380, 0, 39), (24, 24, 1, 2), (1, 1, 12, 14)]
abbrev LL_X7_readCond_d4 : List Rc := [(1, 1, 11, 11)]
def P_X7_readCond_d4 (σ0 : Nat → Nat → Int32) (τ0 : Nat → Nat → Int64) (a1 : Int32) (b : Nat → Int) (N : Nat) (mo : Nat) (q : Nat) (nn : Nat) (nm : Nat → Int) (hc : Nat) (r : Int32) (σ : Nat → Nat → Int32) (τ : Nat → Nat → Int64) : Prop := Rg σ ∧ Fr L_X7_readCond_d4 σ0 σ ∧ FrL LL_X7_readCond_d4 τ0 τ ∧ (0 ≤ r.toInt ∧ r.toInt ≤ 1) ∧ (RO r σ (conP b N mo (fun q nn => oneP b N mo nm hc 5 q nn) q nn) (fun s => CT σ τ b N mo s.1 ∧ (σ 24 1).toInt = (s.2 : Int) ∧ (σ 24 2).toInt + 2 * (nn : Int) + 1 ≤ (σ0 24 2).toInt + 2 * (s.2 : Int))) ∧ WH σ τ nm hc
def J_X7_readCond_d4_12 (p : Program) (l : Launch) (e : Env) (s : State) (m : MethodId) (args : Array Value) (below : List Frame) (meth : Method) (c : Code) (D : va_G) (cA : Nat → ClassId) (ad : Nat → Nat) (σ0 : Nat → Nat → Int32) (τ0 : Nat → Nat → Int64) (a1 : Int32) (b : Nat → Int) (N : Nat) (mo : Nat) (q : Nat) (nn : Nat) (nm : Nat → Int) (hc : Nat) (n : Nat) : Prop := ∀ (σ : Nat → Nat → Int32) (τ : Nat → Nat → Int64) (H : Heap) (locs : List Loc) (x2 : Int32) (fu : Nat) (q1 : Nat) (n1 : Nat) (ls : Array Slot), Rg σ → Fr L_X7_readCond_d4 σ0 σ → FrL LL_X7_readCond_d4 τ0 τ → va_P D vwCl (gw cA ad σ τ) H → va_S (AA ad) s.heap H locs → (0 ≤ x2.toInt ∧ x2.toInt ≤ 200) → (0 ≤ (σ 24 1).toInt ∧ (σ 24 1).toInt ≤ 20) → (0 ≤ (σ 24 2).toInt ∧ (σ 24 2).toInt ≤ 40) → (conP b N mo (fun q nn => oneP b N mo nm hc 5 q nn) q nn = lopP b N mo 20 (allP b N mo (fun q nn => oneP b N mo nm hc 5 q nn)) fu q1 n1) → ((σ 24 1).toInt = (n1 : Int)) → (0 ≤ (σ 24 2).toInt ∧ (σ 24 2).toInt + 2 * (nn : Int) + 1 ≤ (σ0 24 2).toInt + 2 * (n1 : Int)) → ((fu : Int) + x2.toInt = 200) → (n1 ≤ 20) → (CT σ τ b N mo q1) → (WH σ τ nm hc) → (CT σ τ b N mo q1) → lv_has ls 3 [(0, .ref (ad 27)), (1, .int a1), (2, .int x2)] → 2 * (200 - x2.toInt) + 1 < (n : Int) → W p l e ({ frames := 18, cells := 0, slots := 0, locals := 395 } : Room) s m args below meth c H locs 0 0 (MQ below (va_Qi (fun (r : Int32) (u : SS) => P_X7_readCond_d4 σ0 τ0 a1 b N mo q nn nm hc r u.1 u.2) (WB D cA ad) (AA ad)) args s 0 0 (AA ad)) (F0 m 12 ls [])
set_option maxHeartbeats 4000000 in
theorem B_X7_readCond_d4_12 (p : Program) (l : Launch) (e : Env) (s : State) (m : MethodId) (args : Array Value) (below : List Frame) (meth : Method) (c : Code) (D : va_G) (cA : Nat → ClassId) (ad : Nat → Nat) (σ0 : Nat → Nat → Int32) (τ0 : Nat → Nat → Int64) (a1 : Int32) (b : Nat → Int) (N : Nat) (mo : Nat) (q : Nat) (nn : Nat) (nm : Nat → Int) (hc : Nat) (n : Nat) (C : Cy p s m args meth c cX7_readCond 3 wsX7_readCond RX7 D cA ad (some .boolean)) (ha1 : 4 ≤ a1.toInt ∧ a1.toInt ≤ 4) (hpre0 : (σ0 24 1).toInt = (nn : Int)) (hpre1 : 0 ≤ (σ0 24 2).toInt ∧ (σ0 24 2).toInt ≤ 2 * (nn : Int)) (hpre2 : nn ≤ 20) (gCT0 : CT σ0 τ0 b N mo q) (gWH0 : WH σ0 τ0 nm hc) (K12 : J_X7_readCond_d4_12 p l e s m args below meth c D cA ad σ0 τ0 a1 b N mo q nn nm hc n) : J_X7_readCond_d4_12 p l e s m args below meth c D cA ad σ0 τ0 a1 b N mo q nn nm hc (n + 1) := by
  obtain ⟨hx, hb, hml, hown, hts, hK, hk, hr, hI, hN⟩ := C
  intro σ τ H locs x2 fu q1 n1 ls hR hF hFL hP hS hc0 hc1 hc2 iv ib2 ib3 ifu in20 gCT gWH gCT hl hm
  refine lv_iload_n hx hb dX7_readCond_12 rfl (lv_at hl 2 rfl) ?_
  refine r_sipush hx hb dX7_readCond_13 (by decide) (fun z1 ez1 => ?_)
  refine r_icmp_ge (tgt := 68) hx hb dX7_readCond_16 (by decide) (fun c2 => ?_) (fun c2 => ?_)
  · refine r_iconst hx hb dX7_readCond_68 (by decide) (fun z3 ez3 => ?_)
    exact r_zret hx hb hr hK hP hS hk (by omega) dX7_readCond_69 (show P_X7_readCond_d4 σ0 τ0 a1 b N mo q nn nm hc z3 σ τ from ⟨hR, hF, hFL, by omega, by first | (exfalso; omega) | (obtain ⟨f, e1, x1, x2⟩ := o1.no (by omega); exact RO.ofl (con_f e1) (by omega) x1 x2) | exact RO.ofr (by rw [iv, lop_e (by omega)]) (by omega) ⟨gCT, by omega, by omega⟩ | (obtain ⟨f, e2, x1, x2⟩ := o2.no (by omega); exact RO.ofl (by rw [iv, lop_f (f := (allP b N mo (fun q nn => oneP b N mo nm hc 5 q nn))) (by omega) (by omega) e2]) (by omega) x1 x2) | (exfalso; omega), gWH⟩)
  · have htk := gCT.tk
    refine lv_aload_n hx hb dX7_readCond_19 rfl (lv_at hl 0 rfl) ?_
    refine fg_7_0 (k := 27) hx hb hts in_X7_readCond_7 hown hK hP (by decide) (by decide) (hts _ lk_X7_readCond_9) dX7_readCond_20 ?_
    refine fgN_8_9 (k := 1) hx hb hts in_X7_readCond_8 hown hK hP (by decide) (by decide) (hN.use nw_7_32) dX7_readCond_23 ?_
    refine r_bipush hx hb dX7_readCond_26 (by decide) (fun z4 ez4 => ?_)
    refine r_icmp_ne (tgt := 68) hx hb dX7_readCond_28 (by decide) (fun c5 => ?_) (fun c5 => ?_)
    · refine r_iconst hx hb dX7_readCond_68 (by decide) (fun z6 ez6 => ?_)
      exact r_zret hx hb hr hK hP hS hk (by omega) dX7_readCond_69 (show P_X7_readCond_d4 σ0 τ0 a1 b N mo q nn nm hc z6 σ τ from ⟨hR, hF, hFL, by omega, by first | (exfalso; omega) | (obtain ⟨f, e1, x1, x2⟩ := o1.no (by omega); exact RO.ofl (con_f e1) (by omega) x1 x2) | exact RO.ofr (by rw [iv, lop_e (by omega)]) (by omega) ⟨gCT, by omega, by omega⟩ | (obtain ⟨f, e2, x1, x2⟩ := o2.no (by omega); exact RO.ofl (by rw [iv, lop_f (f := (allP b N mo (fun q nn => oneP b N mo nm hc 5 q nn))) (by omega) (by omega) e2]) (by omega) x1 x2) | (exfalso; omega), gWH⟩)
    · refine lv_aload_n hx hb dX7_readCond_31 rfl (lv_at hl 0 rfl) ?_
      refine fg_7_0 (k := 27) hx hb hts in_X7_readCond_7 hown hK hP (by decide) (by decide) (hts _ lk_X7_readCond_9) dX7_readCond_32 ?_
      refine r_cVv (k := 1) (As := []) (rest := []) ⟨hx, hb, hml, hown, hts⟩ hK hP hN hS (c_X8_next_v l D cA ad hI σ τ hR _ _ _ _ gCT) (cwV 0 hts gX7_readCond_X8_next rfl rfl rfl (by decide +kernel) ⟨by decide, by decide⟩) (rv_Tape hK hP (by decide) (by decide)) rfl hl.1 rfl (Nat.le_of_ble_eq_true rfl) dX7_readCond_35 (Nat.zero_le _) (Nat.zero_le _) (fun u7 H7 locs7 hp7 hP hS => ?_)
      obtain ⟨σ7, τ7⟩ := u7
      obtain ⟨hR, f7, fL7, hp7_0⟩ : P_X8_next_v σ τ _ _ _ _ σ7 τ7 := hp7
      have hP : va_P D vwCl (gw cA ad σ7 τ7) H7 := hP
      have hFL := hFL.step fL7 (by decide)
      have gWH := gWH.agL (AgrL.fr fL7 (by decide))
      have hF := hF.step f7 (by decide)
      have gWH := gWH.ag (Agr.fr f7 (by decide))
      have t8 : (σ7 24 1).toInt = (σ 24 1).toInt := congrArg Int32.toInt (f7.at 24 1 (by decide))
      have t9 : (σ7 24 2).toInt = (σ 24 2).toInt := congrArg Int32.toInt (f7.at 24 2 (by decide))
      have gCT := hp7_0
      refine lv_aload_n hx hb dX7_readCond_38 rfl (lv_at hl 0 rfl) ?_
      refine lv_iload_n hx hb dX7_readCond_39 rfl (lv_at hl 1 rfl) ?_
      refine r_cVi (k := 27) (As := [.int a1]) (rest := []) ⟨hx, hb, hml, hown, hts⟩ hK hP hN hS (c_X7_readAll_d4 l D cA ad hI σ7 τ7 hR a1 b N mo _ n1 nm hc (by omega) (by omega) (by omega) (by omega) gCT gWH) (cwV 1 hts gX7_readCond_X7_readAll rfl rfl rfl (by decide +kernel) ⟨by decide, by decide⟩) (rv_SText hK hP (by decide) (by decide)) rfl hl.1 rfl (Nat.le_of_ble_eq_true rfl) dX7_readCond_40 (Nat.zero_le _) (Nat.zero_le _) (fun r10 u10 H10 locs10 hp10 hP hS => ?_)
      obtain ⟨σ10, τ10⟩ := u10
      obtain ⟨hR, f10, fL10, hq10, hp10_0, gnWH⟩ : P_X7_readAll_d4 σ7 τ7 a1 b N mo _ n1 nm hc r10 σ10 τ10 := hp10
      have o2 := hp10_0
      have hP : va_P D vwCl (gw cA ad σ10 τ10) H10 := hP
      have hFL := hFL.step fL10 (by decide)
      have gWH := gWH.agL (AgrL.fr fL10 (by decide))
      have hF := hF.step f10 (by decide)
      have gWH := gWH.ag (Agr.fr f10 (by decide))
      have hr11 := rg_6_1 hR (k := 24) (by decide) (by decide)
      have hr12 := rg_6_2 hR (k := 24) (by decide) (by decide)
      refine r_if_eq (tgt := 60) hx hb dX7_readCond_43 (by decide) (fun c13 => ?_) (fun c13 => ?_)
      · refine r_iconst hx hb dX7_readCond_60 (by decide) (fun z14 ez14 => ?_)
        exact r_zret hx hb hr hK hP hS hk (by omega) dX7_readCond_61 (show P_X7_readCond_d4 σ0 τ0 a1 b N mo q nn nm hc z14 σ10 τ10 from ⟨hR, hF, hFL, by omega, by first | (exfalso; omega) | (obtain ⟨f, e1, x1, x2⟩ := o1.no (by omega); exact RO.ofl (con_f e1) (by omega) x1 x2) | exact RO.ofr (by rw [iv, lop_e (by omega)]) (by omega) ⟨gCT, by omega, by omega⟩ | (obtain ⟨f, e2, x1, x2⟩ := o2.no (by omega); exact RO.ofl (by rw [iv, lop_f (f := (allP b N mo (fun q nn => oneP b N mo nm hc 5 q nn))) (by omega) (by omega) e2]) (by omega) x1 x2) | (exfalso; omega), gWH⟩)
      · obtain ⟨s2, e2, gCT, hs3, hs4⟩ := o2.ye (by omega)
        have hu2 := all_up (one_up _) _ _ _ e2
        refine lv_aload_n hx hb dX7_readCond_46 rfl (lv_at hl 0 rfl) ?_
        refine fg_7_2 (k := 27) hx hb hts in_X7_readCond_7 hown hK hP (by decide) (by decide) (hts _ lk_X7_readCond_19) dX7_readCond_47 ?_
        refine r_bipush hx hb dX7_readCond_50 (by decide) (fun z15 ez15 => ?_)
        refine r_iconst hx hb dX7_readCond_52 (by decide) (fun z16 ez16 => ?_)
        refine r_iconst hx hb dX7_readCond_53 (by decide) (fun z17 ez17 => ?_)
        refine r_cVi (k := 24) (As := [.int z15, .int z16, .int z17]) (rest := []) ⟨hx, hb, hml, hown, hts⟩ hK hP hN hS (c_X6_add l D cA ad hI σ10 τ10 hR z15 z16 z17 (by omega)) (cwV 3 hts gX7_readCond_X6_add rfl rfl rfl (by decide +kernel) ⟨by decide, by decide⟩) (rv_Sent hK hP (by decide) (by decide)) rfl hl.1 rfl (Nat.le_of_ble_eq_true rfl) dX7_readCond_54 (Nat.zero_le _) (Nat.zero_le _) (fun r18 u18 H18 locs18 hp18 hP hS => ?_)
        obtain ⟨σ18, τ18⟩ := u18
        obtain ⟨hR, f18, fL18, hq18, hp18_0⟩ : P_X6_add σ10 τ10 z15 z16 z17 r18 σ18 τ18 := hp18
        have hP : va_P D vwCl (gw cA ad σ18 τ18) H18 := hP
        obtain rfl := FrL.nil fL18
        have hF := hF.step f18 (by decide)
        have gCT := gCT.ag (Agr.fr f18 (by decide))
        have gWH := gWH.ag (Agr.fr f18 (by decide))
        have t19 : (σ18 24 1).toInt = (σ10 24 1).toInt := congrArg Int32.toInt (f18.at 24 1 (by decide))
        have hr20 := rg_6_2 hR (k := 24) (by decide) (by decide)
        refine r_if_ne (tgt := 62) hx hb dX7_readCond_57 (by decide) (fun c21 => ?_) (fun c21 => ?_)
        · refine r_iinc (k := 2) (lv1 := fun z22 => [(2, .int z22), (0, .ref (ad 27)), (1, .int a1)]) hx hb dX7_readCond_62 hl rfl (by decide) (fun _ => rfl) (by decide) (by omega) (fun z22 ls ez22 hl => ?_)
          refine lv_goto (tgt := 12) hx hb dX7_readCond_65 (by decide) ?_
          exact K12 σ18 τ10 H18 locs18 z22 (fu - 1) _ _ ls hR hF hFL hP hS (by omega) (by omega) (by omega) (by first | exact con_s e1 | rw [iv, lop_s (f := (allP b N mo (fun q nn => oneP b N mo nm hc 5 q nn))) (by omega) (by omega) e2]) (by omega) (by omega) (by omega) (by omega) gCT gWH gCT (lv_sub hl [1, 2, 0] rfl) (by omega)
        · refine r_iconst hx hb dX7_readCond_60 (by decide) (fun z23 ez23 => ?_)
          exact r_zret hx hb hr hK hP hS hk (by omega) dX7_readCond_61 (show P_X7_readCond_d4 σ0 τ0 a1 b N mo q nn nm hc z23 σ18 τ10 from ⟨hR, hF, hFL, by omega, by first | (exfalso; omega) | (obtain ⟨f, e1, x1, x2⟩ := o1.no (by omega); exact RO.ofl (con_f e1) (by omega) x1 x2) | exact RO.ofr (by rw [iv, lop_e (by omega)]) (by omega) ⟨gCT, by omega, by omega⟩ | (obtain ⟨f, e2, x1, x2⟩ := o2.no (by omega); exact RO.ofl (by rw [iv, lop_f (f := (allP b N mo (fun q nn => oneP b N mo nm hc 5 q nn))) (by omega) (by omega) e2]) (by omega) x1 x2) | (exfalso; omega), gWH⟩)
theorem A_X7_readCond_d4 (p : Program) (l : Launch) (e : Env) (s : State) (m : MethodId) (args : Array Value) (below : List Frame) (meth : Method) (c : Code) (D : va_G) (cA : Nat → ClassId) (ad : Nat → Nat) (σ0 : Nat → Nat → Int32) (τ0 : Nat → Nat → Int64) (a1 : Int32) (b : Nat → Int) (N : Nat) (mo : Nat) (q : Nat) (nn : Nat) (nm : Nat → Int) (hc : Nat) (C : Cy p s m args meth c cX7_readCond 3 wsX7_readCond RX7 D cA ad (some .boolean)) (ha1 : 4 ≤ a1.toInt ∧ a1.toInt ≤ 4) (hpre0 : (σ0 24 1).toInt = (nn : Int)) (hpre1 : 0 ≤ (σ0 24 2).toInt ∧ (σ0 24 2).toInt ≤ 2 * (nn : Int)) (hpre2 : nn ≤ 20) (gCT0 : CT σ0 τ0 b N mo q) (gWH0 : WH σ0 τ0 nm hc) : ∀ n : Nat, J_X7_readCond_d4_12 p l e s m args below meth c D cA ad σ0 τ0 a1 b N mo q nn nm hc n := by
  intro n
  induction n with
  | zero =>
    exact (by intro σ τ H locs x2 fu q1 n1 ls hR hF hFL hP hS hc0 hc1 hc2 iv ib2 ib3 ifu in20 gCT gWH gCT hl hm; exfalso; omega)
  | succ n ih =>
    exact B_X7_readCond_d4_12 p l e s m args below meth c D cA ad σ0 τ0 a1 b N mo q nn nm hc n C ha1 hpre0 hpre1 hpre2 gCT0 gWH0 ih
set_option maxHeartbeats 4000000 in
theorem c_X7_readCond_d4 (l : Launch) (D : va_G) (cA : Nat → ClassId) (ad : Nat → Nat) (hI : Inj ad) (σ0 : Nat → Nat → Int32) (τ0 : Nat → Nat → Int64) (hR : Rg σ0) (a1 : Int32) (b : Nat → Int) (N : Nat) (mo : Nat) (q : Nat) (nn : Nat) (nm : Nat → Int) (hc : Nat) (ha1 : 4 ≤ a1.toInt ∧ a1.toInt ≤ 4) (hpre0 : (σ0 24 1).toInt = (nn : Int)) (hpre1 : 0 ≤ (σ0 24 2).toInt ∧ (σ0 24 2).toInt ≤ 2 * (nn : Int)) (hpre2 : nn ≤ 20) (gCT0 : CT σ0 τ0 b N mo q) (gWH0 : WH σ0 τ0 nm hc) : Met l yX7_readCond wsX7_readCond ({ frames := 18, cells := 0, slots := 0, locals := 395 } : Room) (WQc D cA ad [.ref (ad 27), .int a1] σ0 τ0) (va_Qi (fun (r : Int32) (u : SS) => P_X7_readCond_d4 σ0 τ0 a1 b N mo q nn nm hc r u.1 u.2) (WB D cA ad) (AA ad)) 0 0 (AA ad) := by
  refine Met.ofW (cc := cX7_readCond) (maxL := 3) (ret := (some .boolean)) (by decide) rfl ?_
  intro p e s m args below meth c s₁ B hml hv
  obtain ⟨rfl, hP, hK, hN⟩ := hv
  have C : Cy p s m _ meth c cX7_readCond 3 wsX7_readCond RX7 D cA ad (some .boolean) := ⟨B.exec, B.bytes, hml, findClass_of_methodNamed B.named, atoms_spec (ws := wsX7_readCond) B.pre, hK, B.notSynchronized, B.returns, hI, hN⟩
  have hl := lv_entry ([.ref (ad 27), .int a1]) (n := 3) (Nat.le_of_ble_eq_true rfl)
  rw [lg_entry_eq]
  generalize (lg_sl ([.ref (ad 27), .int a1]) ++ List.replicate (3 - (lg_sl ([.ref (ad 27), .int a1])).length) Slot.unset).toArray = ls at hl ⊢
  have hl : lv_has ls 3 [(0, .ref (ad 27)), (1, .int a1)] := hl
  have hS : va_S (AA ad) s.heap s.heap [] := va_S.rf
  have hF : Fr L_X7_readCond_d4 σ0 σ0 := Fr.rf
  have hFL : FrL LL_X7_readCond_d4 τ0 τ0 := FrL.rf
  have gCT := gCT0
  have gWH := gWH0
  have hA := A_X7_readCond_d4 p l e s m _ below meth c D cA ad σ0 τ0 a1 b N mo q nn nm hc C ha1 hpre0 hpre1 hpre2 gCT0 gWH0 810
  have K12 := hA
  clear hA
  obtain ⟨hx, hb, _, hown, hts, _, hk, hr, _, _⟩ := C
  refine lv_aload_n hx hb dX7_readCond_0 rfl (lv_at hl 0 rfl) ?_
  refine lv_iload_n hx hb dX7_readCond_1 rfl (lv_at hl 1 rfl) ?_
  refine r_cVi (k := 27) (As := [.int a1]) (rest := []) ⟨hx, hb, hml, hown, hts⟩ hK hP hN hS (c_X7_readAll_d4 l D cA ad hI σ0 τ0 hR a1 b N mo q nn nm hc (by omega) (by omega) (by omega) (by omega) gCT gWH) (cwV 1 hts gX7_readCond_X7_readAll rfl rfl rfl (by decide +kernel) ⟨by decide, by decide⟩) (rv_SText hK hP (by decide) (by decide)) rfl hl.1 rfl (Nat.le_of_ble_eq_true rfl) dX7_readCond_2 (Nat.zero_le _) (Nat.zero_le _) (fun r1 u1 H1 locs1 hp1 hP hS => ?_)
  obtain ⟨σ1, τ1⟩ := u1
  obtain ⟨hR, f1, fL1, hq1, hp1_0, gnWH⟩ : P_X7_readAll_d4 σ0 τ0 a1 b N mo q nn nm hc r1 σ1 τ1 := hp1
  have o1 := hp1_0
  have hP : va_P D vwCl (gw cA ad σ1 τ1) H1 := hP
  have hFL := hFL.step fL1 (by decide)
  have gWH := gWH.agL (AgrL.fr fL1 (by decide))
  have hF := hF.step f1 (by decide)
  have gWH := gWH.ag (Agr.fr f1 (by decide))
  have hr2 := rg_6_1 hR (k := 24) (by decide) (by decide)
  have hr3 := rg_6_2 hR (k := 24) (by decide) (by decide)
  refine r_if_ne (tgt := 10) hx hb dX7_readCond_5 (by decide) (fun c4 => ?_) (fun c4 => ?_)
  · obtain ⟨s1, e1, gCT, hs1, hs2⟩ := o1.ye (by omega)
    have hu1 := all_up (one_up _) _ _ _ e1
    refine r_iconst hx hb dX7_readCond_10 (by decide) (fun z5 ez5 => ?_)
    refine lv_istore_n (lv' := [(2, .int z5), (0, .ref (ad 27)), (1, .int a1)]) hx hb dX7_readCond_11 rfl hl (by decide) rfl (fun ls hl => ?_)
    exact K12 σ1 τ1 H1 locs1 z5 200 _ _ ls hR hF hFL hP hS (by omega) (by omega) (by omega) (by first | exact con_s e1 | rw [iv, lop_s (f := (allP b N mo (fun q nn => oneP b N mo nm hc 5 q nn))) (by omega) (by omega) e2]) (by omega) (by omega) (by omega) (by omega) gCT gWH gCT (lv_sub hl [1, 2, 0] rfl) (by omega)
  · refine r_iconst hx hb dX7_readCond_8 (by decide) (fun z6 ez6 => ?_)
    exact r_zret hx hb hr hK hP hS hk (by omega) dX7_readCond_9 (show P_X7_readCond_d4 σ0 τ0 a1 b N mo q nn nm hc z6 σ1 τ1 from ⟨hR, hF, hFL, by omega, by first | (exfalso; omega) | (obtain ⟨f, e1, x1, x2⟩ := o1.no (by omega); exact RO.ofl (con_f e1) (by omega) x1 x2) | exact RO.ofr (by rw [iv, lop_e (by omega)]) (by omega) ⟨gCT, by omega, by omega⟩ | (obtain ⟨f, e2, x1, x2⟩ := o2.no (by omega); exact RO.ofl (by rw [iv, lop_f (f := (allP b N mo (fun q nn => oneP b N mo nm hc 5 q nn))) (by omega) (by omega) e2]) (by omega) x1 x2) | (exfalso; omega), gWH⟩)
abbrev L_X7_readOne_d3 : List Rc := [(1, 1, 7, 10), (372, 372, 0, 39), (376, 376, 0, 39), (380, 380, 0, 39), (24, 24, 1, 2), (1, 1, 12, 14)]
abbrev LL_X7_readOne_d3 : List Rc := [(1, 1, 11, 11)]
def P_X7_readOne_d3 (σ0 : Nat → Nat → Int32) (τ0 : Nat → Nat → Int64) (a1 : Int32) (b : Nat → Int) (N : Nat) (mo : Nat) (q : Nat) (nn : Nat) (nm : Nat → Int) (hc : Nat) (r : Int32) (σ : Nat → Nat → Int32) (τ : Nat → Nat → Int64) : Prop := Rg σ ∧ Fr L_X7_readOne_d3 σ0 σ ∧ FrL LL_X7_readOne_d3 τ0 τ ∧ (0 ≤ r.toInt ∧ r.toInt ≤ 1) ∧ (RO r σ (oneP b N mo nm hc 6 q nn) (fun s => CT σ τ b N mo s.1 ∧ (σ 24 1).toInt = (s.2 : Int) ∧ (σ 24 2).toInt + 2 * (nn : Int) + 1 ≤ (σ0 24 2).toInt + 2 * (s.2 : Int))) ∧ WH σ τ nm hc
set_option maxHeartbeats 4000000 in
theorem c_X7_readOne_d3 (l : Launch) (D : va_G) (cA : Nat → ClassId) (ad : Nat → Nat) (hI : Inj ad) (σ0 : Nat → Nat → Int32) (τ0 : Nat → Nat → Int64) (hR : Rg σ0) (a1 : Int32) (b : Nat → Int) (N : Nat) (mo : Nat) (q : Nat) (nn : Nat) (nm : Nat → Int) (hc : Nat) (ha1 : 3 ≤ a1.toInt ∧ a1.toInt ≤ 3) (hpre0 : (σ0 24 1).toInt = (nn : Int)) (hpre1 : 0 ≤ (σ0 24 2).toInt ∧ (σ0 24 2).toInt ≤ 2 * (nn : Int)) (hpre2 : nn ≤ 20) (gCT0 : CT σ0 τ0 b N mo q) (gWH0 : WH σ0 τ0 nm hc) : Met l yX7_readOne wsX7_readOne ({ frames := 19, cells := 0, slots := 0, locals := 417 } : Room) (WQc D cA ad [.ref (ad 27), .int a1] σ0 τ0) (va_Qi (fun (r : Int32) (u : SS) => P_X7_readOne_d3 σ0 τ0 a1 b N mo q nn nm hc r u.1 u.2) (WB D cA ad) (AA ad)) 0 0 (AA ad) := by
  refine Met.ofW (cc := cX7_readOne) (maxL := 3) (ret := (some .boolean)) (by decide) rfl ?_
  intro p e s m args below meth c s₁ B hml hv
  obtain ⟨rfl, hP, hK, hN⟩ := hv
  have C : Cy p s m _ meth c cX7_readOne 3 wsX7_readOne RX7 D cA ad (some .boolean) := ⟨B.exec, B.bytes, hml, findClass_of_methodNamed B.named, atoms_spec (ws := wsX7_readOne) B.pre, hK, B.notSynchronized, B.returns, hI, hN⟩
  have hl := lv_entry ([.ref (ad 27), .int a1]) (n := 3) (Nat.le_of_ble_eq_true rfl)
  rw [lg_entry_eq]
  generalize (lg_sl ([.ref (ad 27), .int a1]) ++ List.replicate (3 - (lg_sl ([.ref (ad 27), .int a1])).length) Slot.unset).toArray = ls at hl ⊢
  have hl : lv_has ls 3 [(0, .ref (ad 27)), (1, .int a1)] := hl
  have hS : va_S (AA ad) s.heap s.heap [] := va_S.rf
  have hF : Fr L_X7_readOne_d3 σ0 σ0 := Fr.rf
  have hFL : FrL LL_X7_readOne_d3 τ0 τ0 := FrL.rf
  have gCT := gCT0
  have gWH := gWH0
  obtain ⟨hx, hb, _, hown, hts, _, hk, hr, _, _⟩ := C
  have htk := gCT.tk
  refine lv_aload_n hx hb dX7_readOne_0 rfl (lv_at hl 0 rfl) ?_
  refine fg_7_0 (k := 27) hx hb hts in_X7_readOne_7 hown hK hP (by decide) (by decide) (hts _ lk_X7_readOne_9) dX7_readOne_1 ?_
  refine fgN_8_9 (k := 1) hx hb hts in_X7_readOne_8 hown hK hP (by decide) (by decide) (hN.use nw_7_32) dX7_readOne_4 ?_
  refine lv_istore_n (lv' := [(2, .int (σ0 1 9)), (0, .ref (ad 27)), (1, .int a1)]) hx hb dX7_readOne_7 rfl hl (by decide) rfl (fun ls hl => ?_)
  refine lv_iload_n hx hb dX7_readOne_8 rfl (lv_at hl 0 rfl) ?_
  refine r_cSi (As := [.int (σ0 1 9)]) (rest := []) ⟨hx, hb, hml, hown, hts⟩ hK hP hN hS (c_X7_beginsOne l D cA ad hI σ0 τ0 hR (σ0 1 9)) (va_cwS 1 hts gX7_readOne_X7_beginsOne rfl rfl rfl (by decide +kernel) ⟨by decide, by decide⟩) rfl hl.1 rfl (Nat.le_of_ble_eq_true rfl) dX7_readOne_9 (Nat.zero_le _) (Nat.zero_le _) (fun r1 u1 H1 locs1 hp1 hP hS => ?_)
  obtain ⟨σ1, τ1⟩ := u1
  obtain ⟨hR, f1, fL1, hq1, hp1_0⟩ : P_X7_beginsOne σ0 τ0 (σ0 1 9) r1 σ1 τ1 := hp1
  have hP : va_P D vwCl (gw cA ad σ1 τ1) H1 := hP
  obtain rfl := FrL.nil fL1
  obtain rfl := Fr.nil f1
  refine r_if_ne (tgt := 24) hx hb dX7_readOne_12 (by decide) (fun c2 => ?_) (fun c2 => ?_)
  · refine lv_aload_n hx hb dX7_readOne_24 rfl (lv_at hl 1 rfl) ?_
    refine fg_7_2 (k := 27) hx hb hts in_X7_readOne_7 hown hK hP (by decide) (by decide) (hts _ lk_X7_readOne_19) dX7_readOne_25 ?_
    refine fgN_6_1 (k := 24) hx hb hts in_X7_readOne_6 hown hK hP (by decide) (by decide) (hN.use nw_7_61) dX7_readOne_28 ?_
    refine r_bipush hx hb dX7_readOne_31 (by decide) (fun z3 ez3 => ?_)
    refine r_icmp_ge (tgt := 42) hx hb dX7_readOne_33 (by decide) (fun c4 => ?_) (fun c4 => ?_)
    · refine lv_aload_n hx hb dX7_readOne_42 rfl (lv_at hl 1 rfl) ?_
      refine fg_7_0 (k := 27) hx hb hts in_X7_readOne_7 hown hK hP (by decide) (by decide) (hts _ lk_X7_readOne_9) dX7_readOne_43 ?_
      refine r_iconst hx hb dX7_readOne_46 (by decide) (fun z5 ez5 => ?_)
      refine r_cVi (k := 1) (As := [.int z5]) (rest := []) ⟨hx, hb, hml, hown, hts⟩ hK hP hN hS (c_X8_blame_v l D cA ad hI σ0 τ0 hR z5 _ _ _ _ (by omega) gCT) (cwV 1 hts gX7_readOne_X8_blame rfl rfl rfl (by decide +kernel) ⟨by decide, by decide⟩) (rv_Tape hK hP (by decide) (by decide)) rfl hl.1 rfl (Nat.le_of_ble_eq_true rfl) dX7_readOne_47 (Nat.zero_le _) (Nat.zero_le _) (fun r6 u6 H6 locs6 hp6 hP hS => ?_)
      obtain ⟨σ6, τ6⟩ := u6
      obtain ⟨hR, f6, fL6, hq6, hp6_0, hp6_1, hp6_2, gnCT⟩ : P_X8_blame_v σ0 τ0 z5 _ _ _ _ r6 σ6 τ6 := hp6
      have hP : va_P D vwCl (gw cA ad σ6 τ6) H6 := hP
      obtain rfl := FrL.nil fL6
      have hF := hF.step f6 (by decide)
      have gCT := gCT.ag (Agr.fr f6 (by decide))
      have gWH := gWH.ag (Agr.fr f6 (by decide))
      have t7 : (σ6 24 1).toInt = (σ0 24 1).toInt := congrArg Int32.toInt (f6.at 24 1 (by decide))
      have t8 : (σ6 24 2).toInt = (σ0 24 2).toInt := congrArg Int32.toInt (f6.at 24 2 (by decide))
      exact r_zret hx hb hr hK hP hS hk (by omega) dX7_readOne_50 (show P_X7_readOne_d3 σ0 τ0 a1 b N mo q nn nm hc r6 σ6 τ0 from ⟨hR, hF, hFL, by omega, by first | exact RO.ofr ((one_l (by omega) (by omega) (by omega) (by omega)).trans (lea_n (by omega) (by omega))) (by omega) ⟨gCT, by omega, by omega⟩ | (exfalso; omega) | exact RO.ofk (one_x (by omega)) (by omega) (by omega) (by omega) | exact RO.ofk (one_4 (by omega) (by omega)) (by omega) (by omega) (by omega) | (obtain ⟨f, e1, x1, x2⟩ := o1.no (by omega); exact RO.ofl ((one_n (by omega) (by omega)).trans e1) (by omega) x1 x2) | exact RO.ofr ((one_n (by omega) (by omega)).trans e1) (by omega) ⟨gCT, by omega, by omega⟩ | (obtain ⟨f, e2, x1, x2⟩ := o2.no (by omega); exact RO.ofl (by rw [one_o (by omega) (by omega), e2, bnd_l]) (by omega) x1 x2) | (obtain ⟨f, e3, x1, x2⟩ := o3.no (by omega); exact RO.ofl (by rw [one_o (by omega) (by omega), e2, bnd_r, e3, bnd_l]) (by omega) x1 x2) | exact RO.ofr (by rw [one_o (by omega) (by omega), e2, bnd_r, e3, bnd_r]) (by omega) ⟨gCT, by omega, by omega⟩ | (rw [one_l (by omega) (by omega) (by omega) (by omega)]; exact o4.map (fun s es h => ⟨h.1, h.2.1, by have h2 := h.2.2; have hl := lea_up es; omega⟩)) | (rw [one_l (by omega) (by omega) (by omega) (by omega)]; exact o5.map (fun s es h => ⟨h.1, h.2.1, by have h2 := h.2.2; have hl := lea_up es; omega⟩)), gWH⟩)
    · refine lv_iload_n hx hb dX7_readOne_36 rfl (lv_at hl 2 rfl) ?_
      refine r_bipush hx hb dX7_readOne_37 (by decide) (fun z9 ez9 => ?_)
      refine r_icmp_le (tgt := 51) hx hb dX7_readOne_39 (by decide) (fun c10 => ?_) (fun c10 => ?_)
      · refine lv_aload_n hx hb dX7_readOne_51 rfl (lv_at hl 1 rfl) ?_
        refine fg_7_2 (k := 27) hx hb hts in_X7_readOne_7 hown hK hP (by decide) (by decide) (hts _ lk_X7_readOne_19) dX7_readOne_52 ?_
        refine lv_dup hx hb dX7_readOne_55 rfl ?_
        refine fgN_6_1 (k := 24) hx hb hts in_X7_readOne_6 hown hK hP (by decide) (by decide) (hN.use nw_7_61) dX7_readOne_56 ?_
        refine r_iconst hx hb dX7_readOne_59 (by decide) (fun z11 ez11 => ?_)
        refine r_iadd hx hb dX7_readOne_60 (by omega) (fun z12 ez12 => ?_)
        refine fpN_6_1 (k := 24) hx hb hts in_X7_readOne_6 hown hK hP (by decide) (by decide) (hN.use nw_7_61) hI hR hS (by omega) dX7_readOne_61 (fun σ13 H13 locs13 u13 v13 hR hP hS => ?_)
        have hF := hF.puts u13 4 rfl (by decide) (by decide) (by decide) (by decide)
        have gCT := gCT.ag (Agr.put u13 (by decide))
        have gWH := gWH.ag (Agr.put u13 (by decide))
        have t14 : (σ13 24 2).toInt = (σ0 24 2).toInt := congrArg Int32.toInt (u13 24 2 (by omega))
        refine lv_aload_n hx hb dX7_readOne_64 rfl (lv_at hl 1 rfl) ?_
        refine fg_7_0 (k := 27) hx hb hts in_X7_readOne_7 hown hK hP (by decide) (by decide) (hts _ lk_X7_readOne_9) dX7_readOne_65 ?_
        refine r_cVv (k := 1) (As := []) (rest := []) ⟨hx, hb, hml, hown, hts⟩ hK hP hN hS (c_X8_next_v l D cA ad hI σ13 τ0 hR _ _ _ _ gCT) (cwV 0 hts gX7_readOne_X8_next rfl rfl rfl (by decide +kernel) ⟨by decide, by decide⟩) (rv_Tape hK hP (by decide) (by decide)) rfl hl.1 rfl (Nat.le_of_ble_eq_true rfl) dX7_readOne_68 (Nat.zero_le _) (Nat.zero_le _) (fun u15 H15 locs15 hp15 hP hS => ?_)
        obtain ⟨σ15, τ15⟩ := u15
        obtain ⟨hR, f15, fL15, hp15_0⟩ : P_X8_next_v σ13 τ0 _ _ _ _ σ15 τ15 := hp15
        have hP : va_P D vwCl (gw cA ad σ15 τ15) H15 := hP
        have hFL := hFL.step fL15 (by decide)
        have gWH := gWH.agL (AgrL.fr fL15 (by decide))
        have hF := hF.step f15 (by decide)
        have gWH := gWH.ag (Agr.fr f15 (by decide))
        have t16 : (σ15 24 2).toInt = (σ13 24 2).toInt := congrArg Int32.toInt (f15.at 24 2 (by decide))
        have t17 : (σ15 24 1).toInt = (σ13 24 1).toInt := congrArg Int32.toInt (f15.at 24 1 (by decide))
        have gCT := hp15_0
        refine lv_iload_n hx hb dX7_readOne_71 rfl (lv_at hl 0 rfl) ?_
        by_cases c18 : (σ0 1 9).toInt = 22
        · refine lv_tableIn (off := 108) (tgt := 180) hx hb dX7_readOne_72 (by omega) (by omega) (by rw [c18]; rfl) (by decide) ?_
          refine lv_aload_n hx hb dX7_readOne_180 rfl (lv_at hl 1 rfl) ?_
          refine lv_iload_n hx hb dX7_readOne_181 rfl (lv_at hl 2 rfl) ?_
          refine r_iconst hx hb dX7_readOne_182 (by decide) (fun z19 ez19 => ?_)
          refine r_iadd hx hb dX7_readOne_183 (by omega) (fun z20 ez20 => ?_)
          refine r_cVi (k := 27) (As := [.int z20]) (rest := []) ⟨hx, hb, hml, hown, hts⟩ hK hP hN hS (c_X7_readOne_d4 l D cA ad hI σ15 τ15 hR z20 b N mo _ (nn + 1) nm hc (by omega) (by omega) (by omega) (by omega) gCT gWH) (cwV 1 hts gX7_readOne_X7_readOne rfl rfl rfl (by decide +kernel) ⟨by decide, by decide⟩) (rv_SText hK hP (by decide) (by decide)) rfl hl.1 rfl (Nat.le_of_ble_eq_true rfl) dX7_readOne_184 (Nat.zero_le _) (Nat.zero_le _) (fun r21 u21 H21 locs21 hp21 hP hS => ?_)
          obtain ⟨σ21, τ21⟩ := u21
          obtain ⟨hR, f21, fL21, hq21, hp21_0, gnWH⟩ : P_X7_readOne_d4 σ15 τ15 z20 b N mo _ (nn + 1) nm hc r21 σ21 τ21 := hp21
          have o1 := hp21_0
          have hP : va_P D vwCl (gw cA ad σ21 τ21) H21 := hP
          have hFL := hFL.step fL21 (by decide)
          have gWH := gWH.agL (AgrL.fr fL21 (by decide))
          have hF := hF.step f21 (by decide)
          have gWH := gWH.ag (Agr.fr f21 (by decide))
          have hr22 := rg_6_1 hR (k := 24) (by decide) (by decide)
          have hr23 := rg_6_2 hR (k := 24) (by decide) (by decide)
          refine r_if_eq (tgt := 208) hx hb dX7_readOne_187 (by decide) (fun c24 => ?_) (fun c24 => ?_)
          · refine r_iconst hx hb dX7_readOne_208 (by decide) (fun z25 ez25 => ?_)
            exact r_zret hx hb hr hK hP hS hk (by omega) dX7_readOne_209 (show P_X7_readOne_d3 σ0 τ0 a1 b N mo q nn nm hc z25 σ21 τ21 from ⟨hR, hF, hFL, by omega, by first | exact RO.ofr ((one_l (by omega) (by omega) (by omega) (by omega)).trans (lea_n (by omega) (by omega))) (by omega) ⟨gCT, by omega, by omega⟩ | (exfalso; omega) | exact RO.ofk (one_x (by omega)) (by omega) (by omega) (by omega) | exact RO.ofk (one_4 (by omega) (by omega)) (by omega) (by omega) (by omega) | (obtain ⟨f, e1, x1, x2⟩ := o1.no (by omega); exact RO.ofl ((one_n (by omega) (by omega)).trans e1) (by omega) x1 x2) | exact RO.ofr ((one_n (by omega) (by omega)).trans e1) (by omega) ⟨gCT, by omega, by omega⟩ | (obtain ⟨f, e2, x1, x2⟩ := o2.no (by omega); exact RO.ofl (by rw [one_o (by omega) (by omega), e2, bnd_l]) (by omega) x1 x2) | (obtain ⟨f, e3, x1, x2⟩ := o3.no (by omega); exact RO.ofl (by rw [one_o (by omega) (by omega), e2, bnd_r, e3, bnd_l]) (by omega) x1 x2) | exact RO.ofr (by rw [one_o (by omega) (by omega), e2, bnd_r, e3, bnd_r]) (by omega) ⟨gCT, by omega, by omega⟩ | (rw [one_l (by omega) (by omega) (by omega) (by omega)]; exact o4.map (fun s es h => ⟨h.1, h.2.1, by have h2 := h.2.2; have hl := lea_up es; omega⟩)) | (rw [one_l (by omega) (by omega) (by omega) (by omega)]; exact o5.map (fun s es h => ⟨h.1, h.2.1, by have h2 := h.2.2; have hl := lea_up es; omega⟩)), gWH⟩)
          · obtain ⟨s1, e1, gCT, hs1, hs2⟩ := o1.ye (by omega)
            have hu1 := one_up _ _ _ _ e1
            refine lv_aload_n hx hb dX7_readOne_190 rfl (lv_at hl 1 rfl) ?_
            refine fg_7_2 (k := 27) hx hb hts in_X7_readOne_7 hown hK hP (by decide) (by decide) (hts _ lk_X7_readOne_19) dX7_readOne_191 ?_
            refine r_bipush hx hb dX7_readOne_194 (by decide) (fun z26 ez26 => ?_)
            refine r_iconst hx hb dX7_readOne_196 (by decide) (fun z27 ez27 => ?_)
            refine r_iconst hx hb dX7_readOne_197 (by decide) (fun z28 ez28 => ?_)
            refine r_cVi (k := 24) (As := [.int z26, .int z27, .int z28]) (rest := []) ⟨hx, hb, hml, hown, hts⟩ hK hP hN hS (c_X6_add l D cA ad hI σ21 τ21 hR z26 z27 z28 (by omega)) (cwV 3 hts gX7_readOne_X6_add rfl rfl rfl (by decide +kernel) ⟨by decide, by decide⟩) (rv_Sent hK hP (by decide) (by decide)) rfl hl.1 rfl (Nat.le_of_ble_eq_true rfl) dX7_readOne_198 (Nat.zero_le _) (Nat.zero_le _) (fun r29 u29 H29 locs29 hp29 hP hS => ?_)
            obtain ⟨σ29, τ29⟩ := u29
            obtain ⟨hR, f29, fL29, hq29, hp29_0⟩ : P_X6_add σ21 τ21 z26 z27 z28 r29 σ29 τ29 := hp29
            have hP : va_P D vwCl (gw cA ad σ29 τ29) H29 := hP
            obtain rfl := FrL.nil fL29
            have hF := hF.step f29 (by decide)
            have gCT := gCT.ag (Agr.fr f29 (by decide))
            have gWH := gWH.ag (Agr.fr f29 (by decide))
            have t30 : (σ29 24 1).toInt = (σ21 24 1).toInt := congrArg Int32.toInt (f29.at 24 1 (by decide))
            have hr31 := rg_6_2 hR (k := 24) (by decide) (by decide)
            refine r_if_eq (tgt := 208) hx hb dX7_readOne_201 (by decide) (fun c32 => ?_) (fun c32 => ?_)
            · refine r_iconst hx hb dX7_readOne_208 (by decide) (fun z33 ez33 => ?_)
              exact r_zret hx hb hr hK hP hS hk (by omega) dX7_readOne_209 (show P_X7_readOne_d3 σ0 τ0 a1 b N mo q nn nm hc z33 σ29 τ21 from ⟨hR, hF, hFL, by omega, by first | exact RO.ofr ((one_l (by omega) (by omega) (by omega) (by omega)).trans (lea_n (by omega) (by omega))) (by omega) ⟨gCT, by omega, by omega⟩ | (exfalso; omega) | exact RO.ofk (one_x (by omega)) (by omega) (by omega) (by omega) | exact RO.ofk (one_4 (by omega) (by omega)) (by omega) (by omega) (by omega) | (obtain ⟨f, e1, x1, x2⟩ := o1.no (by omega); exact RO.ofl ((one_n (by omega) (by omega)).trans e1) (by omega) x1 x2) | exact RO.ofr ((one_n (by omega) (by omega)).trans e1) (by omega) ⟨gCT, by omega, by omega⟩ | (obtain ⟨f, e2, x1, x2⟩ := o2.no (by omega); exact RO.ofl (by rw [one_o (by omega) (by omega), e2, bnd_l]) (by omega) x1 x2) | (obtain ⟨f, e3, x1, x2⟩ := o3.no (by omega); exact RO.ofl (by rw [one_o (by omega) (by omega), e2, bnd_r, e3, bnd_l]) (by omega) x1 x2) | exact RO.ofr (by rw [one_o (by omega) (by omega), e2, bnd_r, e3, bnd_r]) (by omega) ⟨gCT, by omega, by omega⟩ | (rw [one_l (by omega) (by omega) (by omega) (by omega)]; exact o4.map (fun s es h => ⟨h.1, h.2.1, by have h2 := h.2.2; have hl := lea_up es; omega⟩)) | (rw [one_l (by omega) (by omega) (by omega) (by omega)]; exact o5.map (fun s es h => ⟨h.1, h.2.1, by have h2 := h.2.2; have hl := lea_up es; omega⟩)), gWH⟩)
            · refine r_iconst hx hb dX7_readOne_204 (by decide) (fun z34 ez34 => ?_)
              refine lv_goto (tgt := 209) hx hb dX7_readOne_205 (by decide) ?_
              exact r_zret hx hb hr hK hP hS hk (by omega) dX7_readOne_209 (show P_X7_readOne_d3 σ0 τ0 a1 b N mo q nn nm hc z34 σ29 τ21 from ⟨hR, hF, hFL, by omega, by first | exact RO.ofr ((one_l (by omega) (by omega) (by omega) (by omega)).trans (lea_n (by omega) (by omega))) (by omega) ⟨gCT, by omega, by omega⟩ | (exfalso; omega) | exact RO.ofk (one_x (by omega)) (by omega) (by omega) (by omega) | exact RO.ofk (one_4 (by omega) (by omega)) (by omega) (by omega) (by omega) | (obtain ⟨f, e1, x1, x2⟩ := o1.no (by omega); exact RO.ofl ((one_n (by omega) (by omega)).trans e1) (by omega) x1 x2) | exact RO.ofr ((one_n (by omega) (by omega)).trans e1) (by omega) ⟨gCT, by omega, by omega⟩ | (obtain ⟨f, e2, x1, x2⟩ := o2.no (by omega); exact RO.ofl (by rw [one_o (by omega) (by omega), e2, bnd_l]) (by omega) x1 x2) | (obtain ⟨f, e3, x1, x2⟩ := o3.no (by omega); exact RO.ofl (by rw [one_o (by omega) (by omega), e2, bnd_r, e3, bnd_l]) (by omega) x1 x2) | exact RO.ofr (by rw [one_o (by omega) (by omega), e2, bnd_r, e3, bnd_r]) (by omega) ⟨gCT, by omega, by omega⟩ | (rw [one_l (by omega) (by omega) (by omega) (by omega)]; exact o4.map (fun s es h => ⟨h.1, h.2.1, by have h2 := h.2.2; have hl := lea_up es; omega⟩)) | (rw [one_l (by omega) (by omega) (by omega) (by omega)]; exact o5.map (fun s es h => ⟨h.1, h.2.1, by have h2 := h.2.2; have hl := lea_up es; omega⟩)), gWH⟩)
        by_cases c35 : (σ0 1 9).toInt = 23
        · refine lv_tableIn (off := 177) (tgt := 249) hx hb dX7_readOne_72 (by omega) (by omega) (by rw [c35]; rfl) (by decide) ?_
          refine lv_aload_n hx hb dX7_readOne_249 rfl (lv_at hl 1 rfl) ?_
          refine fg_7_2 (k := 27) hx hb hts in_X7_readOne_7 hown hK hP (by decide) (by decide) (hts _ lk_X7_readOne_19) dX7_readOne_250 ?_
          refine lv_iload_n hx hb dX7_readOne_253 rfl (lv_at hl 0 rfl) ?_
          refine r_bipush hx hb dX7_readOne_254 (by decide) (fun z36 ez36 => ?_)
          refine r_iconst hx hb dX7_readOne_256 (by decide) (fun z37 ez37 => ?_)
          refine r_cVi (k := 24) (As := [.int (σ0 1 9), .int z36, .int z37]) (rest := []) ⟨hx, hb, hml, hown, hts⟩ hK hP hN hS (c_X6_add l D cA ad hI σ15 τ15 hR (σ0 1 9) z36 z37 (by omega)) (cwV 3 hts gX7_readOne_X6_add rfl rfl rfl (by decide +kernel) ⟨by decide, by decide⟩) (rv_Sent hK hP (by decide) (by decide)) rfl hl.1 rfl (Nat.le_of_ble_eq_true rfl) dX7_readOne_257 (Nat.zero_le _) (Nat.zero_le _) (fun r38 u38 H38 locs38 hp38 hP hS => ?_)
          obtain ⟨σ38, τ38⟩ := u38
          obtain ⟨hR, f38, fL38, hq38, hp38_0⟩ : P_X6_add σ15 τ15 (σ0 1 9) z36 z37 r38 σ38 τ38 := hp38
          have hP : va_P D vwCl (gw cA ad σ38 τ38) H38 := hP
          obtain rfl := FrL.nil fL38
          have hF := hF.step f38 (by decide)
          have gCT := gCT.ag (Agr.fr f38 (by decide))
          have gWH := gWH.ag (Agr.fr f38 (by decide))
          have t39 : (σ38 24 1).toInt = (σ15 24 1).toInt := congrArg Int32.toInt (f38.at 24 1 (by decide))
          have hr40 := rg_6_2 hR (k := 24) (by decide) (by decide)
          exact r_zret hx hb hr hK hP hS hk (by omega) dX7_readOne_260 (show P_X7_readOne_d3 σ0 τ0 a1 b N mo q nn nm hc r38 σ38 τ15 from ⟨hR, hF, hFL, by omega, by first | exact RO.ofr ((one_l (by omega) (by omega) (by omega) (by omega)).trans (lea_n (by omega) (by omega))) (by omega) ⟨gCT, by omega, by omega⟩ | (exfalso; omega) | exact RO.ofk (one_x (by omega)) (by omega) (by omega) (by omega) | exact RO.ofk (one_4 (by omega) (by omega)) (by omega) (by omega) (by omega) | (obtain ⟨f, e1, x1, x2⟩ := o1.no (by omega); exact RO.ofl ((one_n (by omega) (by omega)).trans e1) (by omega) x1 x2) | exact RO.ofr ((one_n (by omega) (by omega)).trans e1) (by omega) ⟨gCT, by omega, by omega⟩ | (obtain ⟨f, e2, x1, x2⟩ := o2.no (by omega); exact RO.ofl (by rw [one_o (by omega) (by omega), e2, bnd_l]) (by omega) x1 x2) | (obtain ⟨f, e3, x1, x2⟩ := o3.no (by omega); exact RO.ofl (by rw [one_o (by omega) (by omega), e2, bnd_r, e3, bnd_l]) (by omega) x1 x2) | exact RO.ofr (by rw [one_o (by omega) (by omega), e2, bnd_r, e3, bnd_r]) (by omega) ⟨gCT, by omega, by omega⟩ | (rw [one_l (by omega) (by omega) (by omega) (by omega)]; exact o4.map (fun s es h => ⟨h.1, h.2.1, by have h2 := h.2.2; have hl := lea_up es; omega⟩)) | (rw [one_l (by omega) (by omega) (by omega) (by omega)]; exact o5.map (fun s es h => ⟨h.1, h.2.1, by have h2 := h.2.2; have hl := lea_up es; omega⟩)), gWH⟩)
        by_cases c41 : (σ0 1 9).toInt = 24
        · refine lv_tableIn (off := 177) (tgt := 249) hx hb dX7_readOne_72 (by omega) (by omega) (by rw [c41]; rfl) (by decide) ?_
          refine lv_aload_n hx hb dX7_readOne_249 rfl (lv_at hl 1 rfl) ?_
          refine fg_7_2 (k := 27) hx hb hts in_X7_readOne_7 hown hK hP (by decide) (by decide) (hts _ lk_X7_readOne_19) dX7_readOne_250 ?_
          refine lv_iload_n hx hb dX7_readOne_253 rfl (lv_at hl 0 rfl) ?_
          refine r_bipush hx hb dX7_readOne_254 (by decide) (fun z42 ez42 => ?_)
          refine r_iconst hx hb dX7_readOne_256 (by decide) (fun z43 ez43 => ?_)
          refine r_cVi (k := 24) (As := [.int (σ0 1 9), .int z42, .int z43]) (rest := []) ⟨hx, hb, hml, hown, hts⟩ hK hP hN hS (c_X6_add l D cA ad hI σ15 τ15 hR (σ0 1 9) z42 z43 (by omega)) (cwV 3 hts gX7_readOne_X6_add rfl rfl rfl (by decide +kernel) ⟨by decide, by decide⟩) (rv_Sent hK hP (by decide) (by decide)) rfl hl.1 rfl (Nat.le_of_ble_eq_true rfl) dX7_readOne_257 (Nat.zero_le _) (Nat.zero_le _) (fun r44 u44 H44 locs44 hp44 hP hS => ?_)
          obtain ⟨σ44, τ44⟩ := u44
          obtain ⟨hR, f44, fL44, hq44, hp44_0⟩ : P_X6_add σ15 τ15 (σ0 1 9) z42 z43 r44 σ44 τ44 := hp44
          have hP : va_P D vwCl (gw cA ad σ44 τ44) H44 := hP
          obtain rfl := FrL.nil fL44
          have hF := hF.step f44 (by decide)
          have gCT := gCT.ag (Agr.fr f44 (by decide))
          have gWH := gWH.ag (Agr.fr f44 (by decide))
          have t45 : (σ44 24 1).toInt = (σ15 24 1).toInt := congrArg Int32.toInt (f44.at 24 1 (by decide))
          have hr46 := rg_6_2 hR (k := 24) (by decide) (by decide)
          exact r_zret hx hb hr hK hP hS hk (by omega) dX7_readOne_260 (show P_X7_readOne_d3 σ0 τ0 a1 b N mo q nn nm hc r44 σ44 τ15 from ⟨hR, hF, hFL, by omega, by first | exact RO.ofr ((one_l (by omega) (by omega) (by omega) (by omega)).trans (lea_n (by omega) (by omega))) (by omega) ⟨gCT, by omega, by omega⟩ | (exfalso; omega) | exact RO.ofk (one_x (by omega)) (by omega) (by omega) (by omega) | exact RO.ofk (one_4 (by omega) (by omega)) (by omega) (by omega) (by omega) | (obtain ⟨f, e1, x1, x2⟩ := o1.no (by omega); exact RO.ofl ((one_n (by omega) (by omega)).trans e1) (by omega) x1 x2) | exact RO.ofr ((one_n (by omega) (by omega)).trans e1) (by omega) ⟨gCT, by omega, by omega⟩ | (obtain ⟨f, e2, x1, x2⟩ := o2.no (by omega); exact RO.ofl (by rw [one_o (by omega) (by omega), e2, bnd_l]) (by omega) x1 x2) | (obtain ⟨f, e3, x1, x2⟩ := o3.no (by omega); exact RO.ofl (by rw [one_o (by omega) (by omega), e2, bnd_r, e3, bnd_l]) (by omega) x1 x2) | exact RO.ofr (by rw [one_o (by omega) (by omega), e2, bnd_r, e3, bnd_r]) (by omega) ⟨gCT, by omega, by omega⟩ | (rw [one_l (by omega) (by omega) (by omega) (by omega)]; exact o4.map (fun s es h => ⟨h.1, h.2.1, by have h2 := h.2.2; have hl := lea_up es; omega⟩)) | (rw [one_l (by omega) (by omega) (by omega) (by omega)]; exact o5.map (fun s es h => ⟨h.1, h.2.1, by have h2 := h.2.2; have hl := lea_up es; omega⟩)), gWH⟩)
        by_cases c47 : (σ0 1 9).toInt = 25
        · refine lv_tableIn (off := 166) (tgt := 238) hx hb dX7_readOne_72 (by omega) (by omega) (by rw [c47]; rfl) (by decide) ?_
          refine lv_aload_n hx hb dX7_readOne_238 rfl (lv_at hl 1 rfl) ?_
          refine r_cVi (k := 27) (As := []) (rest := []) ⟨hx, hb, hml, hown, hts⟩ hK hP hN hS (c_X7_readOn l D cA ad hI σ15 τ15 hR b N mo _ (nn + 1) nm hc (tkq b N mo q) (by omega) (by omega) (by omega) gCT gWH) (cwV 0 hts gX7_readOne_X7_readOn rfl rfl rfl (by decide +kernel) ⟨by decide, by decide⟩) (rv_SText hK hP (by decide) (by decide)) rfl hl.1 rfl (Nat.le_of_ble_eq_true rfl) dX7_readOne_239 (Nat.zero_le _) (Nat.zero_le _) (fun r48 u48 H48 locs48 hp48 hP hS => ?_)
          obtain ⟨σ48, τ48⟩ := u48
          obtain ⟨hR, f48, fL48, hq48, hp48_0, gnWH⟩ : P_X7_readOn σ15 τ15 b N mo _ (nn + 1) nm hc (tkq b N mo q) r48 σ48 τ48 := hp48
          have o4 := hp48_0
          have hP : va_P D vwCl (gw cA ad σ48 τ48) H48 := hP
          have hFL := hFL.step fL48 (by decide)
          have gWH := gWH.agL (AgrL.fr fL48 (by decide))
          have hF := hF.step f48 (by decide)
          have gWH := gWH.ag (Agr.fr f48 (by decide))
          have t49 : (σ48 24 1).toInt = (σ15 24 1).toInt := congrArg Int32.toInt (f48.at 24 1 (by decide))
          have hr50 := rg_6_2 hR (k := 24) (by decide) (by decide)
          exact r_zret hx hb hr hK hP hS hk (by omega) dX7_readOne_242 (show P_X7_readOne_d3 σ0 τ0 a1 b N mo q nn nm hc r48 σ48 τ48 from ⟨hR, hF, hFL, by omega, by first | exact RO.ofr ((one_l (by omega) (by omega) (by omega) (by omega)).trans (lea_n (by omega) (by omega))) (by omega) ⟨gCT, by omega, by omega⟩ | (exfalso; omega) | exact RO.ofk (one_x (by omega)) (by omega) (by omega) (by omega) | exact RO.ofk (one_4 (by omega) (by omega)) (by omega) (by omega) (by omega) | (obtain ⟨f, e1, x1, x2⟩ := o1.no (by omega); exact RO.ofl ((one_n (by omega) (by omega)).trans e1) (by omega) x1 x2) | exact RO.ofr ((one_n (by omega) (by omega)).trans e1) (by omega) ⟨gCT, by omega, by omega⟩ | (obtain ⟨f, e2, x1, x2⟩ := o2.no (by omega); exact RO.ofl (by rw [one_o (by omega) (by omega), e2, bnd_l]) (by omega) x1 x2) | (obtain ⟨f, e3, x1, x2⟩ := o3.no (by omega); exact RO.ofl (by rw [one_o (by omega) (by omega), e2, bnd_r, e3, bnd_l]) (by omega) x1 x2) | exact RO.ofr (by rw [one_o (by omega) (by omega), e2, bnd_r, e3, bnd_r]) (by omega) ⟨gCT, by omega, by omega⟩ | (rw [one_l (by omega) (by omega) (by omega) (by omega)]; exact o4.map (fun s es h => ⟨h.1, h.2.1, by have h2 := h.2.2; have hl := lea_up es; omega⟩)) | (rw [one_l (by omega) (by omega) (by omega) (by omega)]; exact o5.map (fun s es h => ⟨h.1, h.2.1, by have h2 := h.2.2; have hl := lea_up es; omega⟩)), gWH⟩)
        by_cases c51 : (σ0 1 9).toInt = 26
        · refine lv_tableIn (off := 177) (tgt := 249) hx hb dX7_readOne_72 (by omega) (by omega) (by rw [c51]; rfl) (by decide) ?_
          refine lv_aload_n hx hb dX7_readOne_249 rfl (lv_at hl 1 rfl) ?_
          refine fg_7_2 (k := 27) hx hb hts in_X7_readOne_7 hown hK hP (by decide) (by decide) (hts _ lk_X7_readOne_19) dX7_readOne_250 ?_
          refine lv_iload_n hx hb dX7_readOne_253 rfl (lv_at hl 0 rfl) ?_
          refine r_bipush hx hb dX7_readOne_254 (by decide) (fun z52 ez52 => ?_)
          refine r_iconst hx hb dX7_readOne_256 (by decide) (fun z53 ez53 => ?_)
          refine r_cVi (k := 24) (As := [.int (σ0 1 9), .int z52, .int z53]) (rest := []) ⟨hx, hb, hml, hown, hts⟩ hK hP hN hS (c_X6_add l D cA ad hI σ15 τ15 hR (σ0 1 9) z52 z53 (by omega)) (cwV 3 hts gX7_readOne_X6_add rfl rfl rfl (by decide +kernel) ⟨by decide, by decide⟩) (rv_Sent hK hP (by decide) (by decide)) rfl hl.1 rfl (Nat.le_of_ble_eq_true rfl) dX7_readOne_257 (Nat.zero_le _) (Nat.zero_le _) (fun r54 u54 H54 locs54 hp54 hP hS => ?_)
          obtain ⟨σ54, τ54⟩ := u54
          obtain ⟨hR, f54, fL54, hq54, hp54_0⟩ : P_X6_add σ15 τ15 (σ0 1 9) z52 z53 r54 σ54 τ54 := hp54
          have hP : va_P D vwCl (gw cA ad σ54 τ54) H54 := hP
          obtain rfl := FrL.nil fL54
          have hF := hF.step f54 (by decide)
          have gCT := gCT.ag (Agr.fr f54 (by decide))
          have gWH := gWH.ag (Agr.fr f54 (by decide))
          have t55 : (σ54 24 1).toInt = (σ15 24 1).toInt := congrArg Int32.toInt (f54.at 24 1 (by decide))
          have hr56 := rg_6_2 hR (k := 24) (by decide) (by decide)
          exact r_zret hx hb hr hK hP hS hk (by omega) dX7_readOne_260 (show P_X7_readOne_d3 σ0 τ0 a1 b N mo q nn nm hc r54 σ54 τ15 from ⟨hR, hF, hFL, by omega, by first | exact RO.ofr ((one_l (by omega) (by omega) (by omega) (by omega)).trans (lea_n (by omega) (by omega))) (by omega) ⟨gCT, by omega, by omega⟩ | (exfalso; omega) | exact RO.ofk (one_x (by omega)) (by omega) (by omega) (by omega) | exact RO.ofk (one_4 (by omega) (by omega)) (by omega) (by omega) (by omega) | (obtain ⟨f, e1, x1, x2⟩ := o1.no (by omega); exact RO.ofl ((one_n (by omega) (by omega)).trans e1) (by omega) x1 x2) | exact RO.ofr ((one_n (by omega) (by omega)).trans e1) (by omega) ⟨gCT, by omega, by omega⟩ | (obtain ⟨f, e2, x1, x2⟩ := o2.no (by omega); exact RO.ofl (by rw [one_o (by omega) (by omega), e2, bnd_l]) (by omega) x1 x2) | (obtain ⟨f, e3, x1, x2⟩ := o3.no (by omega); exact RO.ofl (by rw [one_o (by omega) (by omega), e2, bnd_r, e3, bnd_l]) (by omega) x1 x2) | exact RO.ofr (by rw [one_o (by omega) (by omega), e2, bnd_r, e3, bnd_r]) (by omega) ⟨gCT, by omega, by omega⟩ | (rw [one_l (by omega) (by omega) (by omega) (by omega)]; exact o4.map (fun s es h => ⟨h.1, h.2.1, by have h2 := h.2.2; have hl := lea_up es; omega⟩)) | (rw [one_l (by omega) (by omega) (by omega) (by omega)]; exact o5.map (fun s es h => ⟨h.1, h.2.1, by have h2 := h.2.2; have hl := lea_up es; omega⟩)), gWH⟩)
        by_cases c57 : (σ0 1 9).toInt = 27
        · refine lv_tableIn (off := 171) (tgt := 243) hx hb dX7_readOne_72 (by omega) (by omega) (by rw [c57]; rfl) (by decide) ?_
          refine lv_aload_n hx hb dX7_readOne_243 rfl (lv_at hl 1 rfl) ?_
          refine lv_iload_n hx hb dX7_readOne_244 rfl (lv_at hl 0 rfl) ?_
          refine r_cVi (k := 27) (As := [.int (σ0 1 9)]) (rest := []) ⟨hx, hb, hml, hown, hts⟩ hK hP hN hS (c_X7_readMeasure l D cA ad hI σ15 τ15 hR (σ0 1 9) b N mo _ (nn + 1) nm hc (tkq b N mo q) (by omega) (by omega) (by omega) (by omega) gCT gWH) (cwV 1 hts gX7_readOne_X7_readMeasure rfl rfl rfl (by decide +kernel) ⟨by decide, by decide⟩) (rv_SText hK hP (by decide) (by decide)) rfl hl.1 rfl (Nat.le_of_ble_eq_true rfl) dX7_readOne_245 (Nat.zero_le _) (Nat.zero_le _) (fun r58 u58 H58 locs58 hp58 hP hS => ?_)
          obtain ⟨σ58, τ58⟩ := u58
          obtain ⟨hR, f58, fL58, hq58, hp58_0, gnWH⟩ : P_X7_readMeasure σ15 τ15 (σ0 1 9) b N mo _ (nn + 1) nm hc (tkq b N mo q) r58 σ58 τ58 := hp58
          have o5 := hp58_0
          have hP : va_P D vwCl (gw cA ad σ58 τ58) H58 := hP
          have hFL := hFL.step fL58 (by decide)
          have gWH := gWH.agL (AgrL.fr fL58 (by decide))
          have hF := hF.step f58 (by decide)
          have gWH := gWH.ag (Agr.fr f58 (by decide))
          have t59 : (σ58 24 1).toInt = (σ15 24 1).toInt := congrArg Int32.toInt (f58.at 24 1 (by decide))
          have hr60 := rg_6_2 hR (k := 24) (by decide) (by decide)
          exact r_zret hx hb hr hK hP hS hk (by omega) dX7_readOne_248 (show P_X7_readOne_d3 σ0 τ0 a1 b N mo q nn nm hc r58 σ58 τ58 from ⟨hR, hF, hFL, by omega, by first | exact RO.ofr ((one_l (by omega) (by omega) (by omega) (by omega)).trans (lea_n (by omega) (by omega))) (by omega) ⟨gCT, by omega, by omega⟩ | (exfalso; omega) | exact RO.ofk (one_x (by omega)) (by omega) (by omega) (by omega) | exact RO.ofk (one_4 (by omega) (by omega)) (by omega) (by omega) (by omega) | (obtain ⟨f, e1, x1, x2⟩ := o1.no (by omega); exact RO.ofl ((one_n (by omega) (by omega)).trans e1) (by omega) x1 x2) | exact RO.ofr ((one_n (by omega) (by omega)).trans e1) (by omega) ⟨gCT, by omega, by omega⟩ | (obtain ⟨f, e2, x1, x2⟩ := o2.no (by omega); exact RO.ofl (by rw [one_o (by omega) (by omega), e2, bnd_l]) (by omega) x1 x2) | (obtain ⟨f, e3, x1, x2⟩ := o3.no (by omega); exact RO.ofl (by rw [one_o (by omega) (by omega), e2, bnd_r, e3, bnd_l]) (by omega) x1 x2) | exact RO.ofr (by rw [one_o (by omega) (by omega), e2, bnd_r, e3, bnd_r]) (by omega) ⟨gCT, by omega, by omega⟩ | (rw [one_l (by omega) (by omega) (by omega) (by omega)]; exact o4.map (fun s es h => ⟨h.1, h.2.1, by have h2 := h.2.2; have hl := lea_up es; omega⟩)) | (rw [one_l (by omega) (by omega) (by omega) (by omega)]; exact o5.map (fun s es h => ⟨h.1, h.2.1, by have h2 := h.2.2; have hl := lea_up es; omega⟩)), gWH⟩)
        by_cases c61 : (σ0 1 9).toInt = 28
        · refine lv_tableIn (off := 171) (tgt := 243) hx hb dX7_readOne_72 (by omega) (by omega) (by rw [c61]; rfl) (by decide) ?_
          refine lv_aload_n hx hb dX7_readOne_243 rfl (lv_at hl 1 rfl) ?_
          refine lv_iload_n hx hb dX7_readOne_244 rfl (lv_at hl 0 rfl) ?_
          refine r_cVi (k := 27) (As := [.int (σ0 1 9)]) (rest := []) ⟨hx, hb, hml, hown, hts⟩ hK hP hN hS (c_X7_readMeasure l D cA ad hI σ15 τ15 hR (σ0 1 9) b N mo _ (nn + 1) nm hc (tkq b N mo q) (by omega) (by omega) (by omega) (by omega) gCT gWH) (cwV 1 hts gX7_readOne_X7_readMeasure rfl rfl rfl (by decide +kernel) ⟨by decide, by decide⟩) (rv_SText hK hP (by decide) (by decide)) rfl hl.1 rfl (Nat.le_of_ble_eq_true rfl) dX7_readOne_245 (Nat.zero_le _) (Nat.zero_le _) (fun r62 u62 H62 locs62 hp62 hP hS => ?_)
          obtain ⟨σ62, τ62⟩ := u62
          obtain ⟨hR, f62, fL62, hq62, hp62_0, gnWH⟩ : P_X7_readMeasure σ15 τ15 (σ0 1 9) b N mo _ (nn + 1) nm hc (tkq b N mo q) r62 σ62 τ62 := hp62
          have o5 := hp62_0
          have hP : va_P D vwCl (gw cA ad σ62 τ62) H62 := hP
          have hFL := hFL.step fL62 (by decide)
          have gWH := gWH.agL (AgrL.fr fL62 (by decide))
          have hF := hF.step f62 (by decide)
          have gWH := gWH.ag (Agr.fr f62 (by decide))
          have t63 : (σ62 24 1).toInt = (σ15 24 1).toInt := congrArg Int32.toInt (f62.at 24 1 (by decide))
          have hr64 := rg_6_2 hR (k := 24) (by decide) (by decide)
          exact r_zret hx hb hr hK hP hS hk (by omega) dX7_readOne_248 (show P_X7_readOne_d3 σ0 τ0 a1 b N mo q nn nm hc r62 σ62 τ62 from ⟨hR, hF, hFL, by omega, by first | exact RO.ofr ((one_l (by omega) (by omega) (by omega) (by omega)).trans (lea_n (by omega) (by omega))) (by omega) ⟨gCT, by omega, by omega⟩ | (exfalso; omega) | exact RO.ofk (one_x (by omega)) (by omega) (by omega) (by omega) | exact RO.ofk (one_4 (by omega) (by omega)) (by omega) (by omega) (by omega) | (obtain ⟨f, e1, x1, x2⟩ := o1.no (by omega); exact RO.ofl ((one_n (by omega) (by omega)).trans e1) (by omega) x1 x2) | exact RO.ofr ((one_n (by omega) (by omega)).trans e1) (by omega) ⟨gCT, by omega, by omega⟩ | (obtain ⟨f, e2, x1, x2⟩ := o2.no (by omega); exact RO.ofl (by rw [one_o (by omega) (by omega), e2, bnd_l]) (by omega) x1 x2) | (obtain ⟨f, e3, x1, x2⟩ := o3.no (by omega); exact RO.ofl (by rw [one_o (by omega) (by omega), e2, bnd_r, e3, bnd_l]) (by omega) x1 x2) | exact RO.ofr (by rw [one_o (by omega) (by omega), e2, bnd_r, e3, bnd_r]) (by omega) ⟨gCT, by omega, by omega⟩ | (rw [one_l (by omega) (by omega) (by omega) (by omega)]; exact o4.map (fun s es h => ⟨h.1, h.2.1, by have h2 := h.2.2; have hl := lea_up es; omega⟩)) | (rw [one_l (by omega) (by omega) (by omega) (by omega)]; exact o5.map (fun s es h => ⟨h.1, h.2.1, by have h2 := h.2.2; have hl := lea_up es; omega⟩)), gWH⟩)
        by_cases c65 : (σ0 1 9).toInt = 29
        · refine lv_tableIn (off := 171) (tgt := 243) hx hb dX7_readOne_72 (by omega) (by omega) (by rw [c65]; rfl) (by decide) ?_
          refine lv_aload_n hx hb dX7_readOne_243 rfl (lv_at hl 1 rfl) ?_
          refine lv_iload_n hx hb dX7_readOne_244 rfl (lv_at hl 0 rfl) ?_
          refine r_cVi (k := 27) (As := [.int (σ0 1 9)]) (rest := []) ⟨hx, hb, hml, hown, hts⟩ hK hP hN hS (c_X7_readMeasure l D cA ad hI σ15 τ15 hR (σ0 1 9) b N mo _ (nn + 1) nm hc (tkq b N mo q) (by omega) (by omega) (by omega) (by omega) gCT gWH) (cwV 1 hts gX7_readOne_X7_readMeasure rfl rfl rfl (by decide +kernel) ⟨by decide, by decide⟩) (rv_SText hK hP (by decide) (by decide)) rfl hl.1 rfl (Nat.le_of_ble_eq_true rfl) dX7_readOne_245 (Nat.zero_le _) (Nat.zero_le _) (fun r66 u66 H66 locs66 hp66 hP hS => ?_)
          obtain ⟨σ66, τ66⟩ := u66
          obtain ⟨hR, f66, fL66, hq66, hp66_0, gnWH⟩ : P_X7_readMeasure σ15 τ15 (σ0 1 9) b N mo _ (nn + 1) nm hc (tkq b N mo q) r66 σ66 τ66 := hp66
          have o5 := hp66_0
          have hP : va_P D vwCl (gw cA ad σ66 τ66) H66 := hP
          have hFL := hFL.step fL66 (by decide)
          have gWH := gWH.agL (AgrL.fr fL66 (by decide))
          have hF := hF.step f66 (by decide)
          have gWH := gWH.ag (Agr.fr f66 (by decide))
          have t67 : (σ66 24 1).toInt = (σ15 24 1).toInt := congrArg Int32.toInt (f66.at 24 1 (by decide))
          have hr68 := rg_6_2 hR (k := 24) (by decide) (by decide)
          exact r_zret hx hb hr hK hP hS hk (by omega) dX7_readOne_248 (show P_X7_readOne_d3 σ0 τ0 a1 b N mo q nn nm hc r66 σ66 τ66 from ⟨hR, hF, hFL, by omega, by first | exact RO.ofr ((one_l (by omega) (by omega) (by omega) (by omega)).trans (lea_n (by omega) (by omega))) (by omega) ⟨gCT, by omega, by omega⟩ | (exfalso; omega) | exact RO.ofk (one_x (by omega)) (by omega) (by omega) (by omega) | exact RO.ofk (one_4 (by omega) (by omega)) (by omega) (by omega) (by omega) | (obtain ⟨f, e1, x1, x2⟩ := o1.no (by omega); exact RO.ofl ((one_n (by omega) (by omega)).trans e1) (by omega) x1 x2) | exact RO.ofr ((one_n (by omega) (by omega)).trans e1) (by omega) ⟨gCT, by omega, by omega⟩ | (obtain ⟨f, e2, x1, x2⟩ := o2.no (by omega); exact RO.ofl (by rw [one_o (by omega) (by omega), e2, bnd_l]) (by omega) x1 x2) | (obtain ⟨f, e3, x1, x2⟩ := o3.no (by omega); exact RO.ofl (by rw [one_o (by omega) (by omega), e2, bnd_r, e3, bnd_l]) (by omega) x1 x2) | exact RO.ofr (by rw [one_o (by omega) (by omega), e2, bnd_r, e3, bnd_r]) (by omega) ⟨gCT, by omega, by omega⟩ | (rw [one_l (by omega) (by omega) (by omega) (by omega)]; exact o4.map (fun s es h => ⟨h.1, h.2.1, by have h2 := h.2.2; have hl := lea_up es; omega⟩)) | (rw [one_l (by omega) (by omega) (by omega) (by omega)]; exact o5.map (fun s es h => ⟨h.1, h.2.1, by have h2 := h.2.2; have hl := lea_up es; omega⟩)), gWH⟩)
        by_cases c69 : (σ0 1 9).toInt = 30
        · refine lv_tableIn (off := 171) (tgt := 243) hx hb dX7_readOne_72 (by omega) (by omega) (by rw [c69]; rfl) (by decide) ?_
          refine lv_aload_n hx hb dX7_readOne_243 rfl (lv_at hl 1 rfl) ?_
          refine lv_iload_n hx hb dX7_readOne_244 rfl (lv_at hl 0 rfl) ?_
          refine r_cVi (k := 27) (As := [.int (σ0 1 9)]) (rest := []) ⟨hx, hb, hml, hown, hts⟩ hK hP hN hS (c_X7_readMeasure l D cA ad hI σ15 τ15 hR (σ0 1 9) b N mo _ (nn + 1) nm hc (tkq b N mo q) (by omega) (by omega) (by omega) (by omega) gCT gWH) (cwV 1 hts gX7_readOne_X7_readMeasure rfl rfl rfl (by decide +kernel) ⟨by decide, by decide⟩) (rv_SText hK hP (by decide) (by decide)) rfl hl.1 rfl (Nat.le_of_ble_eq_true rfl) dX7_readOne_245 (Nat.zero_le _) (Nat.zero_le _) (fun r70 u70 H70 locs70 hp70 hP hS => ?_)
          obtain ⟨σ70, τ70⟩ := u70
          obtain ⟨hR, f70, fL70, hq70, hp70_0, gnWH⟩ : P_X7_readMeasure σ15 τ15 (σ0 1 9) b N mo _ (nn + 1) nm hc (tkq b N mo q) r70 σ70 τ70 := hp70
          have o5 := hp70_0
          have hP : va_P D vwCl (gw cA ad σ70 τ70) H70 := hP
          have hFL := hFL.step fL70 (by decide)
          have gWH := gWH.agL (AgrL.fr fL70 (by decide))
          have hF := hF.step f70 (by decide)
          have gWH := gWH.ag (Agr.fr f70 (by decide))
          have t71 : (σ70 24 1).toInt = (σ15 24 1).toInt := congrArg Int32.toInt (f70.at 24 1 (by decide))
          have hr72 := rg_6_2 hR (k := 24) (by decide) (by decide)
          exact r_zret hx hb hr hK hP hS hk (by omega) dX7_readOne_248 (show P_X7_readOne_d3 σ0 τ0 a1 b N mo q nn nm hc r70 σ70 τ70 from ⟨hR, hF, hFL, by omega, by first | exact RO.ofr ((one_l (by omega) (by omega) (by omega) (by omega)).trans (lea_n (by omega) (by omega))) (by omega) ⟨gCT, by omega, by omega⟩ | (exfalso; omega) | exact RO.ofk (one_x (by omega)) (by omega) (by omega) (by omega) | exact RO.ofk (one_4 (by omega) (by omega)) (by omega) (by omega) (by omega) | (obtain ⟨f, e1, x1, x2⟩ := o1.no (by omega); exact RO.ofl ((one_n (by omega) (by omega)).trans e1) (by omega) x1 x2) | exact RO.ofr ((one_n (by omega) (by omega)).trans e1) (by omega) ⟨gCT, by omega, by omega⟩ | (obtain ⟨f, e2, x1, x2⟩ := o2.no (by omega); exact RO.ofl (by rw [one_o (by omega) (by omega), e2, bnd_l]) (by omega) x1 x2) | (obtain ⟨f, e3, x1, x2⟩ := o3.no (by omega); exact RO.ofl (by rw [one_o (by omega) (by omega), e2, bnd_r, e3, bnd_l]) (by omega) x1 x2) | exact RO.ofr (by rw [one_o (by omega) (by omega), e2, bnd_r, e3, bnd_r]) (by omega) ⟨gCT, by omega, by omega⟩ | (rw [one_l (by omega) (by omega) (by omega) (by omega)]; exact o4.map (fun s es h => ⟨h.1, h.2.1, by have h2 := h.2.2; have hl := lea_up es; omega⟩)) | (rw [one_l (by omega) (by omega) (by omega) (by omega)]; exact o5.map (fun s es h => ⟨h.1, h.2.1, by have h2 := h.2.2; have hl := lea_up es; omega⟩)), gWH⟩)
        by_cases c73 : (σ0 1 9).toInt = 31
        · refine lv_tableIn (off := 177) (tgt := 249) hx hb dX7_readOne_72 (by omega) (by omega) (by rw [c73]; rfl) (by decide) ?_
          refine lv_aload_n hx hb dX7_readOne_249 rfl (lv_at hl 1 rfl) ?_
          refine fg_7_2 (k := 27) hx hb hts in_X7_readOne_7 hown hK hP (by decide) (by decide) (hts _ lk_X7_readOne_19) dX7_readOne_250 ?_
          refine lv_iload_n hx hb dX7_readOne_253 rfl (lv_at hl 0 rfl) ?_
          refine r_bipush hx hb dX7_readOne_254 (by decide) (fun z74 ez74 => ?_)
          refine r_iconst hx hb dX7_readOne_256 (by decide) (fun z75 ez75 => ?_)
          refine r_cVi (k := 24) (As := [.int (σ0 1 9), .int z74, .int z75]) (rest := []) ⟨hx, hb, hml, hown, hts⟩ hK hP hN hS (c_X6_add l D cA ad hI σ15 τ15 hR (σ0 1 9) z74 z75 (by omega)) (cwV 3 hts gX7_readOne_X6_add rfl rfl rfl (by decide +kernel) ⟨by decide, by decide⟩) (rv_Sent hK hP (by decide) (by decide)) rfl hl.1 rfl (Nat.le_of_ble_eq_true rfl) dX7_readOne_257 (Nat.zero_le _) (Nat.zero_le _) (fun r76 u76 H76 locs76 hp76 hP hS => ?_)
          obtain ⟨σ76, τ76⟩ := u76
          obtain ⟨hR, f76, fL76, hq76, hp76_0⟩ : P_X6_add σ15 τ15 (σ0 1 9) z74 z75 r76 σ76 τ76 := hp76
          have hP : va_P D vwCl (gw cA ad σ76 τ76) H76 := hP
          obtain rfl := FrL.nil fL76
          have hF := hF.step f76 (by decide)
          have gCT := gCT.ag (Agr.fr f76 (by decide))
          have gWH := gWH.ag (Agr.fr f76 (by decide))
          have t77 : (σ76 24 1).toInt = (σ15 24 1).toInt := congrArg Int32.toInt (f76.at 24 1 (by decide))
          have hr78 := rg_6_2 hR (k := 24) (by decide) (by decide)
          exact r_zret hx hb hr hK hP hS hk (by omega) dX7_readOne_260 (show P_X7_readOne_d3 σ0 τ0 a1 b N mo q nn nm hc r76 σ76 τ15 from ⟨hR, hF, hFL, by omega, by first | exact RO.ofr ((one_l (by omega) (by omega) (by omega) (by omega)).trans (lea_n (by omega) (by omega))) (by omega) ⟨gCT, by omega, by omega⟩ | (exfalso; omega) | exact RO.ofk (one_x (by omega)) (by omega) (by omega) (by omega) | exact RO.ofk (one_4 (by omega) (by omega)) (by omega) (by omega) (by omega) | (obtain ⟨f, e1, x1, x2⟩ := o1.no (by omega); exact RO.ofl ((one_n (by omega) (by omega)).trans e1) (by omega) x1 x2) | exact RO.ofr ((one_n (by omega) (by omega)).trans e1) (by omega) ⟨gCT, by omega, by omega⟩ | (obtain ⟨f, e2, x1, x2⟩ := o2.no (by omega); exact RO.ofl (by rw [one_o (by omega) (by omega), e2, bnd_l]) (by omega) x1 x2) | (obtain ⟨f, e3, x1, x2⟩ := o3.no (by omega); exact RO.ofl (by rw [one_o (by omega) (by omega), e2, bnd_r, e3, bnd_l]) (by omega) x1 x2) | exact RO.ofr (by rw [one_o (by omega) (by omega), e2, bnd_r, e3, bnd_r]) (by omega) ⟨gCT, by omega, by omega⟩ | (rw [one_l (by omega) (by omega) (by omega) (by omega)]; exact o4.map (fun s es h => ⟨h.1, h.2.1, by have h2 := h.2.2; have hl := lea_up es; omega⟩)) | (rw [one_l (by omega) (by omega) (by omega) (by omega)]; exact o5.map (fun s es h => ⟨h.1, h.2.1, by have h2 := h.2.2; have hl := lea_up es; omega⟩)), gWH⟩)
        by_cases c79 : (σ0 1 9).toInt = 32
        · refine lv_tableIn (off := 177) (tgt := 249) hx hb dX7_readOne_72 (by omega) (by omega) (by rw [c79]; rfl) (by decide) ?_
          refine lv_aload_n hx hb dX7_readOne_249 rfl (lv_at hl 1 rfl) ?_
          refine fg_7_2 (k := 27) hx hb hts in_X7_readOne_7 hown hK hP (by decide) (by decide) (hts _ lk_X7_readOne_19) dX7_readOne_250 ?_
          refine lv_iload_n hx hb dX7_readOne_253 rfl (lv_at hl 0 rfl) ?_
          refine r_bipush hx hb dX7_readOne_254 (by decide) (fun z80 ez80 => ?_)
          refine r_iconst hx hb dX7_readOne_256 (by decide) (fun z81 ez81 => ?_)
          refine r_cVi (k := 24) (As := [.int (σ0 1 9), .int z80, .int z81]) (rest := []) ⟨hx, hb, hml, hown, hts⟩ hK hP hN hS (c_X6_add l D cA ad hI σ15 τ15 hR (σ0 1 9) z80 z81 (by omega)) (cwV 3 hts gX7_readOne_X6_add rfl rfl rfl (by decide +kernel) ⟨by decide, by decide⟩) (rv_Sent hK hP (by decide) (by decide)) rfl hl.1 rfl (Nat.le_of_ble_eq_true rfl) dX7_readOne_257 (Nat.zero_le _) (Nat.zero_le _) (fun r82 u82 H82 locs82 hp82 hP hS => ?_)
          obtain ⟨σ82, τ82⟩ := u82
          obtain ⟨hR, f82, fL82, hq82, hp82_0⟩ : P_X6_add σ15 τ15 (σ0 1 9) z80 z81 r82 σ82 τ82 := hp82
          have hP : va_P D vwCl (gw cA ad σ82 τ82) H82 := hP
          obtain rfl := FrL.nil fL82
          have hF := hF.step f82 (by decide)
          have gCT := gCT.ag (Agr.fr f82 (by decide))
          have gWH := gWH.ag (Agr.fr f82 (by decide))
          have t83 : (σ82 24 1).toInt = (σ15 24 1).toInt := congrArg Int32.toInt (f82.at 24 1 (by decide))
          have hr84 := rg_6_2 hR (k := 24) (by decide) (by decide)
          exact r_zret hx hb hr hK hP hS hk (by omega) dX7_readOne_260 (show P_X7_readOne_d3 σ0 τ0 a1 b N mo q nn nm hc r82 σ82 τ15 from ⟨hR, hF, hFL, by omega, by first | exact RO.ofr ((one_l (by omega) (by omega) (by omega) (by omega)).trans (lea_n (by omega) (by omega))) (by omega) ⟨gCT, by omega, by omega⟩ | (exfalso; omega) | exact RO.ofk (one_x (by omega)) (by omega) (by omega) (by omega) | exact RO.ofk (one_4 (by omega) (by omega)) (by omega) (by omega) (by omega) | (obtain ⟨f, e1, x1, x2⟩ := o1.no (by omega); exact RO.ofl ((one_n (by omega) (by omega)).trans e1) (by omega) x1 x2) | exact RO.ofr ((one_n (by omega) (by omega)).trans e1) (by omega) ⟨gCT, by omega, by omega⟩ | (obtain ⟨f, e2, x1, x2⟩ := o2.no (by omega); exact RO.ofl (by rw [one_o (by omega) (by omega), e2, bnd_l]) (by omega) x1 x2) | (obtain ⟨f, e3, x1, x2⟩ := o3.no (by omega); exact RO.ofl (by rw [one_o (by omega) (by omega), e2, bnd_r, e3, bnd_l]) (by omega) x1 x2) | exact RO.ofr (by rw [one_o (by omega) (by omega), e2, bnd_r, e3, bnd_r]) (by omega) ⟨gCT, by omega, by omega⟩ | (rw [one_l (by omega) (by omega) (by omega) (by omega)]; exact o4.map (fun s es h => ⟨h.1, h.2.1, by have h2 := h.2.2; have hl := lea_up es; omega⟩)) | (rw [one_l (by omega) (by omega) (by omega) (by omega)]; exact o5.map (fun s es h => ⟨h.1, h.2.1, by have h2 := h.2.2; have hl := lea_up es; omega⟩)), gWH⟩)
        by_cases c85 : (σ0 1 9).toInt = 33
        · refine lv_tableIn (off := 177) (tgt := 249) hx hb dX7_readOne_72 (by omega) (by omega) (by rw [c85]; rfl) (by decide) ?_
          refine lv_aload_n hx hb dX7_readOne_249 rfl (lv_at hl 1 rfl) ?_
          refine fg_7_2 (k := 27) hx hb hts in_X7_readOne_7 hown hK hP (by decide) (by decide) (hts _ lk_X7_readOne_19) dX7_readOne_250 ?_
          refine lv_iload_n hx hb dX7_readOne_253 rfl (lv_at hl 0 rfl) ?_
          refine r_bipush hx hb dX7_readOne_254 (by decide) (fun z86 ez86 => ?_)
          refine r_iconst hx hb dX7_readOne_256 (by decide) (fun z87 ez87 => ?_)
          refine r_cVi (k := 24) (As := [.int (σ0 1 9), .int z86, .int z87]) (rest := []) ⟨hx, hb, hml, hown, hts⟩ hK hP hN hS (c_X6_add l D cA ad hI σ15 τ15 hR (σ0 1 9) z86 z87 (by omega)) (cwV 3 hts gX7_readOne_X6_add rfl rfl rfl (by decide +kernel) ⟨by decide, by decide⟩) (rv_Sent hK hP (by decide) (by decide)) rfl hl.1 rfl (Nat.le_of_ble_eq_true rfl) dX7_readOne_257 (Nat.zero_le _) (Nat.zero_le _) (fun r88 u88 H88 locs88 hp88 hP hS => ?_)
          obtain ⟨σ88, τ88⟩ := u88
          obtain ⟨hR, f88, fL88, hq88, hp88_0⟩ : P_X6_add σ15 τ15 (σ0 1 9) z86 z87 r88 σ88 τ88 := hp88
          have hP : va_P D vwCl (gw cA ad σ88 τ88) H88 := hP
          obtain rfl := FrL.nil fL88
          have hF := hF.step f88 (by decide)
          have gCT := gCT.ag (Agr.fr f88 (by decide))
          have gWH := gWH.ag (Agr.fr f88 (by decide))
          have t89 : (σ88 24 1).toInt = (σ15 24 1).toInt := congrArg Int32.toInt (f88.at 24 1 (by decide))
          have hr90 := rg_6_2 hR (k := 24) (by decide) (by decide)
          exact r_zret hx hb hr hK hP hS hk (by omega) dX7_readOne_260 (show P_X7_readOne_d3 σ0 τ0 a1 b N mo q nn nm hc r88 σ88 τ15 from ⟨hR, hF, hFL, by omega, by first | exact RO.ofr ((one_l (by omega) (by omega) (by omega) (by omega)).trans (lea_n (by omega) (by omega))) (by omega) ⟨gCT, by omega, by omega⟩ | (exfalso; omega) | exact RO.ofk (one_x (by omega)) (by omega) (by omega) (by omega) | exact RO.ofk (one_4 (by omega) (by omega)) (by omega) (by omega) (by omega) | (obtain ⟨f, e1, x1, x2⟩ := o1.no (by omega); exact RO.ofl ((one_n (by omega) (by omega)).trans e1) (by omega) x1 x2) | exact RO.ofr ((one_n (by omega) (by omega)).trans e1) (by omega) ⟨gCT, by omega, by omega⟩ | (obtain ⟨f, e2, x1, x2⟩ := o2.no (by omega); exact RO.ofl (by rw [one_o (by omega) (by omega), e2, bnd_l]) (by omega) x1 x2) | (obtain ⟨f, e3, x1, x2⟩ := o3.no (by omega); exact RO.ofl (by rw [one_o (by omega) (by omega), e2, bnd_r, e3, bnd_l]) (by omega) x1 x2) | exact RO.ofr (by rw [one_o (by omega) (by omega), e2, bnd_r, e3, bnd_r]) (by omega) ⟨gCT, by omega, by omega⟩ | (rw [one_l (by omega) (by omega) (by omega) (by omega)]; exact o4.map (fun s es h => ⟨h.1, h.2.1, by have h2 := h.2.2; have hl := lea_up es; omega⟩)) | (rw [one_l (by omega) (by omega) (by omega) (by omega)]; exact o5.map (fun s es h => ⟨h.1, h.2.1, by have h2 := h.2.2; have hl := lea_up es; omega⟩)), gWH⟩)
        by_cases c91 : (σ0 1 9).toInt = 34
        · refine lv_tableIn (off := 177) (tgt := 249) hx hb dX7_readOne_72 (by omega) (by omega) (by rw [c91]; rfl) (by decide) ?_
          refine lv_aload_n hx hb dX7_readOne_249 rfl (lv_at hl 1 rfl) ?_
          refine fg_7_2 (k := 27) hx hb hts in_X7_readOne_7 hown hK hP (by decide) (by decide) (hts _ lk_X7_readOne_19) dX7_readOne_250 ?_
          refine lv_iload_n hx hb dX7_readOne_253 rfl (lv_at hl 0 rfl) ?_
          refine r_bipush hx hb dX7_readOne_254 (by decide) (fun z92 ez92 => ?_)
          refine r_iconst hx hb dX7_readOne_256 (by decide) (fun z93 ez93 => ?_)
          refine r_cVi (k := 24) (As := [.int (σ0 1 9), .int z92, .int z93]) (rest := []) ⟨hx, hb, hml, hown, hts⟩ hK hP hN hS (c_X6_add l D cA ad hI σ15 τ15 hR (σ0 1 9) z92 z93 (by omega)) (cwV 3 hts gX7_readOne_X6_add rfl rfl rfl (by decide +kernel) ⟨by decide, by decide⟩) (rv_Sent hK hP (by decide) (by decide)) rfl hl.1 rfl (Nat.le_of_ble_eq_true rfl) dX7_readOne_257 (Nat.zero_le _) (Nat.zero_le _) (fun r94 u94 H94 locs94 hp94 hP hS => ?_)
          obtain ⟨σ94, τ94⟩ := u94
          obtain ⟨hR, f94, fL94, hq94, hp94_0⟩ : P_X6_add σ15 τ15 (σ0 1 9) z92 z93 r94 σ94 τ94 := hp94
          have hP : va_P D vwCl (gw cA ad σ94 τ94) H94 := hP
          obtain rfl := FrL.nil fL94
          have hF := hF.step f94 (by decide)
          have gCT := gCT.ag (Agr.fr f94 (by decide))
          have gWH := gWH.ag (Agr.fr f94 (by decide))
          have t95 : (σ94 24 1).toInt = (σ15 24 1).toInt := congrArg Int32.toInt (f94.at 24 1 (by decide))
          have hr96 := rg_6_2 hR (k := 24) (by decide) (by decide)
          exact r_zret hx hb hr hK hP hS hk (by omega) dX7_readOne_260 (show P_X7_readOne_d3 σ0 τ0 a1 b N mo q nn nm hc r94 σ94 τ15 from ⟨hR, hF, hFL, by omega, by first | exact RO.ofr ((one_l (by omega) (by omega) (by omega) (by omega)).trans (lea_n (by omega) (by omega))) (by omega) ⟨gCT, by omega, by omega⟩ | (exfalso; omega) | exact RO.ofk (one_x (by omega)) (by omega) (by omega) (by omega) | exact RO.ofk (one_4 (by omega) (by omega)) (by omega) (by omega) (by omega) | (obtain ⟨f, e1, x1, x2⟩ := o1.no (by omega); exact RO.ofl ((one_n (by omega) (by omega)).trans e1) (by omega) x1 x2) | exact RO.ofr ((one_n (by omega) (by omega)).trans e1) (by omega) ⟨gCT, by omega, by omega⟩ | (obtain ⟨f, e2, x1, x2⟩ := o2.no (by omega); exact RO.ofl (by rw [one_o (by omega) (by omega), e2, bnd_l]) (by omega) x1 x2) | (obtain ⟨f, e3, x1, x2⟩ := o3.no (by omega); exact RO.ofl (by rw [one_o (by omega) (by omega), e2, bnd_r, e3, bnd_l]) (by omega) x1 x2) | exact RO.ofr (by rw [one_o (by omega) (by omega), e2, bnd_r, e3, bnd_r]) (by omega) ⟨gCT, by omega, by omega⟩ | (rw [one_l (by omega) (by omega) (by omega) (by omega)]; exact o4.map (fun s es h => ⟨h.1, h.2.1, by have h2 := h.2.2; have hl := lea_up es; omega⟩)) | (rw [one_l (by omega) (by omega) (by omega) (by omega)]; exact o5.map (fun s es h => ⟨h.1, h.2.1, by have h2 := h.2.2; have hl := lea_up es; omega⟩)), gWH⟩)
        by_cases c97 : (σ0 1 9).toInt = 35
        · refine lv_tableIn (off := 177) (tgt := 249) hx hb dX7_readOne_72 (by omega) (by omega) (by rw [c97]; rfl) (by decide) ?_
          refine lv_aload_n hx hb dX7_readOne_249 rfl (lv_at hl 1 rfl) ?_
          refine fg_7_2 (k := 27) hx hb hts in_X7_readOne_7 hown hK hP (by decide) (by decide) (hts _ lk_X7_readOne_19) dX7_readOne_250 ?_
          refine lv_iload_n hx hb dX7_readOne_253 rfl (lv_at hl 0 rfl) ?_
          refine r_bipush hx hb dX7_readOne_254 (by decide) (fun z98 ez98 => ?_)
          refine r_iconst hx hb dX7_readOne_256 (by decide) (fun z99 ez99 => ?_)
          refine r_cVi (k := 24) (As := [.int (σ0 1 9), .int z98, .int z99]) (rest := []) ⟨hx, hb, hml, hown, hts⟩ hK hP hN hS (c_X6_add l D cA ad hI σ15 τ15 hR (σ0 1 9) z98 z99 (by omega)) (cwV 3 hts gX7_readOne_X6_add rfl rfl rfl (by decide +kernel) ⟨by decide, by decide⟩) (rv_Sent hK hP (by decide) (by decide)) rfl hl.1 rfl (Nat.le_of_ble_eq_true rfl) dX7_readOne_257 (Nat.zero_le _) (Nat.zero_le _) (fun r100 u100 H100 locs100 hp100 hP hS => ?_)
          obtain ⟨σ100, τ100⟩ := u100
          obtain ⟨hR, f100, fL100, hq100, hp100_0⟩ : P_X6_add σ15 τ15 (σ0 1 9) z98 z99 r100 σ100 τ100 := hp100
          have hP : va_P D vwCl (gw cA ad σ100 τ100) H100 := hP
          obtain rfl := FrL.nil fL100
          have hF := hF.step f100 (by decide)
          have gCT := gCT.ag (Agr.fr f100 (by decide))
          have gWH := gWH.ag (Agr.fr f100 (by decide))
          have t101 : (σ100 24 1).toInt = (σ15 24 1).toInt := congrArg Int32.toInt (f100.at 24 1 (by decide))
          have hr102 := rg_6_2 hR (k := 24) (by decide) (by decide)
          exact r_zret hx hb hr hK hP hS hk (by omega) dX7_readOne_260 (show P_X7_readOne_d3 σ0 τ0 a1 b N mo q nn nm hc r100 σ100 τ15 from ⟨hR, hF, hFL, by omega, by first | exact RO.ofr ((one_l (by omega) (by omega) (by omega) (by omega)).trans (lea_n (by omega) (by omega))) (by omega) ⟨gCT, by omega, by omega⟩ | (exfalso; omega) | exact RO.ofk (one_x (by omega)) (by omega) (by omega) (by omega) | exact RO.ofk (one_4 (by omega) (by omega)) (by omega) (by omega) (by omega) | (obtain ⟨f, e1, x1, x2⟩ := o1.no (by omega); exact RO.ofl ((one_n (by omega) (by omega)).trans e1) (by omega) x1 x2) | exact RO.ofr ((one_n (by omega) (by omega)).trans e1) (by omega) ⟨gCT, by omega, by omega⟩ | (obtain ⟨f, e2, x1, x2⟩ := o2.no (by omega); exact RO.ofl (by rw [one_o (by omega) (by omega), e2, bnd_l]) (by omega) x1 x2) | (obtain ⟨f, e3, x1, x2⟩ := o3.no (by omega); exact RO.ofl (by rw [one_o (by omega) (by omega), e2, bnd_r, e3, bnd_l]) (by omega) x1 x2) | exact RO.ofr (by rw [one_o (by omega) (by omega), e2, bnd_r, e3, bnd_r]) (by omega) ⟨gCT, by omega, by omega⟩ | (rw [one_l (by omega) (by omega) (by omega) (by omega)]; exact o4.map (fun s es h => ⟨h.1, h.2.1, by have h2 := h.2.2; have hl := lea_up es; omega⟩)) | (rw [one_l (by omega) (by omega) (by omega) (by omega)]; exact o5.map (fun s es h => ⟨h.1, h.2.1, by have h2 := h.2.2; have hl := lea_up es; omega⟩)), gWH⟩)
        by_cases c103 : (σ0 1 9).toInt = 36
        · refine lv_tableIn (off := 177) (tgt := 249) hx hb dX7_readOne_72 (by omega) (by omega) (by rw [c103]; rfl) (by decide) ?_
          refine lv_aload_n hx hb dX7_readOne_249 rfl (lv_at hl 1 rfl) ?_
          refine fg_7_2 (k := 27) hx hb hts in_X7_readOne_7 hown hK hP (by decide) (by decide) (hts _ lk_X7_readOne_19) dX7_readOne_250 ?_
          refine lv_iload_n hx hb dX7_readOne_253 rfl (lv_at hl 0 rfl) ?_
          refine r_bipush hx hb dX7_readOne_254 (by decide) (fun z104 ez104 => ?_)
          refine r_iconst hx hb dX7_readOne_256 (by decide) (fun z105 ez105 => ?_)
          refine r_cVi (k := 24) (As := [.int (σ0 1 9), .int z104, .int z105]) (rest := []) ⟨hx, hb, hml, hown, hts⟩ hK hP hN hS (c_X6_add l D cA ad hI σ15 τ15 hR (σ0 1 9) z104 z105 (by omega)) (cwV 3 hts gX7_readOne_X6_add rfl rfl rfl (by decide +kernel) ⟨by decide, by decide⟩) (rv_Sent hK hP (by decide) (by decide)) rfl hl.1 rfl (Nat.le_of_ble_eq_true rfl) dX7_readOne_257 (Nat.zero_le _) (Nat.zero_le _) (fun r106 u106 H106 locs106 hp106 hP hS => ?_)
          obtain ⟨σ106, τ106⟩ := u106
          obtain ⟨hR, f106, fL106, hq106, hp106_0⟩ : P_X6_add σ15 τ15 (σ0 1 9) z104 z105 r106 σ106 τ106 := hp106
          have hP : va_P D vwCl (gw cA ad σ106 τ106) H106 := hP
          obtain rfl := FrL.nil fL106
          have hF := hF.step f106 (by decide)
          have gCT := gCT.ag (Agr.fr f106 (by decide))
          have gWH := gWH.ag (Agr.fr f106 (by decide))
          have t107 : (σ106 24 1).toInt = (σ15 24 1).toInt := congrArg Int32.toInt (f106.at 24 1 (by decide))
          have hr108 := rg_6_2 hR (k := 24) (by decide) (by decide)
          exact r_zret hx hb hr hK hP hS hk (by omega) dX7_readOne_260 (show P_X7_readOne_d3 σ0 τ0 a1 b N mo q nn nm hc r106 σ106 τ15 from ⟨hR, hF, hFL, by omega, by first | exact RO.ofr ((one_l (by omega) (by omega) (by omega) (by omega)).trans (lea_n (by omega) (by omega))) (by omega) ⟨gCT, by omega, by omega⟩ | (exfalso; omega) | exact RO.ofk (one_x (by omega)) (by omega) (by omega) (by omega) | exact RO.ofk (one_4 (by omega) (by omega)) (by omega) (by omega) (by omega) | (obtain ⟨f, e1, x1, x2⟩ := o1.no (by omega); exact RO.ofl ((one_n (by omega) (by omega)).trans e1) (by omega) x1 x2) | exact RO.ofr ((one_n (by omega) (by omega)).trans e1) (by omega) ⟨gCT, by omega, by omega⟩ | (obtain ⟨f, e2, x1, x2⟩ := o2.no (by omega); exact RO.ofl (by rw [one_o (by omega) (by omega), e2, bnd_l]) (by omega) x1 x2) | (obtain ⟨f, e3, x1, x2⟩ := o3.no (by omega); exact RO.ofl (by rw [one_o (by omega) (by omega), e2, bnd_r, e3, bnd_l]) (by omega) x1 x2) | exact RO.ofr (by rw [one_o (by omega) (by omega), e2, bnd_r, e3, bnd_r]) (by omega) ⟨gCT, by omega, by omega⟩ | (rw [one_l (by omega) (by omega) (by omega) (by omega)]; exact o4.map (fun s es h => ⟨h.1, h.2.1, by have h2 := h.2.2; have hl := lea_up es; omega⟩)) | (rw [one_l (by omega) (by omega) (by omega) (by omega)]; exact o5.map (fun s es h => ⟨h.1, h.2.1, by have h2 := h.2.2; have hl := lea_up es; omega⟩)), gWH⟩)
        by_cases c109 : (σ0 1 9).toInt = 37
        · refine lv_tableIn (off := 177) (tgt := 249) hx hb dX7_readOne_72 (by omega) (by omega) (by rw [c109]; rfl) (by decide) ?_
          refine lv_aload_n hx hb dX7_readOne_249 rfl (lv_at hl 1 rfl) ?_
          refine fg_7_2 (k := 27) hx hb hts in_X7_readOne_7 hown hK hP (by decide) (by decide) (hts _ lk_X7_readOne_19) dX7_readOne_250 ?_
          refine lv_iload_n hx hb dX7_readOne_253 rfl (lv_at hl 0 rfl) ?_
          refine r_bipush hx hb dX7_readOne_254 (by decide) (fun z110 ez110 => ?_)
          refine r_iconst hx hb dX7_readOne_256 (by decide) (fun z111 ez111 => ?_)
          refine r_cVi (k := 24) (As := [.int (σ0 1 9), .int z110, .int z111]) (rest := []) ⟨hx, hb, hml, hown, hts⟩ hK hP hN hS (c_X6_add l D cA ad hI σ15 τ15 hR (σ0 1 9) z110 z111 (by omega)) (cwV 3 hts gX7_readOne_X6_add rfl rfl rfl (by decide +kernel) ⟨by decide, by decide⟩) (rv_Sent hK hP (by decide) (by decide)) rfl hl.1 rfl (Nat.le_of_ble_eq_true rfl) dX7_readOne_257 (Nat.zero_le _) (Nat.zero_le _) (fun r112 u112 H112 locs112 hp112 hP hS => ?_)
          obtain ⟨σ112, τ112⟩ := u112
          obtain ⟨hR, f112, fL112, hq112, hp112_0⟩ : P_X6_add σ15 τ15 (σ0 1 9) z110 z111 r112 σ112 τ112 := hp112
          have hP : va_P D vwCl (gw cA ad σ112 τ112) H112 := hP
          obtain rfl := FrL.nil fL112
          have hF := hF.step f112 (by decide)
          have gCT := gCT.ag (Agr.fr f112 (by decide))
          have gWH := gWH.ag (Agr.fr f112 (by decide))
          have t113 : (σ112 24 1).toInt = (σ15 24 1).toInt := congrArg Int32.toInt (f112.at 24 1 (by decide))
          have hr114 := rg_6_2 hR (k := 24) (by decide) (by decide)
          exact r_zret hx hb hr hK hP hS hk (by omega) dX7_readOne_260 (show P_X7_readOne_d3 σ0 τ0 a1 b N mo q nn nm hc r112 σ112 τ15 from ⟨hR, hF, hFL, by omega, by first | exact RO.ofr ((one_l (by omega) (by omega) (by omega) (by omega)).trans (lea_n (by omega) (by omega))) (by omega) ⟨gCT, by omega, by omega⟩ | (exfalso; omega) | exact RO.ofk (one_x (by omega)) (by omega) (by omega) (by omega) | exact RO.ofk (one_4 (by omega) (by omega)) (by omega) (by omega) (by omega) | (obtain ⟨f, e1, x1, x2⟩ := o1.no (by omega); exact RO.ofl ((one_n (by omega) (by omega)).trans e1) (by omega) x1 x2) | exact RO.ofr ((one_n (by omega) (by omega)).trans e1) (by omega) ⟨gCT, by omega, by omega⟩ | (obtain ⟨f, e2, x1, x2⟩ := o2.no (by omega); exact RO.ofl (by rw [one_o (by omega) (by omega), e2, bnd_l]) (by omega) x1 x2) | (obtain ⟨f, e3, x1, x2⟩ := o3.no (by omega); exact RO.ofl (by rw [one_o (by omega) (by omega), e2, bnd_r, e3, bnd_l]) (by omega) x1 x2) | exact RO.ofr (by rw [one_o (by omega) (by omega), e2, bnd_r, e3, bnd_r]) (by omega) ⟨gCT, by omega, by omega⟩ | (rw [one_l (by omega) (by omega) (by omega) (by omega)]; exact o4.map (fun s es h => ⟨h.1, h.2.1, by have h2 := h.2.2; have hl := lea_up es; omega⟩)) | (rw [one_l (by omega) (by omega) (by omega) (by omega)]; exact o5.map (fun s es h => ⟨h.1, h.2.1, by have h2 := h.2.2; have hl := lea_up es; omega⟩)), gWH⟩)
        by_cases c115 : (σ0 1 9).toInt = 38
        · refine lv_tableIn (off := 177) (tgt := 249) hx hb dX7_readOne_72 (by omega) (by omega) (by rw [c115]; rfl) (by decide) ?_
          refine lv_aload_n hx hb dX7_readOne_249 rfl (lv_at hl 1 rfl) ?_
          refine fg_7_2 (k := 27) hx hb hts in_X7_readOne_7 hown hK hP (by decide) (by decide) (hts _ lk_X7_readOne_19) dX7_readOne_250 ?_
          refine lv_iload_n hx hb dX7_readOne_253 rfl (lv_at hl 0 rfl) ?_
          refine r_bipush hx hb dX7_readOne_254 (by decide) (fun z116 ez116 => ?_)
          refine r_iconst hx hb dX7_readOne_256 (by decide) (fun z117 ez117 => ?_)
          refine r_cVi (k := 24) (As := [.int (σ0 1 9), .int z116, .int z117]) (rest := []) ⟨hx, hb, hml, hown, hts⟩ hK hP hN hS (c_X6_add l D cA ad hI σ15 τ15 hR (σ0 1 9) z116 z117 (by omega)) (cwV 3 hts gX7_readOne_X6_add rfl rfl rfl (by decide +kernel) ⟨by decide, by decide⟩) (rv_Sent hK hP (by decide) (by decide)) rfl hl.1 rfl (Nat.le_of_ble_eq_true rfl) dX7_readOne_257 (Nat.zero_le _) (Nat.zero_le _) (fun r118 u118 H118 locs118 hp118 hP hS => ?_)
          obtain ⟨σ118, τ118⟩ := u118
          obtain ⟨hR, f118, fL118, hq118, hp118_0⟩ : P_X6_add σ15 τ15 (σ0 1 9) z116 z117 r118 σ118 τ118 := hp118
          have hP : va_P D vwCl (gw cA ad σ118 τ118) H118 := hP
          obtain rfl := FrL.nil fL118
          have hF := hF.step f118 (by decide)
          have gCT := gCT.ag (Agr.fr f118 (by decide))
          have gWH := gWH.ag (Agr.fr f118 (by decide))
          have t119 : (σ118 24 1).toInt = (σ15 24 1).toInt := congrArg Int32.toInt (f118.at 24 1 (by decide))
          have hr120 := rg_6_2 hR (k := 24) (by decide) (by decide)
          exact r_zret hx hb hr hK hP hS hk (by omega) dX7_readOne_260 (show P_X7_readOne_d3 σ0 τ0 a1 b N mo q nn nm hc r118 σ118 τ15 from ⟨hR, hF, hFL, by omega, by first | exact RO.ofr ((one_l (by omega) (by omega) (by omega) (by omega)).trans (lea_n (by omega) (by omega))) (by omega) ⟨gCT, by omega, by omega⟩ | (exfalso; omega) | exact RO.ofk (one_x (by omega)) (by omega) (by omega) (by omega) | exact RO.ofk (one_4 (by omega) (by omega)) (by omega) (by omega) (by omega) | (obtain ⟨f, e1, x1, x2⟩ := o1.no (by omega); exact RO.ofl ((one_n (by omega) (by omega)).trans e1) (by omega) x1 x2) | exact RO.ofr ((one_n (by omega) (by omega)).trans e1) (by omega) ⟨gCT, by omega, by omega⟩ | (obtain ⟨f, e2, x1, x2⟩ := o2.no (by omega); exact RO.ofl (by rw [one_o (by omega) (by omega), e2, bnd_l]) (by omega) x1 x2) | (obtain ⟨f, e3, x1, x2⟩ := o3.no (by omega); exact RO.ofl (by rw [one_o (by omega) (by omega), e2, bnd_r, e3, bnd_l]) (by omega) x1 x2) | exact RO.ofr (by rw [one_o (by omega) (by omega), e2, bnd_r, e3, bnd_r]) (by omega) ⟨gCT, by omega, by omega⟩ | (rw [one_l (by omega) (by omega) (by omega) (by omega)]; exact o4.map (fun s es h => ⟨h.1, h.2.1, by have h2 := h.2.2; have hl := lea_up es; omega⟩)) | (rw [one_l (by omega) (by omega) (by omega) (by omega)]; exact o5.map (fun s es h => ⟨h.1, h.2.1, by have h2 := h.2.2; have hl := lea_up es; omega⟩)), gWH⟩)
        by_cases c121 : (σ0 1 9).toInt = 39
        · refine lv_tableIn (off := 177) (tgt := 249) hx hb dX7_readOne_72 (by omega) (by omega) (by rw [c121]; rfl) (by decide) ?_
          refine lv_aload_n hx hb dX7_readOne_249 rfl (lv_at hl 1 rfl) ?_
          refine fg_7_2 (k := 27) hx hb hts in_X7_readOne_7 hown hK hP (by decide) (by decide) (hts _ lk_X7_readOne_19) dX7_readOne_250 ?_
          refine lv_iload_n hx hb dX7_readOne_253 rfl (lv_at hl 0 rfl) ?_
          refine r_bipush hx hb dX7_readOne_254 (by decide) (fun z122 ez122 => ?_)
          refine r_iconst hx hb dX7_readOne_256 (by decide) (fun z123 ez123 => ?_)
          refine r_cVi (k := 24) (As := [.int (σ0 1 9), .int z122, .int z123]) (rest := []) ⟨hx, hb, hml, hown, hts⟩ hK hP hN hS (c_X6_add l D cA ad hI σ15 τ15 hR (σ0 1 9) z122 z123 (by omega)) (cwV 3 hts gX7_readOne_X6_add rfl rfl rfl (by decide +kernel) ⟨by decide, by decide⟩) (rv_Sent hK hP (by decide) (by decide)) rfl hl.1 rfl (Nat.le_of_ble_eq_true rfl) dX7_readOne_257 (Nat.zero_le _) (Nat.zero_le _) (fun r124 u124 H124 locs124 hp124 hP hS => ?_)
          obtain ⟨σ124, τ124⟩ := u124
          obtain ⟨hR, f124, fL124, hq124, hp124_0⟩ : P_X6_add σ15 τ15 (σ0 1 9) z122 z123 r124 σ124 τ124 := hp124
          have hP : va_P D vwCl (gw cA ad σ124 τ124) H124 := hP
          obtain rfl := FrL.nil fL124
          have hF := hF.step f124 (by decide)
          have gCT := gCT.ag (Agr.fr f124 (by decide))
          have gWH := gWH.ag (Agr.fr f124 (by decide))
          have t125 : (σ124 24 1).toInt = (σ15 24 1).toInt := congrArg Int32.toInt (f124.at 24 1 (by decide))
          have hr126 := rg_6_2 hR (k := 24) (by decide) (by decide)
          exact r_zret hx hb hr hK hP hS hk (by omega) dX7_readOne_260 (show P_X7_readOne_d3 σ0 τ0 a1 b N mo q nn nm hc r124 σ124 τ15 from ⟨hR, hF, hFL, by omega, by first | exact RO.ofr ((one_l (by omega) (by omega) (by omega) (by omega)).trans (lea_n (by omega) (by omega))) (by omega) ⟨gCT, by omega, by omega⟩ | (exfalso; omega) | exact RO.ofk (one_x (by omega)) (by omega) (by omega) (by omega) | exact RO.ofk (one_4 (by omega) (by omega)) (by omega) (by omega) (by omega) | (obtain ⟨f, e1, x1, x2⟩ := o1.no (by omega); exact RO.ofl ((one_n (by omega) (by omega)).trans e1) (by omega) x1 x2) | exact RO.ofr ((one_n (by omega) (by omega)).trans e1) (by omega) ⟨gCT, by omega, by omega⟩ | (obtain ⟨f, e2, x1, x2⟩ := o2.no (by omega); exact RO.ofl (by rw [one_o (by omega) (by omega), e2, bnd_l]) (by omega) x1 x2) | (obtain ⟨f, e3, x1, x2⟩ := o3.no (by omega); exact RO.ofl (by rw [one_o (by omega) (by omega), e2, bnd_r, e3, bnd_l]) (by omega) x1 x2) | exact RO.ofr (by rw [one_o (by omega) (by omega), e2, bnd_r, e3, bnd_r]) (by omega) ⟨gCT, by omega, by omega⟩ | (rw [one_l (by omega) (by omega) (by omega) (by omega)]; exact o4.map (fun s es h => ⟨h.1, h.2.1, by have h2 := h.2.2; have hl := lea_up es; omega⟩)) | (rw [one_l (by omega) (by omega) (by omega) (by omega)]; exact o5.map (fun s es h => ⟨h.1, h.2.1, by have h2 := h.2.2; have hl := lea_up es; omega⟩)), gWH⟩)
        by_cases c127 : (σ0 1 9).toInt = 40
        · refine lv_tableIn (off := 177) (tgt := 249) hx hb dX7_readOne_72 (by omega) (by omega) (by rw [c127]; rfl) (by decide) ?_
          refine lv_aload_n hx hb dX7_readOne_249 rfl (lv_at hl 1 rfl) ?_
          refine fg_7_2 (k := 27) hx hb hts in_X7_readOne_7 hown hK hP (by decide) (by decide) (hts _ lk_X7_readOne_19) dX7_readOne_250 ?_
          refine lv_iload_n hx hb dX7_readOne_253 rfl (lv_at hl 0 rfl) ?_
          refine r_bipush hx hb dX7_readOne_254 (by decide) (fun z128 ez128 => ?_)
          refine r_iconst hx hb dX7_readOne_256 (by decide) (fun z129 ez129 => ?_)
          refine r_cVi (k := 24) (As := [.int (σ0 1 9), .int z128, .int z129]) (rest := []) ⟨hx, hb, hml, hown, hts⟩ hK hP hN hS (c_X6_add l D cA ad hI σ15 τ15 hR (σ0 1 9) z128 z129 (by omega)) (cwV 3 hts gX7_readOne_X6_add rfl rfl rfl (by decide +kernel) ⟨by decide, by decide⟩) (rv_Sent hK hP (by decide) (by decide)) rfl hl.1 rfl (Nat.le_of_ble_eq_true rfl) dX7_readOne_257 (Nat.zero_le _) (Nat.zero_le _) (fun r130 u130 H130 locs130 hp130 hP hS => ?_)
          obtain ⟨σ130, τ130⟩ := u130
          obtain ⟨hR, f130, fL130, hq130, hp130_0⟩ : P_X6_add σ15 τ15 (σ0 1 9) z128 z129 r130 σ130 τ130 := hp130
          have hP : va_P D vwCl (gw cA ad σ130 τ130) H130 := hP
          obtain rfl := FrL.nil fL130
          have hF := hF.step f130 (by decide)
          have gCT := gCT.ag (Agr.fr f130 (by decide))
          have gWH := gWH.ag (Agr.fr f130 (by decide))
          have t131 : (σ130 24 1).toInt = (σ15 24 1).toInt := congrArg Int32.toInt (f130.at 24 1 (by decide))
          have hr132 := rg_6_2 hR (k := 24) (by decide) (by decide)
          exact r_zret hx hb hr hK hP hS hk (by omega) dX7_readOne_260 (show P_X7_readOne_d3 σ0 τ0 a1 b N mo q nn nm hc r130 σ130 τ15 from ⟨hR, hF, hFL, by omega, by first | exact RO.ofr ((one_l (by omega) (by omega) (by omega) (by omega)).trans (lea_n (by omega) (by omega))) (by omega) ⟨gCT, by omega, by omega⟩ | (exfalso; omega) | exact RO.ofk (one_x (by omega)) (by omega) (by omega) (by omega) | exact RO.ofk (one_4 (by omega) (by omega)) (by omega) (by omega) (by omega) | (obtain ⟨f, e1, x1, x2⟩ := o1.no (by omega); exact RO.ofl ((one_n (by omega) (by omega)).trans e1) (by omega) x1 x2) | exact RO.ofr ((one_n (by omega) (by omega)).trans e1) (by omega) ⟨gCT, by omega, by omega⟩ | (obtain ⟨f, e2, x1, x2⟩ := o2.no (by omega); exact RO.ofl (by rw [one_o (by omega) (by omega), e2, bnd_l]) (by omega) x1 x2) | (obtain ⟨f, e3, x1, x2⟩ := o3.no (by omega); exact RO.ofl (by rw [one_o (by omega) (by omega), e2, bnd_r, e3, bnd_l]) (by omega) x1 x2) | exact RO.ofr (by rw [one_o (by omega) (by omega), e2, bnd_r, e3, bnd_r]) (by omega) ⟨gCT, by omega, by omega⟩ | (rw [one_l (by omega) (by omega) (by omega) (by omega)]; exact o4.map (fun s es h => ⟨h.1, h.2.1, by have h2 := h.2.2; have hl := lea_up es; omega⟩)) | (rw [one_l (by omega) (by omega) (by omega) (by omega)]; exact o5.map (fun s es h => ⟨h.1, h.2.1, by have h2 := h.2.2; have hl := lea_up es; omega⟩)), gWH⟩)
        by_cases c133 : (σ0 1 9).toInt = 41
        · refine lv_tableIn (off := 177) (tgt := 249) hx hb dX7_readOne_72 (by omega) (by omega) (by rw [c133]; rfl) (by decide) ?_
          refine lv_aload_n hx hb dX7_readOne_249 rfl (lv_at hl 1 rfl) ?_
          refine fg_7_2 (k := 27) hx hb hts in_X7_readOne_7 hown hK hP (by decide) (by decide) (hts _ lk_X7_readOne_19) dX7_readOne_250 ?_
          refine lv_iload_n hx hb dX7_readOne_253 rfl (lv_at hl 0 rfl) ?_
          refine r_bipush hx hb dX7_readOne_254 (by decide) (fun z134 ez134 => ?_)
          refine r_iconst hx hb dX7_readOne_256 (by decide) (fun z135 ez135 => ?_)
          refine r_cVi (k := 24) (As := [.int (σ0 1 9), .int z134, .int z135]) (rest := []) ⟨hx, hb, hml, hown, hts⟩ hK hP hN hS (c_X6_add l D cA ad hI σ15 τ15 hR (σ0 1 9) z134 z135 (by omega)) (cwV 3 hts gX7_readOne_X6_add rfl rfl rfl (by decide +kernel) ⟨by decide, by decide⟩) (rv_Sent hK hP (by decide) (by decide)) rfl hl.1 rfl (Nat.le_of_ble_eq_true rfl) dX7_readOne_257 (Nat.zero_le _) (Nat.zero_le _) (fun r136 u136 H136 locs136 hp136 hP hS => ?_)
          obtain ⟨σ136, τ136⟩ := u136
          obtain ⟨hR, f136, fL136, hq136, hp136_0⟩ : P_X6_add σ15 τ15 (σ0 1 9) z134 z135 r136 σ136 τ136 := hp136
          have hP : va_P D vwCl (gw cA ad σ136 τ136) H136 := hP
          obtain rfl := FrL.nil fL136
          have hF := hF.step f136 (by decide)
          have gCT := gCT.ag (Agr.fr f136 (by decide))
          have gWH := gWH.ag (Agr.fr f136 (by decide))
          have t137 : (σ136 24 1).toInt = (σ15 24 1).toInt := congrArg Int32.toInt (f136.at 24 1 (by decide))
          have hr138 := rg_6_2 hR (k := 24) (by decide) (by decide)
          exact r_zret hx hb hr hK hP hS hk (by omega) dX7_readOne_260 (show P_X7_readOne_d3 σ0 τ0 a1 b N mo q nn nm hc r136 σ136 τ15 from ⟨hR, hF, hFL, by omega, by first | exact RO.ofr ((one_l (by omega) (by omega) (by omega) (by omega)).trans (lea_n (by omega) (by omega))) (by omega) ⟨gCT, by omega, by omega⟩ | (exfalso; omega) | exact RO.ofk (one_x (by omega)) (by omega) (by omega) (by omega) | exact RO.ofk (one_4 (by omega) (by omega)) (by omega) (by omega) (by omega) | (obtain ⟨f, e1, x1, x2⟩ := o1.no (by omega); exact RO.ofl ((one_n (by omega) (by omega)).trans e1) (by omega) x1 x2) | exact RO.ofr ((one_n (by omega) (by omega)).trans e1) (by omega) ⟨gCT, by omega, by omega⟩ | (obtain ⟨f, e2, x1, x2⟩ := o2.no (by omega); exact RO.ofl (by rw [one_o (by omega) (by omega), e2, bnd_l]) (by omega) x1 x2) | (obtain ⟨f, e3, x1, x2⟩ := o3.no (by omega); exact RO.ofl (by rw [one_o (by omega) (by omega), e2, bnd_r, e3, bnd_l]) (by omega) x1 x2) | exact RO.ofr (by rw [one_o (by omega) (by omega), e2, bnd_r, e3, bnd_r]) (by omega) ⟨gCT, by omega, by omega⟩ | (rw [one_l (by omega) (by omega) (by omega) (by omega)]; exact o4.map (fun s es h => ⟨h.1, h.2.1, by have h2 := h.2.2; have hl := lea_up es; omega⟩)) | (rw [one_l (by omega) (by omega) (by omega) (by omega)]; exact o5.map (fun s es h => ⟨h.1, h.2.1, by have h2 := h.2.2; have hl := lea_up es; omega⟩)), gWH⟩)
        by_cases c139 : (σ0 1 9).toInt = 42
        · refine lv_tableIn (off := 177) (tgt := 249) hx hb dX7_readOne_72 (by omega) (by omega) (by rw [c139]; rfl) (by decide) ?_
          refine lv_aload_n hx hb dX7_readOne_249 rfl (lv_at hl 1 rfl) ?_
          refine fg_7_2 (k := 27) hx hb hts in_X7_readOne_7 hown hK hP (by decide) (by decide) (hts _ lk_X7_readOne_19) dX7_readOne_250 ?_
          refine lv_iload_n hx hb dX7_readOne_253 rfl (lv_at hl 0 rfl) ?_
          refine r_bipush hx hb dX7_readOne_254 (by decide) (fun z140 ez140 => ?_)
          refine r_iconst hx hb dX7_readOne_256 (by decide) (fun z141 ez141 => ?_)
          refine r_cVi (k := 24) (As := [.int (σ0 1 9), .int z140, .int z141]) (rest := []) ⟨hx, hb, hml, hown, hts⟩ hK hP hN hS (c_X6_add l D cA ad hI σ15 τ15 hR (σ0 1 9) z140 z141 (by omega)) (cwV 3 hts gX7_readOne_X6_add rfl rfl rfl (by decide +kernel) ⟨by decide, by decide⟩) (rv_Sent hK hP (by decide) (by decide)) rfl hl.1 rfl (Nat.le_of_ble_eq_true rfl) dX7_readOne_257 (Nat.zero_le _) (Nat.zero_le _) (fun r142 u142 H142 locs142 hp142 hP hS => ?_)
          obtain ⟨σ142, τ142⟩ := u142
          obtain ⟨hR, f142, fL142, hq142, hp142_0⟩ : P_X6_add σ15 τ15 (σ0 1 9) z140 z141 r142 σ142 τ142 := hp142
          have hP : va_P D vwCl (gw cA ad σ142 τ142) H142 := hP
          obtain rfl := FrL.nil fL142
          have hF := hF.step f142 (by decide)
          have gCT := gCT.ag (Agr.fr f142 (by decide))
          have gWH := gWH.ag (Agr.fr f142 (by decide))
          have t143 : (σ142 24 1).toInt = (σ15 24 1).toInt := congrArg Int32.toInt (f142.at 24 1 (by decide))
          have hr144 := rg_6_2 hR (k := 24) (by decide) (by decide)
          exact r_zret hx hb hr hK hP hS hk (by omega) dX7_readOne_260 (show P_X7_readOne_d3 σ0 τ0 a1 b N mo q nn nm hc r142 σ142 τ15 from ⟨hR, hF, hFL, by omega, by first | exact RO.ofr ((one_l (by omega) (by omega) (by omega) (by omega)).trans (lea_n (by omega) (by omega))) (by omega) ⟨gCT, by omega, by omega⟩ | (exfalso; omega) | exact RO.ofk (one_x (by omega)) (by omega) (by omega) (by omega) | exact RO.ofk (one_4 (by omega) (by omega)) (by omega) (by omega) (by omega) | (obtain ⟨f, e1, x1, x2⟩ := o1.no (by omega); exact RO.ofl ((one_n (by omega) (by omega)).trans e1) (by omega) x1 x2) | exact RO.ofr ((one_n (by omega) (by omega)).trans e1) (by omega) ⟨gCT, by omega, by omega⟩ | (obtain ⟨f, e2, x1, x2⟩ := o2.no (by omega); exact RO.ofl (by rw [one_o (by omega) (by omega), e2, bnd_l]) (by omega) x1 x2) | (obtain ⟨f, e3, x1, x2⟩ := o3.no (by omega); exact RO.ofl (by rw [one_o (by omega) (by omega), e2, bnd_r, e3, bnd_l]) (by omega) x1 x2) | exact RO.ofr (by rw [one_o (by omega) (by omega), e2, bnd_r, e3, bnd_r]) (by omega) ⟨gCT, by omega, by omega⟩ | (rw [one_l (by omega) (by omega) (by omega) (by omega)]; exact o4.map (fun s es h => ⟨h.1, h.2.1, by have h2 := h.2.2; have hl := lea_up es; omega⟩)) | (rw [one_l (by omega) (by omega) (by omega) (by omega)]; exact o5.map (fun s es h => ⟨h.1, h.2.1, by have h2 := h.2.2; have hl := lea_up es; omega⟩)), gWH⟩)
        by_cases c145 : (σ0 1 9).toInt = 43
        · refine lv_tableIn (off := 177) (tgt := 249) hx hb dX7_readOne_72 (by omega) (by omega) (by rw [c145]; rfl) (by decide) ?_
          refine lv_aload_n hx hb dX7_readOne_249 rfl (lv_at hl 1 rfl) ?_
          refine fg_7_2 (k := 27) hx hb hts in_X7_readOne_7 hown hK hP (by decide) (by decide) (hts _ lk_X7_readOne_19) dX7_readOne_250 ?_
          refine lv_iload_n hx hb dX7_readOne_253 rfl (lv_at hl 0 rfl) ?_
          refine r_bipush hx hb dX7_readOne_254 (by decide) (fun z146 ez146 => ?_)
          refine r_iconst hx hb dX7_readOne_256 (by decide) (fun z147 ez147 => ?_)
          refine r_cVi (k := 24) (As := [.int (σ0 1 9), .int z146, .int z147]) (rest := []) ⟨hx, hb, hml, hown, hts⟩ hK hP hN hS (c_X6_add l D cA ad hI σ15 τ15 hR (σ0 1 9) z146 z147 (by omega)) (cwV 3 hts gX7_readOne_X6_add rfl rfl rfl (by decide +kernel) ⟨by decide, by decide⟩) (rv_Sent hK hP (by decide) (by decide)) rfl hl.1 rfl (Nat.le_of_ble_eq_true rfl) dX7_readOne_257 (Nat.zero_le _) (Nat.zero_le _) (fun r148 u148 H148 locs148 hp148 hP hS => ?_)
          obtain ⟨σ148, τ148⟩ := u148
          obtain ⟨hR, f148, fL148, hq148, hp148_0⟩ : P_X6_add σ15 τ15 (σ0 1 9) z146 z147 r148 σ148 τ148 := hp148
          have hP : va_P D vwCl (gw cA ad σ148 τ148) H148 := hP
          obtain rfl := FrL.nil fL148
          have hF := hF.step f148 (by decide)
          have gCT := gCT.ag (Agr.fr f148 (by decide))
          have gWH := gWH.ag (Agr.fr f148 (by decide))
          have t149 : (σ148 24 1).toInt = (σ15 24 1).toInt := congrArg Int32.toInt (f148.at 24 1 (by decide))
          have hr150 := rg_6_2 hR (k := 24) (by decide) (by decide)
          exact r_zret hx hb hr hK hP hS hk (by omega) dX7_readOne_260 (show P_X7_readOne_d3 σ0 τ0 a1 b N mo q nn nm hc r148 σ148 τ15 from ⟨hR, hF, hFL, by omega, by first | exact RO.ofr ((one_l (by omega) (by omega) (by omega) (by omega)).trans (lea_n (by omega) (by omega))) (by omega) ⟨gCT, by omega, by omega⟩ | (exfalso; omega) | exact RO.ofk (one_x (by omega)) (by omega) (by omega) (by omega) | exact RO.ofk (one_4 (by omega) (by omega)) (by omega) (by omega) (by omega) | (obtain ⟨f, e1, x1, x2⟩ := o1.no (by omega); exact RO.ofl ((one_n (by omega) (by omega)).trans e1) (by omega) x1 x2) | exact RO.ofr ((one_n (by omega) (by omega)).trans e1) (by omega) ⟨gCT, by omega, by omega⟩ | (obtain ⟨f, e2, x1, x2⟩ := o2.no (by omega); exact RO.ofl (by rw [one_o (by omega) (by omega), e2, bnd_l]) (by omega) x1 x2) | (obtain ⟨f, e3, x1, x2⟩ := o3.no (by omega); exact RO.ofl (by rw [one_o (by omega) (by omega), e2, bnd_r, e3, bnd_l]) (by omega) x1 x2) | exact RO.ofr (by rw [one_o (by omega) (by omega), e2, bnd_r, e3, bnd_r]) (by omega) ⟨gCT, by omega, by omega⟩ | (rw [one_l (by omega) (by omega) (by omega) (by omega)]; exact o4.map (fun s es h => ⟨h.1, h.2.1, by have h2 := h.2.2; have hl := lea_up es; omega⟩)) | (rw [one_l (by omega) (by omega) (by omega) (by omega)]; exact o5.map (fun s es h => ⟨h.1, h.2.1, by have h2 := h.2.2; have hl := lea_up es; omega⟩)), gWH⟩)
        by_cases c151 : (σ0 1 9).toInt = 44
        · refine lv_tableIn (off := 138) (tgt := 210) hx hb dX7_readOne_72 (by omega) (by omega) (by rw [c151]; rfl) (by decide) ?_
          refine lv_aload_n hx hb dX7_readOne_210 rfl (lv_at hl 1 rfl) ?_
          refine lv_iload_n hx hb dX7_readOne_211 rfl (lv_at hl 2 rfl) ?_
          refine r_iconst hx hb dX7_readOne_212 (by decide) (fun z152 ez152 => ?_)
          refine r_iadd hx hb dX7_readOne_213 (by omega) (fun z153 ez153 => ?_)
          refine r_cVi (k := 27) (As := [.int z153]) (rest := []) ⟨hx, hb, hml, hown, hts⟩ hK hP hN hS (c_X7_readCond_d4 l D cA ad hI σ15 τ15 hR z153 b N mo _ (nn + 1) nm hc (by omega) (by omega) (by omega) (by omega) gCT gWH) (cwV 1 hts gX7_readOne_X7_readCond rfl rfl rfl (by decide +kernel) ⟨by decide, by decide⟩) (rv_SText hK hP (by decide) (by decide)) rfl hl.1 rfl (Nat.le_of_ble_eq_true rfl) dX7_readOne_214 (Nat.zero_le _) (Nat.zero_le _) (fun r154 u154 H154 locs154 hp154 hP hS => ?_)
          obtain ⟨σ154, τ154⟩ := u154
          obtain ⟨hR, f154, fL154, hq154, hp154_0, gnWH⟩ : P_X7_readCond_d4 σ15 τ15 z153 b N mo _ (nn + 1) nm hc r154 σ154 τ154 := hp154
          have o2 := hp154_0
          have hP : va_P D vwCl (gw cA ad σ154 τ154) H154 := hP
          have hFL := hFL.step fL154 (by decide)
          have gWH := gWH.agL (AgrL.fr fL154 (by decide))
          have hF := hF.step f154 (by decide)
          have gWH := gWH.ag (Agr.fr f154 (by decide))
          have hr155 := rg_6_1 hR (k := 24) (by decide) (by decide)
          have hr156 := rg_6_2 hR (k := 24) (by decide) (by decide)
          refine r_if_eq (tgt := 236) hx hb dX7_readOne_217 (by decide) (fun c157 => ?_) (fun c157 => ?_)
          · refine r_iconst hx hb dX7_readOne_236 (by decide) (fun z158 ez158 => ?_)
            exact r_zret hx hb hr hK hP hS hk (by omega) dX7_readOne_237 (show P_X7_readOne_d3 σ0 τ0 a1 b N mo q nn nm hc z158 σ154 τ154 from ⟨hR, hF, hFL, by omega, by first | exact RO.ofr ((one_l (by omega) (by omega) (by omega) (by omega)).trans (lea_n (by omega) (by omega))) (by omega) ⟨gCT, by omega, by omega⟩ | (exfalso; omega) | exact RO.ofk (one_x (by omega)) (by omega) (by omega) (by omega) | exact RO.ofk (one_4 (by omega) (by omega)) (by omega) (by omega) (by omega) | (obtain ⟨f, e1, x1, x2⟩ := o1.no (by omega); exact RO.ofl ((one_n (by omega) (by omega)).trans e1) (by omega) x1 x2) | exact RO.ofr ((one_n (by omega) (by omega)).trans e1) (by omega) ⟨gCT, by omega, by omega⟩ | (obtain ⟨f, e2, x1, x2⟩ := o2.no (by omega); exact RO.ofl (by rw [one_o (by omega) (by omega), e2, bnd_l]) (by omega) x1 x2) | (obtain ⟨f, e3, x1, x2⟩ := o3.no (by omega); exact RO.ofl (by rw [one_o (by omega) (by omega), e2, bnd_r, e3, bnd_l]) (by omega) x1 x2) | exact RO.ofr (by rw [one_o (by omega) (by omega), e2, bnd_r, e3, bnd_r]) (by omega) ⟨gCT, by omega, by omega⟩ | (rw [one_l (by omega) (by omega) (by omega) (by omega)]; exact o4.map (fun s es h => ⟨h.1, h.2.1, by have h2 := h.2.2; have hl := lea_up es; omega⟩)) | (rw [one_l (by omega) (by omega) (by omega) (by omega)]; exact o5.map (fun s es h => ⟨h.1, h.2.1, by have h2 := h.2.2; have hl := lea_up es; omega⟩)), gWH⟩)
          · obtain ⟨s2, e2, gCT, hs1, hs2⟩ := o2.ye (by omega)
            have hu2 := con_up (one_up _) _ _ _ e2
            refine lv_aload_n hx hb dX7_readOne_220 rfl (lv_at hl 1 rfl) ?_
            refine fg_7_0 (k := 27) hx hb hts in_X7_readOne_7 hown hK hP (by decide) (by decide) (hts _ lk_X7_readOne_9) dX7_readOne_221 ?_
            refine r_bipush hx hb dX7_readOne_224 (by decide) (fun z159 ez159 => ?_)
            refine r_cVi (k := 1) (As := [.int z159]) (rest := []) ⟨hx, hb, hml, hown, hts⟩ hK hP hN hS (c_X8_take_v l D cA ad hI σ154 τ154 hR z159 b N mo _ 45 (by omega) (by omega) gCT) (cwV 1 hts gX7_readOne_X8_take rfl rfl rfl (by decide +kernel) ⟨by decide, by decide⟩) (rv_Tape hK hP (by decide) (by decide)) rfl hl.1 rfl (Nat.le_of_ble_eq_true rfl) dX7_readOne_226 (Nat.zero_le _) (Nat.zero_le _) (fun r160 u160 H160 locs160 hp160 hP hS => ?_)
            obtain ⟨σ160, τ160⟩ := u160
            obtain ⟨hR, f160, fL160, hq160, hp160_0⟩ : P_X8_take_v σ154 τ154 z159 b N mo _ 45 r160 σ160 τ160 := hp160
            have o3 := hp160_0
            have hP : va_P D vwCl (gw cA ad σ160 τ160) H160 := hP
            have hFL := hFL.step fL160 (by decide)
            have gWH := gWH.agL (AgrL.fr fL160 (by decide))
            have hF := hF.step f160 (by decide)
            have gWH := gWH.ag (Agr.fr f160 (by decide))
            have t161 : (σ160 24 1).toInt = (σ154 24 1).toInt := congrArg Int32.toInt (f160.at 24 1 (by decide))
            have t162 : (σ160 24 2).toInt = (σ154 24 2).toInt := congrArg Int32.toInt (f160.at 24 2 (by decide))
            refine r_if_eq (tgt := 236) hx hb dX7_readOne_229 (by decide) (fun c163 => ?_) (fun c163 => ?_)
            · refine r_iconst hx hb dX7_readOne_236 (by decide) (fun z164 ez164 => ?_)
              exact r_zret hx hb hr hK hP hS hk (by omega) dX7_readOne_237 (show P_X7_readOne_d3 σ0 τ0 a1 b N mo q nn nm hc z164 σ160 τ160 from ⟨hR, hF, hFL, by omega, by first | exact RO.ofr ((one_l (by omega) (by omega) (by omega) (by omega)).trans (lea_n (by omega) (by omega))) (by omega) ⟨gCT, by omega, by omega⟩ | (exfalso; omega) | exact RO.ofk (one_x (by omega)) (by omega) (by omega) (by omega) | exact RO.ofk (one_4 (by omega) (by omega)) (by omega) (by omega) (by omega) | (obtain ⟨f, e1, x1, x2⟩ := o1.no (by omega); exact RO.ofl ((one_n (by omega) (by omega)).trans e1) (by omega) x1 x2) | exact RO.ofr ((one_n (by omega) (by omega)).trans e1) (by omega) ⟨gCT, by omega, by omega⟩ | (obtain ⟨f, e2, x1, x2⟩ := o2.no (by omega); exact RO.ofl (by rw [one_o (by omega) (by omega), e2, bnd_l]) (by omega) x1 x2) | (obtain ⟨f, e3, x1, x2⟩ := o3.no (by omega); exact RO.ofl (by rw [one_o (by omega) (by omega), e2, bnd_r, e3, bnd_l]) (by omega) x1 x2) | exact RO.ofr (by rw [one_o (by omega) (by omega), e2, bnd_r, e3, bnd_r]) (by omega) ⟨gCT, by omega, by omega⟩ | (rw [one_l (by omega) (by omega) (by omega) (by omega)]; exact o4.map (fun s es h => ⟨h.1, h.2.1, by have h2 := h.2.2; have hl := lea_up es; omega⟩)) | (rw [one_l (by omega) (by omega) (by omega) (by omega)]; exact o5.map (fun s es h => ⟨h.1, h.2.1, by have h2 := h.2.2; have hl := lea_up es; omega⟩)), gWH⟩)
            · obtain ⟨q3, e3, gCT⟩ := o3.ye (by omega)
              refine r_iconst hx hb dX7_readOne_232 (by decide) (fun z165 ez165 => ?_)
              refine lv_goto (tgt := 237) hx hb dX7_readOne_233 (by decide) ?_
              exact r_zret hx hb hr hK hP hS hk (by omega) dX7_readOne_237 (show P_X7_readOne_d3 σ0 τ0 a1 b N mo q nn nm hc z165 σ160 τ160 from ⟨hR, hF, hFL, by omega, by first | exact RO.ofr ((one_l (by omega) (by omega) (by omega) (by omega)).trans (lea_n (by omega) (by omega))) (by omega) ⟨gCT, by omega, by omega⟩ | (exfalso; omega) | exact RO.ofk (one_x (by omega)) (by omega) (by omega) (by omega) | exact RO.ofk (one_4 (by omega) (by omega)) (by omega) (by omega) (by omega) | (obtain ⟨f, e1, x1, x2⟩ := o1.no (by omega); exact RO.ofl ((one_n (by omega) (by omega)).trans e1) (by omega) x1 x2) | exact RO.ofr ((one_n (by omega) (by omega)).trans e1) (by omega) ⟨gCT, by omega, by omega⟩ | (obtain ⟨f, e2, x1, x2⟩ := o2.no (by omega); exact RO.ofl (by rw [one_o (by omega) (by omega), e2, bnd_l]) (by omega) x1 x2) | (obtain ⟨f, e3, x1, x2⟩ := o3.no (by omega); exact RO.ofl (by rw [one_o (by omega) (by omega), e2, bnd_r, e3, bnd_l]) (by omega) x1 x2) | exact RO.ofr (by rw [one_o (by omega) (by omega), e2, bnd_r, e3, bnd_r]) (by omega) ⟨gCT, by omega, by omega⟩ | (rw [one_l (by omega) (by omega) (by omega) (by omega)]; exact o4.map (fun s es h => ⟨h.1, h.2.1, by have h2 := h.2.2; have hl := lea_up es; omega⟩)) | (rw [one_l (by omega) (by omega) (by omega) (by omega)]; exact o5.map (fun s es h => ⟨h.1, h.2.1, by have h2 := h.2.2; have hl := lea_up es; omega⟩)), gWH⟩)
        refine lv_tableOut (tgt := 249) hx hb dX7_readOne_72 (by omega) (by decide) ?_
        refine lv_aload_n hx hb dX7_readOne_249 rfl (lv_at hl 1 rfl) ?_
        refine fg_7_2 (k := 27) hx hb hts in_X7_readOne_7 hown hK hP (by decide) (by decide) (hts _ lk_X7_readOne_19) dX7_readOne_250 ?_
        refine lv_iload_n hx hb dX7_readOne_253 rfl (lv_at hl 0 rfl) ?_
        refine r_bipush hx hb dX7_readOne_254 (by decide) (fun z166 ez166 => ?_)
        refine r_iconst hx hb dX7_readOne_256 (by decide) (fun z167 ez167 => ?_)
        refine r_cVi (k := 24) (As := [.int (σ0 1 9), .int z166, .int z167]) (rest := []) ⟨hx, hb, hml, hown, hts⟩ hK hP hN hS (c_X6_add l D cA ad hI σ15 τ15 hR (σ0 1 9) z166 z167 (by omega)) (cwV 3 hts gX7_readOne_X6_add rfl rfl rfl (by decide +kernel) ⟨by decide, by decide⟩) (rv_Sent hK hP (by decide) (by decide)) rfl hl.1 rfl (Nat.le_of_ble_eq_true rfl) dX7_readOne_257 (Nat.zero_le _) (Nat.zero_le _) (fun r168 u168 H168 locs168 hp168 hP hS => ?_)
        obtain ⟨σ168, τ168⟩ := u168
        obtain ⟨hR, f168, fL168, hq168, hp168_0⟩ : P_X6_add σ15 τ15 (σ0 1 9) z166 z167 r168 σ168 τ168 := hp168
        have hP : va_P D vwCl (gw cA ad σ168 τ168) H168 := hP
        obtain rfl := FrL.nil fL168
        have hF := hF.step f168 (by decide)
        have gCT := gCT.ag (Agr.fr f168 (by decide))
        have gWH := gWH.ag (Agr.fr f168 (by decide))
        have t169 : (σ168 24 1).toInt = (σ15 24 1).toInt := congrArg Int32.toInt (f168.at 24 1 (by decide))
        have hr170 := rg_6_2 hR (k := 24) (by decide) (by decide)
        exact r_zret hx hb hr hK hP hS hk (by omega) dX7_readOne_260 (show P_X7_readOne_d3 σ0 τ0 a1 b N mo q nn nm hc r168 σ168 τ15 from ⟨hR, hF, hFL, by omega, by first | exact RO.ofr ((one_l (by omega) (by omega) (by omega) (by omega)).trans (lea_n (by omega) (by omega))) (by omega) ⟨gCT, by omega, by omega⟩ | (exfalso; omega) | exact RO.ofk (one_x (by omega)) (by omega) (by omega) (by omega) | exact RO.ofk (one_4 (by omega) (by omega)) (by omega) (by omega) (by omega) | (obtain ⟨f, e1, x1, x2⟩ := o1.no (by omega); exact RO.ofl ((one_n (by omega) (by omega)).trans e1) (by omega) x1 x2) | exact RO.ofr ((one_n (by omega) (by omega)).trans e1) (by omega) ⟨gCT, by omega, by omega⟩ | (obtain ⟨f, e2, x1, x2⟩ := o2.no (by omega); exact RO.ofl (by rw [one_o (by omega) (by omega), e2, bnd_l]) (by omega) x1 x2) | (obtain ⟨f, e3, x1, x2⟩ := o3.no (by omega); exact RO.ofl (by rw [one_o (by omega) (by omega), e2, bnd_r, e3, bnd_l]) (by omega) x1 x2) | exact RO.ofr (by rw [one_o (by omega) (by omega), e2, bnd_r, e3, bnd_r]) (by omega) ⟨gCT, by omega, by omega⟩ | (rw [one_l (by omega) (by omega) (by omega) (by omega)]; exact o4.map (fun s es h => ⟨h.1, h.2.1, by have h2 := h.2.2; have hl := lea_up es; omega⟩)) | (rw [one_l (by omega) (by omega) (by omega) (by omega)]; exact o5.map (fun s es h => ⟨h.1, h.2.1, by have h2 := h.2.2; have hl := lea_up es; omega⟩)), gWH⟩)
      · exfalso; omega
  · refine lv_aload_n hx hb dX7_readOne_15 rfl (lv_at hl 1 rfl) ?_
    refine fg_7_0 (k := 27) hx hb hts in_X7_readOne_7 hown hK hP (by decide) (by decide) (hts _ lk_X7_readOne_9) dX7_readOne_16 ?_
    refine r_iconst hx hb dX7_readOne_19 (by decide) (fun z171 ez171 => ?_)
    refine r_cVi (k := 1) (As := [.int z171]) (rest := []) ⟨hx, hb, hml, hown, hts⟩ hK hP hN hS (c_X8_blame_v l D cA ad hI σ0 τ0 hR z171 _ _ _ _ (by omega) gCT) (cwV 1 hts gX7_readOne_X8_blame rfl rfl rfl (by decide +kernel) ⟨by decide, by decide⟩) (rv_Tape hK hP (by decide) (by decide)) rfl hl.1 rfl (Nat.le_of_ble_eq_true rfl) dX7_readOne_20 (Nat.zero_le _) (Nat.zero_le _) (fun r172 u172 H172 locs172 hp172 hP hS => ?_)
    obtain ⟨σ172, τ172⟩ := u172
    obtain ⟨hR, f172, fL172, hq172, hp172_0, hp172_1, hp172_2, gnCT⟩ : P_X8_blame_v σ0 τ0 z171 _ _ _ _ r172 σ172 τ172 := hp172
    have hP : va_P D vwCl (gw cA ad σ172 τ172) H172 := hP
    obtain rfl := FrL.nil fL172
    have hF := hF.step f172 (by decide)
    have gCT := gCT.ag (Agr.fr f172 (by decide))
    have gWH := gWH.ag (Agr.fr f172 (by decide))
    have t173 : (σ172 24 1).toInt = (σ0 24 1).toInt := congrArg Int32.toInt (f172.at 24 1 (by decide))
    have t174 : (σ172 24 2).toInt = (σ0 24 2).toInt := congrArg Int32.toInt (f172.at 24 2 (by decide))
    exact r_zret hx hb hr hK hP hS hk (by omega) dX7_readOne_23 (show P_X7_readOne_d3 σ0 τ0 a1 b N mo q nn nm hc r172 σ172 τ0 from ⟨hR, hF, hFL, by omega, by first | exact RO.ofr ((one_l (by omega) (by omega) (by omega) (by omega)).trans (lea_n (by omega) (by omega))) (by omega) ⟨gCT, by omega, by omega⟩ | (exfalso; omega) | exact RO.ofk (one_x (by omega)) (by omega) (by omega) (by omega) | exact RO.ofk (one_4 (by omega) (by omega)) (by omega) (by omega) (by omega) | (obtain ⟨f, e1, x1, x2⟩ := o1.no (by omega); exact RO.ofl ((one_n (by omega) (by omega)).trans e1) (by omega) x1 x2) | exact RO.ofr ((one_n (by omega) (by omega)).trans e1) (by omega) ⟨gCT, by omega, by omega⟩ | (obtain ⟨f, e2, x1, x2⟩ := o2.no (by omega); exact RO.ofl (by rw [one_o (by omega) (by omega), e2, bnd_l]) (by omega) x1 x2) | (obtain ⟨f, e3, x1, x2⟩ := o3.no (by omega); exact RO.ofl (by rw [one_o (by omega) (by omega), e2, bnd_r, e3, bnd_l]) (by omega) x1 x2) | exact RO.ofr (by rw [one_o (by omega) (by omega), e2, bnd_r, e3, bnd_r]) (by omega) ⟨gCT, by omega, by omega⟩ | (rw [one_l (by omega) (by omega) (by omega) (by omega)]; exact o4.map (fun s es h => ⟨h.1, h.2.1, by have h2 := h.2.2; have hl := lea_up es; omega⟩)) | (rw [one_l (by omega) (by omega) (by omega) (by omega)]; exact o5.map (fun s es h => ⟨h.1, h.2.1, by have h2 := h.2.2; have hl := lea_up es; omega⟩)), gWH⟩)
abbrev L_X7_readAll_d3 : List Rc := [(1, 1, 7, 10), (372, 372, 0, 39), (376, 376, 0, 39), (380, 380, 0, 39), (24, 24, 1, 2), (1, 1, 12, 14)]
abbrev LL_X7_readAll_d3 : List Rc := [(1, 1, 11, 11)]
def P_X7_readAll_d3 (σ0 : Nat → Nat → Int32) (τ0 : Nat → Nat → Int64) (a1 : Int32) (b : Nat → Int) (N : Nat) (mo : Nat) (q : Nat) (nn : Nat) (nm : Nat → Int) (hc : Nat) (r : Int32) (σ : Nat → Nat → Int32) (τ : Nat → Nat → Int64) : Prop := Rg σ ∧ Fr L_X7_readAll_d3 σ0 σ ∧ FrL LL_X7_readAll_d3 τ0 τ ∧ (0 ≤ r.toInt ∧ r.toInt ≤ 1) ∧ (RO r σ (allP b N mo (fun q nn => oneP b N mo nm hc 6 q nn) q nn) (fun s => CT σ τ b N mo s.1 ∧ (σ 24 1).toInt = (s.2 : Int) ∧ (σ 24 2).toInt + 2 * (nn : Int) + 1 ≤ (σ0 24 2).toInt + 2 * (s.2 : Int))) ∧ WH σ τ nm hc
def J_X7_readAll_d3_12 (p : Program) (l : Launch) (e : Env) (s : State) (m : MethodId) (args : Array Value) (below : List Frame) (meth : Method) (c : Code) (D : va_G) (cA : Nat → ClassId) (ad : Nat → Nat) (σ0 : Nat → Nat → Int32) (τ0 : Nat → Nat → Int64) (a1 : Int32) (b : Nat → Int) (N : Nat) (mo : Nat) (q : Nat) (nn : Nat) (nm : Nat → Int) (hc : Nat) (n : Nat) : Prop := ∀ (σ : Nat → Nat → Int32) (τ : Nat → Nat → Int64) (H : Heap) (locs : List Loc) (x2 : Int32) (fu : Nat) (q1 : Nat) (n1 : Nat) (ls : Array Slot), Rg σ → Fr L_X7_readAll_d3 σ0 σ → FrL LL_X7_readAll_d3 τ0 τ → va_P D vwCl (gw cA ad σ τ) H → va_S (AA ad) s.heap H locs → (0 ≤ x2.toInt ∧ x2.toInt ≤ 200) → (0 ≤ (σ 24 1).toInt ∧ (σ 24 1).toInt ≤ 20) → (0 ≤ (σ 24 2).toInt ∧ (σ 24 2).toInt ≤ 40) → (allP b N mo (fun q nn => oneP b N mo nm hc 6 q nn) q nn = lopP b N mo 21 (fun q nn => oneP b N mo nm hc 6 q nn) fu q1 n1) → ((σ 24 1).toInt = (n1 : Int)) → (0 ≤ (σ 24 2).toInt ∧ (σ 24 2).toInt + 2 * (nn : Int) + 1 ≤ (σ0 24 2).toInt + 2 * (n1 : Int)) → ((fu : Int) + x2.toInt = 200) → (n1 ≤ 20) → (CT σ τ b N mo q1) → (WH σ τ nm hc) → (CT σ τ b N mo q1) → lv_has ls 3 [(0, .ref (ad 27)), (1, .int a1), (2, .int x2)] → 2 * (200 - x2.toInt) + 1 < (n : Int) → W p l e ({ frames := 20, cells := 0, slots := 0, locals := 439 } : Room) s m args below meth c H locs 0 0 (MQ below (va_Qi (fun (r : Int32) (u : SS) => P_X7_readAll_d3 σ0 τ0 a1 b N mo q nn nm hc r u.1 u.2) (WB D cA ad) (AA ad)) args s 0 0 (AA ad)) (F0 m 12 ls [])
set_option maxHeartbeats 4000000 in
theorem B_X7_readAll_d3_12 (p : Program) (l : Launch) (e : Env) (s : State) (m : MethodId) (args : Array Value) (below : List Frame) (meth : Method) (c : Code) (D : va_G) (cA : Nat → ClassId) (ad : Nat → Nat) (σ0 : Nat → Nat → Int32) (τ0 : Nat → Nat → Int64) (a1 : Int32) (b : Nat → Int) (N : Nat) (mo : Nat) (q : Nat) (nn : Nat) (nm : Nat → Int) (hc : Nat) (n : Nat) (C : Cy p s m args meth c cX7_readAll 3 wsX7_readAll RX7 D cA ad (some .boolean)) (ha1 : 3 ≤ a1.toInt ∧ a1.toInt ≤ 3) (hpre0 : (σ0 24 1).toInt = (nn : Int)) (hpre1 : 0 ≤ (σ0 24 2).toInt ∧ (σ0 24 2).toInt ≤ 2 * (nn : Int)) (hpre2 : nn ≤ 20) (gCT0 : CT σ0 τ0 b N mo q) (gWH0 : WH σ0 τ0 nm hc) (K12 : J_X7_readAll_d3_12 p l e s m args below meth c D cA ad σ0 τ0 a1 b N mo q nn nm hc n) : J_X7_readAll_d3_12 p l e s m args below meth c D cA ad σ0 τ0 a1 b N mo q nn nm hc (n + 1) := by
  obtain ⟨hx, hb, hml, hown, hts, hK, hk, hr, hI, hN⟩ := C
  intro σ τ H locs x2 fu q1 n1 ls hR hF hFL hP hS hc0 hc1 hc2 iv ib2 ib3 ifu in20 gCT gWH gCT hl hm
  refine lv_iload_n hx hb dX7_readAll_12 rfl (lv_at hl 2 rfl) ?_
  refine r_sipush hx hb dX7_readAll_13 (by decide) (fun z1 ez1 => ?_)
  refine r_icmp_ge (tgt := 68) hx hb dX7_readAll_16 (by decide) (fun c2 => ?_) (fun c2 => ?_)
  · refine r_iconst hx hb dX7_readAll_68 (by decide) (fun z3 ez3 => ?_)
    exact r_zret hx hb hr hK hP hS hk (by omega) dX7_readAll_69 (show P_X7_readAll_d3 σ0 τ0 a1 b N mo q nn nm hc z3 σ τ from ⟨hR, hF, hFL, by omega, by first | (exfalso; omega) | (obtain ⟨f, e1, x1, x2⟩ := o1.no (by omega); exact RO.ofl (all_f e1) (by omega) x1 x2) | exact RO.ofr (by rw [iv, lop_e (by omega)]) (by omega) ⟨gCT, by omega, by omega⟩ | (obtain ⟨f, e2, x1, x2⟩ := o2.no (by omega); exact RO.ofl (by rw [iv, lop_f (f := (fun q nn => oneP b N mo nm hc 6 q nn)) (by omega) (by omega) e2]) (by omega) x1 x2) | (exfalso; omega), gWH⟩)
  · have htk := gCT.tk
    refine lv_aload_n hx hb dX7_readAll_19 rfl (lv_at hl 0 rfl) ?_
    refine fg_7_0 (k := 27) hx hb hts in_X7_readAll_7 hown hK hP (by decide) (by decide) (hts _ lk_X7_readAll_9) dX7_readAll_20 ?_
    refine fgN_8_9 (k := 1) hx hb hts in_X7_readAll_8 hown hK hP (by decide) (by decide) (hN.use nw_7_32) dX7_readAll_23 ?_
    refine r_bipush hx hb dX7_readAll_26 (by decide) (fun z4 ez4 => ?_)
    refine r_icmp_ne (tgt := 68) hx hb dX7_readAll_28 (by decide) (fun c5 => ?_) (fun c5 => ?_)
    · refine r_iconst hx hb dX7_readAll_68 (by decide) (fun z6 ez6 => ?_)
      exact r_zret hx hb hr hK hP hS hk (by omega) dX7_readAll_69 (show P_X7_readAll_d3 σ0 τ0 a1 b N mo q nn nm hc z6 σ τ from ⟨hR, hF, hFL, by omega, by first | (exfalso; omega) | (obtain ⟨f, e1, x1, x2⟩ := o1.no (by omega); exact RO.ofl (all_f e1) (by omega) x1 x2) | exact RO.ofr (by rw [iv, lop_e (by omega)]) (by omega) ⟨gCT, by omega, by omega⟩ | (obtain ⟨f, e2, x1, x2⟩ := o2.no (by omega); exact RO.ofl (by rw [iv, lop_f (f := (fun q nn => oneP b N mo nm hc 6 q nn)) (by omega) (by omega) e2]) (by omega) x1 x2) | (exfalso; omega), gWH⟩)
    · refine lv_aload_n hx hb dX7_readAll_31 rfl (lv_at hl 0 rfl) ?_
      refine fg_7_0 (k := 27) hx hb hts in_X7_readAll_7 hown hK hP (by decide) (by decide) (hts _ lk_X7_readAll_9) dX7_readAll_32 ?_
      refine r_cVv (k := 1) (As := []) (rest := []) ⟨hx, hb, hml, hown, hts⟩ hK hP hN hS (c_X8_next_v l D cA ad hI σ τ hR _ _ _ _ gCT) (cwV 0 hts gX7_readAll_X8_next rfl rfl rfl (by decide +kernel) ⟨by decide, by decide⟩) (rv_Tape hK hP (by decide) (by decide)) rfl hl.1 rfl (Nat.le_of_ble_eq_true rfl) dX7_readAll_35 (Nat.zero_le _) (Nat.zero_le _) (fun u7 H7 locs7 hp7 hP hS => ?_)
      obtain ⟨σ7, τ7⟩ := u7
      obtain ⟨hR, f7, fL7, hp7_0⟩ : P_X8_next_v σ τ _ _ _ _ σ7 τ7 := hp7
      have hP : va_P D vwCl (gw cA ad σ7 τ7) H7 := hP
      have hFL := hFL.step fL7 (by decide)
      have gWH := gWH.agL (AgrL.fr fL7 (by decide))
      have hF := hF.step f7 (by decide)
      have gWH := gWH.ag (Agr.fr f7 (by decide))
      have t8 : (σ7 24 1).toInt = (σ 24 1).toInt := congrArg Int32.toInt (f7.at 24 1 (by decide))
      have t9 : (σ7 24 2).toInt = (σ 24 2).toInt := congrArg Int32.toInt (f7.at 24 2 (by decide))
      have gCT := hp7_0
      refine lv_aload_n hx hb dX7_readAll_38 rfl (lv_at hl 0 rfl) ?_
      refine lv_iload_n hx hb dX7_readAll_39 rfl (lv_at hl 1 rfl) ?_
      refine r_cVi (k := 27) (As := [.int a1]) (rest := []) ⟨hx, hb, hml, hown, hts⟩ hK hP hN hS (c_X7_readOne_d3 l D cA ad hI σ7 τ7 hR a1 b N mo _ n1 nm hc (by omega) (by omega) (by omega) (by omega) gCT gWH) (cwV 1 hts gX7_readAll_X7_readOne rfl rfl rfl (by decide +kernel) ⟨by decide, by decide⟩) (rv_SText hK hP (by decide) (by decide)) rfl hl.1 rfl (Nat.le_of_ble_eq_true rfl) dX7_readAll_40 (Nat.zero_le _) (Nat.zero_le _) (fun r10 u10 H10 locs10 hp10 hP hS => ?_)
      obtain ⟨σ10, τ10⟩ := u10
      obtain ⟨hR, f10, fL10, hq10, hp10_0, gnWH⟩ : P_X7_readOne_d3 σ7 τ7 a1 b N mo _ n1 nm hc r10 σ10 τ10 := hp10
      have o2 := hp10_0
      have hP : va_P D vwCl (gw cA ad σ10 τ10) H10 := hP
      have hFL := hFL.step fL10 (by decide)
      have gWH := gWH.agL (AgrL.fr fL10 (by decide))
      have hF := hF.step f10 (by decide)
      have gWH := gWH.ag (Agr.fr f10 (by decide))
      have hr11 := rg_6_1 hR (k := 24) (by decide) (by decide)
      have hr12 := rg_6_2 hR (k := 24) (by decide) (by decide)
      refine r_if_eq (tgt := 60) hx hb dX7_readAll_43 (by decide) (fun c13 => ?_) (fun c13 => ?_)
      · refine r_iconst hx hb dX7_readAll_60 (by decide) (fun z14 ez14 => ?_)
        exact r_zret hx hb hr hK hP hS hk (by omega) dX7_readAll_61 (show P_X7_readAll_d3 σ0 τ0 a1 b N mo q nn nm hc z14 σ10 τ10 from ⟨hR, hF, hFL, by omega, by first | (exfalso; omega) | (obtain ⟨f, e1, x1, x2⟩ := o1.no (by omega); exact RO.ofl (all_f e1) (by omega) x1 x2) | exact RO.ofr (by rw [iv, lop_e (by omega)]) (by omega) ⟨gCT, by omega, by omega⟩ | (obtain ⟨f, e2, x1, x2⟩ := o2.no (by omega); exact RO.ofl (by rw [iv, lop_f (f := (fun q nn => oneP b N mo nm hc 6 q nn)) (by omega) (by omega) e2]) (by omega) x1 x2) | (exfalso; omega), gWH⟩)
      · obtain ⟨s2, e2, gCT, hs3, hs4⟩ := o2.ye (by omega)
        have hu2 := one_up _ _ _ _ e2
        refine lv_aload_n hx hb dX7_readAll_46 rfl (lv_at hl 0 rfl) ?_
        refine fg_7_2 (k := 27) hx hb hts in_X7_readAll_7 hown hK hP (by decide) (by decide) (hts _ lk_X7_readAll_19) dX7_readAll_47 ?_
        refine r_bipush hx hb dX7_readAll_50 (by decide) (fun z15 ez15 => ?_)
        refine r_iconst hx hb dX7_readAll_52 (by decide) (fun z16 ez16 => ?_)
        refine r_iconst hx hb dX7_readAll_53 (by decide) (fun z17 ez17 => ?_)
        refine r_cVi (k := 24) (As := [.int z15, .int z16, .int z17]) (rest := []) ⟨hx, hb, hml, hown, hts⟩ hK hP hN hS (c_X6_add l D cA ad hI σ10 τ10 hR z15 z16 z17 (by omega)) (cwV 3 hts gX7_readAll_X6_add rfl rfl rfl (by decide +kernel) ⟨by decide, by decide⟩) (rv_Sent hK hP (by decide) (by decide)) rfl hl.1 rfl (Nat.le_of_ble_eq_true rfl) dX7_readAll_54 (Nat.zero_le _) (Nat.zero_le _) (fun r18 u18 H18 locs18 hp18 hP hS => ?_)
        obtain ⟨σ18, τ18⟩ := u18
        obtain ⟨hR, f18, fL18, hq18, hp18_0⟩ : P_X6_add σ10 τ10 z15 z16 z17 r18 σ18 τ18 := hp18
        have hP : va_P D vwCl (gw cA ad σ18 τ18) H18 := hP
        obtain rfl := FrL.nil fL18
        have hF := hF.step f18 (by decide)
        have gCT := gCT.ag (Agr.fr f18 (by decide))
        have gWH := gWH.ag (Agr.fr f18 (by decide))
        have t19 : (σ18 24 1).toInt = (σ10 24 1).toInt := congrArg Int32.toInt (f18.at 24 1 (by decide))
        have hr20 := rg_6_2 hR (k := 24) (by decide) (by decide)
        refine r_if_ne (tgt := 62) hx hb dX7_readAll_57 (by decide) (fun c21 => ?_) (fun c21 => ?_)
        · refine r_iinc (k := 2) (lv1 := fun z22 => [(2, .int z22), (0, .ref (ad 27)), (1, .int a1)]) hx hb dX7_readAll_62 hl rfl (by decide) (fun _ => rfl) (by decide) (by omega) (fun z22 ls ez22 hl => ?_)
          refine lv_goto (tgt := 12) hx hb dX7_readAll_65 (by decide) ?_
          exact K12 σ18 τ10 H18 locs18 z22 (fu - 1) _ _ ls hR hF hFL hP hS (by omega) (by omega) (by omega) (by first | exact all_s e1 | rw [iv, lop_s (f := (fun q nn => oneP b N mo nm hc 6 q nn)) (by omega) (by omega) e2]) (by omega) (by omega) (by omega) (by omega) gCT gWH gCT (lv_sub hl [1, 2, 0] rfl) (by omega)
        · refine r_iconst hx hb dX7_readAll_60 (by decide) (fun z23 ez23 => ?_)
          exact r_zret hx hb hr hK hP hS hk (by omega) dX7_readAll_61 (show P_X7_readAll_d3 σ0 τ0 a1 b N mo q nn nm hc z23 σ18 τ10 from ⟨hR, hF, hFL, by omega, by first | (exfalso; omega) | (obtain ⟨f, e1, x1, x2⟩ := o1.no (by omega); exact RO.ofl (all_f e1) (by omega) x1 x2) | exact RO.ofr (by rw [iv, lop_e (by omega)]) (by omega) ⟨gCT, by omega, by omega⟩ | (obtain ⟨f, e2, x1, x2⟩ := o2.no (by omega); exact RO.ofl (by rw [iv, lop_f (f := (fun q nn => oneP b N mo nm hc 6 q nn)) (by omega) (by omega) e2]) (by omega) x1 x2) | (exfalso; omega), gWH⟩)
theorem A_X7_readAll_d3 (p : Program) (l : Launch) (e : Env) (s : State) (m : MethodId) (args : Array Value) (below : List Frame) (meth : Method) (c : Code) (D : va_G) (cA : Nat → ClassId) (ad : Nat → Nat) (σ0 : Nat → Nat → Int32) (τ0 : Nat → Nat → Int64) (a1 : Int32) (b : Nat → Int) (N : Nat) (mo : Nat) (q : Nat) (nn : Nat) (nm : Nat → Int) (hc : Nat) (C : Cy p s m args meth c cX7_readAll 3 wsX7_readAll RX7 D cA ad (some .boolean)) (ha1 : 3 ≤ a1.toInt ∧ a1.toInt ≤ 3) (hpre0 : (σ0 24 1).toInt = (nn : Int)) (hpre1 : 0 ≤ (σ0 24 2).toInt ∧ (σ0 24 2).toInt ≤ 2 * (nn : Int)) (hpre2 : nn ≤ 20) (gCT0 : CT σ0 τ0 b N mo q) (gWH0 : WH σ0 τ0 nm hc) : ∀ n : Nat, J_X7_readAll_d3_12 p l e s m args below meth c D cA ad σ0 τ0 a1 b N mo q nn nm hc n := by
  intro n
  induction n with
  | zero =>
    exact (by intro σ τ H locs x2 fu q1 n1 ls hR hF hFL hP hS hc0 hc1 hc2 iv ib2 ib3 ifu in20 gCT gWH gCT hl hm; exfalso; omega)
  | succ n ih =>
    exact B_X7_readAll_d3_12 p l e s m args below meth c D cA ad σ0 τ0 a1 b N mo q nn nm hc n C ha1 hpre0 hpre1 hpre2 gCT0 gWH0 ih
set_option maxHeartbeats 4000000 in
theorem c_X7_readAll_d3 (l : Launch) (D : va_G) (cA : Nat → ClassId) (ad : Nat → Nat) (hI : Inj ad) (σ0 : Nat → Nat → Int32) (τ0 : Nat → Nat → Int64) (hR : Rg σ0) (a1 : Int32) (b : Nat → Int) (N : Nat) (mo : Nat) (q : Nat) (nn : Nat) (nm : Nat → Int) (hc : Nat) (ha1 : 3 ≤ a1.toInt ∧ a1.toInt ≤ 3) (hpre0 : (σ0 24 1).toInt = (nn : Int)) (hpre1 : 0 ≤ (σ0 24 2).toInt ∧ (σ0 24 2).toInt ≤ 2 * (nn : Int)) (hpre2 : nn ≤ 20) (gCT0 : CT σ0 τ0 b N mo q) (gWH0 : WH σ0 τ0 nm hc) : Met l yX7_readAll wsX7_readAll ({ frames := 20, cells := 0, slots := 0, locals := 439 } : Room) (WQc D cA ad [.ref (ad 27), .int a1] σ0 τ0) (va_Qi (fun (r : Int32) (u : SS) => P_X7_readAll_d3 σ0 τ0 a1 b N mo q nn nm hc r u.1 u.2) (WB D cA ad) (AA ad)) 0 0 (AA ad) := by
  refine Met.ofW (cc := cX7_readAll) (maxL := 3) (ret := (some .boolean)) (by decide) rfl ?_
  intro p e s m args below meth c s₁ B hml hv
  obtain ⟨rfl, hP, hK, hN⟩ := hv
  have C : Cy p s m _ meth c cX7_readAll 3 wsX7_readAll RX7 D cA ad (some .boolean) := ⟨B.exec, B.bytes, hml, findClass_of_methodNamed B.named, atoms_spec (ws := wsX7_readAll) B.pre, hK, B.notSynchronized, B.returns, hI, hN⟩
  have hl := lv_entry ([.ref (ad 27), .int a1]) (n := 3) (Nat.le_of_ble_eq_true rfl)
  rw [lg_entry_eq]
  generalize (lg_sl ([.ref (ad 27), .int a1]) ++ List.replicate (3 - (lg_sl ([.ref (ad 27), .int a1])).length) Slot.unset).toArray = ls at hl ⊢
  have hl : lv_has ls 3 [(0, .ref (ad 27)), (1, .int a1)] := hl
  have hS : va_S (AA ad) s.heap s.heap [] := va_S.rf
  have hF : Fr L_X7_readAll_d3 σ0 σ0 := Fr.rf
  have hFL : FrL LL_X7_readAll_d3 τ0 τ0 := FrL.rf
  have gCT := gCT0
  have gWH := gWH0
  have hA := A_X7_readAll_d3 p l e s m _ below meth c D cA ad σ0 τ0 a1 b N mo q nn nm hc C ha1 hpre0 hpre1 hpre2 gCT0 gWH0 810
  have K12 := hA
  clear hA
  obtain ⟨hx, hb, _, hown, hts, _, hk, hr, _, _⟩ := C
  refine lv_aload_n hx hb dX7_readAll_0 rfl (lv_at hl 0 rfl) ?_
  refine lv_iload_n hx hb dX7_readAll_1 rfl (lv_at hl 1 rfl) ?_
  refine r_cVi (k := 27) (As := [.int a1]) (rest := []) ⟨hx, hb, hml, hown, hts⟩ hK hP hN hS (c_X7_readOne_d3 l D cA ad hI σ0 τ0 hR a1 b N mo q nn nm hc (by omega) (by omega) (by omega) (by omega) gCT gWH) (cwV 1 hts gX7_readAll_X7_readOne rfl rfl rfl (by decide +kernel) ⟨by decide, by decide⟩) (rv_SText hK hP (by decide) (by decide)) rfl hl.1 rfl (Nat.le_of_ble_eq_true rfl) dX7_readAll_2 (Nat.zero_le _) (Nat.zero_le _) (fun r1 u1 H1 locs1 hp1 hP hS => ?_)
  obtain ⟨σ1, τ1⟩ := u1
  obtain ⟨hR, f1, fL1, hq1, hp1_0, gnWH⟩ : P_X7_readOne_d3 σ0 τ0 a1 b N mo q nn nm hc r1 σ1 τ1 := hp1
  have o1 := hp1_0
  have hP : va_P D vwCl (gw cA ad σ1 τ1) H1 := hP
  have hFL := hFL.step fL1 (by decide)
  have gWH := gWH.agL (AgrL.fr fL1 (by decide))
  have hF := hF.step f1 (by decide)
  have gWH := gWH.ag (Agr.fr f1 (by decide))
  have hr2 := rg_6_1 hR (k := 24) (by decide) (by decide)
  have hr3 := rg_6_2 hR (k := 24) (by decide) (by decide)
  refine r_if_ne (tgt := 10) hx hb dX7_readAll_5 (by decide) (fun c4 => ?_) (fun c4 => ?_)
  · obtain ⟨s1, e1, gCT, hs1, hs2⟩ := o1.ye (by omega)
    have hu1 := one_up _ _ _ _ e1
    refine r_iconst hx hb dX7_readAll_10 (by decide) (fun z5 ez5 => ?_)
    refine lv_istore_n (lv' := [(2, .int z5), (0, .ref (ad 27)), (1, .int a1)]) hx hb dX7_readAll_11 rfl hl (by decide) rfl (fun ls hl => ?_)
    exact K12 σ1 τ1 H1 locs1 z5 200 _ _ ls hR hF hFL hP hS (by omega) (by omega) (by omega) (by first | exact all_s e1 | rw [iv, lop_s (f := (fun q nn => oneP b N mo nm hc 6 q nn)) (by omega) (by omega) e2]) (by omega) (by omega) (by omega) (by omega) gCT gWH gCT (lv_sub hl [1, 2, 0] rfl) (by omega)
  · refine r_iconst hx hb dX7_readAll_8 (by decide) (fun z6 ez6 => ?_)
    exact r_zret hx hb hr hK hP hS hk (by omega) dX7_readAll_9 (show P_X7_readAll_d3 σ0 τ0 a1 b N mo q nn nm hc z6 σ1 τ1 from ⟨hR, hF, hFL, by omega, by first | (exfalso; omega) | (obtain ⟨f, e1, x1, x2⟩ := o1.no (by omega); exact RO.ofl (all_f e1) (by omega) x1 x2) | exact RO.ofr (by rw [iv, lop_e (by omega)]) (by omega) ⟨gCT, by omega, by omega⟩ | (obtain ⟨f, e2, x1, x2⟩ := o2.no (by omega); exact RO.ofl (by rw [iv, lop_f (f := (fun q nn => oneP b N mo nm hc 6 q nn)) (by omega) (by omega) e2]) (by omega) x1 x2) | (exfalso; omega), gWH⟩)
abbrev L_X7_readCond_d3 : List Rc := [(1, 1, 7, 10), (372, 372, 0, 39), (376, 376, 0, 39), (380, 380, 0, 39), (24, 24, 1, 2), (1, 1, 12, 14)]
abbrev LL_X7_readCond_d3 : List Rc := [(1, 1, 11, 11)]
def P_X7_readCond_d3 (σ0 : Nat → Nat → Int32) (τ0 : Nat → Nat → Int64) (a1 : Int32) (b : Nat → Int) (N : Nat) (mo : Nat) (q : Nat) (nn : Nat) (nm : Nat → Int) (hc : Nat) (r : Int32) (σ : Nat → Nat → Int32) (τ : Nat → Nat → Int64) : Prop := Rg σ ∧ Fr L_X7_readCond_d3 σ0 σ ∧ FrL LL_X7_readCond_d3 τ0 τ ∧ (0 ≤ r.toInt ∧ r.toInt ≤ 1) ∧ (RO r σ (conP b N mo (fun q nn => oneP b N mo nm hc 6 q nn) q nn) (fun s => CT σ τ b N mo s.1 ∧ (σ 24 1).toInt = (s.2 : Int) ∧ (σ 24 2).toInt + 2 * (nn : Int) + 1 ≤ (σ0 24 2).toInt + 2 * (s.2 : Int))) ∧ WH σ τ nm hc
def J_X7_readCond_d3_12 (p : Program) (l : Launch) (e : Env) (s : State) (m : MethodId) (args : Array Value) (below : List Frame) (meth : Method) (c : Code) (D : va_G) (cA : Nat → ClassId) (ad : Nat → Nat) (σ0 : Nat → Nat → Int32) (τ0 : Nat → Nat → Int64) (a1 : Int32) (b : Nat → Int) (N : Nat) (mo : Nat) (q : Nat) (nn : Nat) (nm : Nat → Int) (hc : Nat) (n : Nat) : Prop := ∀ (σ : Nat → Nat → Int32) (τ : Nat → Nat → Int64) (H : Heap) (locs : List Loc) (x2 : Int32) (fu : Nat) (q1 : Nat) (n1 : Nat) (ls : Array Slot), Rg σ → Fr L_X7_readCond_d3 σ0 σ → FrL LL_X7_readCond_d3 τ0 τ → va_P D vwCl (gw cA ad σ τ) H → va_S (AA ad) s.heap H locs → (0 ≤ x2.toInt ∧ x2.toInt ≤ 200) → (0 ≤ (σ 24 1).toInt ∧ (σ 24 1).toInt ≤ 20) → (0 ≤ (σ 24 2).toInt ∧ (σ 24 2).toInt ≤ 40) → (conP b N mo (fun q nn => oneP b N mo nm hc 6 q nn) q nn = lopP b N mo 20 (allP b N mo (fun q nn => oneP b N mo nm hc 6 q nn)) fu q1 n1) → ((σ 24 1).toInt = (n1 : Int)) → (0 ≤ (σ 24 2).toInt ∧ (σ 24 2).toInt + 2 * (nn : Int) + 1 ≤ (σ0 24 2).toInt + 2 * (n1 : Int)) → ((fu : Int) + x2.toInt = 200) → (n1 ≤ 20) → (CT σ τ b N mo q1) → (WH σ τ nm hc) → (CT σ τ b N mo q1) → lv_has ls 3 [(0, .ref (ad 27)), (1, .int a1), (2, .int x2)] → 2 * (200 - x2.toInt) + 1 < (n : Int) → W p l e ({ frames := 21, cells := 0, slots := 0, locals := 461 } : Room) s m args below meth c H locs 0 0 (MQ below (va_Qi (fun (r : Int32) (u : SS) => P_X7_readCond_d3 σ0 τ0 a1 b N mo q nn nm hc r u.1 u.2) (WB D cA ad) (AA ad)) args s 0 0 (AA ad)) (F0 m 12 ls [])
set_option maxHeartbeats 4000000 in
theorem B_X7_readCond_d3_12 (p : Program) (l : Launch) (e : Env) (s : State) (m : MethodId) (args : Array Value) (below : List Frame) (meth : Method) (c : Code) (D : va_G) (cA : Nat → ClassId) (ad : Nat → Nat) (σ0 : Nat → Nat → Int32) (τ0 : Nat → Nat → Int64) (a1 : Int32) (b : Nat → Int) (N : Nat) (mo : Nat) (q : Nat) (nn : Nat) (nm : Nat → Int) (hc : Nat) (n : Nat) (C : Cy p s m args meth c cX7_readCond 3 wsX7_readCond RX7 D cA ad (some .boolean)) (ha1 : 3 ≤ a1.toInt ∧ a1.toInt ≤ 3) (hpre0 : (σ0 24 1).toInt = (nn : Int)) (hpre1 : 0 ≤ (σ0 24 2).toInt ∧ (σ0 24 2).toInt ≤ 2 * (nn : Int)) (hpre2 : nn ≤ 20) (gCT0 : CT σ0 τ0 b N mo q) (gWH0 : WH σ0 τ0 nm hc) (K12 : J_X7_readCond_d3_12 p l e s m args below meth c D cA ad σ0 τ0 a1 b N mo q nn nm hc n) : J_X7_readCond_d3_12 p l e s m args below meth c D cA ad σ0 τ0 a1 b N mo q nn nm hc (n + 1) := by
  obtain ⟨hx, hb, hml, hown, hts, hK, hk, hr, hI, hN⟩ := C
  intro σ τ H locs x2 fu q1 n1 ls hR hF hFL hP hS hc0 hc1 hc2 iv ib2 ib3 ifu in20 gCT gWH gCT hl hm
  refine lv_iload_n hx hb dX7_readCond_12 rfl (lv_at hl 2 rfl) ?_
  refine r_sipush hx hb dX7_readCond_13 (by decide) (fun z1 ez1 => ?_)
  refine r_icmp_ge (tgt := 68) hx hb dX7_readCond_16 (by decide) (fun c2 => ?_) (fun c2 => ?_)
  · refine r_iconst hx hb dX7_readCond_68 (by decide) (fun z3 ez3 => ?_)
    exact r_zret hx hb hr hK hP hS hk (by omega) dX7_readCond_69 (show P_X7_readCond_d3 σ0 τ0 a1 b N mo q nn nm hc z3 σ τ from ⟨hR, hF, hFL, by omega, by first | (exfalso; omega) | (obtain ⟨f, e1, x1, x2⟩ := o1.no (by omega); exact RO.ofl (con_f e1) (by omega) x1 x2) | exact RO.ofr (by rw [iv, lop_e (by omega)]) (by omega) ⟨gCT, by omega, by omega⟩ | (obtain ⟨f, e2, x1, x2⟩ := o2.no (by omega); exact RO.ofl (by rw [iv, lop_f (f := (allP b N mo (fun q nn => oneP b N mo nm hc 6 q nn))) (by omega) (by omega) e2]) (by omega) x1 x2) | (exfalso; omega), gWH⟩)
  · have htk := gCT.tk
    refine lv_aload_n hx hb dX7_readCond_19 rfl (lv_at hl 0 rfl) ?_
    refine fg_7_0 (k := 27) hx hb hts in_X7_readCond_7 hown hK hP (by decide) (by decide) (hts _ lk_X7_readCond_9) dX7_readCond_20 ?_
    refine fgN_8_9 (k := 1) hx hb hts in_X7_readCond_8 hown hK hP (by decide) (by decide) (hN.use nw_7_32) dX7_readCond_23 ?_
    refine r_bipush hx hb dX7_readCond_26 (by decide) (fun z4 ez4 => ?_)
    refine r_icmp_ne (tgt := 68) hx hb dX7_readCond_28 (by decide) (fun c5 => ?_) (fun c5 => ?_)
    · refine r_iconst hx hb dX7_readCond_68 (by decide) (fun z6 ez6 => ?_)
      exact r_zret hx hb hr hK hP hS hk (by omega) dX7_readCond_69 (show P_X7_readCond_d3 σ0 τ0 a1 b N mo q nn nm hc z6 σ τ from ⟨hR, hF, hFL, by omega, by first | (exfalso; omega) | (obtain ⟨f, e1, x1, x2⟩ := o1.no (by omega); exact RO.ofl (con_f e1) (by omega) x1 x2) | exact RO.ofr (by rw [iv, lop_e (by omega)]) (by omega) ⟨gCT, by omega, by omega⟩ | (obtain ⟨f, e2, x1, x2⟩ := o2.no (by omega); exact RO.ofl (by rw [iv, lop_f (f := (allP b N mo (fun q nn => oneP b N mo nm hc 6 q nn))) (by omega) (by omega) e2]) (by omega) x1 x2) | (exfalso; omega), gWH⟩)
    · refine lv_aload_n hx hb dX7_readCond_31 rfl (lv_at hl 0 rfl) ?_
      refine fg_7_0 (k := 27) hx hb hts in_X7_readCond_7 hown hK hP (by decide) (by decide) (hts _ lk_X7_readCond_9) dX7_readCond_32 ?_
      refine r_cVv (k := 1) (As := []) (rest := []) ⟨hx, hb, hml, hown, hts⟩ hK hP hN hS (c_X8_next_v l D cA ad hI σ τ hR _ _ _ _ gCT) (cwV 0 hts gX7_readCond_X8_next rfl rfl rfl (by decide +kernel) ⟨by decide, by decide⟩) (rv_Tape hK hP (by decide) (by decide)) rfl hl.1 rfl (Nat.le_of_ble_eq_true rfl) dX7_readCond_35 (Nat.zero_le _) (Nat.zero_le _) (fun u7 H7 locs7 hp7 hP hS => ?_)
      obtain ⟨σ7, τ7⟩ := u7
      obtain ⟨hR, f7, fL7, hp7_0⟩ : P_X8_next_v σ τ _ _ _ _ σ7 τ7 := hp7
      have hP : va_P D vwCl (gw cA ad σ7 τ7) H7 := hP
      have hFL := hFL.step fL7 (by decide)
      have gWH := gWH.agL (AgrL.fr fL7 (by decide))
      have hF := hF.step f7 (by decide)
      have gWH := gWH.ag (Agr.fr f7 (by decide))
      have t8 : (σ7 24 1).toInt = (σ 24 1).toInt := congrArg Int32.toInt (f7.at 24 1 (by decide))
      have t9 : (σ7 24 2).toInt = (σ 24 2).toInt := congrArg Int32.toInt (f7.at 24 2 (by decide))
      have gCT := hp7_0
      refine lv_aload_n hx hb dX7_readCond_38 rfl (lv_at hl 0 rfl) ?_
      refine lv_iload_n hx hb dX7_readCond_39 rfl (lv_at hl 1 rfl) ?_
      refine r_cVi (k := 27) (As := [.int a1]) (rest := []) ⟨hx, hb, hml, hown, hts⟩ hK hP hN hS (c_X7_readAll_d3 l D cA ad hI σ7 τ7 hR a1 b N mo _ n1 nm hc (by omega) (by omega) (by omega) (by omega) gCT gWH) (cwV 1 hts gX7_readCond_X7_readAll rfl rfl rfl (by decide +kernel) ⟨by decide, by decide⟩) (rv_SText hK hP (by decide) (by decide)) rfl hl.1 rfl (Nat.le_of_ble_eq_true rfl) dX7_readCond_40 (Nat.zero_le _) (Nat.zero_le _) (fun r10 u10 H10 locs10 hp10 hP hS => ?_)
      obtain ⟨σ10, τ10⟩ := u10
      obtain ⟨hR, f10, fL10, hq10, hp10_0, gnWH⟩ : P_X7_readAll_d3 σ7 τ7 a1 b N mo _ n1 nm hc r10 σ10 τ10 := hp10
      have o2 := hp10_0
      have hP : va_P D vwCl (gw cA ad σ10 τ10) H10 := hP
      have hFL := hFL.step fL10 (by decide)
      have gWH := gWH.agL (AgrL.fr fL10 (by decide))
      have hF := hF.step f10 (by decide)
      have gWH := gWH.ag (Agr.fr f10 (by decide))
      have hr11 := rg_6_1 hR (k := 24) (by decide) (by decide)
      have hr12 := rg_6_2 hR (k := 24) (by decide) (by decide)
      refine r_if_eq (tgt := 60) hx hb dX7_readCond_43 (by decide) (fun c13 => ?_) (fun c13 => ?_)
      · refine r_iconst hx hb dX7_readCond_60 (by decide) (fun z14 ez14 => ?_)
        exact r_zret hx hb hr hK hP hS hk (by omega) dX7_readCond_61 (show P_X7_readCond_d3 σ0 τ0 a1 b N mo q nn nm hc z14 σ10 τ10 from ⟨hR, hF, hFL, by omega, by first | (exfalso; omega) | (obtain ⟨f, e1, x1, x2⟩ := o1.no (by omega); exact RO.ofl (con_f e1) (by omega) x1 x2) | exact RO.ofr (by rw [iv, lop_e (by omega)]) (by omega) ⟨gCT, by omega, by omega⟩ | (obtain ⟨f, e2, x1, x2⟩ := o2.no (by omega); exact RO.ofl (by rw [iv, lop_f (f := (allP b N mo (fun q nn => oneP b N mo nm hc 6 q nn))) (by omega) (by omega) e2]) (by omega) x1 x2) | (exfalso; omega), gWH⟩)
      · obtain ⟨s2, e2, gCT, hs3, hs4⟩ := o2.ye (by omega)
        have hu2 := all_up (one_up _) _ _ _ e2
        refine lv_aload_n hx hb dX7_readCond_46 rfl (lv_at hl 0 rfl) ?_
        refine fg_7_2 (k := 27) hx hb hts in_X7_readCond_7 hown hK hP (by decide) (by decide) (hts _ lk_X7_readCond_19) dX7_readCond_47 ?_
        refine r_bipush hx hb dX7_readCond_50 (by decide) (fun z15 ez15 => ?_)
        refine r_iconst hx hb dX7_readCond_52 (by decide) (fun z16 ez16 => ?_)
        refine r_iconst hx hb dX7_readCond_53 (by decide) (fun z17 ez17 => ?_)
        refine r_cVi (k := 24) (As := [.int z15, .int z16, .int z17]) (rest := []) ⟨hx, hb, hml, hown, hts⟩ hK hP hN hS (c_X6_add l D cA ad hI σ10 τ10 hR z15 z16 z17 (by omega)) (cwV 3 hts gX7_readCond_X6_add rfl rfl rfl (by decide +kernel) ⟨by decide, by decide⟩) (rv_Sent hK hP (by decide) (by decide)) rfl hl.1 rfl (Nat.le_of_ble_eq_true rfl) dX7_readCond_54 (Nat.zero_le _) (Nat.zero_le _) (fun r18 u18 H18 locs18 hp18 hP hS => ?_)
        obtain ⟨σ18, τ18⟩ := u18
        obtain ⟨hR, f18, fL18, hq18, hp18_0⟩ : P_X6_add σ10 τ10 z15 z16 z17 r18 σ18 τ18 := hp18
        have hP : va_P D vwCl (gw cA ad σ18 τ18) H18 := hP
        obtain rfl := FrL.nil fL18
        have hF := hF.step f18 (by decide)
        have gCT := gCT.ag (Agr.fr f18 (by decide))
        have gWH := gWH.ag (Agr.fr f18 (by decide))
        have t19 : (σ18 24 1).toInt = (σ10 24 1).toInt := congrArg Int32.toInt (f18.at 24 1 (by decide))
        have hr20 := rg_6_2 hR (k := 24) (by decide) (by decide)
        refine r_if_ne (tgt := 62) hx hb dX7_readCond_57 (by decide) (fun c21 => ?_) (fun c21 => ?_)
        · refine r_iinc (k := 2) (lv1 := fun z22 => [(2, .int z22), (0, .ref (ad 27)), (1, .int a1)]) hx hb dX7_readCond_62 hl rfl (by decide) (fun _ => rfl) (by decide) (by omega) (fun z22 ls ez22 hl => ?_)
          refine lv_goto (tgt := 12) hx hb dX7_readCond_65 (by decide) ?_
          exact K12 σ18 τ10 H18 locs18 z22 (fu - 1) _ _ ls hR hF hFL hP hS (by omega) (by omega) (by omega) (by first | exact con_s e1 | rw [iv, lop_s (f := (allP b N mo (fun q nn => oneP b N mo nm hc 6 q nn))) (by omega) (by omega) e2]) (by omega) (by omega) (by omega) (by omega) gCT gWH gCT (lv_sub hl [1, 2, 0] rfl) (by omega)
        · refine r_iconst hx hb dX7_readCond_60 (by decide) (fun z23 ez23 => ?_)
          exact r_zret hx hb hr hK hP hS hk (by omega) dX7_readCond_61 (show P_X7_readCond_d3 σ0 τ0 a1 b N mo q nn nm hc z23 σ18 τ10 from ⟨hR, hF, hFL, by omega, by first | (exfalso; omega) | (obtain ⟨f, e1, x1, x2⟩ := o1.no (by omega); exact RO.ofl (con_f e1) (by omega) x1 x2) | exact RO.ofr (by rw [iv, lop_e (by omega)]) (by omega) ⟨gCT, by omega, by omega⟩ | (obtain ⟨f, e2, x1, x2⟩ := o2.no (by omega); exact RO.ofl (by rw [iv, lop_f (f := (allP b N mo (fun q nn => oneP b N mo nm hc 6 q nn))) (by omega) (by omega) e2]) (by omega) x1 x2) | (exfalso; omega), gWH⟩)
theorem A_X7_readCond_d3 (p : Program) (l : Launch) (e : Env) (s : State) (m : MethodId) (args : Array Value) (below : List Frame) (meth : Method) (c : Code) (D : va_G) (cA : Nat → ClassId) (ad : Nat → Nat) (σ0 : Nat → Nat → Int32) (τ0 : Nat → Nat → Int64) (a1 : Int32) (b : Nat → Int) (N : Nat) (mo : Nat) (q : Nat) (nn : Nat) (nm : Nat → Int) (hc : Nat) (C : Cy p s m args meth c cX7_readCond 3 wsX7_readCond RX7 D cA ad (some .boolean)) (ha1 : 3 ≤ a1.toInt ∧ a1.toInt ≤ 3) (hpre0 : (σ0 24 1).toInt = (nn : Int)) (hpre1 : 0 ≤ (σ0 24 2).toInt ∧ (σ0 24 2).toInt ≤ 2 * (nn : Int)) (hpre2 : nn ≤ 20) (gCT0 : CT σ0 τ0 b N mo q) (gWH0 : WH σ0 τ0 nm hc) : ∀ n : Nat, J_X7_readCond_d3_12 p l e s m args below meth c D cA ad σ0 τ0 a1 b N mo q nn nm hc n := by
  intro n
  induction n with
  | zero =>
    exact (by intro σ τ H locs x2 fu q1 n1 ls hR hF hFL hP hS hc0 hc1 hc2 iv ib2 ib3 ifu in20 gCT gWH gCT hl hm; exfalso; omega)
  | succ n ih =>
    exact B_X7_readCond_d3_12 p l e s m args below meth c D cA ad σ0 τ0 a1 b N mo q nn nm hc n C ha1 hpre0 hpre1 hpre2 gCT0 gWH0 ih
set_option maxHeartbeats 4000000 in
theorem c_X7_readCond_d3 (l : Launch) (D : va_G) (cA : Nat → ClassId) (ad : Nat → Nat) (hI : Inj ad) (σ0 : Nat → Nat → Int32) (τ0 : Nat → Nat → Int64) (hR : Rg σ0) (a1 : Int32) (b : Nat → Int) (N : Nat) (mo : Nat) (q : Nat) (nn : Nat) (nm : Nat → Int) (hc : Nat) (ha1 : 3 ≤ a1.toInt ∧ a1.toInt ≤ 3) (hpre0 : (σ0 24 1).toInt = (nn : Int)) (hpre1 : 0 ≤ (σ0 24 2).toInt ∧ (σ0 24 2).toInt ≤ 2 * (nn : Int)) (hpre2 : nn ≤ 20) (gCT0 : CT σ0 τ0 b N mo q) (gWH0 : WH σ0 τ0 nm hc) : Met l yX7_readCond wsX7_readCond ({ frames := 21, cells := 0, slots := 0, locals := 461 } : Room) (WQc D cA ad [.ref (ad 27), .int a1] σ0 τ0) (va_Qi (fun (r : Int32) (u : SS) => P_X7_readCond_d3 σ0 τ0 a1 b N mo q nn nm hc r u.1 u.2) (WB D cA ad) (AA ad)) 0 0 (AA ad) := by
  refine Met.ofW (cc := cX7_readCond) (maxL := 3) (ret := (some .boolean)) (by decide) rfl ?_
  intro p e s m args below meth c s₁ B hml hv
  obtain ⟨rfl, hP, hK, hN⟩ := hv
  have C : Cy p s m _ meth c cX7_readCond 3 wsX7_readCond RX7 D cA ad (some .boolean) := ⟨B.exec, B.bytes, hml, findClass_of_methodNamed B.named, atoms_spec (ws := wsX7_readCond) B.pre, hK, B.notSynchronized, B.returns, hI, hN⟩
  have hl := lv_entry ([.ref (ad 27), .int a1]) (n := 3) (Nat.le_of_ble_eq_true rfl)
  rw [lg_entry_eq]
  generalize (lg_sl ([.ref (ad 27), .int a1]) ++ List.replicate (3 - (lg_sl ([.ref (ad 27), .int a1])).length) Slot.unset).toArray = ls at hl ⊢
  have hl : lv_has ls 3 [(0, .ref (ad 27)), (1, .int a1)] := hl
  have hS : va_S (AA ad) s.heap s.heap [] := va_S.rf
  have hF : Fr L_X7_readCond_d3 σ0 σ0 := Fr.rf
  have hFL : FrL LL_X7_readCond_d3 τ0 τ0 := FrL.rf
  have gCT := gCT0
  have gWH := gWH0
  have hA := A_X7_readCond_d3 p l e s m _ below meth c D cA ad σ0 τ0 a1 b N mo q nn nm hc C ha1 hpre0 hpre1 hpre2 gCT0 gWH0 810
  have K12 := hA
  clear hA
  obtain ⟨hx, hb, _, hown, hts, _, hk, hr, _, _⟩ := C
  refine lv_aload_n hx hb dX7_readCond_0 rfl (lv_at hl 0 rfl) ?_
  refine lv_iload_n hx hb dX7_readCond_1 rfl (lv_at hl 1 rfl) ?_
  refine r_cVi (k := 27) (As := [.int a1]) (rest := []) ⟨hx, hb, hml, hown, hts⟩ hK hP hN hS (c_X7_readAll_d3 l D cA ad hI σ0 τ0 hR a1 b N mo q nn nm hc (by omega) (by omega) (by omega) (by omega) gCT gWH) (cwV 1 hts gX7_readCond_X7_readAll rfl rfl rfl (by decide +kernel) ⟨by decide, by decide⟩) (rv_SText hK hP (by decide) (by decide)) rfl hl.1 rfl (Nat.le_of_ble_eq_true rfl) dX7_readCond_2 (Nat.zero_le _) (Nat.zero_le _) (fun r1 u1 H1 locs1 hp1 hP hS => ?_)
  obtain ⟨σ1, τ1⟩ := u1
  obtain ⟨hR, f1, fL1, hq1, hp1_0, gnWH⟩ : P_X7_readAll_d3 σ0 τ0 a1 b N mo q nn nm hc r1 σ1 τ1 := hp1
  have o1 := hp1_0
  have hP : va_P D vwCl (gw cA ad σ1 τ1) H1 := hP
  have hFL := hFL.step fL1 (by decide)
  have gWH := gWH.agL (AgrL.fr fL1 (by decide))
  have hF := hF.step f1 (by decide)
  have gWH := gWH.ag (Agr.fr f1 (by decide))
  have hr2 := rg_6_1 hR (k := 24) (by decide) (by decide)
  have hr3 := rg_6_2 hR (k := 24) (by decide) (by decide)
  refine r_if_ne (tgt := 10) hx hb dX7_readCond_5 (by decide) (fun c4 => ?_) (fun c4 => ?_)
  · obtain ⟨s1, e1, gCT, hs1, hs2⟩ := o1.ye (by omega)
    have hu1 := all_up (one_up _) _ _ _ e1
    refine r_iconst hx hb dX7_readCond_10 (by decide) (fun z5 ez5 => ?_)
    refine lv_istore_n (lv' := [(2, .int z5), (0, .ref (ad 27)), (1, .int a1)]) hx hb dX7_readCond_11 rfl hl (by decide) rfl (fun ls hl => ?_)
    exact K12 σ1 τ1 H1 locs1 z5 200 _ _ ls hR hF hFL hP hS (by omega) (by omega) (by omega) (by first | exact con_s e1 | rw [iv, lop_s (f := (allP b N mo (fun q nn => oneP b N mo nm hc 6 q nn))) (by omega) (by omega) e2]) (by omega) (by omega) (by omega) (by omega) gCT gWH gCT (lv_sub hl [1, 2, 0] rfl) (by omega)
  · refine r_iconst hx hb dX7_readCond_8 (by decide) (fun z6 ez6 => ?_)
    exact r_zret hx hb hr hK hP hS hk (by omega) dX7_readCond_9 (show P_X7_readCond_d3 σ0 τ0 a1 b N mo q nn nm hc z6 σ1 τ1 from ⟨hR, hF, hFL, by omega, by first | (exfalso; omega) | (obtain ⟨f, e1, x1, x2⟩ := o1.no (by omega); exact RO.ofl (con_f e1) (by omega) x1 x2) | exact RO.ofr (by rw [iv, lop_e (by omega)]) (by omega) ⟨gCT, by omega, by omega⟩ | (obtain ⟨f, e2, x1, x2⟩ := o2.no (by omega); exact RO.ofl (by rw [iv, lop_f (f := (allP b N mo (fun q nn => oneP b N mo nm hc 6 q nn))) (by omega) (by omega) e2]) (by omega) x1 x2) | (exfalso; omega), gWH⟩)
abbrev L_X7_readOne_d2 : List Rc := [(1, 1, 7, 10), (372, 372, 0, 39), (376, 376, 0, 39), (380, 380, 0, 39), (24, 24, 1, 2), (1, 1, 12, 14)]
abbrev LL_X7_readOne_d2 : List Rc := [(1, 1, 11, 11)]
def P_X7_readOne_d2 (σ0 : Nat → Nat → Int32) (τ0 : Nat → Nat → Int64) (a1 : Int32) (b : Nat → Int) (N : Nat) (mo : Nat) (q : Nat) (nn : Nat) (nm : Nat → Int) (hc : Nat) (r : Int32) (σ : Nat → Nat → Int32) (τ : Nat → Nat → Int64) : Prop := Rg σ ∧ Fr L_X7_readOne_d2 σ0 σ ∧ FrL LL_X7_readOne_d2 τ0 τ ∧ (0 ≤ r.toInt ∧ r.toInt ≤ 1) ∧ (RO r σ (oneP b N mo nm hc 7 q nn) (fun s => CT σ τ b N mo s.1 ∧ (σ 24 1).toInt = (s.2 : Int) ∧ (σ 24 2).toInt + 2 * (nn : Int) + 1 ≤ (σ0 24 2).toInt + 2 * (s.2 : Int))) ∧ WH σ τ nm hc
set_option maxHeartbeats 4000000 in
theorem c_X7_readOne_d2 (l : Launch) (D : va_G) (cA : Nat → ClassId) (ad : Nat → Nat) (hI : Inj ad) (σ0 : Nat → Nat → Int32) (τ0 : Nat → Nat → Int64) (hR : Rg σ0) (a1 : Int32) (b : Nat → Int) (N : Nat) (mo : Nat) (q : Nat) (nn : Nat) (nm : Nat → Int) (hc : Nat) (ha1 : 2 ≤ a1.toInt ∧ a1.toInt ≤ 2) (hpre0 : (σ0 24 1).toInt = (nn : Int)) (hpre1 : 0 ≤ (σ0 24 2).toInt ∧ (σ0 24 2).toInt ≤ 2 * (nn : Int)) (hpre2 : nn ≤ 20) (gCT0 : CT σ0 τ0 b N mo q) (gWH0 : WH σ0 τ0 nm hc) : Met l yX7_readOne wsX7_readOne ({ frames := 22, cells := 0, slots := 0, locals := 483 } : Room) (WQc D cA ad [.ref (ad 27), .int a1] σ0 τ0) (va_Qi (fun (r : Int32) (u : SS) => P_X7_readOne_d2 σ0 τ0 a1 b N mo q nn nm hc r u.1 u.2) (WB D cA ad) (AA ad)) 0 0 (AA ad) := by
  refine Met.ofW (cc := cX7_readOne) (maxL := 3) (ret := (some .boolean)) (by decide) rfl ?_
  intro p e s m args below meth c s₁ B hml hv
  obtain ⟨rfl, hP, hK, hN⟩ := hv
  have C : Cy p s m _ meth c cX7_readOne 3 wsX7_readOne RX7 D cA ad (some .boolean) := ⟨B.exec, B.bytes, hml, findClass_of_methodNamed B.named, atoms_spec (ws := wsX7_readOne) B.pre, hK, B.notSynchronized, B.returns, hI, hN⟩
  have hl := lv_entry ([.ref (ad 27), .int a1]) (n := 3) (Nat.le_of_ble_eq_true rfl)
  rw [lg_entry_eq]
  generalize (lg_sl ([.ref (ad 27), .int a1]) ++ List.replicate (3 - (lg_sl ([.ref (ad 27), .int a1])).length) Slot.unset).toArray = ls at hl ⊢
  have hl : lv_has ls 3 [(0, .ref (ad 27)), (1, .int a1)] := hl
  have hS : va_S (AA ad) s.heap s.heap [] := va_S.rf
  have hF : Fr L_X7_readOne_d2 σ0 σ0 := Fr.rf
  have hFL : FrL LL_X7_readOne_d2 τ0 τ0 := FrL.rf
  have gCT := gCT0
  have gWH := gWH0
  obtain ⟨hx, hb, _, hown, hts, _, hk, hr, _, _⟩ := C
  have htk := gCT.tk
  refine lv_aload_n hx hb dX7_readOne_0 rfl (lv_at hl 0 rfl) ?_
  refine fg_7_0 (k := 27) hx hb hts in_X7_readOne_7 hown hK hP (by decide) (by decide) (hts _ lk_X7_readOne_9) dX7_readOne_1 ?_
  refine fgN_8_9 (k := 1) hx hb hts in_X7_readOne_8 hown hK hP (by decide) (by decide) (hN.use nw_7_32) dX7_readOne_4 ?_
  refine lv_istore_n (lv' := [(2, .int (σ0 1 9)), (0, .ref (ad 27)), (1, .int a1)]) hx hb dX7_readOne_7 rfl hl (by decide) rfl (fun ls hl => ?_)
  refine lv_iload_n hx hb dX7_readOne_8 rfl (lv_at hl 0 rfl) ?_
  refine r_cSi (As := [.int (σ0 1 9)]) (rest := []) ⟨hx, hb, hml, hown, hts⟩ hK hP hN hS (c_X7_beginsOne l D cA ad hI σ0 τ0 hR (σ0 1 9)) (va_cwS 1 hts gX7_readOne_X7_beginsOne rfl rfl rfl (by decide +kernel) ⟨by decide, by decide⟩) rfl hl.1 rfl (Nat.le_of_ble_eq_true rfl) dX7_readOne_9 (Nat.zero_le _) (Nat.zero_le _) (fun r1 u1 H1 locs1 hp1 hP hS => ?_)
  obtain ⟨σ1, τ1⟩ := u1
  obtain ⟨hR, f1, fL1, hq1, hp1_0⟩ : P_X7_beginsOne σ0 τ0 (σ0 1 9) r1 σ1 τ1 := hp1
  have hP : va_P D vwCl (gw cA ad σ1 τ1) H1 := hP
  obtain rfl := FrL.nil fL1
  obtain rfl := Fr.nil f1
  refine r_if_ne (tgt := 24) hx hb dX7_readOne_12 (by decide) (fun c2 => ?_) (fun c2 => ?_)
  · refine lv_aload_n hx hb dX7_readOne_24 rfl (lv_at hl 1 rfl) ?_
    refine fg_7_2 (k := 27) hx hb hts in_X7_readOne_7 hown hK hP (by decide) (by decide) (hts _ lk_X7_readOne_19) dX7_readOne_25 ?_
    refine fgN_6_1 (k := 24) hx hb hts in_X7_readOne_6 hown hK hP (by decide) (by decide) (hN.use nw_7_61) dX7_readOne_28 ?_
    refine r_bipush hx hb dX7_readOne_31 (by decide) (fun z3 ez3 => ?_)
    refine r_icmp_ge (tgt := 42) hx hb dX7_readOne_33 (by decide) (fun c4 => ?_) (fun c4 => ?_)
    · refine lv_aload_n hx hb dX7_readOne_42 rfl (lv_at hl 1 rfl) ?_
      refine fg_7_0 (k := 27) hx hb hts in_X7_readOne_7 hown hK hP (by decide) (by decide) (hts _ lk_X7_readOne_9) dX7_readOne_43 ?_
      refine r_iconst hx hb dX7_readOne_46 (by decide) (fun z5 ez5 => ?_)
      refine r_cVi (k := 1) (As := [.int z5]) (rest := []) ⟨hx, hb, hml, hown, hts⟩ hK hP hN hS (c_X8_blame_v l D cA ad hI σ0 τ0 hR z5 _ _ _ _ (by omega) gCT) (cwV 1 hts gX7_readOne_X8_blame rfl rfl rfl (by decide +kernel) ⟨by decide, by decide⟩) (rv_Tape hK hP (by decide) (by decide)) rfl hl.1 rfl (Nat.le_of_ble_eq_true rfl) dX7_readOne_47 (Nat.zero_le _) (Nat.zero_le _) (fun r6 u6 H6 locs6 hp6 hP hS => ?_)
      obtain ⟨σ6, τ6⟩ := u6
      obtain ⟨hR, f6, fL6, hq6, hp6_0, hp6_1, hp6_2, gnCT⟩ : P_X8_blame_v σ0 τ0 z5 _ _ _ _ r6 σ6 τ6 := hp6
      have hP : va_P D vwCl (gw cA ad σ6 τ6) H6 := hP
      obtain rfl := FrL.nil fL6
      have hF := hF.step f6 (by decide)
      have gCT := gCT.ag (Agr.fr f6 (by decide))
      have gWH := gWH.ag (Agr.fr f6 (by decide))
      have t7 : (σ6 24 1).toInt = (σ0 24 1).toInt := congrArg Int32.toInt (f6.at 24 1 (by decide))
      have t8 : (σ6 24 2).toInt = (σ0 24 2).toInt := congrArg Int32.toInt (f6.at 24 2 (by decide))
      exact r_zret hx hb hr hK hP hS hk (by omega) dX7_readOne_50 (show P_X7_readOne_d2 σ0 τ0 a1 b N mo q nn nm hc r6 σ6 τ0 from ⟨hR, hF, hFL, by omega, by first | exact RO.ofr ((one_l (by omega) (by omega) (by omega) (by omega)).trans (lea_n (by omega) (by omega))) (by omega) ⟨gCT, by omega, by omega⟩ | (exfalso; omega) | exact RO.ofk (one_x (by omega)) (by omega) (by omega) (by omega) | exact RO.ofk (one_4 (by omega) (by omega)) (by omega) (by omega) (by omega) | (obtain ⟨f, e1, x1, x2⟩ := o1.no (by omega); exact RO.ofl ((one_n (by omega) (by omega)).trans e1) (by omega) x1 x2) | exact RO.ofr ((one_n (by omega) (by omega)).trans e1) (by omega) ⟨gCT, by omega, by omega⟩ | (obtain ⟨f, e2, x1, x2⟩ := o2.no (by omega); exact RO.ofl (by rw [one_o (by omega) (by omega), e2, bnd_l]) (by omega) x1 x2) | (obtain ⟨f, e3, x1, x2⟩ := o3.no (by omega); exact RO.ofl (by rw [one_o (by omega) (by omega), e2, bnd_r, e3, bnd_l]) (by omega) x1 x2) | exact RO.ofr (by rw [one_o (by omega) (by omega), e2, bnd_r, e3, bnd_r]) (by omega) ⟨gCT, by omega, by omega⟩ | (rw [one_l (by omega) (by omega) (by omega) (by omega)]; exact o4.map (fun s es h => ⟨h.1, h.2.1, by have h2 := h.2.2; have hl := lea_up es; omega⟩)) | (rw [one_l (by omega) (by omega) (by omega) (by omega)]; exact o5.map (fun s es h => ⟨h.1, h.2.1, by have h2 := h.2.2; have hl := lea_up es; omega⟩)), gWH⟩)
    · refine lv_iload_n hx hb dX7_readOne_36 rfl (lv_at hl 2 rfl) ?_
      refine r_bipush hx hb dX7_readOne_37 (by decide) (fun z9 ez9 => ?_)
      refine r_icmp_le (tgt := 51) hx hb dX7_readOne_39 (by decide) (fun c10 => ?_) (fun c10 => ?_)
      · refine lv_aload_n hx hb dX7_readOne_51 rfl (lv_at hl 1 rfl) ?_
        refine fg_7_2 (k := 27) hx hb hts in_X7_readOne_7 hown hK hP (by decide) (by decide) (hts _ lk_X7_readOne_19) dX7_readOne_52 ?_
        refine lv_dup hx hb dX7_readOne_55 rfl ?_
        refine fgN_6_1 (k := 24) hx hb hts in_X7_readOne_6 hown hK hP (by decide) (by decide) (hN.use nw_7_61) dX7_readOne_56 ?_
        refine r_iconst hx hb dX7_readOne_59 (by decide) (fun z11 ez11 => ?_)
        refine r_iadd hx hb dX7_readOne_60 (by omega) (fun z12 ez12 => ?_)
        refine fpN_6_1 (k := 24) hx hb hts in_X7_readOne_6 hown hK hP (by decide) (by decide) (hN.use nw_7_61) hI hR hS (by omega) dX7_readOne_61 (fun σ13 H13 locs13 u13 v13 hR hP hS => ?_)
        have hF := hF.puts u13 4 rfl (by decide) (by decide) (by decide) (by decide)
        have gCT := gCT.ag (Agr.put u13 (by decide))
        have gWH := gWH.ag (Agr.put u13 (by decide))
        have t14 : (σ13 24 2).toInt = (σ0 24 2).toInt := congrArg Int32.toInt (u13 24 2 (by omega))
        refine lv_aload_n hx hb dX7_readOne_64 rfl (lv_at hl 1 rfl) ?_
        refine fg_7_0 (k := 27) hx hb hts in_X7_readOne_7 hown hK hP (by decide) (by decide) (hts _ lk_X7_readOne_9) dX7_readOne_65 ?_
        refine r_cVv (k := 1) (As := []) (rest := []) ⟨hx, hb, hml, hown, hts⟩ hK hP hN hS (c_X8_next_v l D cA ad hI σ13 τ0 hR _ _ _ _ gCT) (cwV 0 hts gX7_readOne_X8_next rfl rfl rfl (by decide +kernel) ⟨by decide, by decide⟩) (rv_Tape hK hP (by decide) (by decide)) rfl hl.1 rfl (Nat.le_of_ble_eq_true rfl) dX7_readOne_68 (Nat.zero_le _) (Nat.zero_le _) (fun u15 H15 locs15 hp15 hP hS => ?_)
        obtain ⟨σ15, τ15⟩ := u15
        obtain ⟨hR, f15, fL15, hp15_0⟩ : P_X8_next_v σ13 τ0 _ _ _ _ σ15 τ15 := hp15
        have hP : va_P D vwCl (gw cA ad σ15 τ15) H15 := hP
        have hFL := hFL.step fL15 (by decide)
        have gWH := gWH.agL (AgrL.fr fL15 (by decide))
        have hF := hF.step f15 (by decide)
        have gWH := gWH.ag (Agr.fr f15 (by decide))
        have t16 : (σ15 24 2).toInt = (σ13 24 2).toInt := congrArg Int32.toInt (f15.at 24 2 (by decide))
        have t17 : (σ15 24 1).toInt = (σ13 24 1).toInt := congrArg Int32.toInt (f15.at 24 1 (by decide))
        have gCT := hp15_0
        refine lv_iload_n hx hb dX7_readOne_71 rfl (lv_at hl 0 rfl) ?_
        by_cases c18 : (σ0 1 9).toInt = 22
        · refine lv_tableIn (off := 108) (tgt := 180) hx hb dX7_readOne_72 (by omega) (by omega) (by rw [c18]; rfl) (by decide) ?_
          refine lv_aload_n hx hb dX7_readOne_180 rfl (lv_at hl 1 rfl) ?_
          refine lv_iload_n hx hb dX7_readOne_181 rfl (lv_at hl 2 rfl) ?_
          refine r_iconst hx hb dX7_readOne_182 (by decide) (fun z19 ez19 => ?_)
          refine r_iadd hx hb dX7_readOne_183 (by omega) (fun z20 ez20 => ?_)
          refine r_cVi (k := 27) (As := [.int z20]) (rest := []) ⟨hx, hb, hml, hown, hts⟩ hK hP hN hS (c_X7_readOne_d3 l D cA ad hI σ15 τ15 hR z20 b N mo _ (nn + 1) nm hc (by omega) (by omega) (by omega) (by omega) gCT gWH) (cwV 1 hts gX7_readOne_X7_readOne rfl rfl rfl (by decide +kernel) ⟨by decide, by decide⟩) (rv_SText hK hP (by decide) (by decide)) rfl hl.1 rfl (Nat.le_of_ble_eq_true rfl) dX7_readOne_184 (Nat.zero_le _) (Nat.zero_le _) (fun r21 u21 H21 locs21 hp21 hP hS => ?_)
          obtain ⟨σ21, τ21⟩ := u21
          obtain ⟨hR, f21, fL21, hq21, hp21_0, gnWH⟩ : P_X7_readOne_d3 σ15 τ15 z20 b N mo _ (nn + 1) nm hc r21 σ21 τ21 := hp21
          have o1 := hp21_0
          have hP : va_P D vwCl (gw cA ad σ21 τ21) H21 := hP
          have hFL := hFL.step fL21 (by decide)
          have gWH := gWH.agL (AgrL.fr fL21 (by decide))
          have hF := hF.step f21 (by decide)
          have gWH := gWH.ag (Agr.fr f21 (by decide))
          have hr22 := rg_6_1 hR (k := 24) (by decide) (by decide)
          have hr23 := rg_6_2 hR (k := 24) (by decide) (by decide)
          refine r_if_eq (tgt := 208) hx hb dX7_readOne_187 (by decide) (fun c24 => ?_) (fun c24 => ?_)
          · refine r_iconst hx hb dX7_readOne_208 (by decide) (fun z25 ez25 => ?_)
            exact r_zret hx hb hr hK hP hS hk (by omega) dX7_readOne_209 (show P_X7_readOne_d2 σ0 τ0 a1 b N mo q nn nm hc z25 σ21 τ21 from ⟨hR, hF, hFL, by omega, by first | exact RO.ofr ((one_l (by omega) (by omega) (by omega) (by omega)).trans (lea_n (by omega) (by omega))) (by omega) ⟨gCT, by omega, by omega⟩ | (exfalso; omega) | exact RO.ofk (one_x (by omega)) (by omega) (by omega) (by omega) | exact RO.ofk (one_4 (by omega) (by omega)) (by omega) (by omega) (by omega) | (obtain ⟨f, e1, x1, x2⟩ := o1.no (by omega); exact RO.ofl ((one_n (by omega) (by omega)).trans e1) (by omega) x1 x2) | exact RO.ofr ((one_n (by omega) (by omega)).trans e1) (by omega) ⟨gCT, by omega, by omega⟩ | (obtain ⟨f, e2, x1, x2⟩ := o2.no (by omega); exact RO.ofl (by rw [one_o (by omega) (by omega), e2, bnd_l]) (by omega) x1 x2) | (obtain ⟨f, e3, x1, x2⟩ := o3.no (by omega); exact RO.ofl (by rw [one_o (by omega) (by omega), e2, bnd_r, e3, bnd_l]) (by omega) x1 x2) | exact RO.ofr (by rw [one_o (by omega) (by omega), e2, bnd_r, e3, bnd_r]) (by omega) ⟨gCT, by omega, by omega⟩ | (rw [one_l (by omega) (by omega) (by omega) (by omega)]; exact o4.map (fun s es h => ⟨h.1, h.2.1, by have h2 := h.2.2; have hl := lea_up es; omega⟩)) | (rw [one_l (by omega) (by omega) (by omega) (by omega)]; exact o5.map (fun s es h => ⟨h.1, h.2.1, by have h2 := h.2.2; have hl := lea_up es; omega⟩)), gWH⟩)
          · obtain ⟨s1, e1, gCT, hs1, hs2⟩ := o1.ye (by omega)
            have hu1 := one_up _ _ _ _ e1
            refine lv_aload_n hx hb dX7_readOne_190 rfl (lv_at hl 1 rfl) ?_
            refine fg_7_2 (k := 27) hx hb hts in_X7_readOne_7 hown hK hP (by decide) (by decide) (hts _ lk_X7_readOne_19) dX7_readOne_191 ?_
            refine r_bipush hx hb dX7_readOne_194 (by decide) (fun z26 ez26 => ?_)
            refine r_iconst hx hb dX7_readOne_196 (by decide) (fun z27 ez27 => ?_)
            refine r_iconst hx hb dX7_readOne_197 (by decide) (fun z28 ez28 => ?_)
            refine r_cVi (k := 24) (As := [.int z26, .int z27, .int z28]) (rest := []) ⟨hx, hb, hml, hown, hts⟩ hK hP hN hS (c_X6_add l D cA ad hI σ21 τ21 hR z26 z27 z28 (by omega)) (cwV 3 hts gX7_readOne_X6_add rfl rfl rfl (by decide +kernel) ⟨by decide, by decide⟩) (rv_Sent hK hP (by decide) (by decide)) rfl hl.1 rfl (Nat.le_of_ble_eq_true rfl) dX7_readOne_198 (Nat.zero_le _) (Nat.zero_le _) (fun r29 u29 H29 locs29 hp29 hP hS => ?_)
            obtain ⟨σ29, τ29⟩ := u29
            obtain ⟨hR, f29, fL29, hq29, hp29_0⟩ : P_X6_add σ21 τ21 z26 z27 z28 r29 σ29 τ29 := hp29
            have hP : va_P D vwCl (gw cA ad σ29 τ29) H29 := hP
            obtain rfl := FrL.nil fL29
            have hF := hF.step f29 (by decide)
            have gCT := gCT.ag (Agr.fr f29 (by decide))
            have gWH := gWH.ag (Agr.fr f29 (by decide))
            have t30 : (σ29 24 1).toInt = (σ21 24 1).toInt := congrArg Int32.toInt (f29.at 24 1 (by decide))
            have hr31 := rg_6_2 hR (k := 24) (by decide) (by decide)
            refine r_if_eq (tgt := 208) hx hb dX7_readOne_201 (by decide) (fun c32 => ?_) (fun c32 => ?_)
            · refine r_iconst hx hb dX7_readOne_208 (by decide) (fun z33 ez33 => ?_)
              exact r_zret hx hb hr hK hP hS hk (by omega) dX7_readOne_209 (show P_X7_readOne_d2 σ0 τ0 a1 b N mo q nn nm hc z33 σ29 τ21 from ⟨hR, hF, hFL, by omega, by first | exact RO.ofr ((one_l (by omega) (by omega) (by omega) (by omega)).trans (lea_n (by omega) (by omega))) (by omega) ⟨gCT, by omega, by omega⟩ | (exfalso; omega) | exact RO.ofk (one_x (by omega)) (by omega) (by omega) (by omega) | exact RO.ofk (one_4 (by omega) (by omega)) (by omega) (by omega) (by omega) | (obtain ⟨f, e1, x1, x2⟩ := o1.no (by omega); exact RO.ofl ((one_n (by omega) (by omega)).trans e1) (by omega) x1 x2) | exact RO.ofr ((one_n (by omega) (by omega)).trans e1) (by omega) ⟨gCT, by omega, by omega⟩ | (obtain ⟨f, e2, x1, x2⟩ := o2.no (by omega); exact RO.ofl (by rw [one_o (by omega) (by omega), e2, bnd_l]) (by omega) x1 x2) | (obtain ⟨f, e3, x1, x2⟩ := o3.no (by omega); exact RO.ofl (by rw [one_o (by omega) (by omega), e2, bnd_r, e3, bnd_l]) (by omega) x1 x2) | exact RO.ofr (by rw [one_o (by omega) (by omega), e2, bnd_r, e3, bnd_r]) (by omega) ⟨gCT, by omega, by omega⟩ | (rw [one_l (by omega) (by omega) (by omega) (by omega)]; exact o4.map (fun s es h => ⟨h.1, h.2.1, by have h2 := h.2.2; have hl := lea_up es; omega⟩)) | (rw [one_l (by omega) (by omega) (by omega) (by omega)]; exact o5.map (fun s es h => ⟨h.1, h.2.1, by have h2 := h.2.2; have hl := lea_up es; omega⟩)), gWH⟩)
            · refine r_iconst hx hb dX7_readOne_204 (by decide) (fun z34 ez34 => ?_)
              refine lv_goto (tgt := 209) hx hb dX7_readOne_205 (by decide) ?_
              exact r_zret hx hb hr hK hP hS hk (by omega) dX7_readOne_209 (show P_X7_readOne_d2 σ0 τ0 a1 b N mo q nn nm hc z34 σ29 τ21 from ⟨hR, hF, hFL, by omega, by first | exact RO.ofr ((one_l (by omega) (by omega) (by omega) (by omega)).trans (lea_n (by omega) (by omega))) (by omega) ⟨gCT, by omega, by omega⟩ | (exfalso; omega) | exact RO.ofk (one_x (by omega)) (by omega) (by omega) (by omega) | exact RO.ofk (one_4 (by omega) (by omega)) (by omega) (by omega) (by omega) | (obtain ⟨f, e1, x1, x2⟩ := o1.no (by omega); exact RO.ofl ((one_n (by omega) (by omega)).trans e1) (by omega) x1 x2) | exact RO.ofr ((one_n (by omega) (by omega)).trans e1) (by omega) ⟨gCT, by omega, by omega⟩ | (obtain ⟨f, e2, x1, x2⟩ := o2.no (by omega); exact RO.ofl (by rw [one_o (by omega) (by omega), e2, bnd_l]) (by omega) x1 x2) | (obtain ⟨f, e3, x1, x2⟩ := o3.no (by omega); exact RO.ofl (by rw [one_o (by omega) (by omega), e2, bnd_r, e3, bnd_l]) (by omega) x1 x2) | exact RO.ofr (by rw [one_o (by omega) (by omega), e2, bnd_r, e3, bnd_r]) (by omega) ⟨gCT, by omega, by omega⟩ | (rw [one_l (by omega) (by omega) (by omega) (by omega)]; exact o4.map (fun s es h => ⟨h.1, h.2.1, by have h2 := h.2.2; have hl := lea_up es; omega⟩)) | (rw [one_l (by omega) (by omega) (by omega) (by omega)]; exact o5.map (fun s es h => ⟨h.1, h.2.1, by have h2 := h.2.2; have hl := lea_up es; omega⟩)), gWH⟩)
        by_cases c35 : (σ0 1 9).toInt = 23
        · refine lv_tableIn (off := 177) (tgt := 249) hx hb dX7_readOne_72 (by omega) (by omega) (by rw [c35]; rfl) (by decide) ?_
          refine lv_aload_n hx hb dX7_readOne_249 rfl (lv_at hl 1 rfl) ?_
          refine fg_7_2 (k := 27) hx hb hts in_X7_readOne_7 hown hK hP (by decide) (by decide) (hts _ lk_X7_readOne_19) dX7_readOne_250 ?_
          refine lv_iload_n hx hb dX7_readOne_253 rfl (lv_at hl 0 rfl) ?_
          refine r_bipush hx hb dX7_readOne_254 (by decide) (fun z36 ez36 => ?_)
          refine r_iconst hx hb dX7_readOne_256 (by decide) (fun z37 ez37 => ?_)
          refine r_cVi (k := 24) (As := [.int (σ0 1 9), .int z36, .int z37]) (rest := []) ⟨hx, hb, hml, hown, hts⟩ hK hP hN hS (c_X6_add l D cA ad hI σ15 τ15 hR (σ0 1 9) z36 z37 (by omega)) (cwV 3 hts gX7_readOne_X6_add rfl rfl rfl (by decide +kernel) ⟨by decide, by decide⟩) (rv_Sent hK hP (by decide) (by decide)) rfl hl.1 rfl (Nat.le_of_ble_eq_true rfl) dX7_readOne_257 (Nat.zero_le _) (Nat.zero_le _) (fun r38 u38 H38 locs38 hp38 hP hS => ?_)
          obtain ⟨σ38, τ38⟩ := u38
          obtain ⟨hR, f38, fL38, hq38, hp38_0⟩ : P_X6_add σ15 τ15 (σ0 1 9) z36 z37 r38 σ38 τ38 := hp38
          have hP : va_P D vwCl (gw cA ad σ38 τ38) H38 := hP
          obtain rfl := FrL.nil fL38
          have hF := hF.step f38 (by decide)
          have gCT := gCT.ag (Agr.fr f38 (by decide))
          have gWH := gWH.ag (Agr.fr f38 (by decide))
          have t39 : (σ38 24 1).toInt = (σ15 24 1).toInt := congrArg Int32.toInt (f38.at 24 1 (by decide))
          have hr40 := rg_6_2 hR (k := 24) (by decide) (by decide)
          exact r_zret hx hb hr hK hP hS hk (by omega) dX7_readOne_260 (show P_X7_readOne_d2 σ0 τ0 a1 b N mo q nn nm hc r38 σ38 τ15 from ⟨hR, hF, hFL, by omega, by first | exact RO.ofr ((one_l (by omega) (by omega) (by omega) (by omega)).trans (lea_n (by omega) (by omega))) (by omega) ⟨gCT, by omega, by omega⟩ | (exfalso; omega) | exact RO.ofk (one_x (by omega)) (by omega) (by omega) (by omega) | exact RO.ofk (one_4 (by omega) (by omega)) (by omega) (by omega) (by omega) | (obtain ⟨f, e1, x1, x2⟩ := o1.no (by omega); exact RO.ofl ((one_n (by omega) (by omega)).trans e1) (by omega) x1 x2) | exact RO.ofr ((one_n (by omega) (by omega)).trans e1) (by omega) ⟨gCT, by omega, by omega⟩ | (obtain ⟨f, e2, x1, x2⟩ := o2.no (by omega); exact RO.ofl (by rw [one_o (by omega) (by omega), e2, bnd_l]) (by omega) x1 x2) | (obtain ⟨f, e3, x1, x2⟩ := o3.no (by omega); exact RO.ofl (by rw [one_o (by omega) (by omega), e2, bnd_r, e3, bnd_l]) (by omega) x1 x2) | exact RO.ofr (by rw [one_o (by omega) (by omega), e2, bnd_r, e3, bnd_r]) (by omega) ⟨gCT, by omega, by omega⟩ | (rw [one_l (by omega) (by omega) (by omega) (by omega)]; exact o4.map (fun s es h => ⟨h.1, h.2.1, by have h2 := h.2.2; have hl := lea_up es; omega⟩)) | (rw [one_l (by omega) (by omega) (by omega) (by omega)]; exact o5.map (fun s es h => ⟨h.1, h.2.1, by have h2 := h.2.2; have hl := lea_up es; omega⟩)), gWH⟩)
        by_cases c41 : (σ0 1 9).toInt = 24
        · refine lv_tableIn (off := 177) (tgt := 249) hx hb dX7_readOne_72 (by omega) (by omega) (by rw [c41]; rfl) (by decide) ?_
          refine lv_aload_n hx hb dX7_readOne_249 rfl (lv_at hl 1 rfl) ?_
          refine fg_7_2 (k := 27) hx hb hts in_X7_readOne_7 hown hK hP (by decide) (by decide) (hts _ lk_X7_readOne_19) dX7_readOne_250 ?_
          refine lv_iload_n hx hb dX7_readOne_253 rfl (lv_at hl 0 rfl) ?_
          refine r_bipush hx hb dX7_readOne_254 (by decide) (fun z42 ez42 => ?_)
          refine r_iconst hx hb dX7_readOne_256 (by decide) (fun z43 ez43 => ?_)
          refine r_cVi (k := 24) (As := [.int (σ0 1 9), .int z42, .int z43]) (rest := []) ⟨hx, hb, hml, hown, hts⟩ hK hP hN hS (c_X6_add l D cA ad hI σ15 τ15 hR (σ0 1 9) z42 z43 (by omega)) (cwV 3 hts gX7_readOne_X6_add rfl rfl rfl (by decide +kernel) ⟨by decide, by decide⟩) (rv_Sent hK hP (by decide) (by decide)) rfl hl.1 rfl (Nat.le_of_ble_eq_true rfl) dX7_readOne_257 (Nat.zero_le _) (Nat.zero_le _) (fun r44 u44 H44 locs44 hp44 hP hS => ?_)
          obtain ⟨σ44, τ44⟩ := u44
          obtain ⟨hR, f44, fL44, hq44, hp44_0⟩ : P_X6_add σ15 τ15 (σ0 1 9) z42 z43 r44 σ44 τ44 := hp44
          have hP : va_P D vwCl (gw cA ad σ44 τ44) H44 := hP
          obtain rfl := FrL.nil fL44
          have hF := hF.step f44 (by decide)
          have gCT := gCT.ag (Agr.fr f44 (by decide))
          have gWH := gWH.ag (Agr.fr f44 (by decide))
          have t45 : (σ44 24 1).toInt = (σ15 24 1).toInt := congrArg Int32.toInt (f44.at 24 1 (by decide))
          have hr46 := rg_6_2 hR (k := 24) (by decide) (by decide)
          exact r_zret hx hb hr hK hP hS hk (by omega) dX7_readOne_260 (show P_X7_readOne_d2 σ0 τ0 a1 b N mo q nn nm hc r44 σ44 τ15 from ⟨hR, hF, hFL, by omega, by first | exact RO.ofr ((one_l (by omega) (by omega) (by omega) (by omega)).trans (lea_n (by omega) (by omega))) (by omega) ⟨gCT, by omega, by omega⟩ | (exfalso; omega) | exact RO.ofk (one_x (by omega)) (by omega) (by omega) (by omega) | exact RO.ofk (one_4 (by omega) (by omega)) (by omega) (by omega) (by omega) | (obtain ⟨f, e1, x1, x2⟩ := o1.no (by omega); exact RO.ofl ((one_n (by omega) (by omega)).trans e1) (by omega) x1 x2) | exact RO.ofr ((one_n (by omega) (by omega)).trans e1) (by omega) ⟨gCT, by omega, by omega⟩ | (obtain ⟨f, e2, x1, x2⟩ := o2.no (by omega); exact RO.ofl (by rw [one_o (by omega) (by omega), e2, bnd_l]) (by omega) x1 x2) | (obtain ⟨f, e3, x1, x2⟩ := o3.no (by omega); exact RO.ofl (by rw [one_o (by omega) (by omega), e2, bnd_r, e3, bnd_l]) (by omega) x1 x2) | exact RO.ofr (by rw [one_o (by omega) (by omega), e2, bnd_r, e3, bnd_r]) (by omega) ⟨gCT, by omega, by omega⟩ | (rw [one_l (by omega) (by omega) (by omega) (by omega)]; exact o4.map (fun s es h => ⟨h.1, h.2.1, by have h2 := h.2.2; have hl := lea_up es; omega⟩)) | (rw [one_l (by omega) (by omega) (by omega) (by omega)]; exact o5.map (fun s es h => ⟨h.1, h.2.1, by have h2 := h.2.2; have hl := lea_up es; omega⟩)), gWH⟩)
        by_cases c47 : (σ0 1 9).toInt = 25
        · refine lv_tableIn (off := 166) (tgt := 238) hx hb dX7_readOne_72 (by omega) (by omega) (by rw [c47]; rfl) (by decide) ?_
          refine lv_aload_n hx hb dX7_readOne_238 rfl (lv_at hl 1 rfl) ?_
          refine r_cVi (k := 27) (As := []) (rest := []) ⟨hx, hb, hml, hown, hts⟩ hK hP hN hS (c_X7_readOn l D cA ad hI σ15 τ15 hR b N mo _ (nn + 1) nm hc (tkq b N mo q) (by omega) (by omega) (by omega) gCT gWH) (cwV 0 hts gX7_readOne_X7_readOn rfl rfl rfl (by decide +kernel) ⟨by decide, by decide⟩) (rv_SText hK hP (by decide) (by decide)) rfl hl.1 rfl (Nat.le_of_ble_eq_true rfl) dX7_readOne_239 (Nat.zero_le _) (Nat.zero_le _) (fun r48 u48 H48 locs48 hp48 hP hS => ?_)
          obtain ⟨σ48, τ48⟩ := u48
          obtain ⟨hR, f48, fL48, hq48, hp48_0, gnWH⟩ : P_X7_readOn σ15 τ15 b N mo _ (nn + 1) nm hc (tkq b N mo q) r48 σ48 τ48 := hp48
          have o4 := hp48_0
          have hP : va_P D vwCl (gw cA ad σ48 τ48) H48 := hP
          have hFL := hFL.step fL48 (by decide)
          have gWH := gWH.agL (AgrL.fr fL48 (by decide))
          have hF := hF.step f48 (by decide)
          have gWH := gWH.ag (Agr.fr f48 (by decide))
          have t49 : (σ48 24 1).toInt = (σ15 24 1).toInt := congrArg Int32.toInt (f48.at 24 1 (by decide))
          have hr50 := rg_6_2 hR (k := 24) (by decide) (by decide)
          exact r_zret hx hb hr hK hP hS hk (by omega) dX7_readOne_242 (show P_X7_readOne_d2 σ0 τ0 a1 b N mo q nn nm hc r48 σ48 τ48 from ⟨hR, hF, hFL, by omega, by first | exact RO.ofr ((one_l (by omega) (by omega) (by omega) (by omega)).trans (lea_n (by omega) (by omega))) (by omega) ⟨gCT, by omega, by omega⟩ | (exfalso; omega) | exact RO.ofk (one_x (by omega)) (by omega) (by omega) (by omega) | exact RO.ofk (one_4 (by omega) (by omega)) (by omega) (by omega) (by omega) | (obtain ⟨f, e1, x1, x2⟩ := o1.no (by omega); exact RO.ofl ((one_n (by omega) (by omega)).trans e1) (by omega) x1 x2) | exact RO.ofr ((one_n (by omega) (by omega)).trans e1) (by omega) ⟨gCT, by omega, by omega⟩ | (obtain ⟨f, e2, x1, x2⟩ := o2.no (by omega); exact RO.ofl (by rw [one_o (by omega) (by omega), e2, bnd_l]) (by omega) x1 x2) | (obtain ⟨f, e3, x1, x2⟩ := o3.no (by omega); exact RO.ofl (by rw [one_o (by omega) (by omega), e2, bnd_r, e3, bnd_l]) (by omega) x1 x2) | exact RO.ofr (by rw [one_o (by omega) (by omega), e2, bnd_r, e3, bnd_r]) (by omega) ⟨gCT, by omega, by omega⟩ | (rw [one_l (by omega) (by omega) (by omega) (by omega)]; exact o4.map (fun s es h => ⟨h.1, h.2.1, by have h2 := h.2.2; have hl := lea_up es; omega⟩)) | (rw [one_l (by omega) (by omega) (by omega) (by omega)]; exact o5.map (fun s es h => ⟨h.1, h.2.1, by have h2 := h.2.2; have hl := lea_up es; omega⟩)), gWH⟩)
        by_cases c51 : (σ0 1 9).toInt = 26
        · refine lv_tableIn (off := 177) (tgt := 249) hx hb dX7_readOne_72 (by omega) (by omega) (by rw [c51]; rfl) (by decide) ?_
          refine lv_aload_n hx hb dX7_readOne_249 rfl (lv_at hl 1 rfl) ?_
          refine fg_7_2 (k := 27) hx hb hts in_X7_readOne_7 hown hK hP (by decide) (by decide) (hts _ lk_X7_readOne_19) dX7_readOne_250 ?_
          refine lv_iload_n hx hb dX7_readOne_253 rfl (lv_at hl 0 rfl) ?_
          refine r_bipush hx hb dX7_readOne_254 (by decide) (fun z52 ez52 => ?_)
          refine r_iconst hx hb dX7_readOne_256 (by decide) (fun z53 ez53 => ?_)
          refine r_cVi (k := 24) (As := [.int (σ0 1 9), .int z52, .int z53]) (rest := []) ⟨hx, hb, hml, hown, hts⟩ hK hP hN hS (c_X6_add l D cA ad hI σ15 τ15 hR (σ0 1 9) z52 z53 (by omega)) (cwV 3 hts gX7_readOne_X6_add rfl rfl rfl (by decide +kernel) ⟨by decide, by decide⟩) (rv_Sent hK hP (by decide) (by decide)) rfl hl.1 rfl (Nat.le_of_ble_eq_true rfl) dX7_readOne_257 (Nat.zero_le _) (Nat.zero_le _) (fun r54 u54 H54 locs54 hp54 hP hS => ?_)
          obtain ⟨σ54, τ54⟩ := u54
          obtain ⟨hR, f54, fL54, hq54, hp54_0⟩ : P_X6_add σ15 τ15 (σ0 1 9) z52 z53 r54 σ54 τ54 := hp54
          have hP : va_P D vwCl (gw cA ad σ54 τ54) H54 := hP
          obtain rfl := FrL.nil fL54
          have hF := hF.step f54 (by decide)
          have gCT := gCT.ag (Agr.fr f54 (by decide))
          have gWH := gWH.ag (Agr.fr f54 (by decide))
          have t55 : (σ54 24 1).toInt = (σ15 24 1).toInt := congrArg Int32.toInt (f54.at 24 1 (by decide))
          have hr56 := rg_6_2 hR (k := 24) (by decide) (by decide)
          exact r_zret hx hb hr hK hP hS hk (by omega) dX7_readOne_260 (show P_X7_readOne_d2 σ0 τ0 a1 b N mo q nn nm hc r54 σ54 τ15 from ⟨hR, hF, hFL, by omega, by first | exact RO.ofr ((one_l (by omega) (by omega) (by omega) (by omega)).trans (lea_n (by omega) (by omega))) (by omega) ⟨gCT, by omega, by omega⟩ | (exfalso; omega) | exact RO.ofk (one_x (by omega)) (by omega) (by omega) (by omega) | exact RO.ofk (one_4 (by omega) (by omega)) (by omega) (by omega) (by omega) | (obtain ⟨f, e1, x1, x2⟩ := o1.no (by omega); exact RO.ofl ((one_n (by omega) (by omega)).trans e1) (by omega) x1 x2) | exact RO.ofr ((one_n (by omega) (by omega)).trans e1) (by omega) ⟨gCT, by omega, by omega⟩ | (obtain ⟨f, e2, x1, x2⟩ := o2.no (by omega); exact RO.ofl (by rw [one_o (by omega) (by omega), e2, bnd_l]) (by omega) x1 x2) | (obtain ⟨f, e3, x1, x2⟩ := o3.no (by omega); exact RO.ofl (by rw [one_o (by omega) (by omega), e2, bnd_r, e3, bnd_l]) (by omega) x1 x2) | exact RO.ofr (by rw [one_o (by omega) (by omega), e2, bnd_r, e3, bnd_r]) (by omega) ⟨gCT, by omega, by omega⟩ | (rw [one_l (by omega) (by omega) (by omega) (by omega)]; exact o4.map (fun s es h => ⟨h.1, h.2.1, by have h2 := h.2.2; have hl := lea_up es; omega⟩)) | (rw [one_l (by omega) (by omega) (by omega) (by omega)]; exact o5.map (fun s es h => ⟨h.1, h.2.1, by have h2 := h.2.2; have hl := lea_up es; omega⟩)), gWH⟩)
        by_cases c57 : (σ0 1 9).toInt = 27
        · refine lv_tableIn (off := 171) (tgt := 243) hx hb dX7_readOne_72 (by omega) (by omega) (by rw [c57]; rfl) (by decide) ?_
          refine lv_aload_n hx hb dX7_readOne_243 rfl (lv_at hl 1 rfl) ?_
          refine lv_iload_n hx hb dX7_readOne_244 rfl (lv_at hl 0 rfl) ?_
          refine r_cVi (k := 27) (As := [.int (σ0 1 9)]) (rest := []) ⟨hx, hb, hml, hown, hts⟩ hK hP hN hS (c_X7_readMeasure l D cA ad hI σ15 τ15 hR (σ0 1 9) b N mo _ (nn + 1) nm hc (tkq b N mo q) (by omega) (by omega) (by omega) (by omega) gCT gWH) (cwV 1 hts gX7_readOne_X7_readMeasure rfl rfl rfl (by decide +kernel) ⟨by decide, by decide⟩) (rv_SText hK hP (by decide) (by decide)) rfl hl.1 rfl (Nat.le_of_ble_eq_true rfl) dX7_readOne_245 (Nat.zero_le _) (Nat.zero_le _) (fun r58 u58 H58 locs58 hp58 hP hS => ?_)
          obtain ⟨σ58, τ58⟩ := u58
          obtain ⟨hR, f58, fL58, hq58, hp58_0, gnWH⟩ : P_X7_readMeasure σ15 τ15 (σ0 1 9) b N mo _ (nn + 1) nm hc (tkq b N mo q) r58 σ58 τ58 := hp58
          have o5 := hp58_0
          have hP : va_P D vwCl (gw cA ad σ58 τ58) H58 := hP
          have hFL := hFL.step fL58 (by decide)
          have gWH := gWH.agL (AgrL.fr fL58 (by decide))
          have hF := hF.step f58 (by decide)
          have gWH := gWH.ag (Agr.fr f58 (by decide))
          have t59 : (σ58 24 1).toInt = (σ15 24 1).toInt := congrArg Int32.toInt (f58.at 24 1 (by decide))
          have hr60 := rg_6_2 hR (k := 24) (by decide) (by decide)
          exact r_zret hx hb hr hK hP hS hk (by omega) dX7_readOne_248 (show P_X7_readOne_d2 σ0 τ0 a1 b N mo q nn nm hc r58 σ58 τ58 from ⟨hR, hF, hFL, by omega, by first | exact RO.ofr ((one_l (by omega) (by omega) (by omega) (by omega)).trans (lea_n (by omega) (by omega))) (by omega) ⟨gCT, by omega, by omega⟩ | (exfalso; omega) | exact RO.ofk (one_x (by omega)) (by omega) (by omega) (by omega) | exact RO.ofk (one_4 (by omega) (by omega)) (by omega) (by omega) (by omega) | (obtain ⟨f, e1, x1, x2⟩ := o1.no (by omega); exact RO.ofl ((one_n (by omega) (by omega)).trans e1) (by omega) x1 x2) | exact RO.ofr ((one_n (by omega) (by omega)).trans e1) (by omega) ⟨gCT, by omega, by omega⟩ | (obtain ⟨f, e2, x1, x2⟩ := o2.no (by omega); exact RO.ofl (by rw [one_o (by omega) (by omega), e2, bnd_l]) (by omega) x1 x2) | (obtain ⟨f, e3, x1, x2⟩ := o3.no (by omega); exact RO.ofl (by rw [one_o (by omega) (by omega), e2, bnd_r, e3, bnd_l]) (by omega) x1 x2) | exact RO.ofr (by rw [one_o (by omega) (by omega), e2, bnd_r, e3, bnd_r]) (by omega) ⟨gCT, by omega, by omega⟩ | (rw [one_l (by omega) (by omega) (by omega) (by omega)]; exact o4.map (fun s es h => ⟨h.1, h.2.1, by have h2 := h.2.2; have hl := lea_up es; omega⟩)) | (rw [one_l (by omega) (by omega) (by omega) (by omega)]; exact o5.map (fun s es h => ⟨h.1, h.2.1, by have h2 := h.2.2; have hl := lea_up es; omega⟩)), gWH⟩)
        by_cases c61 : (σ0 1 9).toInt = 28
        · refine lv_tableIn (off := 171) (tgt := 243) hx hb dX7_readOne_72 (by omega) (by omega) (by rw [c61]; rfl) (by decide) ?_
          refine lv_aload_n hx hb dX7_readOne_243 rfl (lv_at hl 1 rfl) ?_
          refine lv_iload_n hx hb dX7_readOne_244 rfl (lv_at hl 0 rfl) ?_
          refine r_cVi (k := 27) (As := [.int (σ0 1 9)]) (rest := []) ⟨hx, hb, hml, hown, hts⟩ hK hP hN hS (c_X7_readMeasure l D cA ad hI σ15 τ15 hR (σ0 1 9) b N mo _ (nn + 1) nm hc (tkq b N mo q) (by omega) (by omega) (by omega) (by omega) gCT gWH) (cwV 1 hts gX7_readOne_X7_readMeasure rfl rfl rfl (by decide +kernel) ⟨by decide, by decide⟩) (rv_SText hK hP (by decide) (by decide)) rfl hl.1 rfl (Nat.le_of_ble_eq_true rfl) dX7_readOne_245 (Nat.zero_le _) (Nat.zero_le _) (fun r62 u62 H62 locs62 hp62 hP hS => ?_)
          obtain ⟨σ62, τ62⟩ := u62
          obtain ⟨hR, f62, fL62, hq62, hp62_0, gnWH⟩ : P_X7_readMeasure σ15 τ15 (σ0 1 9) b N mo _ (nn + 1) nm hc (tkq b N mo q) r62 σ62 τ62 := hp62
          have o5 := hp62_0
          have hP : va_P D vwCl (gw cA ad σ62 τ62) H62 := hP
          have hFL := hFL.step fL62 (by decide)
          have gWH := gWH.agL (AgrL.fr fL62 (by decide))
          have hF := hF.step f62 (by decide)
          have gWH := gWH.ag (Agr.fr f62 (by decide))
          have t63 : (σ62 24 1).toInt = (σ15 24 1).toInt := congrArg Int32.toInt (f62.at 24 1 (by decide))
          have hr64 := rg_6_2 hR (k := 24) (by decide) (by decide)
          exact r_zret hx hb hr hK hP hS hk (by omega) dX7_readOne_248 (show P_X7_readOne_d2 σ0 τ0 a1 b N mo q nn nm hc r62 σ62 τ62 from ⟨hR, hF, hFL, by omega, by first | exact RO.ofr ((one_l (by omega) (by omega) (by omega) (by omega)).trans (lea_n (by omega) (by omega))) (by omega) ⟨gCT, by omega, by omega⟩ | (exfalso; omega) | exact RO.ofk (one_x (by omega)) (by omega) (by omega) (by omega) | exact RO.ofk (one_4 (by omega) (by omega)) (by omega) (by omega) (by omega) | (obtain ⟨f, e1, x1, x2⟩ := o1.no (by omega); exact RO.ofl ((one_n (by omega) (by omega)).trans e1) (by omega) x1 x2) | exact RO.ofr ((one_n (by omega) (by omega)).trans e1) (by omega) ⟨gCT, by omega, by omega⟩ | (obtain ⟨f, e2, x1, x2⟩ := o2.no (by omega); exact RO.ofl (by rw [one_o (by omega) (by omega), e2, bnd_l]) (by omega) x1 x2) | (obtain ⟨f, e3, x1, x2⟩ := o3.no (by omega); exact RO.ofl (by rw [one_o (by omega) (by omega), e2, bnd_r, e3, bnd_l]) (by omega) x1 x2) | exact RO.ofr (by rw [one_o (by omega) (by omega), e2, bnd_r, e3, bnd_r]) (by omega) ⟨gCT, by omega, by omega⟩ | (rw [one_l (by omega) (by omega) (by omega) (by omega)]; exact o4.map (fun s es h => ⟨h.1, h.2.1, by have h2 := h.2.2; have hl := lea_up es; omega⟩)) | (rw [one_l (by omega) (by omega) (by omega) (by omega)]; exact o5.map (fun s es h => ⟨h.1, h.2.1, by have h2 := h.2.2; have hl := lea_up es; omega⟩)), gWH⟩)
        by_cases c65 : (σ0 1 9).toInt = 29
        · refine lv_tableIn (off := 171) (tgt := 243) hx hb dX7_readOne_72 (by omega) (by omega) (by rw [c65]; rfl) (by decide) ?_
          refine lv_aload_n hx hb dX7_readOne_243 rfl (lv_at hl 1 rfl) ?_
          refine lv_iload_n hx hb dX7_readOne_244 rfl (lv_at hl 0 rfl) ?_
          refine r_cVi (k := 27) (As := [.int (σ0 1 9)]) (rest := []) ⟨hx, hb, hml, hown, hts⟩ hK hP hN hS (c_X7_readMeasure l D cA ad hI σ15 τ15 hR (σ0 1 9) b N mo _ (nn + 1) nm hc (tkq b N mo q) (by omega) (by omega) (by omega) (by omega) gCT gWH) (cwV 1 hts gX7_readOne_X7_readMeasure rfl rfl rfl (by decide +kernel) ⟨by decide, by decide⟩) (rv_SText hK hP (by decide) (by decide)) rfl hl.1 rfl (Nat.le_of_ble_eq_true rfl) dX7_readOne_245 (Nat.zero_le _) (Nat.zero_le _) (fun r66 u66 H66 locs66 hp66 hP hS => ?_)
          obtain ⟨σ66, τ66⟩ := u66
          obtain ⟨hR, f66, fL66, hq66, hp66_0, gnWH⟩ : P_X7_readMeasure σ15 τ15 (σ0 1 9) b N mo _ (nn + 1) nm hc (tkq b N mo q) r66 σ66 τ66 := hp66
          have o5 := hp66_0
          have hP : va_P D vwCl (gw cA ad σ66 τ66) H66 := hP
          have hFL := hFL.step fL66 (by decide)
          have gWH := gWH.agL (AgrL.fr fL66 (by decide))
          have hF := hF.step f66 (by decide)
          have gWH := gWH.ag (Agr.fr f66 (by decide))
          have t67 : (σ66 24 1).toInt = (σ15 24 1).toInt := congrArg Int32.toInt (f66.at 24 1 (by decide))
          have hr68 := rg_6_2 hR (k := 24) (by decide) (by decide)
          exact r_zret hx hb hr hK hP hS hk (by omega) dX7_readOne_248 (show P_X7_readOne_d2 σ0 τ0 a1 b N mo q nn nm hc r66 σ66 τ66 from ⟨hR, hF, hFL, by omega, by first | exact RO.ofr ((one_l (by omega) (by omega) (by omega) (by omega)).trans (lea_n (by omega) (by omega))) (by omega) ⟨gCT, by omega, by omega⟩ | (exfalso; omega) | exact RO.ofk (one_x (by omega)) (by omega) (by omega) (by omega) | exact RO.ofk (one_4 (by omega) (by omega)) (by omega) (by omega) (by omega) | (obtain ⟨f, e1, x1, x2⟩ := o1.no (by omega); exact RO.ofl ((one_n (by omega) (by omega)).trans e1) (by omega) x1 x2) | exact RO.ofr ((one_n (by omega) (by omega)).trans e1) (by omega) ⟨gCT, by omega, by omega⟩ | (obtain ⟨f, e2, x1, x2⟩ := o2.no (by omega); exact RO.ofl (by rw [one_o (by omega) (by omega), e2, bnd_l]) (by omega) x1 x2) | (obtain ⟨f, e3, x1, x2⟩ := o3.no (by omega); exact RO.ofl (by rw [one_o (by omega) (by omega), e2, bnd_r, e3, bnd_l]) (by omega) x1 x2) | exact RO.ofr (by rw [one_o (by omega) (by omega), e2, bnd_r, e3, bnd_r]) (by omega) ⟨gCT, by omega, by omega⟩ | (rw [one_l (by omega) (by omega) (by omega) (by omega)]; exact o4.map (fun s es h => ⟨h.1, h.2.1, by have h2 := h.2.2; have hl := lea_up es; omega⟩)) | (rw [one_l (by omega) (by omega) (by omega) (by omega)]; exact o5.map (fun s es h => ⟨h.1, h.2.1, by have h2 := h.2.2; have hl := lea_up es; omega⟩)), gWH⟩)
        by_cases c69 : (σ0 1 9).toInt = 30
        · refine lv_tableIn (off := 171) (tgt := 243) hx hb dX7_readOne_72 (by omega) (by omega) (by rw [c69]; rfl) (by decide) ?_
          refine lv_aload_n hx hb dX7_readOne_243 rfl (lv_at hl 1 rfl) ?_
          refine lv_iload_n hx hb dX7_readOne_244 rfl (lv_at hl 0 rfl) ?_
          refine r_cVi (k := 27) (As := [.int (σ0 1 9)]) (rest := []) ⟨hx, hb, hml, hown, hts⟩ hK hP hN hS (c_X7_readMeasure l D cA ad hI σ15 τ15 hR (σ0 1 9) b N mo _ (nn + 1) nm hc (tkq b N mo q) (by omega) (by omega) (by omega) (by omega) gCT gWH) (cwV 1 hts gX7_readOne_X7_readMeasure rfl rfl rfl (by decide +kernel) ⟨by decide, by decide⟩) (rv_SText hK hP (by decide) (by decide)) rfl hl.1 rfl (Nat.le_of_ble_eq_true rfl) dX7_readOne_245 (Nat.zero_le _) (Nat.zero_le _) (fun r70 u70 H70 locs70 hp70 hP hS => ?_)
          obtain ⟨σ70, τ70⟩ := u70
          obtain ⟨hR, f70, fL70, hq70, hp70_0, gnWH⟩ : P_X7_readMeasure σ15 τ15 (σ0 1 9) b N mo _ (nn + 1) nm hc (tkq b N mo q) r70 σ70 τ70 := hp70
          have o5 := hp70_0
          have hP : va_P D vwCl (gw cA ad σ70 τ70) H70 := hP
          have hFL := hFL.step fL70 (by decide)
          have gWH := gWH.agL (AgrL.fr fL70 (by decide))
          have hF := hF.step f70 (by decide)
          have gWH := gWH.ag (Agr.fr f70 (by decide))
          have t71 : (σ70 24 1).toInt = (σ15 24 1).toInt := congrArg Int32.toInt (f70.at 24 1 (by decide))
          have hr72 := rg_6_2 hR (k := 24) (by decide) (by decide)
          exact r_zret hx hb hr hK hP hS hk (by omega) dX7_readOne_248 (show P_X7_readOne_d2 σ0 τ0 a1 b N mo q nn nm hc r70 σ70 τ70 from ⟨hR, hF, hFL, by omega, by first | exact RO.ofr ((one_l (by omega) (by omega) (by omega) (by omega)).trans (lea_n (by omega) (by omega))) (by omega) ⟨gCT, by omega, by omega⟩ | (exfalso; omega) | exact RO.ofk (one_x (by omega)) (by omega) (by omega) (by omega) | exact RO.ofk (one_4 (by omega) (by omega)) (by omega) (by omega) (by omega) | (obtain ⟨f, e1, x1, x2⟩ := o1.no (by omega); exact RO.ofl ((one_n (by omega) (by omega)).trans e1) (by omega) x1 x2) | exact RO.ofr ((one_n (by omega) (by omega)).trans e1) (by omega) ⟨gCT, by omega, by omega⟩ | (obtain ⟨f, e2, x1, x2⟩ := o2.no (by omega); exact RO.ofl (by rw [one_o (by omega) (by omega), e2, bnd_l]) (by omega) x1 x2) | (obtain ⟨f, e3, x1, x2⟩ := o3.no (by omega); exact RO.ofl (by rw [one_o (by omega) (by omega), e2, bnd_r, e3, bnd_l]) (by omega) x1 x2) | exact RO.ofr (by rw [one_o (by omega) (by omega), e2, bnd_r, e3, bnd_r]) (by omega) ⟨gCT, by omega, by omega⟩ | (rw [one_l (by omega) (by omega) (by omega) (by omega)]; exact o4.map (fun s es h => ⟨h.1, h.2.1, by have h2 := h.2.2; have hl := lea_up es; omega⟩)) | (rw [one_l (by omega) (by omega) (by omega) (by omega)]; exact o5.map (fun s es h => ⟨h.1, h.2.1, by have h2 := h.2.2; have hl := lea_up es; omega⟩)), gWH⟩)
        by_cases c73 : (σ0 1 9).toInt = 31
        · refine lv_tableIn (off := 177) (tgt := 249) hx hb dX7_readOne_72 (by omega) (by omega) (by rw [c73]; rfl) (by decide) ?_
          refine lv_aload_n hx hb dX7_readOne_249 rfl (lv_at hl 1 rfl) ?_
          refine fg_7_2 (k := 27) hx hb hts in_X7_readOne_7 hown hK hP (by decide) (by decide) (hts _ lk_X7_readOne_19) dX7_readOne_250 ?_
          refine lv_iload_n hx hb dX7_readOne_253 rfl (lv_at hl 0 rfl) ?_
          refine r_bipush hx hb dX7_readOne_254 (by decide) (fun z74 ez74 => ?_)
          refine r_iconst hx hb dX7_readOne_256 (by decide) (fun z75 ez75 => ?_)
          refine r_cVi (k := 24) (As := [.int (σ0 1 9), .int z74, .int z75]) (rest := []) ⟨hx, hb, hml, hown, hts⟩ hK hP hN hS (c_X6_add l D cA ad hI σ15 τ15 hR (σ0 1 9) z74 z75 (by omega)) (cwV 3 hts gX7_readOne_X6_add rfl rfl rfl (by decide +kernel) ⟨by decide, by decide⟩) (rv_Sent hK hP (by decide) (by decide)) rfl hl.1 rfl (Nat.le_of_ble_eq_true rfl) dX7_readOne_257 (Nat.zero_le _) (Nat.zero_le _) (fun r76 u76 H76 locs76 hp76 hP hS => ?_)
          obtain ⟨σ76, τ76⟩ := u76
          obtain ⟨hR, f76, fL76, hq76, hp76_0⟩ : P_X6_add σ15 τ15 (σ0 1 9) z74 z75 r76 σ76 τ76 := hp76
          have hP : va_P D vwCl (gw cA ad σ76 τ76) H76 := hP
          obtain rfl := FrL.nil fL76
          have hF := hF.step f76 (by decide)
          have gCT := gCT.ag (Agr.fr f76 (by decide))
          have gWH := gWH.ag (Agr.fr f76 (by decide))
          have t77 : (σ76 24 1).toInt = (σ15 24 1).toInt := congrArg Int32.toInt (f76.at 24 1 (by decide))
          have hr78 := rg_6_2 hR (k := 24) (by decide) (by decide)
          exact r_zret hx hb hr hK hP hS hk (by omega) dX7_readOne_260 (show P_X7_readOne_d2 σ0 τ0 a1 b N mo q nn nm hc r76 σ76 τ15 from ⟨hR, hF, hFL, by omega, by first | exact RO.ofr ((one_l (by omega) (by omega) (by omega) (by omega)).trans (lea_n (by omega) (by omega))) (by omega) ⟨gCT, by omega, by omega⟩ | (exfalso; omega) | exact RO.ofk (one_x (by omega)) (by omega) (by omega) (by omega) | exact RO.ofk (one_4 (by omega) (by omega)) (by omega) (by omega) (by omega) | (obtain ⟨f, e1, x1, x2⟩ := o1.no (by omega); exact RO.ofl ((one_n (by omega) (by omega)).trans e1) (by omega) x1 x2) | exact RO.ofr ((one_n (by omega) (by omega)).trans e1) (by omega) ⟨gCT, by omega, by omega⟩ | (obtain ⟨f, e2, x1, x2⟩ := o2.no (by omega); exact RO.ofl (by rw [one_o (by omega) (by omega), e2, bnd_l]) (by omega) x1 x2) | (obtain ⟨f, e3, x1, x2⟩ := o3.no (by omega); exact RO.ofl (by rw [one_o (by omega) (by omega), e2, bnd_r, e3, bnd_l]) (by omega) x1 x2) | exact RO.ofr (by rw [one_o (by omega) (by omega), e2, bnd_r, e3, bnd_r]) (by omega) ⟨gCT, by omega, by omega⟩ | (rw [one_l (by omega) (by omega) (by omega) (by omega)]; exact o4.map (fun s es h => ⟨h.1, h.2.1, by have h2 := h.2.2; have hl := lea_up es; omega⟩)) | (rw [one_l (by omega) (by omega) (by omega) (by omega)]; exact o5.map (fun s es h => ⟨h.1, h.2.1, by have h2 := h.2.2; have hl := lea_up es; omega⟩)), gWH⟩)
        by_cases c79 : (σ0 1 9).toInt = 32
        · refine lv_tableIn (off := 177) (tgt := 249) hx hb dX7_readOne_72 (by omega) (by omega) (by rw [c79]; rfl) (by decide) ?_
          refine lv_aload_n hx hb dX7_readOne_249 rfl (lv_at hl 1 rfl) ?_
          refine fg_7_2 (k := 27) hx hb hts in_X7_readOne_7 hown hK hP (by decide) (by decide) (hts _ lk_X7_readOne_19) dX7_readOne_250 ?_
          refine lv_iload_n hx hb dX7_readOne_253 rfl (lv_at hl 0 rfl) ?_
          refine r_bipush hx hb dX7_readOne_254 (by decide) (fun z80 ez80 => ?_)
          refine r_iconst hx hb dX7_readOne_256 (by decide) (fun z81 ez81 => ?_)
          refine r_cVi (k := 24) (As := [.int (σ0 1 9), .int z80, .int z81]) (rest := []) ⟨hx, hb, hml, hown, hts⟩ hK hP hN hS (c_X6_add l D cA ad hI σ15 τ15 hR (σ0 1 9) z80 z81 (by omega)) (cwV 3 hts gX7_readOne_X6_add rfl rfl rfl (by decide +kernel) ⟨by decide, by decide⟩) (rv_Sent hK hP (by decide) (by decide)) rfl hl.1 rfl (Nat.le_of_ble_eq_true rfl) dX7_readOne_257 (Nat.zero_le _) (Nat.zero_le _) (fun r82 u82 H82 locs82 hp82 hP hS => ?_)
          obtain ⟨σ82, τ82⟩ := u82
          obtain ⟨hR, f82, fL82, hq82, hp82_0⟩ : P_X6_add σ15 τ15 (σ0 1 9) z80 z81 r82 σ82 τ82 := hp82
          have hP : va_P D vwCl (gw cA ad σ82 τ82) H82 := hP
          obtain rfl := FrL.nil fL82
          have hF := hF.step f82 (by decide)
          have gCT := gCT.ag (Agr.fr f82 (by decide))
          have gWH := gWH.ag (Agr.fr f82 (by decide))
          have t83 : (σ82 24 1).toInt = (σ15 24 1).toInt := congrArg Int32.toInt (f82.at 24 1 (by decide))
          have hr84 := rg_6_2 hR (k := 24) (by decide) (by decide)
          exact r_zret hx hb hr hK hP hS hk (by omega) dX7_readOne_260 (show P_X7_readOne_d2 σ0 τ0 a1 b N mo q nn nm hc r82 σ82 τ15 from ⟨hR, hF, hFL, by omega, by first | exact RO.ofr ((one_l (by omega) (by omega) (by omega) (by omega)).trans (lea_n (by omega) (by omega))) (by omega) ⟨gCT, by omega, by omega⟩ | (exfalso; omega) | exact RO.ofk (one_x (by omega)) (by omega) (by omega) (by omega) | exact RO.ofk (one_4 (by omega) (by omega)) (by omega) (by omega) (by omega) | (obtain ⟨f, e1, x1, x2⟩ := o1.no (by omega); exact RO.ofl ((one_n (by omega) (by omega)).trans e1) (by omega) x1 x2) | exact RO.ofr ((one_n (by omega) (by omega)).trans e1) (by omega) ⟨gCT, by omega, by omega⟩ | (obtain ⟨f, e2, x1, x2⟩ := o2.no (by omega); exact RO.ofl (by rw [one_o (by omega) (by omega), e2, bnd_l]) (by omega) x1 x2) | (obtain ⟨f, e3, x1, x2⟩ := o3.no (by omega); exact RO.ofl (by rw [one_o (by omega) (by omega), e2, bnd_r, e3, bnd_l]) (by omega) x1 x2) | exact RO.ofr (by rw [one_o (by omega) (by omega), e2, bnd_r, e3, bnd_r]) (by omega) ⟨gCT, by omega, by omega⟩ | (rw [one_l (by omega) (by omega) (by omega) (by omega)]; exact o4.map (fun s es h => ⟨h.1, h.2.1, by have h2 := h.2.2; have hl := lea_up es; omega⟩)) | (rw [one_l (by omega) (by omega) (by omega) (by omega)]; exact o5.map (fun s es h => ⟨h.1, h.2.1, by have h2 := h.2.2; have hl := lea_up es; omega⟩)), gWH⟩)
        by_cases c85 : (σ0 1 9).toInt = 33
        · refine lv_tableIn (off := 177) (tgt := 249) hx hb dX7_readOne_72 (by omega) (by omega) (by rw [c85]; rfl) (by decide) ?_
          refine lv_aload_n hx hb dX7_readOne_249 rfl (lv_at hl 1 rfl) ?_
          refine fg_7_2 (k := 27) hx hb hts in_X7_readOne_7 hown hK hP (by decide) (by decide) (hts _ lk_X7_readOne_19) dX7_readOne_250 ?_
          refine lv_iload_n hx hb dX7_readOne_253 rfl (lv_at hl 0 rfl) ?_
          refine r_bipush hx hb dX7_readOne_254 (by decide) (fun z86 ez86 => ?_)
          refine r_iconst hx hb dX7_readOne_256 (by decide) (fun z87 ez87 => ?_)
          refine r_cVi (k := 24) (As := [.int (σ0 1 9), .int z86, .int z87]) (rest := []) ⟨hx, hb, hml, hown, hts⟩ hK hP hN hS (c_X6_add l D cA ad hI σ15 τ15 hR (σ0 1 9) z86 z87 (by omega)) (cwV 3 hts gX7_readOne_X6_add rfl rfl rfl (by decide +kernel) ⟨by decide, by decide⟩) (rv_Sent hK hP (by decide) (by decide)) rfl hl.1 rfl (Nat.le_of_ble_eq_true rfl) dX7_readOne_257 (Nat.zero_le _) (Nat.zero_le _) (fun r88 u88 H88 locs88 hp88 hP hS => ?_)
          obtain ⟨σ88, τ88⟩ := u88
          obtain ⟨hR, f88, fL88, hq88, hp88_0⟩ : P_X6_add σ15 τ15 (σ0 1 9) z86 z87 r88 σ88 τ88 := hp88
          have hP : va_P D vwCl (gw cA ad σ88 τ88) H88 := hP
          obtain rfl := FrL.nil fL88
          have hF := hF.step f88 (by decide)
          have gCT := gCT.ag (Agr.fr f88 (by decide))
          have gWH := gWH.ag (Agr.fr f88 (by decide))
          have t89 : (σ88 24 1).toInt = (σ15 24 1).toInt := congrArg Int32.toInt (f88.at 24 1 (by decide))
          have hr90 := rg_6_2 hR (k := 24) (by decide) (by decide)
          exact r_zret hx hb hr hK hP hS hk (by omega) dX7_readOne_260 (show P_X7_readOne_d2 σ0 τ0 a1 b N mo q nn nm hc r88 σ88 τ15 from ⟨hR, hF, hFL, by omega, by first | exact RO.ofr ((one_l (by omega) (by omega) (by omega) (by omega)).trans (lea_n (by omega) (by omega))) (by omega) ⟨gCT, by omega, by omega⟩ | (exfalso; omega) | exact RO.ofk (one_x (by omega)) (by omega) (by omega) (by omega) | exact RO.ofk (one_4 (by omega) (by omega)) (by omega) (by omega) (by omega) | (obtain ⟨f, e1, x1, x2⟩ := o1.no (by omega); exact RO.ofl ((one_n (by omega) (by omega)).trans e1) (by omega) x1 x2) | exact RO.ofr ((one_n (by omega) (by omega)).trans e1) (by omega) ⟨gCT, by omega, by omega⟩ | (obtain ⟨f, e2, x1, x2⟩ := o2.no (by omega); exact RO.ofl (by rw [one_o (by omega) (by omega), e2, bnd_l]) (by omega) x1 x2) | (obtain ⟨f, e3, x1, x2⟩ := o3.no (by omega); exact RO.ofl (by rw [one_o (by omega) (by omega), e2, bnd_r, e3, bnd_l]) (by omega) x1 x2) | exact RO.ofr (by rw [one_o (by omega) (by omega), e2, bnd_r, e3, bnd_r]) (by omega) ⟨gCT, by omega, by omega⟩ | (rw [one_l (by omega) (by omega) (by omega) (by omega)]; exact o4.map (fun s es h => ⟨h.1, h.2.1, by have h2 := h.2.2; have hl := lea_up es; omega⟩)) | (rw [one_l (by omega) (by omega) (by omega) (by omega)]; exact o5.map (fun s es h => ⟨h.1, h.2.1, by have h2 := h.2.2; have hl := lea_up es; omega⟩)), gWH⟩)
        by_cases c91 : (σ0 1 9).toInt = 34
        · refine lv_tableIn (off := 177) (tgt := 249) hx hb dX7_readOne_72 (by omega) (by omega) (by rw [c91]; rfl) (by decide) ?_
          refine lv_aload_n hx hb dX7_readOne_249 rfl (lv_at hl 1 rfl) ?_
          refine fg_7_2 (k := 27) hx hb hts in_X7_readOne_7 hown hK hP (by decide) (by decide) (hts _ lk_X7_readOne_19) dX7_readOne_250 ?_
          refine lv_iload_n hx hb dX7_readOne_253 rfl (lv_at hl 0 rfl) ?_
          refine r_bipush hx hb dX7_readOne_254 (by decide) (fun z92 ez92 => ?_)
          refine r_iconst hx hb dX7_readOne_256 (by decide) (fun z93 ez93 => ?_)
          refine r_cVi (k := 24) (As := [.int (σ0 1 9), .int z92, .int z93]) (rest := []) ⟨hx, hb, hml, hown, hts⟩ hK hP hN hS (c_X6_add l D cA ad hI σ15 τ15 hR (σ0 1 9) z92 z93 (by omega)) (cwV 3 hts gX7_readOne_X6_add rfl rfl rfl (by decide +kernel) ⟨by decide, by decide⟩) (rv_Sent hK hP (by decide) (by decide)) rfl hl.1 rfl (Nat.le_of_ble_eq_true rfl) dX7_readOne_257 (Nat.zero_le _) (Nat.zero_le _) (fun r94 u94 H94 locs94 hp94 hP hS => ?_)
          obtain ⟨σ94, τ94⟩ := u94
          obtain ⟨hR, f94, fL94, hq94, hp94_0⟩ : P_X6_add σ15 τ15 (σ0 1 9) z92 z93 r94 σ94 τ94 := hp94
          have hP : va_P D vwCl (gw cA ad σ94 τ94) H94 := hP
          obtain rfl := FrL.nil fL94
          have hF := hF.step f94 (by decide)
          have gCT := gCT.ag (Agr.fr f94 (by decide))
          have gWH := gWH.ag (Agr.fr f94 (by decide))
          have t95 : (σ94 24 1).toInt = (σ15 24 1).toInt := congrArg Int32.toInt (f94.at 24 1 (by decide))
          have hr96 := rg_6_2 hR (k := 24) (by decide) (by decide)
          exact r_zret hx hb hr hK hP hS hk (by omega) dX7_readOne_260 (show P_X7_readOne_d2 σ0 τ0 a1 b N mo q nn nm hc r94 σ94 τ15 from ⟨hR, hF, hFL, by omega, by first | exact RO.ofr ((one_l (by omega) (by omega) (by omega) (by omega)).trans (lea_n (by omega) (by omega))) (by omega) ⟨gCT, by omega, by omega⟩ | (exfalso; omega) | exact RO.ofk (one_x (by omega)) (by omega) (by omega) (by omega) | exact RO.ofk (one_4 (by omega) (by omega)) (by omega) (by omega) (by omega) | (obtain ⟨f, e1, x1, x2⟩ := o1.no (by omega); exact RO.ofl ((one_n (by omega) (by omega)).trans e1) (by omega) x1 x2) | exact RO.ofr ((one_n (by omega) (by omega)).trans e1) (by omega) ⟨gCT, by omega, by omega⟩ | (obtain ⟨f, e2, x1, x2⟩ := o2.no (by omega); exact RO.ofl (by rw [one_o (by omega) (by omega), e2, bnd_l]) (by omega) x1 x2) | (obtain ⟨f, e3, x1, x2⟩ := o3.no (by omega); exact RO.ofl (by rw [one_o (by omega) (by omega), e2, bnd_r, e3, bnd_l]) (by omega) x1 x2) | exact RO.ofr (by rw [one_o (by omega) (by omega), e2, bnd_r, e3, bnd_r]) (by omega) ⟨gCT, by omega, by omega⟩ | (rw [one_l (by omega) (by omega) (by omega) (by omega)]; exact o4.map (fun s es h => ⟨h.1, h.2.1, by have h2 := h.2.2; have hl := lea_up es; omega⟩)) | (rw [one_l (by omega) (by omega) (by omega) (by omega)]; exact o5.map (fun s es h => ⟨h.1, h.2.1, by have h2 := h.2.2; have hl := lea_up es; omega⟩)), gWH⟩)
        by_cases c97 : (σ0 1 9).toInt = 35
        · refine lv_tableIn (off := 177) (tgt := 249) hx hb dX7_readOne_72 (by omega) (by omega) (by rw [c97]; rfl) (by decide) ?_
          refine lv_aload_n hx hb dX7_readOne_249 rfl (lv_at hl 1 rfl) ?_
          refine fg_7_2 (k := 27) hx hb hts in_X7_readOne_7 hown hK hP (by decide) (by decide) (hts _ lk_X7_readOne_19) dX7_readOne_250 ?_
          refine lv_iload_n hx hb dX7_readOne_253 rfl (lv_at hl 0 rfl) ?_
          refine r_bipush hx hb dX7_readOne_254 (by decide) (fun z98 ez98 => ?_)
          refine r_iconst hx hb dX7_readOne_256 (by decide) (fun z99 ez99 => ?_)
          refine r_cVi (k := 24) (As := [.int (σ0 1 9), .int z98, .int z99]) (rest := []) ⟨hx, hb, hml, hown, hts⟩ hK hP hN hS (c_X6_add l D cA ad hI σ15 τ15 hR (σ0 1 9) z98 z99 (by omega)) (cwV 3 hts gX7_readOne_X6_add rfl rfl rfl (by decide +kernel) ⟨by decide, by decide⟩) (rv_Sent hK hP (by decide) (by decide)) rfl hl.1 rfl (Nat.le_of_ble_eq_true rfl) dX7_readOne_257 (Nat.zero_le _) (Nat.zero_le _) (fun r100 u100 H100 locs100 hp100 hP hS => ?_)
          obtain ⟨σ100, τ100⟩ := u100
          obtain ⟨hR, f100, fL100, hq100, hp100_0⟩ : P_X6_add σ15 τ15 (σ0 1 9) z98 z99 r100 σ100 τ100 := hp100
          have hP : va_P D vwCl (gw cA ad σ100 τ100) H100 := hP
          obtain rfl := FrL.nil fL100
          have hF := hF.step f100 (by decide)
          have gCT := gCT.ag (Agr.fr f100 (by decide))
          have gWH := gWH.ag (Agr.fr f100 (by decide))
          have t101 : (σ100 24 1).toInt = (σ15 24 1).toInt := congrArg Int32.toInt (f100.at 24 1 (by decide))
          have hr102 := rg_6_2 hR (k := 24) (by decide) (by decide)
          exact r_zret hx hb hr hK hP hS hk (by omega) dX7_readOne_260 (show P_X7_readOne_d2 σ0 τ0 a1 b N mo q nn nm hc r100 σ100 τ15 from ⟨hR, hF, hFL, by omega, by first | exact RO.ofr ((one_l (by omega) (by omega) (by omega) (by omega)).trans (lea_n (by omega) (by omega))) (by omega) ⟨gCT, by omega, by omega⟩ | (exfalso; omega) | exact RO.ofk (one_x (by omega)) (by omega) (by omega) (by omega) | exact RO.ofk (one_4 (by omega) (by omega)) (by omega) (by omega) (by omega) | (obtain ⟨f, e1, x1, x2⟩ := o1.no (by omega); exact RO.ofl ((one_n (by omega) (by omega)).trans e1) (by omega) x1 x2) | exact RO.ofr ((one_n (by omega) (by omega)).trans e1) (by omega) ⟨gCT, by omega, by omega⟩ | (obtain ⟨f, e2, x1, x2⟩ := o2.no (by omega); exact RO.ofl (by rw [one_o (by omega) (by omega), e2, bnd_l]) (by omega) x1 x2) | (obtain ⟨f, e3, x1, x2⟩ := o3.no (by omega); exact RO.ofl (by rw [one_o (by omega) (by omega), e2, bnd_r, e3, bnd_l]) (by omega) x1 x2) | exact RO.ofr (by rw [one_o (by omega) (by omega), e2, bnd_r, e3, bnd_r]) (by omega) ⟨gCT, by omega, by omega⟩ | (rw [one_l (by omega) (by omega) (by omega) (by omega)]; exact o4.map (fun s es h => ⟨h.1, h.2.1, by have h2 := h.2.2; have hl := lea_up es; omega⟩)) | (rw [one_l (by omega) (by omega) (by omega) (by omega)]; exact o5.map (fun s es h => ⟨h.1, h.2.1, by have h2 := h.2.2; have hl := lea_up es; omega⟩)), gWH⟩)
        by_cases c103 : (σ0 1 9).toInt = 36
        · refine lv_tableIn (off := 177) (tgt := 249) hx hb dX7_readOne_72 (by omega) (by omega) (by rw [c103]; rfl) (by decide) ?_
          refine lv_aload_n hx hb dX7_readOne_249 rfl (lv_at hl 1 rfl) ?_
          refine fg_7_2 (k := 27) hx hb hts in_X7_readOne_7 hown hK hP (by decide) (by decide) (hts _ lk_X7_readOne_19) dX7_readOne_250 ?_
          refine lv_iload_n hx hb dX7_readOne_253 rfl (lv_at hl 0 rfl) ?_
          refine r_bipush hx hb dX7_readOne_254 (by decide) (fun z104 ez104 => ?_)
          refine r_iconst hx hb dX7_readOne_256 (by decide) (fun z105 ez105 => ?_)
          refine r_cVi (k := 24) (As := [.int (σ0 1 9), .int z104, .int z105]) (rest := []) ⟨hx, hb, hml, hown, hts⟩ hK hP hN hS (c_X6_add l D cA ad hI σ15 τ15 hR (σ0 1 9) z104 z105 (by omega)) (cwV 3 hts gX7_readOne_X6_add rfl rfl rfl (by decide +kernel) ⟨by decide, by decide⟩) (rv_Sent hK hP (by decide) (by decide)) rfl hl.1 rfl (Nat.le_of_ble_eq_true rfl) dX7_readOne_257 (Nat.zero_le _) (Nat.zero_le _) (fun r106 u106 H106 locs106 hp106 hP hS => ?_)
          obtain ⟨σ106, τ106⟩ := u106
          obtain ⟨hR, f106, fL106, hq106, hp106_0⟩ : P_X6_add σ15 τ15 (σ0 1 9) z104 z105 r106 σ106 τ106 := hp106
          have hP : va_P D vwCl (gw cA ad σ106 τ106) H106 := hP
          obtain rfl := FrL.nil fL106
          have hF := hF.step f106 (by decide)
          have gCT := gCT.ag (Agr.fr f106 (by decide))
          have gWH := gWH.ag (Agr.fr f106 (by decide))
          have t107 : (σ106 24 1).toInt = (σ15 24 1).toInt := congrArg Int32.toInt (f106.at 24 1 (by decide))
          have hr108 := rg_6_2 hR (k := 24) (by decide) (by decide)
          exact r_zret hx hb hr hK hP hS hk (by omega) dX7_readOne_260 (show P_X7_readOne_d2 σ0 τ0 a1 b N mo q nn nm hc r106 σ106 τ15 from ⟨hR, hF, hFL, by omega, by first | exact RO.ofr ((one_l (by omega) (by omega) (by omega) (by omega)).trans (lea_n (by omega) (by omega))) (by omega) ⟨gCT, by omega, by omega⟩ | (exfalso; omega) | exact RO.ofk (one_x (by omega)) (by omega) (by omega) (by omega) | exact RO.ofk (one_4 (by omega) (by omega)) (by omega) (by omega) (by omega) | (obtain ⟨f, e1, x1, x2⟩ := o1.no (by omega); exact RO.ofl ((one_n (by omega) (by omega)).trans e1) (by omega) x1 x2) | exact RO.ofr ((one_n (by omega) (by omega)).trans e1) (by omega) ⟨gCT, by omega, by omega⟩ | (obtain ⟨f, e2, x1, x2⟩ := o2.no (by omega); exact RO.ofl (by rw [one_o (by omega) (by omega), e2, bnd_l]) (by omega) x1 x2) | (obtain ⟨f, e3, x1, x2⟩ := o3.no (by omega); exact RO.ofl (by rw [one_o (by omega) (by omega), e2, bnd_r, e3, bnd_l]) (by omega) x1 x2) | exact RO.ofr (by rw [one_o (by omega) (by omega), e2, bnd_r, e3, bnd_r]) (by omega) ⟨gCT, by omega, by omega⟩ | (rw [one_l (by omega) (by omega) (by omega) (by omega)]; exact o4.map (fun s es h => ⟨h.1, h.2.1, by have h2 := h.2.2; have hl := lea_up es; omega⟩)) | (rw [one_l (by omega) (by omega) (by omega) (by omega)]; exact o5.map (fun s es h => ⟨h.1, h.2.1, by have h2 := h.2.2; have hl := lea_up es; omega⟩)), gWH⟩)
        by_cases c109 : (σ0 1 9).toInt = 37
        · refine lv_tableIn (off := 177) (tgt := 249) hx hb dX7_readOne_72 (by omega) (by omega) (by rw [c109]; rfl) (by decide) ?_
          refine lv_aload_n hx hb dX7_readOne_249 rfl (lv_at hl 1 rfl) ?_
          refine fg_7_2 (k := 27) hx hb hts in_X7_readOne_7 hown hK hP (by decide) (by decide) (hts _ lk_X7_readOne_19) dX7_readOne_250 ?_
          refine lv_iload_n hx hb dX7_readOne_253 rfl (lv_at hl 0 rfl) ?_
          refine r_bipush hx hb dX7_readOne_254 (by decide) (fun z110 ez110 => ?_)
          refine r_iconst hx hb dX7_readOne_256 (by decide) (fun z111 ez111 => ?_)
          refine r_cVi (k := 24) (As := [.int (σ0 1 9), .int z110, .int z111]) (rest := []) ⟨hx, hb, hml, hown, hts⟩ hK hP hN hS (c_X6_add l D cA ad hI σ15 τ15 hR (σ0 1 9) z110 z111 (by omega)) (cwV 3 hts gX7_readOne_X6_add rfl rfl rfl (by decide +kernel) ⟨by decide, by decide⟩) (rv_Sent hK hP (by decide) (by decide)) rfl hl.1 rfl (Nat.le_of_ble_eq_true rfl) dX7_readOne_257 (Nat.zero_le _) (Nat.zero_le _) (fun r112 u112 H112 locs112 hp112 hP hS => ?_)
          obtain ⟨σ112, τ112⟩ := u112
          obtain ⟨hR, f112, fL112, hq112, hp112_0⟩ : P_X6_add σ15 τ15 (σ0 1 9) z110 z111 r112 σ112 τ112 := hp112
          have hP : va_P D vwCl (gw cA ad σ112 τ112) H112 := hP
          obtain rfl := FrL.nil fL112
          have hF := hF.step f112 (by decide)
          have gCT := gCT.ag (Agr.fr f112 (by decide))
          have gWH := gWH.ag (Agr.fr f112 (by decide))
          have t113 : (σ112 24 1).toInt = (σ15 24 1).toInt := congrArg Int32.toInt (f112.at 24 1 (by decide))
          have hr114 := rg_6_2 hR (k := 24) (by decide) (by decide)
          exact r_zret hx hb hr hK hP hS hk (by omega) dX7_readOne_260 (show P_X7_readOne_d2 σ0 τ0 a1 b N mo q nn nm hc r112 σ112 τ15 from ⟨hR, hF, hFL, by omega, by first | exact RO.ofr ((one_l (by omega) (by omega) (by omega) (by omega)).trans (lea_n (by omega) (by omega))) (by omega) ⟨gCT, by omega, by omega⟩ | (exfalso; omega) | exact RO.ofk (one_x (by omega)) (by omega) (by omega) (by omega) | exact RO.ofk (one_4 (by omega) (by omega)) (by omega) (by omega) (by omega) | (obtain ⟨f, e1, x1, x2⟩ := o1.no (by omega); exact RO.ofl ((one_n (by omega) (by omega)).trans e1) (by omega) x1 x2) | exact RO.ofr ((one_n (by omega) (by omega)).trans e1) (by omega) ⟨gCT, by omega, by omega⟩ | (obtain ⟨f, e2, x1, x2⟩ := o2.no (by omega); exact RO.ofl (by rw [one_o (by omega) (by omega), e2, bnd_l]) (by omega) x1 x2) | (obtain ⟨f, e3, x1, x2⟩ := o3.no (by omega); exact RO.ofl (by rw [one_o (by omega) (by omega), e2, bnd_r, e3, bnd_l]) (by omega) x1 x2) | exact RO.ofr (by rw [one_o (by omega) (by omega), e2, bnd_r, e3, bnd_r]) (by omega) ⟨gCT, by omega, by omega⟩ | (rw [one_l (by omega) (by omega) (by omega) (by omega)]; exact o4.map (fun s es h => ⟨h.1, h.2.1, by have h2 := h.2.2; have hl := lea_up es; omega⟩)) | (rw [one_l (by omega) (by omega) (by omega) (by omega)]; exact o5.map (fun s es h => ⟨h.1, h.2.1, by have h2 := h.2.2; have hl := lea_up es; omega⟩)), gWH⟩)
        by_cases c115 : (σ0 1 9).toInt = 38
        · refine lv_tableIn (off := 177) (tgt := 249) hx hb dX7_readOne_72 (by omega) (by omega) (by rw [c115]; rfl) (by decide) ?_
          refine lv_aload_n hx hb dX7_readOne_249 rfl (lv_at hl 1 rfl) ?_
          refine fg_7_2 (k := 27) hx hb hts in_X7_readOne_7 hown hK hP (by decide) (by decide) (hts _ lk_X7_readOne_19) dX7_readOne_250 ?_
          refine lv_iload_n hx hb dX7_readOne_253 rfl (lv_at hl 0 rfl) ?_
          refine r_bipush hx hb dX7_readOne_254 (by decide) (fun z116 ez116 => ?_)
          refine r_iconst hx hb dX7_readOne_256 (by decide) (fun z117 ez117 => ?_)
          refine r_cVi (k := 24) (As := [.int (σ0 1 9), .int z116, .int z117]) (rest := []) ⟨hx, hb, hml, hown, hts⟩ hK hP hN hS (c_X6_add l D cA ad hI σ15 τ15 hR (σ0 1 9) z116 z117 (by omega)) (cwV 3 hts gX7_readOne_X6_add rfl rfl rfl (by decide +kernel) ⟨by decide, by decide⟩) (rv_Sent hK hP (by decide) (by decide)) rfl hl.1 rfl (Nat.le_of_ble_eq_true rfl) dX7_readOne_257 (Nat.zero_le _) (Nat.zero_le _) (fun r118 u118 H118 locs118 hp118 hP hS => ?_)
          obtain ⟨σ118, τ118⟩ := u118
          obtain ⟨hR, f118, fL118, hq118, hp118_0⟩ : P_X6_add σ15 τ15 (σ0 1 9) z116 z117 r118 σ118 τ118 := hp118
          have hP : va_P D vwCl (gw cA ad σ118 τ118) H118 := hP
          obtain rfl := FrL.nil fL118
          have hF := hF.step f118 (by decide)
          have gCT := gCT.ag (Agr.fr f118 (by decide))
          have gWH := gWH.ag (Agr.fr f118 (by decide))
          have t119 : (σ118 24 1).toInt = (σ15 24 1).toInt := congrArg Int32.toInt (f118.at 24 1 (by decide))
          have hr120 := rg_6_2 hR (k := 24) (by decide) (by decide)
          exact r_zret hx hb hr hK hP hS hk (by omega) dX7_readOne_260 (show P_X7_readOne_d2 σ0 τ0 a1 b N mo q nn nm hc r118 σ118 τ15 from ⟨hR, hF, hFL, by omega, by first | exact RO.ofr ((one_l (by omega) (by omega) (by omega) (by omega)).trans (lea_n (by omega) (by omega))) (by omega) ⟨gCT, by omega, by omega⟩ | (exfalso; omega) | exact RO.ofk (one_x (by omega)) (by omega) (by omega) (by omega) | exact RO.ofk (one_4 (by omega) (by omega)) (by omega) (by omega) (by omega) | (obtain ⟨f, e1, x1, x2⟩ := o1.no (by omega); exact RO.ofl ((one_n (by omega) (by omega)).trans e1) (by omega) x1 x2) | exact RO.ofr ((one_n (by omega) (by omega)).trans e1) (by omega) ⟨gCT, by omega, by omega⟩ | (obtain ⟨f, e2, x1, x2⟩ := o2.no (by omega); exact RO.ofl (by rw [one_o (by omega) (by omega), e2, bnd_l]) (by omega) x1 x2) | (obtain ⟨f, e3, x1, x2⟩ := o3.no (by omega); exact RO.ofl (by rw [one_o (by omega) (by omega), e2, bnd_r, e3, bnd_l]) (by omega) x1 x2) | exact RO.ofr (by rw [one_o (by omega) (by omega), e2, bnd_r, e3, bnd_r]) (by omega) ⟨gCT, by omega, by omega⟩ | (rw [one_l (by omega) (by omega) (by omega) (by omega)]; exact o4.map (fun s es h => ⟨h.1, h.2.1, by have h2 := h.2.2; have hl := lea_up es; omega⟩)) | (rw [one_l (by omega) (by omega) (by omega) (by omega)]; exact o5.map (fun s es h => ⟨h.1, h.2.1, by have h2 := h.2.2; have hl := lea_up es; omega⟩)), gWH⟩)
        by_cases c121 : (σ0 1 9).toInt = 39
        · refine lv_tableIn (off := 177) (tgt := 249) hx hb dX7_readOne_72 (by omega) (by omega) (by rw [c121]; rfl) (by decide) ?_
          refine lv_aload_n hx hb dX7_readOne_249 rfl (lv_at hl 1 rfl) ?_
          refine fg_7_2 (k := 27) hx hb hts in_X7_readOne_7 hown hK hP (by decide) (by decide) (hts _ lk_X7_readOne_19) dX7_readOne_250 ?_
          refine lv_iload_n hx hb dX7_readOne_253 rfl (lv_at hl 0 rfl) ?_
          refine r_bipush hx hb dX7_readOne_254 (by decide) (fun z122 ez122 => ?_)
          refine r_iconst hx hb dX7_readOne_256 (by decide) (fun z123 ez123 => ?_)
          refine r_cVi (k := 24) (As := [.int (σ0 1 9), .int z122, .int z123]) (rest := []) ⟨hx, hb, hml, hown, hts⟩ hK hP hN hS (c_X6_add l D cA ad hI σ15 τ15 hR (σ0 1 9) z122 z123 (by omega)) (cwV 3 hts gX7_readOne_X6_add rfl rfl rfl (by decide +kernel) ⟨by decide, by decide⟩) (rv_Sent hK hP (by decide) (by decide)) rfl hl.1 rfl (Nat.le_of_ble_eq_true rfl) dX7_readOne_257 (Nat.zero_le _) (Nat.zero_le _) (fun r124 u124 H124 locs124 hp124 hP hS => ?_)
          obtain ⟨σ124, τ124⟩ := u124
          obtain ⟨hR, f124, fL124, hq124, hp124_0⟩ : P_X6_add σ15 τ15 (σ0 1 9) z122 z123 r124 σ124 τ124 := hp124
          have hP : va_P D vwCl (gw cA ad σ124 τ124) H124 := hP
          obtain rfl := FrL.nil fL124
          have hF := hF.step f124 (by decide)
          have gCT := gCT.ag (Agr.fr f124 (by decide))
          have gWH := gWH.ag (Agr.fr f124 (by decide))
          have t125 : (σ124 24 1).toInt = (σ15 24 1).toInt := congrArg Int32.toInt (f124.at 24 1 (by decide))
          have hr126 := rg_6_2 hR (k := 24) (by decide) (by decide)
          exact r_zret hx hb hr hK hP hS hk (by omega) dX7_readOne_260 (show P_X7_readOne_d2 σ0 τ0 a1 b N mo q nn nm hc r124 σ124 τ15 from ⟨hR, hF, hFL, by omega, by first | exact RO.ofr ((one_l (by omega) (by omega) (by omega) (by omega)).trans (lea_n (by omega) (by omega))) (by omega) ⟨gCT, by omega, by omega⟩ | (exfalso; omega) | exact RO.ofk (one_x (by omega)) (by omega) (by omega) (by omega) | exact RO.ofk (one_4 (by omega) (by omega)) (by omega) (by omega) (by omega) | (obtain ⟨f, e1, x1, x2⟩ := o1.no (by omega); exact RO.ofl ((one_n (by omega) (by omega)).trans e1) (by omega) x1 x2) | exact RO.ofr ((one_n (by omega) (by omega)).trans e1) (by omega) ⟨gCT, by omega, by omega⟩ | (obtain ⟨f, e2, x1, x2⟩ := o2.no (by omega); exact RO.ofl (by rw [one_o (by omega) (by omega), e2, bnd_l]) (by omega) x1 x2) | (obtain ⟨f, e3, x1, x2⟩ := o3.no (by omega); exact RO.ofl (by rw [one_o (by omega) (by omega), e2, bnd_r, e3, bnd_l]) (by omega) x1 x2) | exact RO.ofr (by rw [one_o (by omega) (by omega), e2, bnd_r, e3, bnd_r]) (by omega) ⟨gCT, by omega, by omega⟩ | (rw [one_l (by omega) (by omega) (by omega) (by omega)]; exact o4.map (fun s es h => ⟨h.1, h.2.1, by have h2 := h.2.2; have hl := lea_up es; omega⟩)) | (rw [one_l (by omega) (by omega) (by omega) (by omega)]; exact o5.map (fun s es h => ⟨h.1, h.2.1, by have h2 := h.2.2; have hl := lea_up es; omega⟩)), gWH⟩)
        by_cases c127 : (σ0 1 9).toInt = 40
        · refine lv_tableIn (off := 177) (tgt := 249) hx hb dX7_readOne_72 (by omega) (by omega) (by rw [c127]; rfl) (by decide) ?_
          refine lv_aload_n hx hb dX7_readOne_249 rfl (lv_at hl 1 rfl) ?_
          refine fg_7_2 (k := 27) hx hb hts in_X7_readOne_7 hown hK hP (by decide) (by decide) (hts _ lk_X7_readOne_19) dX7_readOne_250 ?_
          refine lv_iload_n hx hb dX7_readOne_253 rfl (lv_at hl 0 rfl) ?_
          refine r_bipush hx hb dX7_readOne_254 (by decide) (fun z128 ez128 => ?_)
          refine r_iconst hx hb dX7_readOne_256 (by decide) (fun z129 ez129 => ?_)
          refine r_cVi (k := 24) (As := [.int (σ0 1 9), .int z128, .int z129]) (rest := []) ⟨hx, hb, hml, hown, hts⟩ hK hP hN hS (c_X6_add l D cA ad hI σ15 τ15 hR (σ0 1 9) z128 z129 (by omega)) (cwV 3 hts gX7_readOne_X6_add rfl rfl rfl (by decide +kernel) ⟨by decide, by decide⟩) (rv_Sent hK hP (by decide) (by decide)) rfl hl.1 rfl (Nat.le_of_ble_eq_true rfl) dX7_readOne_257 (Nat.zero_le _) (Nat.zero_le _) (fun r130 u130 H130 locs130 hp130 hP hS => ?_)
          obtain ⟨σ130, τ130⟩ := u130
          obtain ⟨hR, f130, fL130, hq130, hp130_0⟩ : P_X6_add σ15 τ15 (σ0 1 9) z128 z129 r130 σ130 τ130 := hp130
          have hP : va_P D vwCl (gw cA ad σ130 τ130) H130 := hP
          obtain rfl := FrL.nil fL130
          have hF := hF.step f130 (by decide)
          have gCT := gCT.ag (Agr.fr f130 (by decide))
          have gWH := gWH.ag (Agr.fr f130 (by decide))
          have t131 : (σ130 24 1).toInt = (σ15 24 1).toInt := congrArg Int32.toInt (f130.at 24 1 (by decide))
          have hr132 := rg_6_2 hR (k := 24) (by decide) (by decide)
          exact r_zret hx hb hr hK hP hS hk (by omega) dX7_readOne_260 (show P_X7_readOne_d2 σ0 τ0 a1 b N mo q nn nm hc r130 σ130 τ15 from ⟨hR, hF, hFL, by omega, by first | exact RO.ofr ((one_l (by omega) (by omega) (by omega) (by omega)).trans (lea_n (by omega) (by omega))) (by omega) ⟨gCT, by omega, by omega⟩ | (exfalso; omega) | exact RO.ofk (one_x (by omega)) (by omega) (by omega) (by omega) | exact RO.ofk (one_4 (by omega) (by omega)) (by omega) (by omega) (by omega) | (obtain ⟨f, e1, x1, x2⟩ := o1.no (by omega); exact RO.ofl ((one_n (by omega) (by omega)).trans e1) (by omega) x1 x2) | exact RO.ofr ((one_n (by omega) (by omega)).trans e1) (by omega) ⟨gCT, by omega, by omega⟩ | (obtain ⟨f, e2, x1, x2⟩ := o2.no (by omega); exact RO.ofl (by rw [one_o (by omega) (by omega), e2, bnd_l]) (by omega) x1 x2) | (obtain ⟨f, e3, x1, x2⟩ := o3.no (by omega); exact RO.ofl (by rw [one_o (by omega) (by omega), e2, bnd_r, e3, bnd_l]) (by omega) x1 x2) | exact RO.ofr (by rw [one_o (by omega) (by omega), e2, bnd_r, e3, bnd_r]) (by omega) ⟨gCT, by omega, by omega⟩ | (rw [one_l (by omega) (by omega) (by omega) (by omega)]; exact o4.map (fun s es h => ⟨h.1, h.2.1, by have h2 := h.2.2; have hl := lea_up es; omega⟩)) | (rw [one_l (by omega) (by omega) (by omega) (by omega)]; exact o5.map (fun s es h => ⟨h.1, h.2.1, by have h2 := h.2.2; have hl := lea_up es; omega⟩)), gWH⟩)
        by_cases c133 : (σ0 1 9).toInt = 41
        · refine lv_tableIn (off := 177) (tgt := 249) hx hb dX7_readOne_72 (by omega) (by omega) (by rw [c133]; rfl) (by decide) ?_
          refine lv_aload_n hx hb dX7_readOne_249 rfl (lv_at hl 1 rfl) ?_
          refine fg_7_2 (k := 27) hx hb hts in_X7_readOne_7 hown hK hP (by decide) (by decide) (hts _ lk_X7_readOne_19) dX7_readOne_250 ?_
          refine lv_iload_n hx hb dX7_readOne_253 rfl (lv_at hl 0 rfl) ?_
          refine r_bipush hx hb dX7_readOne_254 (by decide) (fun z134 ez134 => ?_)
          refine r_iconst hx hb dX7_readOne_256 (by decide) (fun z135 ez135 => ?_)
          refine r_cVi (k := 24) (As := [.int (σ0 1 9), .int z134, .int z135]) (rest := []) ⟨hx, hb, hml, hown, hts⟩ hK hP hN hS (c_X6_add l D cA ad hI σ15 τ15 hR (σ0 1 9) z134 z135 (by omega)) (cwV 3 hts gX7_readOne_X6_add rfl rfl rfl (by decide +kernel) ⟨by decide, by decide⟩) (rv_Sent hK hP (by decide) (by decide)) rfl hl.1 rfl (Nat.le_of_ble_eq_true rfl) dX7_readOne_257 (Nat.zero_le _) (Nat.zero_le _) (fun r136 u136 H136 locs136 hp136 hP hS => ?_)
          obtain ⟨σ136, τ136⟩ := u136
          obtain ⟨hR, f136, fL136, hq136, hp136_0⟩ : P_X6_add σ15 τ15 (σ0 1 9) z134 z135 r136 σ136 τ136 := hp136
          have hP : va_P D vwCl (gw cA ad σ136 τ136) H136 := hP
          obtain rfl := FrL.nil fL136
          have hF := hF.step f136 (by decide)
          have gCT := gCT.ag (Agr.fr f136 (by decide))
          have gWH := gWH.ag (Agr.fr f136 (by decide))
          have t137 : (σ136 24 1).toInt = (σ15 24 1).toInt := congrArg Int32.toInt (f136.at 24 1 (by decide))
          have hr138 := rg_6_2 hR (k := 24) (by decide) (by decide)
          exact r_zret hx hb hr hK hP hS hk (by omega) dX7_readOne_260 (show P_X7_readOne_d2 σ0 τ0 a1 b N mo q nn nm hc r136 σ136 τ15 from ⟨hR, hF, hFL, by omega, by first | exact RO.ofr ((one_l (by omega) (by omega) (by omega) (by omega)).trans (lea_n (by omega) (by omega))) (by omega) ⟨gCT, by omega, by omega⟩ | (exfalso; omega) | exact RO.ofk (one_x (by omega)) (by omega) (by omega) (by omega) | exact RO.ofk (one_4 (by omega) (by omega)) (by omega) (by omega) (by omega) | (obtain ⟨f, e1, x1, x2⟩ := o1.no (by omega); exact RO.ofl ((one_n (by omega) (by omega)).trans e1) (by omega) x1 x2) | exact RO.ofr ((one_n (by omega) (by omega)).trans e1) (by omega) ⟨gCT, by omega, by omega⟩ | (obtain ⟨f, e2, x1, x2⟩ := o2.no (by omega); exact RO.ofl (by rw [one_o (by omega) (by omega), e2, bnd_l]) (by omega) x1 x2) | (obtain ⟨f, e3, x1, x2⟩ := o3.no (by omega); exact RO.ofl (by rw [one_o (by omega) (by omega), e2, bnd_r, e3, bnd_l]) (by omega) x1 x2) | exact RO.ofr (by rw [one_o (by omega) (by omega), e2, bnd_r, e3, bnd_r]) (by omega) ⟨gCT, by omega, by omega⟩ | (rw [one_l (by omega) (by omega) (by omega) (by omega)]; exact o4.map (fun s es h => ⟨h.1, h.2.1, by have h2 := h.2.2; have hl := lea_up es; omega⟩)) | (rw [one_l (by omega) (by omega) (by omega) (by omega)]; exact o5.map (fun s es h => ⟨h.1, h.2.1, by have h2 := h.2.2; have hl := lea_up es; omega⟩)), gWH⟩)
        by_cases c139 : (σ0 1 9).toInt = 42
        · refine lv_tableIn (off := 177) (tgt := 249) hx hb dX7_readOne_72 (by omega) (by omega) (by rw [c139]; rfl) (by decide) ?_
          refine lv_aload_n hx hb dX7_readOne_249 rfl (lv_at hl 1 rfl) ?_
          refine fg_7_2 (k := 27) hx hb hts in_X7_readOne_7 hown hK hP (by decide) (by decide) (hts _ lk_X7_readOne_19) dX7_readOne_250 ?_
          refine lv_iload_n hx hb dX7_readOne_253 rfl (lv_at hl 0 rfl) ?_
          refine r_bipush hx hb dX7_readOne_254 (by decide) (fun z140 ez140 => ?_)
          refine r_iconst hx hb dX7_readOne_256 (by decide) (fun z141 ez141 => ?_)
          refine r_cVi (k := 24) (As := [.int (σ0 1 9), .int z140, .int z141]) (rest := []) ⟨hx, hb, hml, hown, hts⟩ hK hP hN hS (c_X6_add l D cA ad hI σ15 τ15 hR (σ0 1 9) z140 z141 (by omega)) (cwV 3 hts gX7_readOne_X6_add rfl rfl rfl (by decide +kernel) ⟨by decide, by decide⟩) (rv_Sent hK hP (by decide) (by decide)) rfl hl.1 rfl (Nat.le_of_ble_eq_true rfl) dX7_readOne_257 (Nat.zero_le _) (Nat.zero_le _) (fun r142 u142 H142 locs142 hp142 hP hS => ?_)
          obtain ⟨σ142, τ142⟩ := u142
          obtain ⟨hR, f142, fL142, hq142, hp142_0⟩ : P_X6_add σ15 τ15 (σ0 1 9) z140 z141 r142 σ142 τ142 := hp142
          have hP : va_P D vwCl (gw cA ad σ142 τ142) H142 := hP
          obtain rfl := FrL.nil fL142
          have hF := hF.step f142 (by decide)
          have gCT := gCT.ag (Agr.fr f142 (by decide))
          have gWH := gWH.ag (Agr.fr f142 (by decide))
          have t143 : (σ142 24 1).toInt = (σ15 24 1).toInt := congrArg Int32.toInt (f142.at 24 1 (by decide))
          have hr144 := rg_6_2 hR (k := 24) (by decide) (by decide)
          exact r_zret hx hb hr hK hP hS hk (by omega) dX7_readOne_260 (show P_X7_readOne_d2 σ0 τ0 a1 b N mo q nn nm hc r142 σ142 τ15 from ⟨hR, hF, hFL, by omega, by first | exact RO.ofr ((one_l (by omega) (by omega) (by omega) (by omega)).trans (lea_n (by omega) (by omega))) (by omega) ⟨gCT, by omega, by omega⟩ | (exfalso; omega) | exact RO.ofk (one_x (by omega)) (by omega) (by omega) (by omega) | exact RO.ofk (one_4 (by omega) (by omega)) (by omega) (by omega) (by omega) | (obtain ⟨f, e1, x1, x2⟩ := o1.no (by omega); exact RO.ofl ((one_n (by omega) (by omega)).trans e1) (by omega) x1 x2) | exact RO.ofr ((one_n (by omega) (by omega)).trans e1) (by omega) ⟨gCT, by omega, by omega⟩ | (obtain ⟨f, e2, x1, x2⟩ := o2.no (by omega); exact RO.ofl (by rw [one_o (by omega) (by omega), e2, bnd_l]) (by omega) x1 x2) | (obtain ⟨f, e3, x1, x2⟩ := o3.no (by omega); exact RO.ofl (by rw [one_o (by omega) (by omega), e2, bnd_r, e3, bnd_l]) (by omega) x1 x2) | exact RO.ofr (by rw [one_o (by omega) (by omega), e2, bnd_r, e3, bnd_r]) (by omega) ⟨gCT, by omega, by omega⟩ | (rw [one_l (by omega) (by omega) (by omega) (by omega)]; exact o4.map (fun s es h => ⟨h.1, h.2.1, by have h2 := h.2.2; have hl := lea_up es; omega⟩)) | (rw [one_l (by omega) (by omega) (by omega) (by omega)]; exact o5.map (fun s es h => ⟨h.1, h.2.1, by have h2 := h.2.2; have hl := lea_up es; omega⟩)), gWH⟩)
        by_cases c145 : (σ0 1 9).toInt = 43
        · refine lv_tableIn (off := 177) (tgt := 249) hx hb dX7_readOne_72 (by omega) (by omega) (by rw [c145]; rfl) (by decide) ?_
          refine lv_aload_n hx hb dX7_readOne_249 rfl (lv_at hl 1 rfl) ?_
          refine fg_7_2 (k := 27) hx hb hts in_X7_readOne_7 hown hK hP (by decide) (by decide) (hts _ lk_X7_readOne_19) dX7_readOne_250 ?_
          refine lv_iload_n hx hb dX7_readOne_253 rfl (lv_at hl 0 rfl) ?_
          refine r_bipush hx hb dX7_readOne_254 (by decide) (fun z146 ez146 => ?_)
          refine r_iconst hx hb dX7_readOne_256 (by decide) (fun z147 ez147 => ?_)
          refine r_cVi (k := 24) (As := [.int (σ0 1 9), .int z146, .int z147]) (rest := []) ⟨hx, hb, hml, hown, hts⟩ hK hP hN hS (c_X6_add l D cA ad hI σ15 τ15 hR (σ0 1 9) z146 z147 (by omega)) (cwV 3 hts gX7_readOne_X6_add rfl rfl rfl (by decide +kernel) ⟨by decide, by decide⟩) (rv_Sent hK hP (by decide) (by decide)) rfl hl.1 rfl (Nat.le_of_ble_eq_true rfl) dX7_readOne_257 (Nat.zero_le _) (Nat.zero_le _) (fun r148 u148 H148 locs148 hp148 hP hS => ?_)
          obtain ⟨σ148, τ148⟩ := u148
          obtain ⟨hR, f148, fL148, hq148, hp148_0⟩ : P_X6_add σ15 τ15 (σ0 1 9) z146 z147 r148 σ148 τ148 := hp148
          have hP : va_P D vwCl (gw cA ad σ148 τ148) H148 := hP
          obtain rfl := FrL.nil fL148
          have hF := hF.step f148 (by decide)
          have gCT := gCT.ag (Agr.fr f148 (by decide))
          have gWH := gWH.ag (Agr.fr f148 (by decide))
          have t149 : (σ148 24 1).toInt = (σ15 24 1).toInt := congrArg Int32.toInt (f148.at 24 1 (by decide))
          have hr150 := rg_6_2 hR (k := 24) (by decide) (by decide)
          exact r_zret hx hb hr hK hP hS hk (by omega) dX7_readOne_260 (show P_X7_readOne_d2 σ0 τ0 a1 b N mo q nn nm hc r148 σ148 τ15 from ⟨hR, hF, hFL, by omega, by first | exact RO.ofr ((one_l (by omega) (by omega) (by omega) (by omega)).trans (lea_n (by omega) (by omega))) (by omega) ⟨gCT, by omega, by omega⟩ | (exfalso; omega) | exact RO.ofk (one_x (by omega)) (by omega) (by omega) (by omega) | exact RO.ofk (one_4 (by omega) (by omega)) (by omega) (by omega) (by omega) | (obtain ⟨f, e1, x1, x2⟩ := o1.no (by omega); exact RO.ofl ((one_n (by omega) (by omega)).trans e1) (by omega) x1 x2) | exact RO.ofr ((one_n (by omega) (by omega)).trans e1) (by omega) ⟨gCT, by omega, by omega⟩ | (obtain ⟨f, e2, x1, x2⟩ := o2.no (by omega); exact RO.ofl (by rw [one_o (by omega) (by omega), e2, bnd_l]) (by omega) x1 x2) | (obtain ⟨f, e3, x1, x2⟩ := o3.no (by omega); exact RO.ofl (by rw [one_o (by omega) (by omega), e2, bnd_r, e3, bnd_l]) (by omega) x1 x2) | exact RO.ofr (by rw [one_o (by omega) (by omega), e2, bnd_r, e3, bnd_r]) (by omega) ⟨gCT, by omega, by omega⟩ | (rw [one_l (by omega) (by omega) (by omega) (by omega)]; exact o4.map (fun s es h => ⟨h.1, h.2.1, by have h2 := h.2.2; have hl := lea_up es; omega⟩)) | (rw [one_l (by omega) (by omega) (by omega) (by omega)]; exact o5.map (fun s es h => ⟨h.1, h.2.1, by have h2 := h.2.2; have hl := lea_up es; omega⟩)), gWH⟩)
        by_cases c151 : (σ0 1 9).toInt = 44
        · refine lv_tableIn (off := 138) (tgt := 210) hx hb dX7_readOne_72 (by omega) (by omega) (by rw [c151]; rfl) (by decide) ?_
          refine lv_aload_n hx hb dX7_readOne_210 rfl (lv_at hl 1 rfl) ?_
          refine lv_iload_n hx hb dX7_readOne_211 rfl (lv_at hl 2 rfl) ?_
          refine r_iconst hx hb dX7_readOne_212 (by decide) (fun z152 ez152 => ?_)
          refine r_iadd hx hb dX7_readOne_213 (by omega) (fun z153 ez153 => ?_)
          refine r_cVi (k := 27) (As := [.int z153]) (rest := []) ⟨hx, hb, hml, hown, hts⟩ hK hP hN hS (c_X7_readCond_d3 l D cA ad hI σ15 τ15 hR z153 b N mo _ (nn + 1) nm hc (by omega) (by omega) (by omega) (by omega) gCT gWH) (cwV 1 hts gX7_readOne_X7_readCond rfl rfl rfl (by decide +kernel) ⟨by decide, by decide⟩) (rv_SText hK hP (by decide) (by decide)) rfl hl.1 rfl (Nat.le_of_ble_eq_true rfl) dX7_readOne_214 (Nat.zero_le _) (Nat.zero_le _) (fun r154 u154 H154 locs154 hp154 hP hS => ?_)
          obtain ⟨σ154, τ154⟩ := u154
          obtain ⟨hR, f154, fL154, hq154, hp154_0, gnWH⟩ : P_X7_readCond_d3 σ15 τ15 z153 b N mo _ (nn + 1) nm hc r154 σ154 τ154 := hp154
          have o2 := hp154_0
          have hP : va_P D vwCl (gw cA ad σ154 τ154) H154 := hP
          have hFL := hFL.step fL154 (by decide)
          have gWH := gWH.agL (AgrL.fr fL154 (by decide))
          have hF := hF.step f154 (by decide)
          have gWH := gWH.ag (Agr.fr f154 (by decide))
          have hr155 := rg_6_1 hR (k := 24) (by decide) (by decide)
          have hr156 := rg_6_2 hR (k := 24) (by decide) (by decide)
          refine r_if_eq (tgt := 236) hx hb dX7_readOne_217 (by decide) (fun c157 => ?_) (fun c157 => ?_)
          · refine r_iconst hx hb dX7_readOne_236 (by decide) (fun z158 ez158 => ?_)
            exact r_zret hx hb hr hK hP hS hk (by omega) dX7_readOne_237 (show P_X7_readOne_d2 σ0 τ0 a1 b N mo q nn nm hc z158 σ154 τ154 from ⟨hR, hF, hFL, by omega, by first | exact RO.ofr ((one_l (by omega) (by omega) (by omega) (by omega)).trans (lea_n (by omega) (by omega))) (by omega) ⟨gCT, by omega, by omega⟩ | (exfalso; omega) | exact RO.ofk (one_x (by omega)) (by omega) (by omega) (by omega) | exact RO.ofk (one_4 (by omega) (by omega)) (by omega) (by omega) (by omega) | (obtain ⟨f, e1, x1, x2⟩ := o1.no (by omega); exact RO.ofl ((one_n (by omega) (by omega)).trans e1) (by omega) x1 x2) | exact RO.ofr ((one_n (by omega) (by omega)).trans e1) (by omega) ⟨gCT, by omega, by omega⟩ | (obtain ⟨f, e2, x1, x2⟩ := o2.no (by omega); exact RO.ofl (by rw [one_o (by omega) (by omega), e2, bnd_l]) (by omega) x1 x2) | (obtain ⟨f, e3, x1, x2⟩ := o3.no (by omega); exact RO.ofl (by rw [one_o (by omega) (by omega), e2, bnd_r, e3, bnd_l]) (by omega) x1 x2) | exact RO.ofr (by rw [one_o (by omega) (by omega), e2, bnd_r, e3, bnd_r]) (by omega) ⟨gCT, by omega, by omega⟩ | (rw [one_l (by omega) (by omega) (by omega) (by omega)]; exact o4.map (fun s es h => ⟨h.1, h.2.1, by have h2 := h.2.2; have hl := lea_up es; omega⟩)) | (rw [one_l (by omega) (by omega) (by omega) (by omega)]; exact o5.map (fun s es h => ⟨h.1, h.2.1, by have h2 := h.2.2; have hl := lea_up es; omega⟩)), gWH⟩)
          · obtain ⟨s2, e2, gCT, hs1, hs2⟩ := o2.ye (by omega)
            have hu2 := con_up (one_up _) _ _ _ e2
            refine lv_aload_n hx hb dX7_readOne_220 rfl (lv_at hl 1 rfl) ?_
            refine fg_7_0 (k := 27) hx hb hts in_X7_readOne_7 hown hK hP (by decide) (by decide) (hts _ lk_X7_readOne_9) dX7_readOne_221 ?_
            refine r_bipush hx hb dX7_readOne_224 (by decide) (fun z159 ez159 => ?_)
            refine r_cVi (k := 1) (As := [.int z159]) (rest := []) ⟨hx, hb, hml, hown, hts⟩ hK hP hN hS (c_X8_take_v l D cA ad hI σ154 τ154 hR z159 b N mo _ 45 (by omega) (by omega) gCT) (cwV 1 hts gX7_readOne_X8_take rfl rfl rfl (by decide +kernel) ⟨by decide, by decide⟩) (rv_Tape hK hP (by decide) (by decide)) rfl hl.1 rfl (Nat.le_of_ble_eq_true rfl) dX7_readOne_226 (Nat.zero_le _) (Nat.zero_le _) (fun r160 u160 H160 locs160 hp160 hP hS => ?_)
            obtain ⟨σ160, τ160⟩ := u160
            obtain ⟨hR, f160, fL160, hq160, hp160_0⟩ : P_X8_take_v σ154 τ154 z159 b N mo _ 45 r160 σ160 τ160 := hp160
            have o3 := hp160_0
            have hP : va_P D vwCl (gw cA ad σ160 τ160) H160 := hP
            have hFL := hFL.step fL160 (by decide)
            have gWH := gWH.agL (AgrL.fr fL160 (by decide))
            have hF := hF.step f160 (by decide)
            have gWH := gWH.ag (Agr.fr f160 (by decide))
            have t161 : (σ160 24 1).toInt = (σ154 24 1).toInt := congrArg Int32.toInt (f160.at 24 1 (by decide))
            have t162 : (σ160 24 2).toInt = (σ154 24 2).toInt := congrArg Int32.toInt (f160.at 24 2 (by decide))
            refine r_if_eq (tgt := 236) hx hb dX7_readOne_229 (by decide) (fun c163 => ?_) (fun c163 => ?_)
            · refine r_iconst hx hb dX7_readOne_236 (by decide) (fun z164 ez164 => ?_)
              exact r_zret hx hb hr hK hP hS hk (by omega) dX7_readOne_237 (show P_X7_readOne_d2 σ0 τ0 a1 b N mo q nn nm hc z164 σ160 τ160 from ⟨hR, hF, hFL, by omega, by first | exact RO.ofr ((one_l (by omega) (by omega) (by omega) (by omega)).trans (lea_n (by omega) (by omega))) (by omega) ⟨gCT, by omega, by omega⟩ | (exfalso; omega) | exact RO.ofk (one_x (by omega)) (by omega) (by omega) (by omega) | exact RO.ofk (one_4 (by omega) (by omega)) (by omega) (by omega) (by omega) | (obtain ⟨f, e1, x1, x2⟩ := o1.no (by omega); exact RO.ofl ((one_n (by omega) (by omega)).trans e1) (by omega) x1 x2) | exact RO.ofr ((one_n (by omega) (by omega)).trans e1) (by omega) ⟨gCT, by omega, by omega⟩ | (obtain ⟨f, e2, x1, x2⟩ := o2.no (by omega); exact RO.ofl (by rw [one_o (by omega) (by omega), e2, bnd_l]) (by omega) x1 x2) | (obtain ⟨f, e3, x1, x2⟩ := o3.no (by omega); exact RO.ofl (by rw [one_o (by omega) (by omega), e2, bnd_r, e3, bnd_l]) (by omega) x1 x2) | exact RO.ofr (by rw [one_o (by omega) (by omega), e2, bnd_r, e3, bnd_r]) (by omega) ⟨gCT, by omega, by omega⟩ | (rw [one_l (by omega) (by omega) (by omega) (by omega)]; exact o4.map (fun s es h => ⟨h.1, h.2.1, by have h2 := h.2.2; have hl := lea_up es; omega⟩)) | (rw [one_l (by omega) (by omega) (by omega) (by omega)]; exact o5.map (fun s es h => ⟨h.1, h.2.1, by have h2 := h.2.2; have hl := lea_up es; omega⟩)), gWH⟩)
            · obtain ⟨q3, e3, gCT⟩ := o3.ye (by omega)
              refine r_iconst hx hb dX7_readOne_232 (by decide) (fun z165 ez165 => ?_)
              refine lv_goto (tgt := 237) hx hb dX7_readOne_233 (by decide) ?_
              exact r_zret hx hb hr hK hP hS hk (by omega) dX7_readOne_237 (show P_X7_readOne_d2 σ0 τ0 a1 b N mo q nn nm hc z165 σ160 τ160 from ⟨hR, hF, hFL, by omega, by first | exact RO.ofr ((one_l (by omega) (by omega) (by omega) (by omega)).trans (lea_n (by omega) (by omega))) (by omega) ⟨gCT, by omega, by omega⟩ | (exfalso; omega) | exact RO.ofk (one_x (by omega)) (by omega) (by omega) (by omega) | exact RO.ofk (one_4 (by omega) (by omega)) (by omega) (by omega) (by omega) | (obtain ⟨f, e1, x1, x2⟩ := o1.no (by omega); exact RO.ofl ((one_n (by omega) (by omega)).trans e1) (by omega) x1 x2) | exact RO.ofr ((one_n (by omega) (by omega)).trans e1) (by omega) ⟨gCT, by omega, by omega⟩ | (obtain ⟨f, e2, x1, x2⟩ := o2.no (by omega); exact RO.ofl (by rw [one_o (by omega) (by omega), e2, bnd_l]) (by omega) x1 x2) | (obtain ⟨f, e3, x1, x2⟩ := o3.no (by omega); exact RO.ofl (by rw [one_o (by omega) (by omega), e2, bnd_r, e3, bnd_l]) (by omega) x1 x2) | exact RO.ofr (by rw [one_o (by omega) (by omega), e2, bnd_r, e3, bnd_r]) (by omega) ⟨gCT, by omega, by omega⟩ | (rw [one_l (by omega) (by omega) (by omega) (by omega)]; exact o4.map (fun s es h => ⟨h.1, h.2.1, by have h2 := h.2.2; have hl := lea_up es; omega⟩)) | (rw [one_l (by omega) (by omega) (by omega) (by omega)]; exact o5.map (fun s es h => ⟨h.1, h.2.1, by have h2 := h.2.2; have hl := lea_up es; omega⟩)), gWH⟩)
        refine lv_tableOut (tgt := 249) hx hb dX7_readOne_72 (by omega) (by decide) ?_
        refine lv_aload_n hx hb dX7_readOne_249 rfl (lv_at hl 1 rfl) ?_
        refine fg_7_2 (k := 27) hx hb hts in_X7_readOne_7 hown hK hP (by decide) (by decide) (hts _ lk_X7_readOne_19) dX7_readOne_250 ?_
        refine lv_iload_n hx hb dX7_readOne_253 rfl (lv_at hl 0 rfl) ?_
        refine r_bipush hx hb dX7_readOne_254 (by decide) (fun z166 ez166 => ?_)
        refine r_iconst hx hb dX7_readOne_256 (by decide) (fun z167 ez167 => ?_)
        refine r_cVi (k := 24) (As := [.int (σ0 1 9), .int z166, .int z167]) (rest := []) ⟨hx, hb, hml, hown, hts⟩ hK hP hN hS (c_X6_add l D cA ad hI σ15 τ15 hR (σ0 1 9) z166 z167 (by omega)) (cwV 3 hts gX7_readOne_X6_add rfl rfl rfl (by decide +kernel) ⟨by decide, by decide⟩) (rv_Sent hK hP (by decide) (by decide)) rfl hl.1 rfl (Nat.le_of_ble_eq_true rfl) dX7_readOne_257 (Nat.zero_le _) (Nat.zero_le _) (fun r168 u168 H168 locs168 hp168 hP hS => ?_)
        obtain ⟨σ168, τ168⟩ := u168
        obtain ⟨hR, f168, fL168, hq168, hp168_0⟩ : P_X6_add σ15 τ15 (σ0 1 9) z166 z167 r168 σ168 τ168 := hp168
        have hP : va_P D vwCl (gw cA ad σ168 τ168) H168 := hP
        obtain rfl := FrL.nil fL168
        have hF := hF.step f168 (by decide)
        have gCT := gCT.ag (Agr.fr f168 (by decide))
        have gWH := gWH.ag (Agr.fr f168 (by decide))
        have t169 : (σ168 24 1).toInt = (σ15 24 1).toInt := congrArg Int32.toInt (f168.at 24 1 (by decide))
        have hr170 := rg_6_2 hR (k := 24) (by decide) (by decide)
        exact r_zret hx hb hr hK hP hS hk (by omega) dX7_readOne_260 (show P_X7_readOne_d2 σ0 τ0 a1 b N mo q nn nm hc r168 σ168 τ15 from ⟨hR, hF, hFL, by omega, by first | exact RO.ofr ((one_l (by omega) (by omega) (by omega) (by omega)).trans (lea_n (by omega) (by omega))) (by omega) ⟨gCT, by omega, by omega⟩ | (exfalso; omega) | exact RO.ofk (one_x (by omega)) (by omega) (by omega) (by omega) | exact RO.ofk (one_4 (by omega) (by omega)) (by omega) (by omega) (by omega) | (obtain ⟨f, e1, x1, x2⟩ := o1.no (by omega); exact RO.ofl ((one_n (by omega) (by omega)).trans e1) (by omega) x1 x2) | exact RO.ofr ((one_n (by omega) (by omega)).trans e1) (by omega) ⟨gCT, by omega, by omega⟩ | (obtain ⟨f, e2, x1, x2⟩ := o2.no (by omega); exact RO.ofl (by rw [one_o (by omega) (by omega), e2, bnd_l]) (by omega) x1 x2) | (obtain ⟨f, e3, x1, x2⟩ := o3.no (by omega); exact RO.ofl (by rw [one_o (by omega) (by omega), e2, bnd_r, e3, bnd_l]) (by omega) x1 x2) | exact RO.ofr (by rw [one_o (by omega) (by omega), e2, bnd_r, e3, bnd_r]) (by omega) ⟨gCT, by omega, by omega⟩ | (rw [one_l (by omega) (by omega) (by omega) (by omega)]; exact o4.map (fun s es h => ⟨h.1, h.2.1, by have h2 := h.2.2; have hl := lea_up es; omega⟩)) | (rw [one_l (by omega) (by omega) (by omega) (by omega)]; exact o5.map (fun s es h => ⟨h.1, h.2.1, by have h2 := h.2.2; have hl := lea_up es; omega⟩)), gWH⟩)
      · exfalso; omega
  · refine lv_aload_n hx hb dX7_readOne_15 rfl (lv_at hl 1 rfl) ?_
    refine fg_7_0 (k := 27) hx hb hts in_X7_readOne_7 hown hK hP (by decide) (by decide) (hts _ lk_X7_readOne_9) dX7_readOne_16 ?_
    refine r_iconst hx hb dX7_readOne_19 (by decide) (fun z171 ez171 => ?_)
    refine r_cVi (k := 1) (As := [.int z171]) (rest := []) ⟨hx, hb, hml, hown, hts⟩ hK hP hN hS (c_X8_blame_v l D cA ad hI σ0 τ0 hR z171 _ _ _ _ (by omega) gCT) (cwV 1 hts gX7_readOne_X8_blame rfl rfl rfl (by decide +kernel) ⟨by decide, by decide⟩) (rv_Tape hK hP (by decide) (by decide)) rfl hl.1 rfl (Nat.le_of_ble_eq_true rfl) dX7_readOne_20 (Nat.zero_le _) (Nat.zero_le _) (fun r172 u172 H172 locs172 hp172 hP hS => ?_)
    obtain ⟨σ172, τ172⟩ := u172
    obtain ⟨hR, f172, fL172, hq172, hp172_0, hp172_1, hp172_2, gnCT⟩ : P_X8_blame_v σ0 τ0 z171 _ _ _ _ r172 σ172 τ172 := hp172
    have hP : va_P D vwCl (gw cA ad σ172 τ172) H172 := hP
    obtain rfl := FrL.nil fL172
    have hF := hF.step f172 (by decide)
    have gCT := gCT.ag (Agr.fr f172 (by decide))
    have gWH := gWH.ag (Agr.fr f172 (by decide))
    have t173 : (σ172 24 1).toInt = (σ0 24 1).toInt := congrArg Int32.toInt (f172.at 24 1 (by decide))
    have t174 : (σ172 24 2).toInt = (σ0 24 2).toInt := congrArg Int32.toInt (f172.at 24 2 (by decide))
    exact r_zret hx hb hr hK hP hS hk (by omega) dX7_readOne_23 (show P_X7_readOne_d2 σ0 τ0 a1 b N mo q nn nm hc r172 σ172 τ0 from ⟨hR, hF, hFL, by omega, by first | exact RO.ofr ((one_l (by omega) (by omega) (by omega) (by omega)).trans (lea_n (by omega) (by omega))) (by omega) ⟨gCT, by omega, by omega⟩ | (exfalso; omega) | exact RO.ofk (one_x (by omega)) (by omega) (by omega) (by omega) | exact RO.ofk (one_4 (by omega) (by omega)) (by omega) (by omega) (by omega) | (obtain ⟨f, e1, x1, x2⟩ := o1.no (by omega); exact RO.ofl ((one_n (by omega) (by omega)).trans e1) (by omega) x1 x2) | exact RO.ofr ((one_n (by omega) (by omega)).trans e1) (by omega) ⟨gCT, by omega, by omega⟩ | (obtain ⟨f, e2, x1, x2⟩ := o2.no (by omega); exact RO.ofl (by rw [one_o (by omega) (by omega), e2, bnd_l]) (by omega) x1 x2) | (obtain ⟨f, e3, x1, x2⟩ := o3.no (by omega); exact RO.ofl (by rw [one_o (by omega) (by omega), e2, bnd_r, e3, bnd_l]) (by omega) x1 x2) | exact RO.ofr (by rw [one_o (by omega) (by omega), e2, bnd_r, e3, bnd_r]) (by omega) ⟨gCT, by omega, by omega⟩ | (rw [one_l (by omega) (by omega) (by omega) (by omega)]; exact o4.map (fun s es h => ⟨h.1, h.2.1, by have h2 := h.2.2; have hl := lea_up es; omega⟩)) | (rw [one_l (by omega) (by omega) (by omega) (by omega)]; exact o5.map (fun s es h => ⟨h.1, h.2.1, by have h2 := h.2.2; have hl := lea_up es; omega⟩)), gWH⟩)
abbrev L_X7_readAll_d2 : List Rc := [(1, 1, 7, 10), (372, 372, 0, 39), (376, 376, 0, 39), (380, 380, 0, 39), (24, 24, 1, 2), (1, 1, 12, 14)]
abbrev LL_X7_readAll_d2 : List Rc := [(1, 1, 11, 11)]
def P_X7_readAll_d2 (σ0 : Nat → Nat → Int32) (τ0 : Nat → Nat → Int64) (a1 : Int32) (b : Nat → Int) (N : Nat) (mo : Nat) (q : Nat) (nn : Nat) (nm : Nat → Int) (hc : Nat) (r : Int32) (σ : Nat → Nat → Int32) (τ : Nat → Nat → Int64) : Prop := Rg σ ∧ Fr L_X7_readAll_d2 σ0 σ ∧ FrL LL_X7_readAll_d2 τ0 τ ∧ (0 ≤ r.toInt ∧ r.toInt ≤ 1) ∧ (RO r σ (allP b N mo (fun q nn => oneP b N mo nm hc 7 q nn) q nn) (fun s => CT σ τ b N mo s.1 ∧ (σ 24 1).toInt = (s.2 : Int) ∧ (σ 24 2).toInt + 2 * (nn : Int) + 1 ≤ (σ0 24 2).toInt + 2 * (s.2 : Int))) ∧ WH σ τ nm hc
def J_X7_readAll_d2_12 (p : Program) (l : Launch) (e : Env) (s : State) (m : MethodId) (args : Array Value) (below : List Frame) (meth : Method) (c : Code) (D : va_G) (cA : Nat → ClassId) (ad : Nat → Nat) (σ0 : Nat → Nat → Int32) (τ0 : Nat → Nat → Int64) (a1 : Int32) (b : Nat → Int) (N : Nat) (mo : Nat) (q : Nat) (nn : Nat) (nm : Nat → Int) (hc : Nat) (n : Nat) : Prop := ∀ (σ : Nat → Nat → Int32) (τ : Nat → Nat → Int64) (H : Heap) (locs : List Loc) (x2 : Int32) (fu : Nat) (q1 : Nat) (n1 : Nat) (ls : Array Slot), Rg σ → Fr L_X7_readAll_d2 σ0 σ → FrL LL_X7_readAll_d2 τ0 τ → va_P D vwCl (gw cA ad σ τ) H → va_S (AA ad) s.heap H locs → (0 ≤ x2.toInt ∧ x2.toInt ≤ 200) → (0 ≤ (σ 24 1).toInt ∧ (σ 24 1).toInt ≤ 20) → (0 ≤ (σ 24 2).toInt ∧ (σ 24 2).toInt ≤ 40) → (allP b N mo (fun q nn => oneP b N mo nm hc 7 q nn) q nn = lopP b N mo 21 (fun q nn => oneP b N mo nm hc 7 q nn) fu q1 n1) → ((σ 24 1).toInt = (n1 : Int)) → (0 ≤ (σ 24 2).toInt ∧ (σ 24 2).toInt + 2 * (nn : Int) + 1 ≤ (σ0 24 2).toInt + 2 * (n1 : Int)) → ((fu : Int) + x2.toInt = 200) → (n1 ≤ 20) → (CT σ τ b N mo q1) → (WH σ τ nm hc) → (CT σ τ b N mo q1) → lv_has ls 3 [(0, .ref (ad 27)), (1, .int a1), (2, .int x2)] → 2 * (200 - x2.toInt) + 1 < (n : Int) → W p l e ({ frames := 23, cells := 0, slots := 0, locals := 505 } : Room) s m args below meth c H locs 0 0 (MQ below (va_Qi (fun (r : Int32) (u : SS) => P_X7_readAll_d2 σ0 τ0 a1 b N mo q nn nm hc r u.1 u.2) (WB D cA ad) (AA ad)) args s 0 0 (AA ad)) (F0 m 12 ls [])
set_option maxHeartbeats 4000000 in
theorem B_X7_readAll_d2_12 (p : Program) (l : Launch) (e : Env) (s : State) (m : MethodId) (args : Array Value) (below : List Frame) (meth : Method) (c : Code) (D : va_G) (cA : Nat → ClassId) (ad : Nat → Nat) (σ0 : Nat → Nat → Int32) (τ0 : Nat → Nat → Int64) (a1 : Int32) (b : Nat → Int) (N : Nat) (mo : Nat) (q : Nat) (nn : Nat) (nm : Nat → Int) (hc : Nat) (n : Nat) (C : Cy p s m args meth c cX7_readAll 3 wsX7_readAll RX7 D cA ad (some .boolean)) (ha1 : 2 ≤ a1.toInt ∧ a1.toInt ≤ 2) (hpre0 : (σ0 24 1).toInt = (nn : Int)) (hpre1 : 0 ≤ (σ0 24 2).toInt ∧ (σ0 24 2).toInt ≤ 2 * (nn : Int)) (hpre2 : nn ≤ 20) (gCT0 : CT σ0 τ0 b N mo q) (gWH0 : WH σ0 τ0 nm hc) (K12 : J_X7_readAll_d2_12 p l e s m args below meth c D cA ad σ0 τ0 a1 b N mo q nn nm hc n) : J_X7_readAll_d2_12 p l e s m args below meth c D cA ad σ0 τ0 a1 b N mo q nn nm hc (n + 1) := by
  obtain ⟨hx, hb, hml, hown, hts, hK, hk, hr, hI, hN⟩ := C
  intro σ τ H locs x2 fu q1 n1 ls hR hF hFL hP hS hc0 hc1 hc2 iv ib2 ib3 ifu in20 gCT gWH gCT hl hm
  refine lv_iload_n hx hb dX7_readAll_12 rfl (lv_at hl 2 rfl) ?_
  refine r_sipush hx hb dX7_readAll_13 (by decide) (fun z1 ez1 => ?_)
  refine r_icmp_ge (tgt := 68) hx hb dX7_readAll_16 (by decide) (fun c2 => ?_) (fun c2 => ?_)
  · refine r_iconst hx hb dX7_readAll_68 (by decide) (fun z3 ez3 => ?_)
    exact r_zret hx hb hr hK hP hS hk (by omega) dX7_readAll_69 (show P_X7_readAll_d2 σ0 τ0 a1 b N mo q nn nm hc z3 σ τ from ⟨hR, hF, hFL, by omega, by first | (exfalso; omega) | (obtain ⟨f, e1, x1, x2⟩ := o1.no (by omega); exact RO.ofl (all_f e1) (by omega) x1 x2) | exact RO.ofr (by rw [iv, lop_e (by omega)]) (by omega) ⟨gCT, by omega, by omega⟩ | (obtain ⟨f, e2, x1, x2⟩ := o2.no (by omega); exact RO.ofl (by rw [iv, lop_f (f := (fun q nn => oneP b N mo nm hc 7 q nn)) (by omega) (by omega) e2]) (by omega) x1 x2) | (exfalso; omega), gWH⟩)
  · have htk := gCT.tk
    refine lv_aload_n hx hb dX7_readAll_19 rfl (lv_at hl 0 rfl) ?_
    refine fg_7_0 (k := 27) hx hb hts in_X7_readAll_7 hown hK hP (by decide) (by decide) (hts _ lk_X7_readAll_9) dX7_readAll_20 ?_
    refine fgN_8_9 (k := 1) hx hb hts in_X7_readAll_8 hown hK hP (by decide) (by decide) (hN.use nw_7_32) dX7_readAll_23 ?_
    refine r_bipush hx hb dX7_readAll_26 (by decide) (fun z4 ez4 => ?_)
    refine r_icmp_ne (tgt := 68) hx hb dX7_readAll_28 (by decide) (fun c5 => ?_) (fun c5 => ?_)
    · refine r_iconst hx hb dX7_readAll_68 (by decide) (fun z6 ez6 => ?_)
      exact r_zret hx hb hr hK hP hS hk (by omega) dX7_readAll_69 (show P_X7_readAll_d2 σ0 τ0 a1 b N mo q nn nm hc z6 σ τ from ⟨hR, hF, hFL, by omega, by first | (exfalso; omega) | (obtain ⟨f, e1, x1, x2⟩ := o1.no (by omega); exact RO.ofl (all_f e1) (by omega) x1 x2) | exact RO.ofr (by rw [iv, lop_e (by omega)]) (by omega) ⟨gCT, by omega, by omega⟩ | (obtain ⟨f, e2, x1, x2⟩ := o2.no (by omega); exact RO.ofl (by rw [iv, lop_f (f := (fun q nn => oneP b N mo nm hc 7 q nn)) (by omega) (by omega) e2]) (by omega) x1 x2) | (exfalso; omega), gWH⟩)
    · refine lv_aload_n hx hb dX7_readAll_31 rfl (lv_at hl 0 rfl) ?_
      refine fg_7_0 (k := 27) hx hb hts in_X7_readAll_7 hown hK hP (by decide) (by decide) (hts _ lk_X7_readAll_9) dX7_readAll_32 ?_
      refine r_cVv (k := 1) (As := []) (rest := []) ⟨hx, hb, hml, hown, hts⟩ hK hP hN hS (c_X8_next_v l D cA ad hI σ τ hR _ _ _ _ gCT) (cwV 0 hts gX7_readAll_X8_next rfl rfl rfl (by decide +kernel) ⟨by decide, by decide⟩) (rv_Tape hK hP (by decide) (by decide)) rfl hl.1 rfl (Nat.le_of_ble_eq_true rfl) dX7_readAll_35 (Nat.zero_le _) (Nat.zero_le _) (fun u7 H7 locs7 hp7 hP hS => ?_)
      obtain ⟨σ7, τ7⟩ := u7
      obtain ⟨hR, f7, fL7, hp7_0⟩ : P_X8_next_v σ τ _ _ _ _ σ7 τ7 := hp7
      have hP : va_P D vwCl (gw cA ad σ7 τ7) H7 := hP
      have hFL := hFL.step fL7 (by decide)
      have gWH := gWH.agL (AgrL.fr fL7 (by decide))
      have hF := hF.step f7 (by decide)
      have gWH := gWH.ag (Agr.fr f7 (by decide))
      have t8 : (σ7 24 1).toInt = (σ 24 1).toInt := congrArg Int32.toInt (f7.at 24 1 (by decide))
      have t9 : (σ7 24 2).toInt = (σ 24 2).toInt := congrArg Int32.toInt (f7.at 24 2 (by decide))
      have gCT := hp7_0
      refine lv_aload_n hx hb dX7_readAll_38 rfl (lv_at hl 0 rfl) ?_
      refine lv_iload_n hx hb dX7_readAll_39 rfl (lv_at hl 1 rfl) ?_
      refine r_cVi (k := 27) (As := [.int a1]) (rest := []) ⟨hx, hb, hml, hown, hts⟩ hK hP hN hS (c_X7_readOne_d2 l D cA ad hI σ7 τ7 hR a1 b N mo _ n1 nm hc (by omega) (by omega) (by omega) (by omega) gCT gWH) (cwV 1 hts gX7_readAll_X7_readOne rfl rfl rfl (by decide +kernel) ⟨by decide, by decide⟩) (rv_SText hK hP (by decide) (by decide)) rfl hl.1 rfl (Nat.le_of_ble_eq_true rfl) dX7_readAll_40 (Nat.zero_le _) (Nat.zero_le _) (fun r10 u10 H10 locs10 hp10 hP hS => ?_)
      obtain ⟨σ10, τ10⟩ := u10
      obtain ⟨hR, f10, fL10, hq10, hp10_0, gnWH⟩ : P_X7_readOne_d2 σ7 τ7 a1 b N mo _ n1 nm hc r10 σ10 τ10 := hp10
      have o2 := hp10_0
      have hP : va_P D vwCl (gw cA ad σ10 τ10) H10 := hP
      have hFL := hFL.step fL10 (by decide)
      have gWH := gWH.agL (AgrL.fr fL10 (by decide))
      have hF := hF.step f10 (by decide)
      have gWH := gWH.ag (Agr.fr f10 (by decide))
      have hr11 := rg_6_1 hR (k := 24) (by decide) (by decide)
      have hr12 := rg_6_2 hR (k := 24) (by decide) (by decide)
      refine r_if_eq (tgt := 60) hx hb dX7_readAll_43 (by decide) (fun c13 => ?_) (fun c13 => ?_)
      · refine r_iconst hx hb dX7_readAll_60 (by decide) (fun z14 ez14 => ?_)
        exact r_zret hx hb hr hK hP hS hk (by omega) dX7_readAll_61 (show P_X7_readAll_d2 σ0 τ0 a1 b N mo q nn nm hc z14 σ10 τ10 from ⟨hR, hF, hFL, by omega, by first | (exfalso; omega) | (obtain ⟨f, e1, x1, x2⟩ := o1.no (by omega); exact RO.ofl (all_f e1) (by omega) x1 x2) | exact RO.ofr (by rw [iv, lop_e (by omega)]) (by omega) ⟨gCT, by omega, by omega⟩ | (obtain ⟨f, e2, x1, x2⟩ := o2.no (by omega); exact RO.ofl (by rw [iv, lop_f (f := (fun q nn => oneP b N mo nm hc 7 q nn)) (by omega) (by omega) e2]) (by omega) x1 x2) | (exfalso; omega), gWH⟩)
      · obtain ⟨s2, e2, gCT, hs3, hs4⟩ := o2.ye (by omega)
        have hu2 := one_up _ _ _ _ e2
        refine lv_aload_n hx hb dX7_readAll_46 rfl (lv_at hl 0 rfl) ?_
        refine fg_7_2 (k := 27) hx hb hts in_X7_readAll_7 hown hK hP (by decide) (by decide) (hts _ lk_X7_readAll_19) dX7_readAll_47 ?_
        refine r_bipush hx hb dX7_readAll_50 (by decide) (fun z15 ez15 => ?_)
        refine r_iconst hx hb dX7_readAll_52 (by decide) (fun z16 ez16 => ?_)
        refine r_iconst hx hb dX7_readAll_53 (by decide) (fun z17 ez17 => ?_)
        refine r_cVi (k := 24) (As := [.int z15, .int z16, .int z17]) (rest := []) ⟨hx, hb, hml, hown, hts⟩ hK hP hN hS (c_X6_add l D cA ad hI σ10 τ10 hR z15 z16 z17 (by omega)) (cwV 3 hts gX7_readAll_X6_add rfl rfl rfl (by decide +kernel) ⟨by decide, by decide⟩) (rv_Sent hK hP (by decide) (by decide)) rfl hl.1 rfl (Nat.le_of_ble_eq_true rfl) dX7_readAll_54 (Nat.zero_le _) (Nat.zero_le _) (fun r18 u18 H18 locs18 hp18 hP hS => ?_)
        obtain ⟨σ18, τ18⟩ := u18
        obtain ⟨hR, f18, fL18, hq18, hp18_0⟩ : P_X6_add σ10 τ10 z15 z16 z17 r18 σ18 τ18 := hp18
        have hP : va_P D vwCl (gw cA ad σ18 τ18) H18 := hP
        obtain rfl := FrL.nil fL18
        have hF := hF.step f18 (by decide)
        have gCT := gCT.ag (Agr.fr f18 (by decide))
        have gWH := gWH.ag (Agr.fr f18 (by decide))
        have t19 : (σ18 24 1).toInt = (σ10 24 1).toInt := congrArg Int32.toInt (f18.at 24 1 (by decide))
        have hr20 := rg_6_2 hR (k := 24) (by decide) (by decide)
        refine r_if_ne (tgt := 62) hx hb dX7_readAll_57 (by decide) (fun c21 => ?_) (fun c21 => ?_)
        · refine r_iinc (k := 2) (lv1 := fun z22 => [(2, .int z22), (0, .ref (ad 27)), (1, .int a1)]) hx hb dX7_readAll_62 hl rfl (by decide) (fun _ => rfl) (by decide) (by omega) (fun z22 ls ez22 hl => ?_)
          refine lv_goto (tgt := 12) hx hb dX7_readAll_65 (by decide) ?_
          exact K12 σ18 τ10 H18 locs18 z22 (fu - 1) _ _ ls hR hF hFL hP hS (by omega) (by omega) (by omega) (by first | exact all_s e1 | rw [iv, lop_s (f := (fun q nn => oneP b N mo nm hc 7 q nn)) (by omega) (by omega) e2]) (by omega) (by omega) (by omega) (by omega) gCT gWH gCT (lv_sub hl [1, 2, 0] rfl) (by omega)
        · refine r_iconst hx hb dX7_readAll_60 (by decide) (fun z23 ez23 => ?_)
          exact r_zret hx hb hr hK hP hS hk (by omega) dX7_readAll_61 (show P_X7_readAll_d2 σ0 τ0 a1 b N mo q nn nm hc z23 σ18 τ10 from ⟨hR, hF, hFL, by omega, by first | (exfalso; omega) | (obtain ⟨f, e1, x1, x2⟩ := o1.no (by omega); exact RO.ofl (all_f e1) (by omega) x1 x2) | exact RO.ofr (by rw [iv, lop_e (by omega)]) (by omega) ⟨gCT, by omega, by omega⟩ | (obtain ⟨f, e2, x1, x2⟩ := o2.no (by omega); exact RO.ofl (by rw [iv, lop_f (f := (fun q nn => oneP b N mo nm hc 7 q nn)) (by omega) (by omega) e2]) (by omega) x1 x2) | (exfalso; omega), gWH⟩)
theorem A_X7_readAll_d2 (p : Program) (l : Launch) (e : Env) (s : State) (m : MethodId) (args : Array Value) (below : List Frame) (meth : Method) (c : Code) (D : va_G) (cA : Nat → ClassId) (ad : Nat → Nat) (σ0 : Nat → Nat → Int32) (τ0 : Nat → Nat → Int64) (a1 : Int32) (b : Nat → Int) (N : Nat) (mo : Nat) (q : Nat) (nn : Nat) (nm : Nat → Int) (hc : Nat) (C : Cy p s m args meth c cX7_readAll 3 wsX7_readAll RX7 D cA ad (some .boolean)) (ha1 : 2 ≤ a1.toInt ∧ a1.toInt ≤ 2) (hpre0 : (σ0 24 1).toInt = (nn : Int)) (hpre1 : 0 ≤ (σ0 24 2).toInt ∧ (σ0 24 2).toInt ≤ 2 * (nn : Int)) (hpre2 : nn ≤ 20) (gCT0 : CT σ0 τ0 b N mo q) (gWH0 : WH σ0 τ0 nm hc) : ∀ n : Nat, J_X7_readAll_d2_12 p l e s m args below meth c D cA ad σ0 τ0 a1 b N mo q nn nm hc n := by
  intro n
  induction n with
  | zero =>
    exact (by intro σ τ H locs x2 fu q1 n1 ls hR hF hFL hP hS hc0 hc1 hc2 iv ib2 ib3 ifu in20 gCT gWH gCT hl hm; exfalso; omega)
  | succ n ih =>
    exact B_X7_readAll_d2_12 p l e s m args below meth c D cA ad σ0 τ0 a1 b N mo q nn nm hc n C ha1 hpre0 hpre1 hpre2 gCT0 gWH0 ih
set_option maxHeartbeats 4000000 in
theorem c_X7_readAll_d2 (l : Launch) (D : va_G) (cA : Nat → ClassId) (ad : Nat → Nat) (hI : Inj ad) (σ0 : Nat → Nat → Int32) (τ0 : Nat → Nat → Int64) (hR : Rg σ0) (a1 : Int32) (b : Nat → Int) (N : Nat) (mo : Nat) (q : Nat) (nn : Nat) (nm : Nat → Int) (hc : Nat) (ha1 : 2 ≤ a1.toInt ∧ a1.toInt ≤ 2) (hpre0 : (σ0 24 1).toInt = (nn : Int)) (hpre1 : 0 ≤ (σ0 24 2).toInt ∧ (σ0 24 2).toInt ≤ 2 * (nn : Int)) (hpre2 : nn ≤ 20) (gCT0 : CT σ0 τ0 b N mo q) (gWH0 : WH σ0 τ0 nm hc) : Met l yX7_readAll wsX7_readAll ({ frames := 23, cells := 0, slots := 0, locals := 505 } : Room) (WQc D cA ad [.ref (ad 27), .int a1] σ0 τ0) (va_Qi (fun (r : Int32) (u : SS) => P_X7_readAll_d2 σ0 τ0 a1 b N mo q nn nm hc r u.1 u.2) (WB D cA ad) (AA ad)) 0 0 (AA ad) := by
  refine Met.ofW (cc := cX7_readAll) (maxL := 3) (ret := (some .boolean)) (by decide) rfl ?_
  intro p e s m args below meth c s₁ B hml hv
  obtain ⟨rfl, hP, hK, hN⟩ := hv
  have C : Cy p s m _ meth c cX7_readAll 3 wsX7_readAll RX7 D cA ad (some .boolean) := ⟨B.exec, B.bytes, hml, findClass_of_methodNamed B.named, atoms_spec (ws := wsX7_readAll) B.pre, hK, B.notSynchronized, B.returns, hI, hN⟩
  have hl := lv_entry ([.ref (ad 27), .int a1]) (n := 3) (Nat.le_of_ble_eq_true rfl)
  rw [lg_entry_eq]
  generalize (lg_sl ([.ref (ad 27), .int a1]) ++ List.replicate (3 - (lg_sl ([.ref (ad 27), .int a1])).length) Slot.unset).toArray = ls at hl ⊢
  have hl : lv_has ls 3 [(0, .ref (ad 27)), (1, .int a1)] := hl
  have hS : va_S (AA ad) s.heap s.heap [] := va_S.rf
  have hF : Fr L_X7_readAll_d2 σ0 σ0 := Fr.rf
  have hFL : FrL LL_X7_readAll_d2 τ0 τ0 := FrL.rf
  have gCT := gCT0
  have gWH := gWH0
  have hA := A_X7_readAll_d2 p l e s m _ below meth c D cA ad σ0 τ0 a1 b N mo q nn nm hc C ha1 hpre0 hpre1 hpre2 gCT0 gWH0 810
  have K12 := hA
  clear hA
  obtain ⟨hx, hb, _, hown, hts, _, hk, hr, _, _⟩ := C
  refine lv_aload_n hx hb dX7_readAll_0 rfl (lv_at hl 0 rfl) ?_
  refine lv_iload_n hx hb dX7_readAll_1 rfl (lv_at hl 1 rfl) ?_
  refine r_cVi (k := 27) (As := [.int a1]) (rest := []) ⟨hx, hb, hml, hown, hts⟩ hK hP hN hS (c_X7_readOne_d2 l D cA ad hI σ0 τ0 hR a1 b N mo q nn nm hc (by omega) (by omega) (by omega) (by omega) gCT gWH) (cwV 1 hts gX7_readAll_X7_readOne rfl rfl rfl (by decide +kernel) ⟨by decide, by decide⟩) (rv_SText hK hP (by decide) (by decide)) rfl hl.1 rfl (Nat.le_of_ble_eq_true rfl) dX7_readAll_2 (Nat.zero_le _) (Nat.zero_le _) (fun r1 u1 H1 locs1 hp1 hP hS => ?_)
  obtain ⟨σ1, τ1⟩ := u1
  obtain ⟨hR, f1, fL1, hq1, hp1_0, gnWH⟩ : P_X7_readOne_d2 σ0 τ0 a1 b N mo q nn nm hc r1 σ1 τ1 := hp1
  have o1 := hp1_0
  have hP : va_P D vwCl (gw cA ad σ1 τ1) H1 := hP
  have hFL := hFL.step fL1 (by decide)
  have gWH := gWH.agL (AgrL.fr fL1 (by decide))
  have hF := hF.step f1 (by decide)
  have gWH := gWH.ag (Agr.fr f1 (by decide))
  have hr2 := rg_6_1 hR (k := 24) (by decide) (by decide)
  have hr3 := rg_6_2 hR (k := 24) (by decide) (by decide)
  refine r_if_ne (tgt := 10) hx hb dX7_readAll_5 (by decide) (fun c4 => ?_) (fun c4 => ?_)
  · obtain ⟨s1, e1, gCT, hs1, hs2⟩ := o1.ye (by omega)
    have hu1 := one_up _ _ _ _ e1
    refine r_iconst hx hb dX7_readAll_10 (by decide) (fun z5 ez5 => ?_)
    refine lv_istore_n (lv' := [(2, .int z5), (0, .ref (ad 27)), (1, .int a1)]) hx hb dX7_readAll_11 rfl hl (by decide) rfl (fun ls hl => ?_)
    exact K12 σ1 τ1 H1 locs1 z5 200 _ _ ls hR hF hFL hP hS (by omega) (by omega) (by omega) (by first | exact all_s e1 | rw [iv, lop_s (f := (fun q nn => oneP b N mo nm hc 7 q nn)) (by omega) (by omega) e2]) (by omega) (by omega) (by omega) (by omega) gCT gWH gCT (lv_sub hl [1, 2, 0] rfl) (by omega)
  · refine r_iconst hx hb dX7_readAll_8 (by decide) (fun z6 ez6 => ?_)
    exact r_zret hx hb hr hK hP hS hk (by omega) dX7_readAll_9 (show P_X7_readAll_d2 σ0 τ0 a1 b N mo q nn nm hc z6 σ1 τ1 from ⟨hR, hF, hFL, by omega, by first | (exfalso; omega) | (obtain ⟨f, e1, x1, x2⟩ := o1.no (by omega); exact RO.ofl (all_f e1) (by omega) x1 x2) | exact RO.ofr (by rw [iv, lop_e (by omega)]) (by omega) ⟨gCT, by omega, by omega⟩ | (obtain ⟨f, e2, x1, x2⟩ := o2.no (by omega); exact RO.ofl (by rw [iv, lop_f (f := (fun q nn => oneP b N mo nm hc 7 q nn)) (by omega) (by omega) e2]) (by omega) x1 x2) | (exfalso; omega), gWH⟩)
abbrev L_X7_readCond_d2 : List Rc := [(1, 1, 7, 10), (372, 372, 0, 39), (376, 376, 0, 39), (380, 380, 0, 39), (24, 24, 1, 2), (1, 1, 12, 14)]
abbrev LL_X7_readCond_d2 : List Rc := [(1, 1, 11, 11)]
def P_X7_readCond_d2 (σ0 : Nat → Nat → Int32) (τ0 : Nat → Nat → Int64) (a1 : Int32) (b : Nat → Int) (N : Nat) (mo : Nat) (q : Nat) (nn : Nat) (nm : Nat → Int) (hc : Nat) (r : Int32) (σ : Nat → Nat → Int32) (τ : Nat → Nat → Int64) : Prop := Rg σ ∧ Fr L_X7_readCond_d2 σ0 σ ∧ FrL LL_X7_readCond_d2 τ0 τ ∧ (0 ≤ r.toInt ∧ r.toInt ≤ 1) ∧ (RO r σ (conP b N mo (fun q nn => oneP b N mo nm hc 7 q nn) q nn) (fun s => CT σ τ b N mo s.1 ∧ (σ 24 1).toInt = (s.2 : Int) ∧ (σ 24 2).toInt + 2 * (nn : Int) + 1 ≤ (σ0 24 2).toInt + 2 * (s.2 : Int))) ∧ WH σ τ nm hc
def J_X7_readCond_d2_12 (p : Program) (l : Launch) (e : Env) (s : State) (m : MethodId) (args : Array Value) (below : List Frame) (meth : Method) (c : Code) (D : va_G) (cA : Nat → ClassId) (ad : Nat → Nat) (σ0 : Nat → Nat → Int32) (τ0 : Nat → Nat → Int64) (a1 : Int32) (b : Nat → Int) (N : Nat) (mo : Nat) (q : Nat) (nn : Nat) (nm : Nat → Int) (hc : Nat) (n : Nat) : Prop := ∀ (σ : Nat → Nat → Int32) (τ : Nat → Nat → Int64) (H : Heap) (locs : List Loc) (x2 : Int32) (fu : Nat) (q1 : Nat) (n1 : Nat) (ls : Array Slot), Rg σ → Fr L_X7_readCond_d2 σ0 σ → FrL LL_X7_readCond_d2 τ0 τ → va_P D vwCl (gw cA ad σ τ) H → va_S (AA ad) s.heap H locs → (0 ≤ x2.toInt ∧ x2.toInt ≤ 200) → (0 ≤ (σ 24 1).toInt ∧ (σ 24 1).toInt ≤ 20) → (0 ≤ (σ 24 2).toInt ∧ (σ 24 2).toInt ≤ 40) → (conP b N mo (fun q nn => oneP b N mo nm hc 7 q nn) q nn = lopP b N mo 20 (allP b N mo (fun q nn => oneP b N mo nm hc 7 q nn)) fu q1 n1) → ((σ 24 1).toInt = (n1 : Int)) → (0 ≤ (σ 24 2).toInt ∧ (σ 24 2).toInt + 2 * (nn : Int) + 1 ≤ (σ0 24 2).toInt + 2 * (n1 : Int)) → ((fu : Int) + x2.toInt = 200) → (n1 ≤ 20) → (CT σ τ b N mo q1) → (WH σ τ nm hc) → (CT σ τ b N mo q1) → lv_has ls 3 [(0, .ref (ad 27)), (1, .int a1), (2, .int x2)] → 2 * (200 - x2.toInt) + 1 < (n : Int) → W p l e ({ frames := 24, cells := 0, slots := 0, locals := 527 } : Room) s m args below meth c H locs 0 0 (MQ below (va_Qi (fun (r : Int32) (u : SS) => P_X7_readCond_d2 σ0 τ0 a1 b N mo q nn nm hc r u.1 u.2) (WB D cA ad) (AA ad)) args s 0 0 (AA ad)) (F0 m 12 ls [])
set_option maxHeartbeats 4000000 in
theorem B_X7_readCond_d2_12 (p : Program) (l : Launch) (e : Env) (s : State) (m : MethodId) (args : Array Value) (below : List Frame) (meth : Method) (c : Code) (D : va_G) (cA : Nat → ClassId) (ad : Nat → Nat) (σ0 : Nat → Nat → Int32) (τ0 : Nat → Nat → Int64) (a1 : Int32) (b : Nat → Int) (N : Nat) (mo : Nat) (q : Nat) (nn : Nat) (nm : Nat → Int) (hc : Nat) (n : Nat) (C : Cy p s m args meth c cX7_readCond 3 wsX7_readCond RX7 D cA ad (some .boolean)) (ha1 : 2 ≤ a1.toInt ∧ a1.toInt ≤ 2) (hpre0 : (σ0 24 1).toInt = (nn : Int)) (hpre1 : 0 ≤ (σ0 24 2).toInt ∧ (σ0 24 2).toInt ≤ 2 * (nn : Int)) (hpre2 : nn ≤ 20) (gCT0 : CT σ0 τ0 b N mo q) (gWH0 : WH σ0 τ0 nm hc) (K12 : J_X7_readCond_d2_12 p l e s m args below meth c D cA ad σ0 τ0 a1 b N mo q nn nm hc n) : J_X7_readCond_d2_12 p l e s m args below meth c D cA ad σ0 τ0 a1 b N mo q nn nm hc (n + 1) := by
  obtain ⟨hx, hb, hml, hown, hts, hK, hk, hr, hI, hN⟩ := C
  intro σ τ H locs x2 fu q1 n1 ls hR hF hFL hP hS hc0 hc1 hc2 iv ib2 ib3 ifu in20 gCT gWH gCT hl hm
  refine lv_iload_n hx hb dX7_readCond_12 rfl (lv_at hl 2 rfl) ?_
  refine r_sipush hx hb dX7_readCond_13 (by decide) (fun z1 ez1 => ?_)
  refine r_icmp_ge (tgt := 68) hx hb dX7_readCond_16 (by decide) (fun c2 => ?_) (fun c2 => ?_)
  · refine r_iconst hx hb dX7_readCond_68 (by decide) (fun z3 ez3 => ?_)
    exact r_zret hx hb hr hK hP hS hk (by omega) dX7_readCond_69 (show P_X7_readCond_d2 σ0 τ0 a1 b N mo q nn nm hc z3 σ τ from ⟨hR, hF, hFL, by omega, by first | (exfalso; omega) | (obtain ⟨f, e1, x1, x2⟩ := o1.no (by omega); exact RO.ofl (con_f e1) (by omega) x1 x2) | exact RO.ofr (by rw [iv, lop_e (by omega)]) (by omega) ⟨gCT, by omega, by omega⟩ | (obtain ⟨f, e2, x1, x2⟩ := o2.no (by omega); exact RO.ofl (by rw [iv, lop_f (f := (allP b N mo (fun q nn => oneP b N mo nm hc 7 q nn))) (by omega) (by omega) e2]) (by omega) x1 x2) | (exfalso; omega), gWH⟩)
  · have htk := gCT.tk
    refine lv_aload_n hx hb dX7_readCond_19 rfl (lv_at hl 0 rfl) ?_
    refine fg_7_0 (k := 27) hx hb hts in_X7_readCond_7 hown hK hP (by decide) (by decide) (hts _ lk_X7_readCond_9) dX7_readCond_20 ?_
    refine fgN_8_9 (k := 1) hx hb hts in_X7_readCond_8 hown hK hP (by decide) (by decide) (hN.use nw_7_32) dX7_readCond_23 ?_
    refine r_bipush hx hb dX7_readCond_26 (by decide) (fun z4 ez4 => ?_)
    refine r_icmp_ne (tgt := 68) hx hb dX7_readCond_28 (by decide) (fun c5 => ?_) (fun c5 => ?_)
    · refine r_iconst hx hb dX7_readCond_68 (by decide) (fun z6 ez6 => ?_)
      exact r_zret hx hb hr hK hP hS hk (by omega) dX7_readCond_69 (show P_X7_readCond_d2 σ0 τ0 a1 b N mo q nn nm hc z6 σ τ from ⟨hR, hF, hFL, by omega, by first | (exfalso; omega) | (obtain ⟨f, e1, x1, x2⟩ := o1.no (by omega); exact RO.ofl (con_f e1) (by omega) x1 x2) | exact RO.ofr (by rw [iv, lop_e (by omega)]) (by omega) ⟨gCT, by omega, by omega⟩ | (obtain ⟨f, e2, x1, x2⟩ := o2.no (by omega); exact RO.ofl (by rw [iv, lop_f (f := (allP b N mo (fun q nn => oneP b N mo nm hc 7 q nn))) (by omega) (by omega) e2]) (by omega) x1 x2) | (exfalso; omega), gWH⟩)
    · refine lv_aload_n hx hb dX7_readCond_31 rfl (lv_at hl 0 rfl) ?_
      refine fg_7_0 (k := 27) hx hb hts in_X7_readCond_7 hown hK hP (by decide) (by decide) (hts _ lk_X7_readCond_9) dX7_readCond_32 ?_
      refine r_cVv (k := 1) (As := []) (rest := []) ⟨hx, hb, hml, hown, hts⟩ hK hP hN hS (c_X8_next_v l D cA ad hI σ τ hR _ _ _ _ gCT) (cwV 0 hts gX7_readCond_X8_next rfl rfl rfl (by decide +kernel) ⟨by decide, by decide⟩) (rv_Tape hK hP (by decide) (by decide)) rfl hl.1 rfl (Nat.le_of_ble_eq_true rfl) dX7_readCond_35 (Nat.zero_le _) (Nat.zero_le _) (fun u7 H7 locs7 hp7 hP hS => ?_)
      obtain ⟨σ7, τ7⟩ := u7
      obtain ⟨hR, f7, fL7, hp7_0⟩ : P_X8_next_v σ τ _ _ _ _ σ7 τ7 := hp7
      have hP : va_P D vwCl (gw cA ad σ7 τ7) H7 := hP
      have hFL := hFL.step fL7 (by decide)
      have gWH := gWH.agL (AgrL.fr fL7 (by decide))
      have hF := hF.step f7 (by decide)
      have gWH := gWH.ag (Agr.fr f7 (by decide))
      have t8 : (σ7 24 1).toInt = (σ 24 1).toInt := congrArg Int32.toInt (f7.at 24 1 (by decide))
      have t9 : (σ7 24 2).toInt = (σ 24 2).toInt := congrArg Int32.toInt (f7.at 24 2 (by decide))
      have gCT := hp7_0
      refine lv_aload_n hx hb dX7_readCond_38 rfl (lv_at hl 0 rfl) ?_
      refine lv_iload_n hx hb dX7_readCond_39 rfl (lv_at hl 1 rfl) ?_
      refine r_cVi (k := 27) (As := [.int a1]) (rest := []) ⟨hx, hb, hml, hown, hts⟩ hK hP hN hS (c_X7_readAll_d2 l D cA ad hI σ7 τ7 hR a1 b N mo _ n1 nm hc (by omega) (by omega) (by omega) (by omega) gCT gWH) (cwV 1 hts gX7_readCond_X7_readAll rfl rfl rfl (by decide +kernel) ⟨by decide, by decide⟩) (rv_SText hK hP (by decide) (by decide)) rfl hl.1 rfl (Nat.le_of_ble_eq_true rfl) dX7_readCond_40 (Nat.zero_le _) (Nat.zero_le _) (fun r10 u10 H10 locs10 hp10 hP hS => ?_)
      obtain ⟨σ10, τ10⟩ := u10
      obtain ⟨hR, f10, fL10, hq10, hp10_0, gnWH⟩ : P_X7_readAll_d2 σ7 τ7 a1 b N mo _ n1 nm hc r10 σ10 τ10 := hp10
      have o2 := hp10_0
      have hP : va_P D vwCl (gw cA ad σ10 τ10) H10 := hP
      have hFL := hFL.step fL10 (by decide)
      have gWH := gWH.agL (AgrL.fr fL10 (by decide))
      have hF := hF.step f10 (by decide)
      have gWH := gWH.ag (Agr.fr f10 (by decide))
      have hr11 := rg_6_1 hR (k := 24) (by decide) (by decide)
      have hr12 := rg_6_2 hR (k := 24) (by decide) (by decide)
      refine r_if_eq (tgt := 60) hx hb dX7_readCond_43 (by decide) (fun c13 => ?_) (fun c13 => ?_)
      · refine r_iconst hx hb dX7_readCond_60 (by decide) (fun z14 ez14 => ?_)
        exact r_zret hx hb hr hK hP hS hk (by omega) dX7_readCond_61 (show P_X7_readCond_d2 σ0 τ0 a1 b N mo q nn nm hc z14 σ10 τ10 from ⟨hR, hF, hFL, by omega, by first | (exfalso; omega) | (obtain ⟨f, e1, x1, x2⟩ := o1.no (by omega); exact RO.ofl (con_f e1) (by omega) x1 x2) | exact RO.ofr (by rw [iv, lop_e (by omega)]) (by omega) ⟨gCT, by omega, by omega⟩ | (obtain ⟨f, e2, x1, x2⟩ := o2.no (by omega); exact RO.ofl (by rw [iv, lop_f (f := (allP b N mo (fun q nn => oneP b N mo nm hc 7 q nn))) (by omega) (by omega) e2]) (by omega) x1 x2) | (exfalso; omega), gWH⟩)
      · obtain ⟨s2, e2, gCT, hs3, hs4⟩ := o2.ye (by omega)
        have hu2 := all_up (one_up _) _ _ _ e2
        refine lv_aload_n hx hb dX7_readCond_46 rfl (lv_at hl 0 rfl) ?_
        refine fg_7_2 (k := 27) hx hb hts in_X7_readCond_7 hown hK hP (by decide) (by decide) (hts _ lk_X7_readCond_19) dX7_readCond_47 ?_
        refine r_bipush hx hb dX7_readCond_50 (by decide) (fun z15 ez15 => ?_)
        refine r_iconst hx hb dX7_readCond_52 (by decide) (fun z16 ez16 => ?_)
        refine r_iconst hx hb dX7_readCond_53 (by decide) (fun z17 ez17 => ?_)
        refine r_cVi (k := 24) (As := [.int z15, .int z16, .int z17]) (rest := []) ⟨hx, hb, hml, hown, hts⟩ hK hP hN hS (c_X6_add l D cA ad hI σ10 τ10 hR z15 z16 z17 (by omega)) (cwV 3 hts gX7_readCond_X6_add rfl rfl rfl (by decide +kernel) ⟨by decide, by decide⟩) (rv_Sent hK hP (by decide) (by decide)) rfl hl.1 rfl (Nat.le_of_ble_eq_true rfl) dX7_readCond_54 (Nat.zero_le _) (Nat.zero_le _) (fun r18 u18 H18 locs18 hp18 hP hS => ?_)
        obtain ⟨σ18, τ18⟩ := u18
        obtain ⟨hR, f18, fL18, hq18, hp18_0⟩ : P_X6_add σ10 τ10 z15 z16 z17 r18 σ18 τ18 := hp18
        have hP : va_P D vwCl (gw cA ad σ18 τ18) H18 := hP
        obtain rfl := FrL.nil fL18
        have hF := hF.step f18 (by decide)
        have gCT := gCT.ag (Agr.fr f18 (by decide))
        have gWH := gWH.ag (Agr.fr f18 (by decide))
        have t19 : (σ18 24 1).toInt = (σ10 24 1).toInt := congrArg Int32.toInt (f18.at 24 1 (by decide))
        have hr20 := rg_6_2 hR (k := 24) (by decide) (by decide)
        refine r_if_ne (tgt := 62) hx hb dX7_readCond_57 (by decide) (fun c21 => ?_) (fun c21 => ?_)
        · refine r_iinc (k := 2) (lv1 := fun z22 => [(2, .int z22), (0, .ref (ad 27)), (1, .int a1)]) hx hb dX7_readCond_62 hl rfl (by decide) (fun _ => rfl) (by decide) (by omega) (fun z22 ls ez22 hl => ?_)
          refine lv_goto (tgt := 12) hx hb dX7_readCond_65 (by decide) ?_
          exact K12 σ18 τ10 H18 locs18 z22 (fu - 1) _ _ ls hR hF hFL hP hS (by omega) (by omega) (by omega) (by first | exact con_s e1 | rw [iv, lop_s (f := (allP b N mo (fun q nn => oneP b N mo nm hc 7 q nn))) (by omega) (by omega) e2]) (by omega) (by omega) (by omega) (by omega) gCT gWH gCT (lv_sub hl [1, 2, 0] rfl) (by omega)
        · refine r_iconst hx hb dX7_readCond_60 (by decide) (fun z23 ez23 => ?_)
          exact r_zret hx hb hr hK hP hS hk (by omega) dX7_readCond_61 (show P_X7_readCond_d2 σ0 τ0 a1 b N mo q nn nm hc z23 σ18 τ10 from ⟨hR, hF, hFL, by omega, by first | (exfalso; omega) | (obtain ⟨f, e1, x1, x2⟩ := o1.no (by omega); exact RO.ofl (con_f e1) (by omega) x1 x2) | exact RO.ofr (by rw [iv, lop_e (by omega)]) (by omega) ⟨gCT, by omega, by omega⟩ | (obtain ⟨f, e2, x1, x2⟩ := o2.no (by omega); exact RO.ofl (by rw [iv, lop_f (f := (allP b N mo (fun q nn => oneP b N mo nm hc 7 q nn))) (by omega) (by omega) e2]) (by omega) x1 x2) | (exfalso; omega), gWH⟩)
theorem A_X7_readCond_d2 (p : Program) (l : Launch) (e : Env) (s : State) (m : MethodId) (args : Array Value) (below : List Frame) (meth : Method) (c : Code) (D : va_G) (cA : Nat → ClassId) (ad : Nat → Nat) (σ0 : Nat → Nat → Int32) (τ0 : Nat → Nat → Int64) (a1 : Int32) (b : Nat → Int) (N : Nat) (mo : Nat) (q : Nat) (nn : Nat) (nm : Nat → Int) (hc : Nat) (C : Cy p s m args meth c cX7_readCond 3 wsX7_readCond RX7 D cA ad (some .boolean)) (ha1 : 2 ≤ a1.toInt ∧ a1.toInt ≤ 2) (hpre0 : (σ0 24 1).toInt = (nn : Int)) (hpre1 : 0 ≤ (σ0 24 2).toInt ∧ (σ0 24 2).toInt ≤ 2 * (nn : Int)) (hpre2 : nn ≤ 20) (gCT0 : CT σ0 τ0 b N mo q) (gWH0 : WH σ0 τ0 nm hc) : ∀ n : Nat, J_X7_readCond_d2_12 p l e s m args below meth c D cA ad σ0 τ0 a1 b N mo q nn nm hc n := by
  intro n
  induction n with
  | zero =>
    exact (by intro σ τ H locs x2 fu q1 n1 ls hR hF hFL hP hS hc0 hc1 hc2 iv ib2 ib3 ifu in20 gCT gWH gCT hl hm; exfalso; omega)
  | succ n ih =>
    exact B_X7_readCond_d2_12 p l e s m args below meth c D cA ad σ0 τ0 a1 b N mo q nn nm hc n C ha1 hpre0 hpre1 hpre2 gCT0 gWH0 ih
set_option maxHeartbeats 4000000 in
theorem c_X7_readCond_d2 (l : Launch) (D : va_G) (cA : Nat → ClassId) (ad : Nat → Nat) (hI : Inj ad) (σ0 : Nat → Nat → Int32) (τ0 : Nat → Nat → Int64) (hR : Rg σ0) (a1 : Int32) (b : Nat → Int) (N : Nat) (mo : Nat) (q : Nat) (nn : Nat) (nm : Nat → Int) (hc : Nat) (ha1 : 2 ≤ a1.toInt ∧ a1.toInt ≤ 2) (hpre0 : (σ0 24 1).toInt = (nn : Int)) (hpre1 : 0 ≤ (σ0 24 2).toInt ∧ (σ0 24 2).toInt ≤ 2 * (nn : Int)) (hpre2 : nn ≤ 20) (gCT0 : CT σ0 τ0 b N mo q) (gWH0 : WH σ0 τ0 nm hc) : Met l yX7_readCond wsX7_readCond ({ frames := 24, cells := 0, slots := 0, locals := 527 } : Room) (WQc D cA ad [.ref (ad 27), .int a1] σ0 τ0) (va_Qi (fun (r : Int32) (u : SS) => P_X7_readCond_d2 σ0 τ0 a1 b N mo q nn nm hc r u.1 u.2) (WB D cA ad) (AA ad)) 0 0 (AA ad) := by
  refine Met.ofW (cc := cX7_readCond) (maxL := 3) (ret := (some .boolean)) (by decide) rfl ?_
  intro p e s m args below meth c s₁ B hml hv
  obtain ⟨rfl, hP, hK, hN⟩ := hv
  have C : Cy p s m _ meth c cX7_readCond 3 wsX7_readCond RX7 D cA ad (some .boolean) := ⟨B.exec, B.bytes, hml, findClass_of_methodNamed B.named, atoms_spec (ws := wsX7_readCond) B.pre, hK, B.notSynchronized, B.returns, hI, hN⟩
  have hl := lv_entry ([.ref (ad 27), .int a1]) (n := 3) (Nat.le_of_ble_eq_true rfl)
  rw [lg_entry_eq]
  generalize (lg_sl ([.ref (ad 27), .int a1]) ++ List.replicate (3 - (lg_sl ([.ref (ad 27), .int a1])).length) Slot.unset).toArray = ls at hl ⊢
  have hl : lv_has ls 3 [(0, .ref (ad 27)), (1, .int a1)] := hl
  have hS : va_S (AA ad) s.heap s.heap [] := va_S.rf
  have hF : Fr L_X7_readCond_d2 σ0 σ0 := Fr.rf
  have hFL : FrL LL_X7_readCond_d2 τ0 τ0 := FrL.rf
  have gCT := gCT0
  have gWH := gWH0
  have hA := A_X7_readCond_d2 p l e s m _ below meth c D cA ad σ0 τ0 a1 b N mo q nn nm hc C ha1 hpre0 hpre1 hpre2 gCT0 gWH0 810
  have K12 := hA
  clear hA
  obtain ⟨hx, hb, _, hown, hts, _, hk, hr, _, _⟩ := C
  refine lv_aload_n hx hb dX7_readCond_0 rfl (lv_at hl 0 rfl) ?_
  refine lv_iload_n hx hb dX7_readCond_1 rfl (lv_at hl 1 rfl) ?_
  refine r_cVi (k := 27) (As := [.int a1]) (rest := []) ⟨hx, hb, hml, hown, hts⟩ hK hP hN hS (c_X7_readAll_d2 l D cA ad hI σ0 τ0 hR a1 b N mo q nn nm hc (by omega) (by omega) (by omega) (by omega) gCT gWH) (cwV 1 hts gX7_readCond_X7_readAll rfl rfl rfl (by decide +kernel) ⟨by decide, by decide⟩) (rv_SText hK hP (by decide) (by decide)) rfl hl.1 rfl (Nat.le_of_ble_eq_true rfl) dX7_readCond_2 (Nat.zero_le _) (Nat.zero_le _) (fun r1 u1 H1 locs1 hp1 hP hS => ?_)
  obtain ⟨σ1, τ1⟩ := u1
  obtain ⟨hR, f1, fL1, hq1, hp1_0, gnWH⟩ : P_X7_readAll_d2 σ0 τ0 a1 b N mo q nn nm hc r1 σ1 τ1 := hp1
  have o1 := hp1_0
  have hP : va_P D vwCl (gw cA ad σ1 τ1) H1 := hP
  have hFL := hFL.step fL1 (by decide)
  have gWH := gWH.agL (AgrL.fr fL1 (by decide))
  have hF := hF.step f1 (by decide)
  have gWH := gWH.ag (Agr.fr f1 (by decide))
  have hr2 := rg_6_1 hR (k := 24) (by decide) (by decide)
  have hr3 := rg_6_2 hR (k := 24) (by decide) (by decide)
  refine r_if_ne (tgt := 10) hx hb dX7_readCond_5 (by decide) (fun c4 => ?_) (fun c4 => ?_)
  · obtain ⟨s1, e1, gCT, hs1, hs2⟩ := o1.ye (by omega)
    have hu1 := all_up (one_up _) _ _ _ e1
    refine r_iconst hx hb dX7_readCond_10 (by decide) (fun z5 ez5 => ?_)
    refine lv_istore_n (lv' := [(2, .int z5), (0, .ref (ad 27)), (1, .int a1)]) hx hb dX7_readCond_11 rfl hl (by decide) rfl (fun ls hl => ?_)
    exact K12 σ1 τ1 H1 locs1 z5 200 _ _ ls hR hF hFL hP hS (by omega) (by omega) (by omega) (by first | exact con_s e1 | rw [iv, lop_s (f := (allP b N mo (fun q nn => oneP b N mo nm hc 7 q nn))) (by omega) (by omega) e2]) (by omega) (by omega) (by omega) (by omega) gCT gWH gCT (lv_sub hl [1, 2, 0] rfl) (by omega)
  · refine r_iconst hx hb dX7_readCond_8 (by decide) (fun z6 ez6 => ?_)
    exact r_zret hx hb hr hK hP hS hk (by omega) dX7_readCond_9 (show P_X7_readCond_d2 σ0 τ0 a1 b N mo q nn nm hc z6 σ1 τ1 from ⟨hR, hF, hFL, by omega, by first | (exfalso; omega) | (obtain ⟨f, e1, x1, x2⟩ := o1.no (by omega); exact RO.ofl (con_f e1) (by omega) x1 x2) | exact RO.ofr (by rw [iv, lop_e (by omega)]) (by omega) ⟨gCT, by omega, by omega⟩ | (obtain ⟨f, e2, x1, x2⟩ := o2.no (by omega); exact RO.ofl (by rw [iv, lop_f (f := (allP b N mo (fun q nn => oneP b N mo nm hc 7 q nn))) (by omega) (by omega) e2]) (by omega) x1 x2) | (exfalso; omega), gWH⟩)
abbrev L_X7_readOne_d1 : List Rc := [(1, 1, 7, 10), (372, 372, 0, 39), (376, 376, 0, 39), (380, 380, 0, 39), (24, 24, 1, 2), (1, 1, 12, 14)]
abbrev LL_X7_readOne_d1 : List Rc := [(1, 1, 11, 11)]
def P_X7_readOne_d1 (σ0 : Nat → Nat → Int32) (τ0 : Nat → Nat → Int64) (a1 : Int32) (b : Nat → Int) (N : Nat) (mo : Nat) (q : Nat) (nn : Nat) (nm : Nat → Int) (hc : Nat) (r : Int32) (σ : Nat → Nat → Int32) (τ : Nat → Nat → Int64) : Prop := Rg σ ∧ Fr L_X7_readOne_d1 σ0 σ ∧ FrL LL_X7_readOne_d1 τ0 τ ∧ (0 ≤ r.toInt ∧ r.toInt ≤ 1) ∧ (RO r σ (oneP b N mo nm hc 8 q nn) (fun s => CT σ τ b N mo s.1 ∧ (σ 24 1).toInt = (s.2 : Int) ∧ (σ 24 2).toInt + 2 * (nn : Int) + 1 ≤ (σ0 24 2).toInt + 2 * (s.2 : Int))) ∧ WH σ τ nm hc
set_option maxHeartbeats 4000000 in
theorem c_X7_readOne_d1 (l : Launch) (D : va_G) (cA : Nat → ClassId) (ad : Nat → Nat) (hI : Inj ad) (σ0 : Nat → Nat → Int32) (τ0 : Nat → Nat → Int64) (hR : Rg σ0) (a1 : Int32) (b : Nat → Int) (N : Nat) (mo : Nat) (q : Nat) (nn : Nat) (nm : Nat → Int) (hc : Nat) (ha1 : 1 ≤ a1.toInt ∧ a1.toInt ≤ 1) (hpre0 : (σ0 24 1).toInt = (nn : Int)) (hpre1 : 0 ≤ (σ0 24 2).toInt ∧ (σ0 24 2).toInt ≤ 2 * (nn : Int)) (hpre2 : nn ≤ 20) (gCT0 : CT σ0 τ0 b N mo q) (gWH0 : WH σ0 τ0 nm hc) : Met l yX7_readOne wsX7_readOne ({ frames := 25, cells := 0, slots := 0, locals := 549 } : Room) (WQc D cA ad [.ref (ad 27), .int a1] σ0 τ0) (va_Qi (fun (r : Int32) (u : SS) => P_X7_readOne_d1 σ0 τ0 a1 b N mo q nn nm hc r u.1 u.2) (WB D cA ad) (AA ad)) 0 0 (AA ad) := by
  refine Met.ofW (cc := cX7_readOne) (maxL := 3) (ret := (some .boolean)) (by decide) rfl ?_
  intro p e s m args below meth c s₁ B hml hv
  obtain ⟨rfl, hP, hK, hN⟩ := hv
  have C : Cy p s m _ meth c cX7_readOne 3 wsX7_readOne RX7 D cA ad (some .boolean) := ⟨B.exec, B.bytes, hml, findClass_of_methodNamed B.named, atoms_spec (ws := wsX7_readOne) B.pre, hK, B.notSynchronized, B.returns, hI, hN⟩
  have hl := lv_entry ([.ref (ad 27), .int a1]) (n := 3) (Nat.le_of_ble_eq_true rfl)
  rw [lg_entry_eq]
  generalize (lg_sl ([.ref (ad 27), .int a1]) ++ List.replicate (3 - (lg_sl ([.ref (ad 27), .int a1])).length) Slot.unset).toArray = ls at hl ⊢
  have hl : lv_has ls 3 [(0, .ref (ad 27)), (1, .int a1)] := hl
  have hS : va_S (AA ad) s.heap s.heap [] := va_S.rf
  have hF : Fr L_X7_readOne_d1 σ0 σ0 := Fr.rf
  have hFL : FrL LL_X7_readOne_d1 τ0 τ0 := FrL.rf
  have gCT := gCT0
  have gWH := gWH0
  obtain ⟨hx, hb, _, hown, hts, _, hk, hr, _, _⟩ := C
  have htk := gCT.tk
  refine lv_aload_n hx hb dX7_readOne_0 rfl (lv_at hl 0 rfl) ?_
  refine fg_7_0 (k := 27) hx hb hts in_X7_readOne_7 hown hK hP (by decide) (by decide) (hts _ lk_X7_readOne_9) dX7_readOne_1 ?_
  refine fgN_8_9 (k := 1) hx hb hts in_X7_readOne_8 hown hK hP (by decide) (by decide) (hN.use nw_7_32) dX7_readOne_4 ?_
  refine lv_istore_n (lv' := [(2, .int (σ0 1 9)), (0, .ref (ad 27)), (1, .int a1)]) hx hb dX7_readOne_7 rfl hl (by decide) rfl (fun ls hl => ?_)
  refine lv_iload_n hx hb dX7_readOne_8 rfl (lv_at hl 0 rfl) ?_
  refine r_cSi (As := [.int (σ0 1 9)]) (rest := []) ⟨hx, hb, hml, hown, hts⟩ hK hP hN hS (c_X7_beginsOne l D cA ad hI σ0 τ0 hR (σ0 1 9)) (va_cwS 1 hts gX7_readOne_X7_beginsOne rfl rfl rfl (by decide +kernel) ⟨by decide, by decide⟩) rfl hl.1 rfl (Nat.le_of_ble_eq_true rfl) dX7_readOne_9 (Nat.zero_le _) (Nat.zero_le _) (fun r1 u1 H1 locs1 hp1 hP hS => ?_)
  obtain ⟨σ1, τ1⟩ := u1
  obtain ⟨hR, f1, fL1, hq1, hp1_0⟩ : P_X7_beginsOne σ0 τ0 (σ0 1 9) r1 σ1 τ1 := hp1
  have hP : va_P D vwCl (gw cA ad σ1 τ1) H1 := hP
  obtain rfl := FrL.nil fL1
  obtain rfl := Fr.nil f1
  refine r_if_ne (tgt := 24) hx hb dX7_readOne_12 (by decide) (fun c2 => ?_) (fun c2 => ?_)
  · refine lv_aload_n hx hb dX7_readOne_24 rfl (lv_at hl 1 rfl) ?_
    refine fg_7_2 (k := 27) hx hb hts in_X7_readOne_7 hown hK hP (by decide) (by decide) (hts _ lk_X7_readOne_19) dX7_readOne_25 ?_
    refine fgN_6_1 (k := 24) hx hb hts in_X7_readOne_6 hown hK hP (by decide) (by decide) (hN.use nw_7_61) dX7_readOne_28 ?_
    refine r_bipush hx hb dX7_readOne_31 (by decide) (fun z3 ez3 => ?_)
    refine r_icmp_ge (tgt := 42) hx hb dX7_readOne_33 (by decide) (fun c4 => ?_) (fun c4 => ?_)
    · refine lv_aload_n hx hb dX7_readOne_42 rfl (lv_at hl 1 rfl) ?_
      refine fg_7_0 (k := 27) hx hb hts in_X7_readOne_7 hown hK hP (by decide) (by decide) (hts _ lk_X7_readOne_9) dX7_readOne_43 ?_
      refine r_iconst hx hb dX7_readOne_46 (by decide) (fun z5 ez5 => ?_)
      refine r_cVi (k := 1) (As := [.int z5]) (rest := []) ⟨hx, hb, hml, hown, hts⟩ hK hP hN hS (c_X8_blame_v l D cA ad hI σ0 τ0 hR z5 _ _ _ _ (by omega) gCT) (cwV 1 hts gX7_readOne_X8_blame rfl rfl rfl (by decide +kernel) ⟨by decide, by decide⟩) (rv_Tape hK hP (by decide) (by decide)) rfl hl.1 rfl (Nat.le_of_ble_eq_true rfl) dX7_readOne_47 (Nat.zero_le _) (Nat.zero_le _) (fun r6 u6 H6 locs6 hp6 hP hS => ?_)
      obtain ⟨σ6, τ6⟩ := u6
      obtain ⟨hR, f6, fL6, hq6, hp6_0, hp6_1, hp6_2, gnCT⟩ : P_X8_blame_v σ0 τ0 z5 _ _ _ _ r6 σ6 τ6 := hp6
      have hP : va_P D vwCl (gw cA ad σ6 τ6) H6 := hP
      obtain rfl := FrL.nil fL6
      have hF := hF.step f6 (by decide)
      have gCT := gCT.ag (Agr.fr f6 (by decide))
      have gWH := gWH.ag (Agr.fr f6 (by decide))
      have t7 : (σ6 24 1).toInt = (σ0 24 1).toInt := congrArg Int32.toInt (f6.at 24 1 (by decide))
      have t8 : (σ6 24 2).toInt = (σ0 24 2).toInt := congrArg Int32.toInt (f6.at 24 2 (by decide))
      exact r_zret hx hb hr hK hP hS hk (by omega) dX7_readOne_50 (show P_X7_readOne_d1 σ0 τ0 a1 b N mo q nn nm hc r6 σ6 τ0 from ⟨hR, hF, hFL, by omega, by first | exact RO.ofr ((one_l (by omega) (by omega) (by omega) (by omega)).trans (lea_n (by omega) (by omega))) (by omega) ⟨gCT, by omega, by omega⟩ | (exfalso; omega) | exact RO.ofk (one_x (by omega)) (by omega) (by omega) (by omega) | exact RO.ofk (one_4 (by omega) (by omega)) (by omega) (by omega) (by omega) | (obtain ⟨f, e1, x1, x2⟩ := o1.no (by omega); exact RO.ofl ((one_n (by omega) (by omega)).trans e1) (by omega) x1 x2) | exact RO.ofr ((one_n (by omega) (by omega)).trans e1) (by omega) ⟨gCT, by omega, by omega⟩ | (obtain ⟨f, e2, x1, x2⟩ := o2.no (by omega); exact RO.ofl (by rw [one_o (by omega) (by omega), e2, bnd_l]) (by omega) x1 x2) | (obtain ⟨f, e3, x1, x2⟩ := o3.no (by omega); exact RO.ofl (by rw [one_o (by omega) (by omega), e2, bnd_r, e3, bnd_l]) (by omega) x1 x2) | exact RO.ofr (by rw [one_o (by omega) (by omega), e2, bnd_r, e3, bnd_r]) (by omega) ⟨gCT, by omega, by omega⟩ | (rw [one_l (by omega) (by omega) (by omega) (by omega)]; exact o4.map (fun s es h => ⟨h.1, h.2.1, by have h2 := h.2.2; have hl := lea_up es; omega⟩)) | (rw [one_l (by omega) (by omega) (by omega) (by omega)]; exact o5.map (fun s es h => ⟨h.1, h.2.1, by have h2 := h.2.2; have hl := lea_up es; omega⟩)), gWH⟩)
    · refine lv_iload_n hx hb dX7_readOne_36 rfl (lv_at hl 2 rfl) ?_
      refine r_bipush hx hb dX7_readOne_37 (by decide) (fun z9 ez9 => ?_)
      refine r_icmp_le (tgt := 51) hx hb dX7_readOne_39 (by decide) (fun c10 => ?_) (fun c10 => ?_)
      · refine lv_aload_n hx hb dX7_readOne_51 rfl (lv_at hl 1 rfl) ?_
        refine fg_7_2 (k := 27) hx hb hts in_X7_readOne_7 hown hK hP (by decide) (by decide) (hts _ lk_X7_readOne_19) dX7_readOne_52 ?_
        refine lv_dup hx hb dX7_readOne_55 rfl ?_
        refine fgN_6_1 (k := 24) hx hb hts in_X7_readOne_6 hown hK hP (by decide) (by decide) (hN.use nw_7_61) dX7_readOne_56 ?_
        refine r_iconst hx hb dX7_readOne_59 (by decide) (fun z11 ez11 => ?_)
        refine r_iadd hx hb dX7_readOne_60 (by omega) (fun z12 ez12 => ?_)
        refine fpN_6_1 (k := 24) hx hb hts in_X7_readOne_6 hown hK hP (by decide) (by decide) (hN.use nw_7_61) hI hR hS (by omega) dX7_readOne_61 (fun σ13 H13 locs13 u13 v13 hR hP hS => ?_)
        have hF := hF.puts u13 4 rfl (by decide) (by decide) (by decide) (by decide)
        have gCT := gCT.ag (Agr.put u13 (by decide))
        have gWH := gWH.ag (Agr.put u13 (by decide))
        have t14 : (σ13 24 2).toInt = (σ0 24 2).toInt := congrArg Int32.toInt (u13 24 2 (by omega))
        refine lv_aload_n hx hb dX7_readOne_64 rfl (lv_at hl 1 rfl) ?_
        refine fg_7_0 (k := 27) hx hb hts in_X7_readOne_7 hown hK hP (by decide) (by decide) (hts _ lk_X7_readOne_9) dX7_readOne_65 ?_
        refine r_cVv (k := 1) (As := []) (rest := []) ⟨hx, hb, hml, hown, hts⟩ hK hP hN hS (c_X8_next_v l D cA ad hI σ13 τ0 hR _ _ _ _ gCT) (cwV 0 hts gX7_readOne_X8_next rfl rfl rfl (by decide +kernel) ⟨by decide, by decide⟩) (rv_Tape hK hP (by decide) (by decide)) rfl hl.1 rfl (Nat.le_of_ble_eq_true rfl) dX7_readOne_68 (Nat.zero_le _) (Nat.zero_le _) (fun u15 H15 locs15 hp15 hP hS => ?_)
        obtain ⟨σ15, τ15⟩ := u15
        obtain ⟨hR, f15, fL15, hp15_0⟩ : P_X8_next_v σ13 τ0 _ _ _ _ σ15 τ15 := hp15
        have hP : va_P D vwCl (gw cA ad σ15 τ15) H15 := hP
        have hFL := hFL.step fL15 (by decide)
        have gWH := gWH.agL (AgrL.fr fL15 (by decide))
        have hF := hF.step f15 (by decide)
        have gWH := gWH.ag (Agr.fr f15 (by decide))
        have t16 : (σ15 24 2).toInt = (σ13 24 2).toInt := congrArg Int32.toInt (f15.at 24 2 (by decide))
        have t17 : (σ15 24 1).toInt = (σ13 24 1).toInt := congrArg Int32.toInt (f15.at 24 1 (by decide))
        have gCT := hp15_0
        refine lv_iload_n hx hb dX7_readOne_71 rfl (lv_at hl 0 rfl) ?_
        by_cases c18 : (σ0 1 9).toInt = 22
        · refine lv_tableIn (off := 108) (tgt := 180) hx hb dX7_readOne_72 (by omega) (by omega) (by rw [c18]; rfl) (by decide) ?_
          refine lv_aload_n hx hb dX7_readOne_180 rfl (lv_at hl 1 rfl) ?_
          refine lv_iload_n hx hb dX7_readOne_181 rfl (lv_at hl 2 rfl) ?_
          refine r_iconst hx hb dX7_readOne_182 (by decide) (fun z19 ez19 => ?_)
          refine r_iadd hx hb dX7_readOne_183 (by omega) (fun z20 ez20 => ?_)
          refine r_cVi (k := 27) (As := [.int z20]) (rest := []) ⟨hx, hb, hml, hown, hts⟩ hK hP hN hS (c_X7_readOne_d2 l D cA ad hI σ15 τ15 hR z20 b N mo _ (nn + 1) nm hc (by omega) (by omega) (by omega) (by omega) gCT gWH) (cwV 1 hts gX7_readOne_X7_readOne rfl rfl rfl (by decide +kernel) ⟨by decide, by decide⟩) (rv_SText hK hP (by decide) (by decide)) rfl hl.1 rfl (Nat.le_of_ble_eq_true rfl) dX7_readOne_184 (Nat.zero_le _) (Nat.zero_le _) (fun r21 u21 H21 locs21 hp21 hP hS => ?_)
          obtain ⟨σ21, τ21⟩ := u21
          obtain ⟨hR, f21, fL21, hq21, hp21_0, gnWH⟩ : P_X7_readOne_d2 σ15 τ15 z20 b N mo _ (nn + 1) nm hc r21 σ21 τ21 := hp21
          have o1 := hp21_0
          have hP : va_P D vwCl (gw cA ad σ21 τ21) H21 := hP
          have hFL := hFL.step fL21 (by decide)
          have gWH := gWH.agL (AgrL.fr fL21 (by decide))
          have hF := hF.step f21 (by decide)
          have gWH := gWH.ag (Agr.fr f21 (by decide))
          have hr22 := rg_6_1 hR (k := 24) (by decide) (by decide)
          have hr23 := rg_6_2 hR (k := 24) (by decide) (by decide)
          refine r_if_eq (tgt := 208) hx hb dX7_readOne_187 (by decide) (fun c24 => ?_) (fun c24 => ?_)
          · refine r_iconst hx hb dX7_readOne_208 (by decide) (fun z25 ez25 => ?_)
            exact r_zret hx hb hr hK hP hS hk (by omega) dX7_readOne_209 (show P_X7_readOne_d1 σ0 τ0 a1 b N mo q nn nm hc z25 σ21 τ21 from ⟨hR, hF, hFL, by omega, by first | exact RO.ofr ((one_l (by omega) (by omega) (by omega) (by omega)).trans (lea_n (by omega) (by omega))) (by omega) ⟨gCT, by omega, by omega⟩ | (exfalso; omega) | exact RO.ofk (one_x (by omega)) (by omega) (by omega) (by omega) | exact RO.ofk (one_4 (by omega) (by omega)) (by omega) (by omega) (by omega) | (obtain ⟨f, e1, x1, x2⟩ := o1.no (by omega); exact RO.ofl ((one_n (by omega) (by omega)).trans e1) (by omega) x1 x2) | exact RO.ofr ((one_n (by omega) (by omega)).trans e1) (by omega) ⟨gCT, by omega, by omega⟩ | (obtain ⟨f, e2, x1, x2⟩ := o2.no (by omega); exact RO.ofl (by rw [one_o (by omega) (by omega), e2, bnd_l]) (by omega) x1 x2) | (obtain ⟨f, e3, x1, x2⟩ := o3.no (by omega); exact RO.ofl (by rw [one_o (by omega) (by omega), e2, bnd_r, e3, bnd_l]) (by omega) x1 x2) | exact RO.ofr (by rw [one_o (by omega) (by omega), e2, bnd_r, e3, bnd_r]) (by omega) ⟨gCT, by omega, by omega⟩ | (rw [one_l (by omega) (by omega) (by omega) (by omega)]; exact o4.map (fun s es h => ⟨h.1, h.2.1, by have h2 := h.2.2; have hl := lea_up es; omega⟩)) | (rw [one_l (by omega) (by omega) (by omega) (by omega)]; exact o5.map (fun s es h => ⟨h.1, h.2.1, by have h2 := h.2.2; have hl := lea_up es; omega⟩)), gWH⟩)
          · obtain ⟨s1, e1, gCT, hs1, hs2⟩ := o1.ye (by omega)
            have hu1 := one_up _ _ _ _ e1
            refine lv_aload_n hx hb dX7_readOne_190 rfl (lv_at hl 1 rfl) ?_
            refine fg_7_2 (k := 27) hx hb hts in_X7_readOne_7 hown hK hP (by decide) (by decide) (hts _ lk_X7_readOne_19) dX7_readOne_191 ?_
            refine r_bipush hx hb dX7_readOne_194 (by decide) (fun z26 ez26 => ?_)
            refine r_iconst hx hb dX7_readOne_196 (by decide) (fun z27 ez27 => ?_)
            refine r_iconst hx hb dX7_readOne_197 (by decide) (fun z28 ez28 => ?_)
            refine r_cVi (k := 24) (As := [.int z26, .int z27, .int z28]) (rest := []) ⟨hx, hb, hml, hown, hts⟩ hK hP hN hS (c_X6_add l D cA ad hI σ21 τ21 hR z26 z27 z28 (by omega)) (cwV 3 hts gX7_readOne_X6_add rfl rfl rfl (by decide +kernel) ⟨by decide, by decide⟩) (rv_Sent hK hP (by decide) (by decide)) rfl hl.1 rfl (Nat.le_of_ble_eq_true rfl) dX7_readOne_198 (Nat.zero_le _) (Nat.zero_le _) (fun r29 u29 H29 locs29 hp29 hP hS => ?_)
            obtain ⟨σ29, τ29⟩ := u29
            obtain ⟨hR, f29, fL29, hq29, hp29_0⟩ : P_X6_add σ21 τ21 z26 z27 z28 r29 σ29 τ29 := hp29
            have hP : va_P D vwCl (gw cA ad σ29 τ29) H29 := hP
            obtain rfl := FrL.nil fL29
            have hF := hF.step f29 (by decide)
            have gCT := gCT.ag (Agr.fr f29 (by decide))
            have gWH := gWH.ag (Agr.fr f29 (by decide))
            have t30 : (σ29 24 1).toInt = (σ21 24 1).toInt := congrArg Int32.toInt (f29.at 24 1 (by decide))
            have hr31 := rg_6_2 hR (k := 24) (by decide) (by decide)
            refine r_if_eq (tgt := 208) hx hb dX7_readOne_201 (by decide) (fun c32 => ?_) (fun c32 => ?_)
            · refine r_iconst hx hb dX7_readOne_208 (by decide) (fun z33 ez33 => ?_)
              exact r_zret hx hb hr hK hP hS hk (by omega) dX7_readOne_209 (show P_X7_readOne_d1 σ0 τ0 a1 b N mo q nn nm hc z33 σ29 τ21 from ⟨hR, hF, hFL, by omega, by first | exact RO.ofr ((one_l (by omega) (by omega) (by omega) (by omega)).trans (lea_n (by omega) (by omega))) (by omega) ⟨gCT, by omega, by omega⟩ | (exfalso; omega) | exact RO.ofk (one_x (by omega)) (by omega) (by omega) (by omega) | exact RO.ofk (one_4 (by omega) (by omega)) (by omega) (by omega) (by omega) | (obtain ⟨f, e1, x1, x2⟩ := o1.no (by omega); exact RO.ofl ((one_n (by omega) (by omega)).trans e1) (by omega) x1 x2) | exact RO.ofr ((one_n (by omega) (by omega)).trans e1) (by omega) ⟨gCT, by omega, by omega⟩ | (obtain ⟨f, e2, x1, x2⟩ := o2.no (by omega); exact RO.ofl (by rw [one_o (by omega) (by omega), e2, bnd_l]) (by omega) x1 x2) | (obtain ⟨f, e3, x1, x2⟩ := o3.no (by omega); exact RO.ofl (by rw [one_o (by omega) (by omega), e2, bnd_r, e3, bnd_l]) (by omega) x1 x2) | exact RO.ofr (by rw [one_o (by omega) (by omega), e2, bnd_r, e3, bnd_r]) (by omega) ⟨gCT, by omega, by omega⟩ | (rw [one_l (by omega) (by omega) (by omega) (by omega)]; exact o4.map (fun s es h => ⟨h.1, h.2.1, by have h2 := h.2.2; have hl := lea_up es; omega⟩)) | (rw [one_l (by omega) (by omega) (by omega) (by omega)]; exact o5.map (fun s es h => ⟨h.1, h.2.1, by have h2 := h.2.2; have hl := lea_up es; omega⟩)), gWH⟩)
            · refine r_iconst hx hb dX7_readOne_204 (by decide) (fun z34 ez34 => ?_)
              refine lv_goto (tgt := 209) hx hb dX7_readOne_205 (by decide) ?_
              exact r_zret hx hb hr hK hP hS hk (by omega) dX7_readOne_209 (show P_X7_readOne_d1 σ0 τ0 a1 b N mo q nn nm hc z34 σ29 τ21 from ⟨hR, hF, hFL, by omega, by first | exact RO.ofr ((one_l (by omega) (by omega) (by omega) (by omega)).trans (lea_n (by omega) (by omega))) (by omega) ⟨gCT, by omega, by omega⟩ | (exfalso; omega) | exact RO.ofk (one_x (by omega)) (by omega) (by omega) (by omega) | exact RO.ofk (one_4 (by omega) (by omega)) (by omega) (by omega) (by omega) | (obtain ⟨f, e1, x1, x2⟩ := o1.no (by omega); exact RO.ofl ((one_n (by omega) (by omega)).trans e1) (by omega) x1 x2) | exact RO.ofr ((one_n (by omega) (by omega)).trans e1) (by omega) ⟨gCT, by omega, by omega⟩ | (obtain ⟨f, e2, x1, x2⟩ := o2.no (by omega); exact RO.ofl (by rw [one_o (by omega) (by omega), e2, bnd_l]) (by omega) x1 x2) | (obtain ⟨f, e3, x1, x2⟩ := o3.no (by omega); exact RO.ofl (by rw [one_o (by omega) (by omega), e2, bnd_r, e3, bnd_l]) (by omega) x1 x2) | exact RO.ofr (by rw [one_o (by omega) (by omega), e2, bnd_r, e3, bnd_r]) (by omega) ⟨gCT, by omega, by omega⟩ | (rw [one_l (by omega) (by omega) (by omega) (by omega)]; exact o4.map (fun s es h => ⟨h.1, h.2.1, by have h2 := h.2.2; have hl := lea_up es; omega⟩)) | (rw [one_l (by omega) (by omega) (by omega) (by omega)]; exact o5.map (fun s es h => ⟨h.1, h.2.1, by have h2 := h.2.2; have hl := lea_up es; omega⟩)), gWH⟩)
        by_cases c35 : (σ0 1 9).toInt = 23
        · refine lv_tableIn (off := 177) (tgt := 249) hx hb dX7_readOne_72 (by omega) (by omega) (by rw [c35]; rfl) (by decide) ?_
          refine lv_aload_n hx hb dX7_readOne_249 rfl (lv_at hl 1 rfl) ?_
          refine fg_7_2 (k := 27) hx hb hts in_X7_readOne_7 hown hK hP (by decide) (by decide) (hts _ lk_X7_readOne_19) dX7_readOne_250 ?_
          refine lv_iload_n hx hb dX7_readOne_253 rfl (lv_at hl 0 rfl) ?_
          refine r_bipush hx hb dX7_readOne_254 (by decide) (fun z36 ez36 => ?_)
          refine r_iconst hx hb dX7_readOne_256 (by decide) (fun z37 ez37 => ?_)
          refine r_cVi (k := 24) (As := [.int (σ0 1 9), .int z36, .int z37]) (rest := []) ⟨hx, hb, hml, hown, hts⟩ hK hP hN hS (c_X6_add l D cA ad hI σ15 τ15 hR (σ0 1 9) z36 z37 (by omega)) (cwV 3 hts gX7_readOne_X6_add rfl rfl rfl (by decide +kernel) ⟨by decide, by decide⟩) (rv_Sent hK hP (by decide) (by decide)) rfl hl.1 rfl (Nat.le_of_ble_eq_true rfl) dX7_readOne_257 (Nat.zero_le _) (Nat.zero_le _) (fun r38 u38 H38 locs38 hp38 hP hS => ?_)
          obtain ⟨σ38, τ38⟩ := u38
          obtain ⟨hR, f38, fL38, hq38, hp38_0⟩ : P_X6_add σ15 τ15 (σ0 1 9) z36 z37 r38 σ38 τ38 := hp38
          have hP : va_P D vwCl (gw cA ad σ38 τ38) H38 := hP
          obtain rfl := FrL.nil fL38
          have hF := hF.step f38 (by decide)
          have gCT := gCT.ag (Agr.fr f38 (by decide))
          have gWH := gWH.ag (Agr.fr f38 (by decide))
          have t39 : (σ38 24 1).toInt = (σ15 24 1).toInt := congrArg Int32.toInt (f38.at 24 1 (by decide))
          have hr40 := rg_6_2 hR (k := 24) (by decide) (by decide)
          exact r_zret hx hb hr hK hP hS hk (by omega) dX7_readOne_260 (show P_X7_readOne_d1 σ0 τ0 a1 b N mo q nn nm hc r38 σ38 τ15 from ⟨hR, hF, hFL, by omega, by first | exact RO.ofr ((one_l (by omega) (by omega) (by omega) (by omega)).trans (lea_n (by omega) (by omega))) (by omega) ⟨gCT, by omega, by omega⟩ | (exfalso; omega) | exact RO.ofk (one_x (by omega)) (by omega) (by omega) (by omega) | exact RO.ofk (one_4 (by omega) (by omega)) (by omega) (by omega) (by omega) | (obtain ⟨f, e1, x1, x2⟩ := o1.no (by omega); exact RO.ofl ((one_n (by omega) (by omega)).trans e1) (by omega) x1 x2) | exact RO.ofr ((one_n (by omega) (by omega)).trans e1) (by omega) ⟨gCT, by omega, by omega⟩ | (obtain ⟨f, e2, x1, x2⟩ := o2.no (by omega); exact RO.ofl (by rw [one_o (by omega) (by omega), e2, bnd_l]) (by omega) x1 x2) | (obtain ⟨f, e3, x1, x2⟩ := o3.no (by omega); exact RO.ofl (by rw [one_o (by omega) (by omega), e2, bnd_r, e3, bnd_l]) (by omega) x1 x2) | exact RO.ofr (by rw [one_o (by omega) (by omega), e2, bnd_r, e3, bnd_r]) (by omega) ⟨gCT, by omega, by omega⟩ | (rw [one_l (by omega) (by omega) (by omega) (by omega)]; exact o4.map (fun s es h => ⟨h.1, h.2.1, by have h2 := h.2.2; have hl := lea_up es; omega⟩)) | (rw [one_l (by omega) (by omega) (by omega) (by omega)]; exact o5.map (fun s es h => ⟨h.1, h.2.1, by have h2 := h.2.2; have hl := lea_up es; omega⟩)), gWH⟩)
        by_cases c41 : (σ0 1 9).toInt = 24
        · refine lv_tableIn (off := 177) (tgt := 249) hx hb dX7_readOne_72 (by omega) (by omega) (by rw [c41]; rfl) (by decide) ?_
          refine lv_aload_n hx hb dX7_readOne_249 rfl (lv_at hl 1 rfl) ?_
          refine fg_7_2 (k := 27) hx hb hts in_X7_readOne_7 hown hK hP (by decide) (by decide) (hts _ lk_X7_readOne_19) dX7_readOne_250 ?_
          refine lv_iload_n hx hb dX7_readOne_253 rfl (lv_at hl 0 rfl) ?_
          refine r_bipush hx hb dX7_readOne_254 (by decide) (fun z42 ez42 => ?_)
          refine r_iconst hx hb dX7_readOne_256 (by decide) (fun z43 ez43 => ?_)
          refine r_cVi (k := 24) (As := [.int (σ0 1 9), .int z42, .int z43]) (rest := []) ⟨hx, hb, hml, hown, hts⟩ hK hP hN hS (c_X6_add l D cA ad hI σ15 τ15 hR (σ0 1 9) z42 z43 (by omega)) (cwV 3 hts gX7_readOne_X6_add rfl rfl rfl (by decide +kernel) ⟨by decide, by decide⟩) (rv_Sent hK hP (by decide) (by decide)) rfl hl.1 rfl (Nat.le_of_ble_eq_true rfl) dX7_readOne_257 (Nat.zero_le _) (Nat.zero_le _) (fun r44 u44 H44 locs44 hp44 hP hS => ?_)
          obtain ⟨σ44, τ44⟩ := u44
          obtain ⟨hR, f44, fL44, hq44, hp44_0⟩ : P_X6_add σ15 τ15 (σ0 1 9) z42 z43 r44 σ44 τ44 := hp44
          have hP : va_P D vwCl (gw cA ad σ44 τ44) H44 := hP
          obtain rfl := FrL.nil fL44
          have hF := hF.step f44 (by decide)
          have gCT := gCT.ag (Agr.fr f44 (by decide))
          have gWH := gWH.ag (Agr.fr f44 (by decide))
          have t45 : (σ44 24 1).toInt = (σ15 24 1).toInt := congrArg Int32.toInt (f44.at 24 1 (by decide))
          have hr46 := rg_6_2 hR (k := 24) (by decide) (by decide)
          exact r_zret hx hb hr hK hP hS hk (by omega) dX7_readOne_260 (show P_X7_readOne_d1 σ0 τ0 a1 b N mo q nn nm hc r44 σ44 τ15 from ⟨hR, hF, hFL, by omega, by first | exact RO.ofr ((one_l (by omega) (by omega) (by omega) (by omega)).trans (lea_n (by omega) (by omega))) (by omega) ⟨gCT, by omega, by omega⟩ | (exfalso; omega) | exact RO.ofk (one_x (by omega)) (by omega) (by omega) (by omega) | exact RO.ofk (one_4 (by omega) (by omega)) (by omega) (by omega) (by omega) | (obtain ⟨f, e1, x1, x2⟩ := o1.no (by omega); exact RO.ofl ((one_n (by omega) (by omega)).trans e1) (by omega) x1 x2) | exact RO.ofr ((one_n (by omega) (by omega)).trans e1) (by omega) ⟨gCT, by omega, by omega⟩ | (obtain ⟨f, e2, x1, x2⟩ := o2.no (by omega); exact RO.ofl (by rw [one_o (by omega) (by omega), e2, bnd_l]) (by omega) x1 x2) | (obtain ⟨f, e3, x1, x2⟩ := o3.no (by omega); exact RO.ofl (by rw [one_o (by omega) (by omega), e2, bnd_r, e3, bnd_l]) (by omega) x1 x2) | exact RO.ofr (by rw [one_o (by omega) (by omega), e2, bnd_r, e3, bnd_r]) (by omega) ⟨gCT, by omega, by omega⟩ | (rw [one_l (by omega) (by omega) (by omega) (by omega)]; exact o4.map (fun s es h => ⟨h.1, h.2.1, by have h2 := h.2.2; have hl := lea_up es; omega⟩)) | (rw [one_l (by omega) (by omega) (by omega) (by omega)]; exact o5.map (fun s es h => ⟨h.1, h.2.1, by have h2 := h.2.2; have hl := lea_up es; omega⟩)), gWH⟩)
        by_cases c47 : (σ0 1 9).toInt = 25
        · refine lv_tableIn (off := 166) (tgt := 238) hx hb dX7_readOne_72 (by omega) (by omega) (by rw [c47]; rfl) (by decide) ?_
          refine lv_aload_n hx hb dX7_readOne_238 rfl (lv_at hl 1 rfl) ?_
          refine r_cVi (k := 27) (As := []) (rest := []) ⟨hx, hb, hml, hown, hts⟩ hK hP hN hS (c_X7_readOn l D cA ad hI σ15 τ15 hR b N mo _ (nn + 1) nm hc (tkq b N mo q) (by omega) (by omega) (by omega) gCT gWH) (cwV 0 hts gX7_readOne_X7_readOn rfl rfl rfl (by decide +kernel) ⟨by decide, by decide⟩) (rv_SText hK hP (by decide) (by decide)) rfl hl.1 rfl (Nat.le_of_ble_eq_true rfl) dX7_readOne_239 (Nat.zero_le _) (Nat.zero_le _) (fun r48 u48 H48 locs48 hp48 hP hS => ?_)
          obtain ⟨σ48, τ48⟩ := u48
          obtain ⟨hR, f48, fL48, hq48, hp48_0, gnWH⟩ : P_X7_readOn σ15 τ15 b N mo _ (nn + 1) nm hc (tkq b N mo q) r48 σ48 τ48 := hp48
          have o4 := hp48_0
          have hP : va_P D vwCl (gw cA ad σ48 τ48) H48 := hP
          have hFL := hFL.step fL48 (by decide)
          have gWH := gWH.agL (AgrL.fr fL48 (by decide))
          have hF := hF.step f48 (by decide)
          have gWH := gWH.ag (Agr.fr f48 (by decide))
          have t49 : (σ48 24 1).toInt = (σ15 24 1).toInt := congrArg Int32.toInt (f48.at 24 1 (by decide))
          have hr50 := rg_6_2 hR (k := 24) (by decide) (by decide)
          exact r_zret hx hb hr hK hP hS hk (by omega) dX7_readOne_242 (show P_X7_readOne_d1 σ0 τ0 a1 b N mo q nn nm hc r48 σ48 τ48 from ⟨hR, hF, hFL, by omega, by first | exact RO.ofr ((one_l (by omega) (by omega) (by omega) (by omega)).trans (lea_n (by omega) (by omega))) (by omega) ⟨gCT, by omega, by omega⟩ | (exfalso; omega) | exact RO.ofk (one_x (by omega)) (by omega) (by omega) (by omega) | exact RO.ofk (one_4 (by omega) (by omega)) (by omega) (by omega) (by omega) | (obtain ⟨f, e1, x1, x2⟩ := o1.no (by omega); exact RO.ofl ((one_n (by omega) (by omega)).trans e1) (by omega) x1 x2) | exact RO.ofr ((one_n (by omega) (by omega)).trans e1) (by omega) ⟨gCT, by omega, by omega⟩ | (obtain ⟨f, e2, x1, x2⟩ := o2.no (by omega); exact RO.ofl (by rw [one_o (by omega) (by omega), e2, bnd_l]) (by omega) x1 x2) | (obtain ⟨f, e3, x1, x2⟩ := o3.no (by omega); exact RO.ofl (by rw [one_o (by omega) (by omega), e2, bnd_r, e3, bnd_l]) (by omega) x1 x2) | exact RO.ofr (by rw [one_o (by omega) (by omega), e2, bnd_r, e3, bnd_r]) (by omega) ⟨gCT, by omega, by omega⟩ | (rw [one_l (by omega) (by omega) (by omega) (by omega)]; exact o4.map (fun s es h => ⟨h.1, h.2.1, by have h2 := h.2.2; have hl := lea_up es; omega⟩)) | (rw [one_l (by omega) (by omega) (by omega) (by omega)]; exact o5.map (fun s es h => ⟨h.1, h.2.1, by have h2 := h.2.2; have hl := lea_up es; omega⟩)), gWH⟩)
        by_cases c51 : (σ0 1 9).toInt = 26
        · refine lv_tableIn (off := 177) (tgt := 249) hx hb dX7_readOne_72 (by omega) (by omega) (by rw [c51]; rfl) (by decide) ?_
          refine lv_aload_n hx hb dX7_readOne_249 rfl (lv_at hl 1 rfl) ?_
          refine fg_7_2 (k := 27) hx hb hts in_X7_readOne_7 hown hK hP (by decide) (by decide) (hts _ lk_X7_readOne_19) dX7_readOne_250 ?_
          refine lv_iload_n hx hb dX7_readOne_253 rfl (lv_at hl 0 rfl) ?_
          refine r_bipush hx hb dX7_readOne_254 (by decide) (fun z52 ez52 => ?_)
          refine r_iconst hx hb dX7_readOne_256 (by decide) (fun z53 ez53 => ?_)
          refine r_cVi (k := 24) (As := [.int (σ0 1 9), .int z52, .int z53]) (rest := []) ⟨hx, hb, hml, hown, hts⟩ hK hP hN hS (c_X6_add l D cA ad hI σ15 τ15 hR (σ0 1 9) z52 z53 (by omega)) (cwV 3 hts gX7_readOne_X6_add rfl rfl rfl (by decide +kernel) ⟨by decide, by decide⟩) (rv_Sent hK hP (by decide) (by decide)) rfl hl.1 rfl (Nat.le_of_ble_eq_true rfl) dX7_readOne_257 (Nat.zero_le _) (Nat.zero_le _) (fun r54 u54 H54 locs54 hp54 hP hS => ?_)
          obtain ⟨σ54, τ54⟩ := u54
          obtain ⟨hR, f54, fL54, hq54, hp54_0⟩ : P_X6_add σ15 τ15 (σ0 1 9) z52 z53 r54 σ54 τ54 := hp54
          have hP : va_P D vwCl (gw cA ad σ54 τ54) H54 := hP
          obtain rfl := FrL.nil fL54
          have hF := hF.step f54 (by decide)
          have gCT := gCT.ag (Agr.fr f54 (by decide))
          have gWH := gWH.ag (Agr.fr f54 (by decide))
          have t55 : (σ54 24 1).toInt = (σ15 24 1).toInt := congrArg Int32.toInt (f54.at 24 1 (by decide))
          have hr56 := rg_6_2 hR (k := 24) (by decide) (by decide)
          exact r_zret hx hb hr hK hP hS hk (by omega) dX7_readOne_260 (show P_X7_readOne_d1 σ0 τ0 a1 b N mo q nn nm hc r54 σ54 τ15 from ⟨hR, hF, hFL, by omega, by first | exact RO.ofr ((one_l (by omega) (by omega) (by omega) (by omega)).trans (lea_n (by omega) (by omega))) (by omega) ⟨gCT, by omega, by omega⟩ | (exfalso; omega) | exact RO.ofk (one_x (by omega)) (by omega) (by omega) (by omega) | exact RO.ofk (one_4 (by omega) (by omega)) (by omega) (by omega) (by omega) | (obtain ⟨f, e1, x1, x2⟩ := o1.no (by omega); exact RO.ofl ((one_n (by omega) (by omega)).trans e1) (by omega) x1 x2) | exact RO.ofr ((one_n (by omega) (by omega)).trans e1) (by omega) ⟨gCT, by omega, by omega⟩ | (obtain ⟨f, e2, x1, x2⟩ := o2.no (by omega); exact RO.ofl (by rw [one_o (by omega) (by omega), e2, bnd_l]) (by omega) x1 x2) | (obtain ⟨f, e3, x1, x2⟩ := o3.no (by omega); exact RO.ofl (by rw [one_o (by omega) (by omega), e2, bnd_r, e3, bnd_l]) (by omega) x1 x2) | exact RO.ofr (by rw [one_o (by omega) (by omega), e2, bnd_r, e3, bnd_r]) (by omega) ⟨gCT, by omega, by omega⟩ | (rw [one_l (by omega) (by omega) (by omega) (by omega)]; exact o4.map (fun s es h => ⟨h.1, h.2.1, by have h2 := h.2.2; have hl := lea_up es; omega⟩)) | (rw [one_l (by omega) (by omega) (by omega) (by omega)]; exact o5.map (fun s es h => ⟨h.1, h.2.1, by have h2 := h.2.2; have hl := lea_up es; omega⟩)), gWH⟩)
        by_cases c57 : (σ0 1 9).toInt = 27
        · refine lv_tableIn (off := 171) (tgt := 243) hx hb dX7_readOne_72 (by omega) (by omega) (by rw [c57]; rfl) (by decide) ?_
          refine lv_aload_n hx hb dX7_readOne_243 rfl (lv_at hl 1 rfl) ?_
          refine lv_iload_n hx hb dX7_readOne_244 rfl (lv_at hl 0 rfl) ?_
          refine r_cVi (k := 27) (As := [.int (σ0 1 9)]) (rest := []) ⟨hx, hb, hml, hown, hts⟩ hK hP hN hS (c_X7_readMeasure l D cA ad hI σ15 τ15 hR (σ0 1 9) b N mo _ (nn + 1) nm hc (tkq b N mo q) (by omega) (by omega) (by omega) (by omega) gCT gWH) (cwV 1 hts gX7_readOne_X7_readMeasure rfl rfl rfl (by decide +kernel) ⟨by decide, by decide⟩) (rv_SText hK hP (by decide) (by decide)) rfl hl.1 rfl (Nat.le_of_ble_eq_true rfl) dX7_readOne_245 (Nat.zero_le _) (Nat.zero_le _) (fun r58 u58 H58 locs58 hp58 hP hS => ?_)
          obtain ⟨σ58, τ58⟩ := u58
          obtain ⟨hR, f58, fL58, hq58, hp58_0, gnWH⟩ : P_X7_readMeasure σ15 τ15 (σ0 1 9) b N mo _ (nn + 1) nm hc (tkq b N mo q) r58 σ58 τ58 := hp58
          have o5 := hp58_0
          have hP : va_P D vwCl (gw cA ad σ58 τ58) H58 := hP
          have hFL := hFL.step fL58 (by decide)
          have gWH := gWH.agL (AgrL.fr fL58 (by decide))
          have hF := hF.step f58 (by decide)
          have gWH := gWH.ag (Agr.fr f58 (by decide))
          have t59 : (σ58 24 1).toInt = (σ15 24 1).toInt := congrArg Int32.toInt (f58.at 24 1 (by decide))
          have hr60 := rg_6_2 hR (k := 24) (by decide) (by decide)
          exact r_zret hx hb hr hK hP hS hk (by omega) dX7_readOne_248 (show P_X7_readOne_d1 σ0 τ0 a1 b N mo q nn nm hc r58 σ58 τ58 from ⟨hR, hF, hFL, by omega, by first | exact RO.ofr ((one_l (by omega) (by omega) (by omega) (by omega)).trans (lea_n (by omega) (by omega))) (by omega) ⟨gCT, by omega, by omega⟩ | (exfalso; omega) | exact RO.ofk (one_x (by omega)) (by omega) (by omega) (by omega) | exact RO.ofk (one_4 (by omega) (by omega)) (by omega) (by omega) (by omega) | (obtain ⟨f, e1, x1, x2⟩ := o1.no (by omega); exact RO.ofl ((one_n (by omega) (by omega)).trans e1) (by omega) x1 x2) | exact RO.ofr ((one_n (by omega) (by omega)).trans e1) (by omega) ⟨gCT, by omega, by omega⟩ | (obtain ⟨f, e2, x1, x2⟩ := o2.no (by omega); exact RO.ofl (by rw [one_o (by omega) (by omega), e2, bnd_l]) (by omega) x1 x2) | (obtain ⟨f, e3, x1, x2⟩ := o3.no (by omega); exact RO.ofl (by rw [one_o (by omega) (by omega), e2, bnd_r, e3, bnd_l]) (by omega) x1 x2) | exact RO.ofr (by rw [one_o (by omega) (by omega), e2, bnd_r, e3, bnd_r]) (by omega) ⟨gCT, by omega, by omega⟩ | (rw [one_l (by omega) (by omega) (by omega) (by omega)]; exact o4.map (fun s es h => ⟨h.1, h.2.1, by have h2 := h.2.2; have hl := lea_up es; omega⟩)) | (rw [one_l (by omega) (by omega) (by omega) (by omega)]; exact o5.map (fun s es h => ⟨h.1, h.2.1, by have h2 := h.2.2; have hl := lea_up es; omega⟩)), gWH⟩)
        by_cases c61 : (σ0 1 9).toInt = 28
        · refine lv_tableIn (off := 171) (tgt := 243) hx hb dX7_readOne_72 (by omega) (by omega) (by rw [c61]; rfl) (by decide) ?_
          refine lv_aload_n hx hb dX7_readOne_243 rfl (lv_at hl 1 rfl) ?_
          refine lv_iload_n hx hb dX7_readOne_244 rfl (lv_at hl 0 rfl) ?_
          refine r_cVi (k := 27) (As := [.int (σ0 1 9)]) (rest := []) ⟨hx, hb, hml, hown, hts⟩ hK hP hN hS (c_X7_readMeasure l D cA ad hI σ15 τ15 hR (σ0 1 9) b N mo _ (nn + 1) nm hc (tkq b N mo q) (by omega) (by omega) (by omega) (by omega) gCT gWH) (cwV 1 hts gX7_readOne_X7_readMeasure rfl rfl rfl (by decide +kernel) ⟨by decide, by decide⟩) (rv_SText hK hP (by decide) (by decide)) rfl hl.1 rfl (Nat.le_of_ble_eq_true rfl) dX7_readOne_245 (Nat.zero_le _) (Nat.zero_le _) (fun r62 u62 H62 locs62 hp62 hP hS => ?_)
          obtain ⟨σ62, τ62⟩ := u62
          obtain ⟨hR, f62, fL62, hq62, hp62_0, gnWH⟩ : P_X7_readMeasure σ15 τ15 (σ0 1 9) b N mo _ (nn + 1) nm hc (tkq b N mo q) r62 σ62 τ62 := hp62
          have o5 := hp62_0
          have hP : va_P D vwCl (gw cA ad σ62 τ62) H62 := hP
          have hFL := hFL.step fL62 (by decide)
          have gWH := gWH.agL (AgrL.fr fL62 (by decide))
          have hF := hF.step f62 (by decide)
          have gWH := gWH.ag (Agr.fr f62 (by decide))
          have t63 : (σ62 24 1).toInt = (σ15 24 1).toInt := congrArg Int32.toInt (f62.at 24 1 (by decide))
          have hr64 := rg_6_2 hR (k := 24) (by decide) (by decide)
          exact r_zret hx hb hr hK hP hS hk (by omega) dX7_readOne_248 (show P_X7_readOne_d1 σ0 τ0 a1 b N mo q nn nm hc r62 σ62 τ62 from ⟨hR, hF, hFL, by omega, by first | exact RO.ofr ((one_l (by omega) (by omega) (by omega) (by omega)).trans (lea_n (by omega) (by omega))) (by omega) ⟨gCT, by omega, by omega⟩ | (exfalso; omega) | exact RO.ofk (one_x (by omega)) (by omega) (by omega) (by omega) | exact RO.ofk (one_4 (by omega) (by omega)) (by omega) (by omega) (by omega) | (obtain ⟨f, e1, x1, x2⟩ := o1.no (by omega); exact RO.ofl ((one_n (by omega) (by omega)).trans e1) (by omega) x1 x2) | exact RO.ofr ((one_n (by omega) (by omega)).trans e1) (by omega) ⟨gCT, by omega, by omega⟩ | (obtain ⟨f, e2, x1, x2⟩ := o2.no (by omega); exact RO.ofl (by rw [one_o (by omega) (by omega), e2, bnd_l]) (by omega) x1 x2) | (obtain ⟨f, e3, x1, x2⟩ := o3.no (by omega); exact RO.ofl (by rw [one_o (by omega) (by omega), e2, bnd_r, e3, bnd_l]) (by omega) x1 x2) | exact RO.ofr (by rw [one_o (by omega) (by omega), e2, bnd_r, e3, bnd_r]) (by omega) ⟨gCT, by omega, by omega⟩ | (rw [one_l (by omega) (by omega) (by omega) (by omega)]; exact o4.map (fun s es h => ⟨h.1, h.2.1, by have h2 := h.2.2; have hl := lea_up es; omega⟩)) | (rw [one_l (by omega) (by omega) (by omega) (by omega)]; exact o5.map (fun s es h => ⟨h.1, h.2.1, by have h2 := h.2.2; have hl := lea_up es; omega⟩)), gWH⟩)
        by_cases c65 : (σ0 1 9).toInt = 29
        · refine lv_tableIn (off := 171) (tgt := 243) hx hb dX7_readOne_72 (by omega) (by omega) (by rw [c65]; rfl) (by decide) ?_
          refine lv_aload_n hx hb dX7_readOne_243 rfl (lv_at hl 1 rfl) ?_
          refine lv_iload_n hx hb dX7_readOne_244 rfl (lv_at hl 0 rfl) ?_
          refine r_cVi (k := 27) (As := [.int (σ0 1 9)]) (rest := []) ⟨hx, hb, hml, hown, hts⟩ hK hP hN hS (c_X7_readMeasure l D cA ad hI σ15 τ15 hR (σ0 1 9) b N mo _ (nn + 1) nm hc (tkq b N mo q) (by omega) (by omega) (by omega) (by omega) gCT gWH) (cwV 1 hts gX7_readOne_X7_readMeasure rfl rfl rfl (by decide +kernel) ⟨by decide, by decide⟩) (rv_SText hK hP (by decide) (by decide)) rfl hl.1 rfl (Nat.le_of_ble_eq_true rfl) dX7_readOne_245 (Nat.zero_le _) (Nat.zero_le _) (fun r66 u66 H66 locs66 hp66 hP hS => ?_)
          obtain ⟨σ66, τ66⟩ := u66
          obtain ⟨hR, f66, fL66, hq66, hp66_0, gnWH⟩ : P_X7_readMeasure σ15 τ15 (σ0 1 9) b N mo _ (nn + 1) nm hc (tkq b N mo q) r66 σ66 τ66 := hp66
          have o5 := hp66_0
          have hP : va_P D vwCl (gw cA ad σ66 τ66) H66 := hP
          have hFL := hFL.step fL66 (by decide)
          have gWH := gWH.agL (AgrL.fr fL66 (by decide))
          have hF := hF.step f66 (by decide)
          have gWH := gWH.ag (Agr.fr f66 (by decide))
          have t67 : (σ66 24 1).toInt = (σ15 24 1).toInt := congrArg Int32.toInt (f66.at 24 1 (by decide))
          have hr68 := rg_6_2 hR (k := 24) (by decide) (by decide)
          exact r_zret hx hb hr hK hP hS hk (by omega) dX7_readOne_248 (show P_X7_readOne_d1 σ0 τ0 a1 b N mo q nn nm hc r66 σ66 τ66 from ⟨hR, hF, hFL, by omega, by first | exact RO.ofr ((one_l (by omega) (by omega) (by omega) (by omega)).trans (lea_n (by omega) (by omega))) (by omega) ⟨gCT, by omega, by omega⟩ | (exfalso; omega) | exact RO.ofk (one_x (by omega)) (by omega) (by omega) (by omega) | exact RO.ofk (one_4 (by omega) (by omega)) (by omega) (by omega) (by omega) | (obtain ⟨f, e1, x1, x2⟩ := o1.no (by omega); exact RO.ofl ((one_n (by omega) (by omega)).trans e1) (by omega) x1 x2) | exact RO.ofr ((one_n (by omega) (by omega)).trans e1) (by omega) ⟨gCT, by omega, by omega⟩ | (obtain ⟨f, e2, x1, x2⟩ := o2.no (by omega); exact RO.ofl (by rw [one_o (by omega) (by omega), e2, bnd_l]) (by omega) x1 x2) | (obtain ⟨f, e3, x1, x2⟩ := o3.no (by omega); exact RO.ofl (by rw [one_o (by omega) (by omega), e2, bnd_r, e3, bnd_l]) (by omega) x1 x2) | exact RO.ofr (by rw [one_o (by omega) (by omega), e2, bnd_r, e3, bnd_r]) (by omega) ⟨gCT, by omega, by omega⟩ | (rw [one_l (by omega) (by omega) (by omega) (by omega)]; exact o4.map (fun s es h => ⟨h.1, h.2.1, by have h2 := h.2.2; have hl := lea_up es; omega⟩)) | (rw [one_l (by omega) (by omega) (by omega) (by omega)]; exact o5.map (fun s es h => ⟨h.1, h.2.1, by have h2 := h.2.2; have hl := lea_up es; omega⟩)), gWH⟩)
        by_cases c69 : (σ0 1 9).toInt = 30
        · refine lv_tableIn (off := 171) (tgt := 243) hx hb dX7_readOne_72 (by omega) (by omega) (by rw [c69]; rfl) (by decide) ?_
          refine lv_aload_n hx hb dX7_readOne_243 rfl (lv_at hl 1 rfl) ?_
          refine lv_iload_n hx hb dX7_readOne_244 rfl (lv_at hl 0 rfl) ?_
          refine r_cVi (k := 27) (As := [.int (σ0 1 9)]) (rest := []) ⟨hx, hb, hml, hown, hts⟩ hK hP hN hS (c_X7_readMeasure l D cA ad hI σ15 τ15 hR (σ0 1 9) b N mo _ (nn + 1) nm hc (tkq b N mo q) (by omega) (by omega) (by omega) (by omega) gCT gWH) (cwV 1 hts gX7_readOne_X7_readMeasure rfl rfl rfl (by decide +kernel) ⟨by decide, by decide⟩) (rv_SText hK hP (by decide) (by decide)) rfl hl.1 rfl (Nat.le_of_ble_eq_true rfl) dX7_readOne_245 (Nat.zero_le _) (Nat.zero_le _) (fun r70 u70 H70 locs70 hp70 hP hS => ?_)
          obtain ⟨σ70, τ70⟩ := u70
          obtain ⟨hR, f70, fL70, hq70, hp70_0, gnWH⟩ : P_X7_readMeasure σ15 τ15 (σ0 1 9) b N mo _ (nn + 1) nm hc (tkq b N mo q) r70 σ70 τ70 := hp70
          have o5 := hp70_0
          have hP : va_P D vwCl (gw cA ad σ70 τ70) H70 := hP
          have hFL := hFL.step fL70 (by decide)
          have gWH := gWH.agL (AgrL.fr fL70 (by decide))
          have hF := hF.step f70 (by decide)
          have gWH := gWH.ag (Agr.fr f70 (by decide))
          have t71 : (σ70 24 1).toInt = (σ15 24 1).toInt := congrArg Int32.toInt (f70.at 24 1 (by decide))
          have hr72 := rg_6_2 hR (k := 24) (by decide) (by decide)
          exact r_zret hx hb hr hK hP hS hk (by omega) dX7_readOne_248 (show P_X7_readOne_d1 σ0 τ0 a1 b N mo q nn nm hc r70 σ70 τ70 from ⟨hR, hF, hFL, by omega, by first | exact RO.ofr ((one_l (by omega) (by omega) (by omega) (by omega)).trans (lea_n (by omega) (by omega))) (by omega) ⟨gCT, by omega, by omega⟩ | (exfalso; omega) | exact RO.ofk (one_x (by omega)) (by omega) (by omega) (by omega) | exact RO.ofk (one_4 (by omega) (by omega)) (by omega) (by omega) (by omega) | (obtain ⟨f, e1, x1, x2⟩ := o1.no (by omega); exact RO.ofl ((one_n (by omega) (by omega)).trans e1) (by omega) x1 x2) | exact RO.ofr ((one_n (by omega) (by omega)).trans e1) (by omega) ⟨gCT, by omega, by omega⟩ | (obtain ⟨f, e2, x1, x2⟩ := o2.no (by omega); exact RO.ofl (by rw [one_o (by omega) (by omega), e2, bnd_l]) (by omega) x1 x2) | (obtain ⟨f, e3, x1, x2⟩ := o3.no (by omega); exact RO.ofl (by rw [one_o (by omega) (by omega), e2, bnd_r, e3, bnd_l]) (by omega) x1 x2) | exact RO.ofr (by rw [one_o (by omega) (by omega), e2, bnd_r, e3, bnd_r]) (by omega) ⟨gCT, by omega, by omega⟩ | (rw [one_l (by omega) (by omega) (by omega) (by omega)]; exact o4.map (fun s es h => ⟨h.1, h.2.1, by have h2 := h.2.2; have hl := lea_up es; omega⟩)) | (rw [one_l (by omega) (by omega) (by omega) (by omega)]; exact o5.map (fun s es h => ⟨h.1, h.2.1, by have h2 := h.2.2; have hl := lea_up es; omega⟩)), gWH⟩)
        by_cases c73 : (σ0 1 9).toInt = 31
        · refine lv_tableIn (off := 177) (tgt := 249) hx hb dX7_readOne_72 (by omega) (by omega) (by rw [c73]; rfl) (by decide) ?_
          refine lv_aload_n hx hb dX7_readOne_249 rfl (lv_at hl 1 rfl) ?_
          refine fg_7_2 (k := 27) hx hb hts in_X7_readOne_7 hown hK hP (by decide) (by decide) (hts _ lk_X7_readOne_19) dX7_readOne_250 ?_
          refine lv_iload_n hx hb dX7_readOne_253 rfl (lv_at hl 0 rfl) ?_
          refine r_bipush hx hb dX7_readOne_254 (by decide) (fun z74 ez74 => ?_)
          refine r_iconst hx hb dX7_readOne_256 (by decide) (fun z75 ez75 => ?_)
          refine r_cVi (k := 24) (As := [.int (σ0 1 9), .int z74, .int z75]) (rest := []) ⟨hx, hb, hml, hown, hts⟩ hK hP hN hS (c_X6_add l D cA ad hI σ15 τ15 hR (σ0 1 9) z74 z75 (by omega)) (cwV 3 hts gX7_readOne_X6_add rfl rfl rfl (by decide +kernel) ⟨by decide, by decide⟩) (rv_Sent hK hP (by decide) (by decide)) rfl hl.1 rfl (Nat.le_of_ble_eq_true rfl) dX7_readOne_257 (Nat.zero_le _) (Nat.zero_le _) (fun r76 u76 H76 locs76 hp76 hP hS => ?_)
          obtain ⟨σ76, τ76⟩ := u76
          obtain ⟨hR, f76, fL76, hq76, hp76_0⟩ : P_X6_add σ15 τ15 (σ0 1 9) z74 z75 r76 σ76 τ76 := hp76
          have hP : va_P D vwCl (gw cA ad σ76 τ76) H76 := hP
          obtain rfl := FrL.nil fL76
          have hF := hF.step f76 (by decide)
          have gCT := gCT.ag (Agr.fr f76 (by decide))
          have gWH := gWH.ag (Agr.fr f76 (by decide))
          have t77 : (σ76 24 1).toInt = (σ15 24 1).toInt := congrArg Int32.toInt (f76.at 24 1 (by decide))
          have hr78 := rg_6_2 hR (k := 24) (by decide) (by decide)
          exact r_zret hx hb hr hK hP hS hk (by omega) dX7_readOne_260 (show P_X7_readOne_d1 σ0 τ0 a1 b N mo q nn nm hc r76 σ76 τ15 from ⟨hR, hF, hFL, by omega, by first | exact RO.ofr ((one_l (by omega) (by omega) (by omega) (by omega)).trans (lea_n (by omega) (by omega))) (by omega) ⟨gCT, by omega, by omega⟩ | (exfalso; omega) | exact RO.ofk (one_x (by omega)) (by omega) (by omega) (by omega) | exact RO.ofk (one_4 (by omega) (by omega)) (by omega) (by omega) (by omega) | (obtain ⟨f, e1, x1, x2⟩ := o1.no (by omega); exact RO.ofl ((one_n (by omega) (by omega)).trans e1) (by omega) x1 x2) | exact RO.ofr ((one_n (by omega) (by omega)).trans e1) (by omega) ⟨gCT, by omega, by omega⟩ | (obtain ⟨f, e2, x1, x2⟩ := o2.no (by omega); exact RO.ofl (by rw [one_o (by omega) (by omega), e2, bnd_l]) (by omega) x1 x2) | (obtain ⟨f, e3, x1, x2⟩ := o3.no (by omega); exact RO.ofl (by rw [one_o (by omega) (by omega), e2, bnd_r, e3, bnd_l]) (by omega) x1 x2) | exact RO.ofr (by rw [one_o (by omega) (by omega), e2, bnd_r, e3, bnd_r]) (by omega) ⟨gCT, by omega, by omega⟩ | (rw [one_l (by omega) (by omega) (by omega) (by omega)]; exact o4.map (fun s es h => ⟨h.1, h.2.1, by have h2 := h.2.2; have hl := lea_up es; omega⟩)) | (rw [one_l (by omega) (by omega) (by omega) (by omega)]; exact o5.map (fun s es h => ⟨h.1, h.2.1, by have h2 := h.2.2; have hl := lea_up es; omega⟩)), gWH⟩)
        by_cases c79 : (σ0 1 9).toInt = 32
        · refine lv_tableIn (off := 177) (tgt := 249) hx hb dX7_readOne_72 (by omega) (by omega) (by rw [c79]; rfl) (by decide) ?_
          refine lv_aload_n hx hb dX7_readOne_249 rfl (lv_at hl 1 rfl) ?_
          refine fg_7_2 (k := 27) hx hb hts in_X7_readOne_7 hown hK hP (by decide) (by decide) (hts _ lk_X7_readOne_19) dX7_readOne_250 ?_
          refine lv_iload_n hx hb dX7_readOne_253 rfl (lv_at hl 0 rfl) ?_
          refine r_bipush hx hb dX7_readOne_254 (by decide) (fun z80 ez80 => ?_)
          refine r_iconst hx hb dX7_readOne_256 (by decide) (fun z81 ez81 => ?_)
          refine r_cVi (k := 24) (As := [.int (σ0 1 9), .int z80, .int z81]) (rest := []) ⟨hx, hb, hml, hown, hts⟩ hK hP hN hS (c_X6_add l D cA ad hI σ15 τ15 hR (σ0 1 9) z80 z81 (by omega)) (cwV 3 hts gX7_readOne_X6_add rfl rfl rfl (by decide +kernel) ⟨by decide, by decide⟩) (rv_Sent hK hP (by decide) (by decide)) rfl hl.1 rfl (Nat.le_of_ble_eq_true rfl) dX7_readOne_257 (Nat.zero_le _) (Nat.zero_le _) (fun r82 u82 H82 locs82 hp82 hP hS => ?_)
          obtain ⟨σ82, τ82⟩ := u82
          obtain ⟨hR, f82, fL82, hq82, hp82_0⟩ : P_X6_add σ15 τ15 (σ0 1 9) z80 z81 r82 σ82 τ82 := hp82
          have hP : va_P D vwCl (gw cA ad σ82 τ82) H82 := hP
          obtain rfl := FrL.nil fL82
          have hF := hF.step f82 (by decide)
          have gCT := gCT.ag (Agr.fr f82 (by decide))
          have gWH := gWH.ag (Agr.fr f82 (by decide))
          have t83 : (σ82 24 1).toInt = (σ15 24 1).toInt := congrArg Int32.toInt (f82.at 24 1 (by decide))
          have hr84 := rg_6_2 hR (k := 24) (by decide) (by decide)
          exact r_zret hx hb hr hK hP hS hk (by omega) dX7_readOne_260 (show P_X7_readOne_d1 σ0 τ0 a1 b N mo q nn nm hc r82 σ82 τ15 from ⟨hR, hF, hFL, by omega, by first | exact RO.ofr ((one_l (by omega) (by omega) (by omega) (by omega)).trans (lea_n (by omega) (by omega))) (by omega) ⟨gCT, by omega, by omega⟩ | (exfalso; omega) | exact RO.ofk (one_x (by omega)) (by omega) (by omega) (by omega) | exact RO.ofk (one_4 (by omega) (by omega)) (by omega) (by omega) (by omega) | (obtain ⟨f, e1, x1, x2⟩ := o1.no (by omega); exact RO.ofl ((one_n (by omega) (by omega)).trans e1) (by omega) x1 x2) | exact RO.ofr ((one_n (by omega) (by omega)).trans e1) (by omega) ⟨gCT, by omega, by omega⟩ | (obtain ⟨f, e2, x1, x2⟩ := o2.no (by omega); exact RO.ofl (by rw [one_o (by omega) (by omega), e2, bnd_l]) (by omega) x1 x2) | (obtain ⟨f, e3, x1, x2⟩ := o3.no (by omega); exact RO.ofl (by rw [one_o (by omega) (by omega), e2, bnd_r, e3, bnd_l]) (by omega) x1 x2) | exact RO.ofr (by rw [one_o (by omega) (by omega), e2, bnd_r, e3, bnd_r]) (by omega) ⟨gCT, by omega, by omega⟩ | (rw [one_l (by omega) (by omega) (by omega) (by omega)]; exact o4.map (fun s es h => ⟨h.1, h.2.1, by have h2 := h.2.2; have hl := lea_up es; omega⟩)) | (rw [one_l (by omega) (by omega) (by omega) (by omega)]; exact o5.map (fun s es h => ⟨h.1, h.2.1, by have h2 := h.2.2; have hl := lea_up es; omega⟩)), gWH⟩)
        by_cases c85 : (σ0 1 9).toInt = 33
        · refine lv_tableIn (off := 177) (tgt := 249) hx hb dX7_readOne_72 (by omega) (by omega) (by rw [c85]; rfl) (by decide) ?_
          refine lv_aload_n hx hb dX7_readOne_249 rfl (lv_at hl 1 rfl) ?_
          refine fg_7_2 (k := 27) hx hb hts in_X7_readOne_7 hown hK hP (by decide) (by decide) (hts _ lk_X7_readOne_19) dX7_readOne_250 ?_
          refine lv_iload_n hx hb dX7_readOne_253 rfl (lv_at hl 0 rfl) ?_
          refine r_bipush hx hb dX7_readOne_254 (by decide) (fun z86 ez86 => ?_)
          refine r_iconst hx hb dX7_readOne_256 (by decide) (fun z87 ez87 => ?_)
          refine r_cVi (k := 24) (As := [.int (σ0 1 9), .int z86, .int z87]) (rest := []) ⟨hx, hb, hml, hown, hts⟩ hK hP hN hS (c_X6_add l D cA ad hI σ15 τ15 hR (σ0 1 9) z86 z87 (by omega)) (cwV 3 hts gX7_readOne_X6_add rfl rfl rfl (by decide +kernel) ⟨by decide, by decide⟩) (rv_Sent hK hP (by decide) (by decide)) rfl hl.1 rfl (Nat.le_of_ble_eq_true rfl) dX7_readOne_257 (Nat.zero_le _) (Nat.zero_le _) (fun r88 u88 H88 locs88 hp88 hP hS => ?_)
          obtain ⟨σ88, τ88⟩ := u88
          obtain ⟨hR, f88, fL88, hq88, hp88_0⟩ : P_X6_add σ15 τ15 (σ0 1 9) z86 z87 r88 σ88 τ88 := hp88
          have hP : va_P D vwCl (gw cA ad σ88 τ88) H88 := hP
          obtain rfl := FrL.nil fL88
          have hF := hF.step f88 (by decide)
          have gCT := gCT.ag (Agr.fr f88 (by decide))
          have gWH := gWH.ag (Agr.fr f88 (by decide))
          have t89 : (σ88 24 1).toInt = (σ15 24 1).toInt := congrArg Int32.toInt (f88.at 24 1 (by decide))
          have hr90 := rg_6_2 hR (k := 24) (by decide) (by decide)
          exact r_zret hx hb hr hK hP hS hk (by omega) dX7_readOne_260 (show P_X7_readOne_d1 σ0 τ0 a1 b N mo q nn nm hc r88 σ88 τ15 from ⟨hR, hF, hFL, by omega, by first | exact RO.ofr ((one_l (by omega) (by omega) (by omega) (by omega)).trans (lea_n (by omega) (by omega))) (by omega) ⟨gCT, by omega, by omega⟩ | (exfalso; omega) | exact RO.ofk (one_x (by omega)) (by omega) (by omega) (by omega) | exact RO.ofk (one_4 (by omega) (by omega)) (by omega) (by omega) (by omega) | (obtain ⟨f, e1, x1, x2⟩ := o1.no (by omega); exact RO.ofl ((one_n (by omega) (by omega)).trans e1) (by omega) x1 x2) | exact RO.ofr ((one_n (by omega) (by omega)).trans e1) (by omega) ⟨gCT, by omega, by omega⟩ | (obtain ⟨f, e2, x1, x2⟩ := o2.no (by omega); exact RO.ofl (by rw [one_o (by omega) (by omega), e2, bnd_l]) (by omega) x1 x2) | (obtain ⟨f, e3, x1, x2⟩ := o3.no (by omega); exact RO.ofl (by rw [one_o (by omega) (by omega), e2, bnd_r, e3, bnd_l]) (by omega) x1 x2) | exact RO.ofr (by rw [one_o (by omega) (by omega), e2, bnd_r, e3, bnd_r]) (by omega) ⟨gCT, by omega, by omega⟩ | (rw [one_l (by omega) (by omega) (by omega) (by omega)]; exact o4.map (fun s es h => ⟨h.1, h.2.1, by have h2 := h.2.2; have hl := lea_up es; omega⟩)) | (rw [one_l (by omega) (by omega) (by omega) (by omega)]; exact o5.map (fun s es h => ⟨h.1, h.2.1, by have h2 := h.2.2; have hl := lea_up es; omega⟩)), gWH⟩)
        by_cases c91 : (σ0 1 9).toInt = 34
        · refine lv_tableIn (off := 177) (tgt := 249) hx hb dX7_readOne_72 (by omega) (by omega) (by rw [c91]; rfl) (by decide) ?_
          refine lv_aload_n hx hb dX7_readOne_249 rfl (lv_at hl 1 rfl) ?_
          refine fg_7_2 (k := 27) hx hb hts in_X7_readOne_7 hown hK hP (by decide) (by decide) (hts _ lk_X7_readOne_19) dX7_readOne_250 ?_
          refine lv_iload_n hx hb dX7_readOne_253 rfl (lv_at hl 0 rfl) ?_
          refine r_bipush hx hb dX7_readOne_254 (by decide) (fun z92 ez92 => ?_)
          refine r_iconst hx hb dX7_readOne_256 (by decide) (fun z93 ez93 => ?_)
          refine r_cVi (k := 24) (As := [.int (σ0 1 9), .int z92, .int z93]) (rest := []) ⟨hx, hb, hml, hown, hts⟩ hK hP hN hS (c_X6_add l D cA ad hI σ15 τ15 hR (σ0 1 9) z92 z93 (by omega)) (cwV 3 hts gX7_readOne_X6_add rfl rfl rfl (by decide +kernel) ⟨by decide, by decide⟩) (rv_Sent hK hP (by decide) (by decide)) rfl hl.1 rfl (Nat.le_of_ble_eq_true rfl) dX7_readOne_257 (Nat.zero_le _) (Nat.zero_le _) (fun r94 u94 H94 locs94 hp94 hP hS => ?_)
          obtain ⟨σ94, τ94⟩ := u94
          obtain ⟨hR, f94, fL94, hq94, hp94_0⟩ : P_X6_add σ15 τ15 (σ0 1 9) z92 z93 r94 σ94 τ94 := hp94
          have hP : va_P D vwCl (gw cA ad σ94 τ94) H94 := hP
          obtain rfl := FrL.nil fL94
          have hF := hF.step f94 (by decide)
          have gCT := gCT.ag (Agr.fr f94 (by decide))
          have gWH := gWH.ag (Agr.fr f94 (by decide))
          have t95 : (σ94 24 1).toInt = (σ15 24 1).toInt := congrArg Int32.toInt (f94.at 24 1 (by decide))
          have hr96 := rg_6_2 hR (k := 24) (by decide) (by decide)
          exact r_zret hx hb hr hK hP hS hk (by omega) dX7_readOne_260 (show P_X7_readOne_d1 σ0 τ0 a1 b N mo q nn nm hc r94 σ94 τ15 from ⟨hR, hF, hFL, by omega, by first | exact RO.ofr ((one_l (by omega) (by omega) (by omega) (by omega)).trans (lea_n (by omega) (by omega))) (by omega) ⟨gCT, by omega, by omega⟩ | (exfalso; omega) | exact RO.ofk (one_x (by omega)) (by omega) (by omega) (by omega) | exact RO.ofk (one_4 (by omega) (by omega)) (by omega) (by omega) (by omega) | (obtain ⟨f, e1, x1, x2⟩ := o1.no (by omega); exact RO.ofl ((one_n (by omega) (by omega)).trans e1) (by omega) x1 x2) | exact RO.ofr ((one_n (by omega) (by omega)).trans e1) (by omega) ⟨gCT, by omega, by omega⟩ | (obtain ⟨f, e2, x1, x2⟩ := o2.no (by omega); exact RO.ofl (by rw [one_o (by omega) (by omega), e2, bnd_l]) (by omega) x1 x2) | (obtain ⟨f, e3, x1, x2⟩ := o3.no (by omega); exact RO.ofl (by rw [one_o (by omega) (by omega), e2, bnd_r, e3, bnd_l]) (by omega) x1 x2) | exact RO.ofr (by rw [one_o (by omega) (by omega), e2, bnd_r, e3, bnd_r]) (by omega) ⟨gCT, by omega, by omega⟩ | (rw [one_l (by omega) (by omega) (by omega) (by omega)]; exact o4.map (fun s es h => ⟨h.1, h.2.1, by have h2 := h.2.2; have hl := lea_up es; omega⟩)) | (rw [one_l (by omega) (by omega) (by omega) (by omega)]; exact o5.map (fun s es h => ⟨h.1, h.2.1, by have h2 := h.2.2; have hl := lea_up es; omega⟩)), gWH⟩)
        by_cases c97 : (σ0 1 9).toInt = 35
        · refine lv_tableIn (off := 177) (tgt := 249) hx hb dX7_readOne_72 (by omega) (by omega) (by rw [c97]; rfl) (by decide) ?_
          refine lv_aload_n hx hb dX7_readOne_249 rfl (lv_at hl 1 rfl) ?_
          refine fg_7_2 (k := 27) hx hb hts in_X7_readOne_7 hown hK hP (by decide) (by decide) (hts _ lk_X7_readOne_19) dX7_readOne_250 ?_
          refine lv_iload_n hx hb dX7_readOne_253 rfl (lv_at hl 0 rfl) ?_
          refine r_bipush hx hb dX7_readOne_254 (by decide) (fun z98 ez98 => ?_)
          refine r_iconst hx hb dX7_readOne_256 (by decide) (fun z99 ez99 => ?_)
          refine r_cVi (k := 24) (As := [.int (σ0 1 9), .int z98, .int z99]) (rest := []) ⟨hx, hb, hml, hown, hts⟩ hK hP hN hS (c_X6_add l D cA ad hI σ15 τ15 hR (σ0 1 9) z98 z99 (by omega)) (cwV 3 hts gX7_readOne_X6_add rfl rfl rfl (by decide +kernel) ⟨by decide, by decide⟩) (rv_Sent hK hP (by decide) (by decide)) rfl hl.1 rfl (Nat.le_of_ble_eq_true rfl) dX7_readOne_257 (Nat.zero_le _) (Nat.zero_le _) (fun r100 u100 H100 locs100 hp100 hP hS => ?_)
          obtain ⟨σ100, τ100⟩ := u100
          obtain ⟨hR, f100, fL100, hq100, hp100_0⟩ : P_X6_add σ15 τ15 (σ0 1 9) z98 z99 r100 σ100 τ100 := hp100
          have hP : va_P D vwCl (gw cA ad σ100 τ100) H100 := hP
          obtain rfl := FrL.nil fL100
          have hF := hF.step f100 (by decide)
          have gCT := gCT.ag (Agr.fr f100 (by decide))
          have gWH := gWH.ag (Agr.fr f100 (by decide))
          have t101 : (σ100 24 1).toInt = (σ15 24 1).toInt := congrArg Int32.toInt (f100.at 24 1 (by decide))
          have hr102 := rg_6_2 hR (k := 24) (by decide) (by decide)
          exact r_zret hx hb hr hK hP hS hk (by omega) dX7_readOne_260 (show P_X7_readOne_d1 σ0 τ0 a1 b N mo q nn nm hc r100 σ100 τ15 from ⟨hR, hF, hFL, by omega, by first | exact RO.ofr ((one_l (by omega) (by omega) (by omega) (by omega)).trans (lea_n (by omega) (by omega))) (by omega) ⟨gCT, by omega, by omega⟩ | (exfalso; omega) | exact RO.ofk (one_x (by omega)) (by omega) (by omega) (by omega) | exact RO.ofk (one_4 (by omega) (by omega)) (by omega) (by omega) (by omega) | (obtain ⟨f, e1, x1, x2⟩ := o1.no (by omega); exact RO.ofl ((one_n (by omega) (by omega)).trans e1) (by omega) x1 x2) | exact RO.ofr ((one_n (by omega) (by omega)).trans e1) (by omega) ⟨gCT, by omega, by omega⟩ | (obtain ⟨f, e2, x1, x2⟩ := o2.no (by omega); exact RO.ofl (by rw [one_o (by omega) (by omega), e2, bnd_l]) (by omega) x1 x2) | (obtain ⟨f, e3, x1, x2⟩ := o3.no (by omega); exact RO.ofl (by rw [one_o (by omega) (by omega), e2, bnd_r, e3, bnd_l]) (by omega) x1 x2) | exact RO.ofr (by rw [one_o (by omega) (by omega), e2, bnd_r, e3, bnd_r]) (by omega) ⟨gCT, by omega, by omega⟩ | (rw [one_l (by omega) (by omega) (by omega) (by omega)]; exact o4.map (fun s es h => ⟨h.1, h.2.1, by have h2 := h.2.2; have hl := lea_up es; omega⟩)) | (rw [one_l (by omega) (by omega) (by omega) (by omega)]; exact o5.map (fun s es h => ⟨h.1, h.2.1, by have h2 := h.2.2; have hl := lea_up es; omega⟩)), gWH⟩)
        by_cases c103 : (σ0 1 9).toInt = 36
        · refine lv_tableIn (off := 177) (tgt := 249) hx hb dX7_readOne_72 (by omega) (by omega) (by rw [c103]; rfl) (by decide) ?_
          refine lv_aload_n hx hb dX7_readOne_249 rfl (lv_at hl 1 rfl) ?_
          refine fg_7_2 (k := 27) hx hb hts in_X7_readOne_7 hown hK hP (by decide) (by decide) (hts _ lk_X7_readOne_19) dX7_readOne_250 ?_
          refine lv_iload_n hx hb dX7_readOne_253 rfl (lv_at hl 0 rfl) ?_
          refine r_bipush hx hb dX7_readOne_254 (by decide) (fun z104 ez104 => ?_)
          refine r_iconst hx hb dX7_readOne_256 (by decide) (fun z105 ez105 => ?_)
          refine r_cVi (k := 24) (As := [.int (σ0 1 9), .int z104, .int z105]) (rest := []) ⟨hx, hb, hml, hown, hts⟩ hK hP hN hS (c_X6_add l D cA ad hI σ15 τ15 hR (σ0 1 9) z104 z105 (by omega)) (cwV 3 hts gX7_readOne_X6_add rfl rfl rfl (by decide +kernel) ⟨by decide, by decide⟩) (rv_Sent hK hP (by decide) (by decide)) rfl hl.1 rfl (Nat.le_of_ble_eq_true rfl) dX7_readOne_257 (Nat.zero_le _) (Nat.zero_le _) (fun r106 u106 H106 locs106 hp106 hP hS => ?_)
          obtain ⟨σ106, τ106⟩ := u106
          obtain ⟨hR, f106, fL106, hq106, hp106_0⟩ : P_X6_add σ15 τ15 (σ0 1 9) z104 z105 r106 σ106 τ106 := hp106
          have hP : va_P D vwCl (gw cA ad σ106 τ106) H106 := hP
          obtain rfl := FrL.nil fL106
          have hF := hF.step f106 (by decide)
          have gCT := gCT.ag (Agr.fr f106 (by decide))
          have gWH := gWH.ag (Agr.fr f106 (by decide))
          have t107 : (σ106 24 1).toInt = (σ15 24 1).toInt := congrArg Int32.toInt (f106.at 24 1 (by decide))
          have hr108 := rg_6_2 hR (k := 24) (by decide) (by decide)
          exact r_zret hx hb hr hK hP hS hk (by omega) dX7_readOne_260 (show P_X7_readOne_d1 σ0 τ0 a1 b N mo q nn nm hc r106 σ106 τ15 from ⟨hR, hF, hFL, by omega, by first | exact RO.ofr ((one_l (by omega) (by omega) (by omega) (by omega)).trans (lea_n (by omega) (by omega))) (by omega) ⟨gCT, by omega, by omega⟩ | (exfalso; omega) | exact RO.ofk (one_x (by omega)) (by omega) (by omega) (by omega) | exact RO.ofk (one_4 (by omega) (by omega)) (by omega) (by omega) (by omega) | (obtain ⟨f, e1, x1, x2⟩ := o1.no (by omega); exact RO.ofl ((one_n (by omega) (by omega)).trans e1) (by omega) x1 x2) | exact RO.ofr ((one_n (by omega) (by omega)).trans e1) (by omega) ⟨gCT, by omega, by omega⟩ | (obtain ⟨f, e2, x1, x2⟩ := o2.no (by omega); exact RO.ofl (by rw [one_o (by omega) (by omega), e2, bnd_l]) (by omega) x1 x2) | (obtain ⟨f, e3, x1, x2⟩ := o3.no (by omega); exact RO.ofl (by rw [one_o (by omega) (by omega), e2, bnd_r, e3, bnd_l]) (by omega) x1 x2) | exact RO.ofr (by rw [one_o (by omega) (by omega), e2, bnd_r, e3, bnd_r]) (by omega) ⟨gCT, by omega, by omega⟩ | (rw [one_l (by omega) (by omega) (by omega) (by omega)]; exact o4.map (fun s es h => ⟨h.1, h.2.1, by have h2 := h.2.2; have hl := lea_up es; omega⟩)) | (rw [one_l (by omega) (by omega) (by omega) (by omega)]; exact o5.map (fun s es h => ⟨h.1, h.2.1, by have h2 := h.2.2; have hl := lea_up es; omega⟩)), gWH⟩)
        by_cases c109 : (σ0 1 9).toInt = 37
        · refine lv_tableIn (off := 177) (tgt := 249) hx hb dX7_readOne_72 (by omega) (by omega) (by rw [c109]; rfl) (by decide) ?_
          refine lv_aload_n hx hb dX7_readOne_249 rfl (lv_at hl 1 rfl) ?_
          refine fg_7_2 (k := 27) hx hb hts in_X7_readOne_7 hown hK hP (by decide) (by decide) (hts _ lk_X7_readOne_19) dX7_readOne_250 ?_
          refine lv_iload_n hx hb dX7_readOne_253 rfl (lv_at hl 0 rfl) ?_
          refine r_bipush hx hb dX7_readOne_254 (by decide) (fun z110 ez110 => ?_)
          refine r_iconst hx hb dX7_readOne_256 (by decide) (fun z111 ez111 => ?_)
          refine r_cVi (k := 24) (As := [.int (σ0 1 9), .int z110, .int z111]) (rest := []) ⟨hx, hb, hml, hown, hts⟩ hK hP hN hS (c_X6_add l D cA ad hI σ15 τ15 hR (σ0 1 9) z110 z111 (by omega)) (cwV 3 hts gX7_readOne_X6_add rfl rfl rfl (by decide +kernel) ⟨by decide, by decide⟩) (rv_Sent hK hP (by decide) (by decide)) rfl hl.1 rfl (Nat.le_of_ble_eq_true rfl) dX7_readOne_257 (Nat.zero_le _) (Nat.zero_le _) (fun r112 u112 H112 locs112 hp112 hP hS => ?_)
          obtain ⟨σ112, τ112⟩ := u112
          obtain ⟨hR, f112, fL112, hq112, hp112_0⟩ : P_X6_add σ15 τ15 (σ0 1 9) z110 z111 r112 σ112 τ112 := hp112
          have hP : va_P D vwCl (gw cA ad σ112 τ112) H112 := hP
          obtain rfl := FrL.nil fL112
          have hF := hF.step f112 (by decide)
          have gCT := gCT.ag (Agr.fr f112 (by decide))
          have gWH := gWH.ag (Agr.fr f112 (by decide))
          have t113 : (σ112 24 1).toInt = (σ15 24 1).toInt := congrArg Int32.toInt (f112.at 24 1 (by decide))
          have hr114 := rg_6_2 hR (k := 24) (by decide) (by decide)
          exact r_zret hx hb hr hK hP hS hk (by omega) dX7_readOne_260 (show P_X7_readOne_d1 σ0 τ0 a1 b N mo q nn nm hc r112 σ112 τ15 from ⟨hR, hF, hFL, by omega, by first | exact RO.ofr ((one_l (by omega) (by omega) (by omega) (by omega)).trans (lea_n (by omega) (by omega))) (by omega) ⟨gCT, by omega, by omega⟩ | (exfalso; omega) | exact RO.ofk (one_x (by omega)) (by omega) (by omega) (by omega) | exact RO.ofk (one_4 (by omega) (by omega)) (by omega) (by omega) (by omega) | (obtain ⟨f, e1, x1, x2⟩ := o1.no (by omega); exact RO.ofl ((one_n (by omega) (by omega)).trans e1) (by omega) x1 x2) | exact RO.ofr ((one_n (by omega) (by omega)).trans e1) (by omega) ⟨gCT, by omega, by omega⟩ | (obtain ⟨f, e2, x1, x2⟩ := o2.no (by omega); exact RO.ofl (by rw [one_o (by omega) (by omega), e2, bnd_l]) (by omega) x1 x2) | (obtain ⟨f, e3, x1, x2⟩ := o3.no (by omega); exact RO.ofl (by rw [one_o (by omega) (by omega), e2, bnd_r, e3, bnd_l]) (by omega) x1 x2) | exact RO.ofr (by rw [one_o (by omega) (by omega), e2, bnd_r, e3, bnd_r]) (by omega) ⟨gCT, by omega, by omega⟩ | (rw [one_l (by omega) (by omega) (by omega) (by omega)]; exact o4.map (fun s es h => ⟨h.1, h.2.1, by have h2 := h.2.2; have hl := lea_up es; omega⟩)) | (rw [one_l (by omega) (by omega) (by omega) (by omega)]; exact o5.map (fun s es h => ⟨h.1, h.2.1, by have h2 := h.2.2; have hl := lea_up es; omega⟩)), gWH⟩)
        by_cases c115 : (σ0 1 9).toInt = 38
        · refine lv_tableIn (off := 177) (tgt := 249) hx hb dX7_readOne_72 (by omega) (by omega) (by rw [c115]; rfl) (by decide) ?_
          refine lv_aload_n hx hb dX7_readOne_249 rfl (lv_at hl 1 rfl) ?_
          refine fg_7_2 (k := 27) hx hb hts in_X7_readOne_7 hown hK hP (by decide) (by decide) (hts _ lk_X7_readOne_19) dX7_readOne_250 ?_
          refine lv_iload_n hx hb dX7_readOne_253 rfl (lv_at hl 0 rfl) ?_
          refine r_bipush hx hb dX7_readOne_254 (by decide) (fun z116 ez116 => ?_)
          refine r_iconst hx hb dX7_readOne_256 (by decide) (fun z117 ez117 => ?_)
          refine r_cVi (k := 24) (As := [.int (σ0 1 9), .int z116, .int z117]) (rest := []) ⟨hx, hb, hml, hown, hts⟩ hK hP hN hS (c_X6_add l D cA ad hI σ15 τ15 hR (σ0 1 9) z116 z117 (by omega)) (cwV 3 hts gX7_readOne_X6_add rfl rfl rfl (by decide +kernel) ⟨by decide, by decide⟩) (rv_Sent hK hP (by decide) (by decide)) rfl hl.1 rfl (Nat.le_of_ble_eq_true rfl) dX7_readOne_257 (Nat.zero_le _) (Nat.zero_le _) (fun r118 u118 H118 locs118 hp118 hP hS => ?_)
          obtain ⟨σ118, τ118⟩ := u118
          obtain ⟨hR, f118, fL118, hq118, hp118_0⟩ : P_X6_add σ15 τ15 (σ0 1 9) z116 z117 r118 σ118 τ118 := hp118
          have hP : va_P D vwCl (gw cA ad σ118 τ118) H118 := hP
          obtain rfl := FrL.nil fL118
          have hF := hF.step f118 (by decide)
          have gCT := gCT.ag (Agr.fr f118 (by decide))
          have gWH := gWH.ag (Agr.fr f118 (by decide))
          have t119 : (σ118 24 1).toInt = (σ15 24 1).toInt := congrArg Int32.toInt (f118.at 24 1 (by decide))
          have hr120 := rg_6_2 hR (k := 24) (by decide) (by decide)
          exact r_zret hx hb hr hK hP hS hk (by omega) dX7_readOne_260 (show P_X7_readOne_d1 σ0 τ0 a1 b N mo q nn nm hc r118 σ118 τ15 from ⟨hR, hF, hFL, by omega, by first | exact RO.ofr ((one_l (by omega) (by omega) (by omega) (by omega)).trans (lea_n (by omega) (by omega))) (by omega) ⟨gCT, by omega, by omega⟩ | (exfalso; omega) | exact RO.ofk (one_x (by omega)) (by omega) (by omega) (by omega) | exact RO.ofk (one_4 (by omega) (by omega)) (by omega) (by omega) (by omega) | (obtain ⟨f, e1, x1, x2⟩ := o1.no (by omega); exact RO.ofl ((one_n (by omega) (by omega)).trans e1) (by omega) x1 x2) | exact RO.ofr ((one_n (by omega) (by omega)).trans e1) (by omega) ⟨gCT, by omega, by omega⟩ | (obtain ⟨f, e2, x1, x2⟩ := o2.no (by omega); exact RO.ofl (by rw [one_o (by omega) (by omega), e2, bnd_l]) (by omega) x1 x2) | (obtain ⟨f, e3, x1, x2⟩ := o3.no (by omega); exact RO.ofl (by rw [one_o (by omega) (by omega), e2, bnd_r, e3, bnd_l]) (by omega) x1 x2) | exact RO.ofr (by rw [one_o (by omega) (by omega), e2, bnd_r, e3, bnd_r]) (by omega) ⟨gCT, by omega, by omega⟩ | (rw [one_l (by omega) (by omega) (by omega) (by omega)]; exact o4.map (fun s es h => ⟨h.1, h.2.1, by have h2 := h.2.2; have hl := lea_up es; omega⟩)) | (rw [one_l (by omega) (by omega) (by omega) (by omega)]; exact o5.map (fun s es h => ⟨h.1, h.2.1, by have h2 := h.2.2; have hl := lea_up es; omega⟩)), gWH⟩)
        by_cases c121 : (σ0 1 9).toInt = 39
        · refine lv_tableIn (off := 177) (tgt := 249) hx hb dX7_readOne_72 (by omega) (by omega) (by rw [c121]; rfl) (by decide) ?_
          refine lv_aload_n hx hb dX7_readOne_249 rfl (lv_at hl 1 rfl) ?_
          refine fg_7_2 (k := 27) hx hb hts in_X7_readOne_7 hown hK hP (by decide) (by decide) (hts _ lk_X7_readOne_19) dX7_readOne_250 ?_
          refine lv_iload_n hx hb dX7_readOne_253 rfl (lv_at hl 0 rfl) ?_
          refine r_bipush hx hb dX7_readOne_254 (by decide) (fun z122 ez122 => ?_)
          refine r_iconst hx hb dX7_readOne_256 (by decide) (fun z123 ez123 => ?_)
          refine r_cVi (k := 24) (As := [.int (σ0 1 9), .int z122, .int z123]) (rest := []) ⟨hx, hb, hml, hown, hts⟩ hK hP hN hS (c_X6_add l D cA ad hI σ15 τ15 hR (σ0 1 9) z122 z123 (by omega)) (cwV 3 hts gX7_readOne_X6_add rfl rfl rfl (by decide +kernel) ⟨by decide, by decide⟩) (rv_Sent hK hP (by decide) (by decide)) rfl hl.1 rfl (Nat.le_of_ble_eq_true rfl) dX7_readOne_257 (Nat.zero_le _) (Nat.zero_le _) (fun r124 u124 H124 locs124 hp124 hP hS => ?_)
          obtain ⟨σ124, τ124⟩ := u124
          obtain ⟨hR, f124, fL124, hq124, hp124_0⟩ : P_X6_add σ15 τ15 (σ0 1 9) z122 z123 r124 σ124 τ124 := hp124
          have hP : va_P D vwCl (gw cA ad σ124 τ124) H124 := hP
          obtain rfl := FrL.nil fL124
          have hF := hF.step f124 (by decide)
          have gCT := gCT.ag (Agr.fr f124 (by decide))
          have gWH := gWH.ag (Agr.fr f124 (by decide))
          have t125 : (σ124 24 1).toInt = (σ15 24 1).toInt := congrArg Int32.toInt (f124.at 24 1 (by decide))
          have hr126 := rg_6_2 hR (k := 24) (by decide) (by decide)
          exact r_zret hx hb hr hK hP hS hk (by omega) dX7_readOne_260 (show P_X7_readOne_d1 σ0 τ0 a1 b N mo q nn nm hc r124 σ124 τ15 from ⟨hR, hF, hFL, by omega, by first | exact RO.ofr ((one_l (by omega) (by omega) (by omega) (by omega)).trans (lea_n (by omega) (by omega))) (by omega) ⟨gCT, by omega, by omega⟩ | (exfalso; omega) | exact RO.ofk (one_x (by omega)) (by omega) (by omega) (by omega) | exact RO.ofk (one_4 (by omega) (by omega)) (by omega) (by omega) (by omega) | (obtain ⟨f, e1, x1, x2⟩ := o1.no (by omega); exact RO.ofl ((one_n (by omega) (by omega)).trans e1) (by omega) x1 x2) | exact RO.ofr ((one_n (by omega) (by omega)).trans e1) (by omega) ⟨gCT, by omega, by omega⟩ | (obtain ⟨f, e2, x1, x2⟩ := o2.no (by omega); exact RO.ofl (by rw [one_o (by omega) (by omega), e2, bnd_l]) (by omega) x1 x2) | (obtain ⟨f, e3, x1, x2⟩ := o3.no (by omega); exact RO.ofl (by rw [one_o (by omega) (by omega), e2, bnd_r, e3, bnd_l]) (by omega) x1 x2) | exact RO.ofr (by rw [one_o (by omega) (by omega), e2, bnd_r, e3, bnd_r]) (by omega) ⟨gCT, by omega, by omega⟩ | (rw [one_l (by omega) (by omega) (by omega) (by omega)]; exact o4.map (fun s es h => ⟨h.1, h.2.1, by have h2 := h.2.2; have hl := lea_up es; omega⟩)) | (rw [one_l (by omega) (by omega) (by omega) (by omega)]; exact o5.map (fun s es h => ⟨h.1, h.2.1, by have h2 := h.2.2; have hl := lea_up es; omega⟩)), gWH⟩)
        by_cases c127 : (σ0 1 9).toInt = 40
        · refine lv_tableIn (off := 177) (tgt := 249) hx hb dX7_readOne_72 (by omega) (by omega) (by rw [c127]; rfl) (by decide) ?_
          refine lv_aload_n hx hb dX7_readOne_249 rfl (lv_at hl 1 rfl) ?_
          refine fg_7_2 (k := 27) hx hb hts in_X7_readOne_7 hown hK hP (by decide) (by decide) (hts _ lk_X7_readOne_19) dX7_readOne_250 ?_
          refine lv_iload_n hx hb dX7_readOne_253 rfl (lv_at hl 0 rfl) ?_
          refine r_bipush hx hb dX7_readOne_254 (by decide) (fun z128 ez128 => ?_)
          refine r_iconst hx hb dX7_readOne_256 (by decide) (fun z129 ez129 => ?_)
          refine r_cVi (k := 24) (As := [.int (σ0 1 9), .int z128, .int z129]) (rest := []) ⟨hx, hb, hml, hown, hts⟩ hK hP hN hS (c_X6_add l D cA ad hI σ15 τ15 hR (σ0 1 9) z128 z129 (by omega)) (cwV 3 hts gX7_readOne_X6_add rfl rfl rfl (by decide +kernel) ⟨by decide, by decide⟩) (rv_Sent hK hP (by decide) (by decide)) rfl hl.1 rfl (Nat.le_of_ble_eq_true rfl) dX7_readOne_257 (Nat.zero_le _) (Nat.zero_le _) (fun r130 u130 H130 locs130 hp130 hP hS => ?_)
          obtain ⟨σ130, τ130⟩ := u130
          obtain ⟨hR, f130, fL130, hq130, hp130_0⟩ : P_X6_add σ15 τ15 (σ0 1 9) z128 z129 r130 σ130 τ130 := hp130
          have hP : va_P D vwCl (gw cA ad σ130 τ130) H130 := hP
          obtain rfl := FrL.nil fL130
          have hF := hF.step f130 (by decide)
          have gCT := gCT.ag (Agr.fr f130 (by decide))
          have gWH := gWH.ag (Agr.fr f130 (by decide))
          have t131 : (σ130 24 1).toInt = (σ15 24 1).toInt := congrArg Int32.toInt (f130.at 24 1 (by decide))
          have hr132 := rg_6_2 hR (k := 24) (by decide) (by decide)
          exact r_zret hx hb hr hK hP hS hk (by omega) dX7_readOne_260 (show P_X7_readOne_d1 σ0 τ0 a1 b N mo q nn nm hc r130 σ130 τ15 from ⟨hR, hF, hFL, by omega, by first | exact RO.ofr ((one_l (by omega) (by omega) (by omega) (by omega)).trans (lea_n (by omega) (by omega))) (by omega) ⟨gCT, by omega, by omega⟩ | (exfalso; omega) | exact RO.ofk (one_x (by omega)) (by omega) (by omega) (by omega) | exact RO.ofk (one_4 (by omega) (by omega)) (by omega) (by omega) (by omega) | (obtain ⟨f, e1, x1, x2⟩ := o1.no (by omega); exact RO.ofl ((one_n (by omega) (by omega)).trans e1) (by omega) x1 x2) | exact RO.ofr ((one_n (by omega) (by omega)).trans e1) (by omega) ⟨gCT, by omega, by omega⟩ | (obtain ⟨f, e2, x1, x2⟩ := o2.no (by omega); exact RO.ofl (by rw [one_o (by omega) (by omega), e2, bnd_l]) (by omega) x1 x2) | (obtain ⟨f, e3, x1, x2⟩ := o3.no (by omega); exact RO.ofl (by rw [one_o (by omega) (by omega), e2, bnd_r, e3, bnd_l]) (by omega) x1 x2) | exact RO.ofr (by rw [one_o (by omega) (by omega), e2, bnd_r, e3, bnd_r]) (by omega) ⟨gCT, by omega, by omega⟩ | (rw [one_l (by omega) (by omega) (by omega) (by omega)]; exact o4.map (fun s es h => ⟨h.1, h.2.1, by have h2 := h.2.2; have hl := lea_up es; omega⟩)) | (rw [one_l (by omega) (by omega) (by omega) (by omega)]; exact o5.map (fun s es h => ⟨h.1, h.2.1, by have h2 := h.2.2; have hl := lea_up es; omega⟩)), gWH⟩)
        by_cases c133 : (σ0 1 9).toInt = 41
        · refine lv_tableIn (off := 177) (tgt := 249) hx hb dX7_readOne_72 (by omega) (by omega) (by rw [c133]; rfl) (by decide) ?_
          refine lv_aload_n hx hb dX7_readOne_249 rfl (lv_at hl 1 rfl) ?_
          refine fg_7_2 (k := 27) hx hb hts in_X7_readOne_7 hown hK hP (by decide) (by decide) (hts _ lk_X7_readOne_19) dX7_readOne_250 ?_
          refine lv_iload_n hx hb dX7_readOne_253 rfl (lv_at hl 0 rfl) ?_
          refine r_bipush hx hb dX7_readOne_254 (by decide) (fun z134 ez134 => ?_)
          refine r_iconst hx hb dX7_readOne_256 (by decide) (fun z135 ez135 => ?_)
          refine r_cVi (k := 24) (As := [.int (σ0 1 9), .int z134, .int z135]) (rest := []) ⟨hx, hb, hml, hown, hts⟩ hK hP hN hS (c_X6_add l D cA ad hI σ15 τ15 hR (σ0 1 9) z134 z135 (by omega)) (cwV 3 hts gX7_readOne_X6_add rfl rfl rfl (by decide +kernel) ⟨by decide, by decide⟩) (rv_Sent hK hP (by decide) (by decide)) rfl hl.1 rfl (Nat.le_of_ble_eq_true rfl) dX7_readOne_257 (Nat.zero_le _) (Nat.zero_le _) (fun r136 u136 H136 locs136 hp136 hP hS => ?_)
          obtain ⟨σ136, τ136⟩ := u136
          obtain ⟨hR, f136, fL136, hq136, hp136_0⟩ : P_X6_add σ15 τ15 (σ0 1 9) z134 z135 r136 σ136 τ136 := hp136
          have hP : va_P D vwCl (gw cA ad σ136 τ136) H136 := hP
          obtain rfl := FrL.nil fL136
          have hF := hF.step f136 (by decide)
          have gCT := gCT.ag (Agr.fr f136 (by decide))
          have gWH := gWH.ag (Agr.fr f136 (by decide))
          have t137 : (σ136 24 1).toInt = (σ15 24 1).toInt := congrArg Int32.toInt (f136.at 24 1 (by decide))
          have hr138 := rg_6_2 hR (k := 24) (by decide) (by decide)
          exact r_zret hx hb hr hK hP hS hk (by omega) dX7_readOne_260 (show P_X7_readOne_d1 σ0 τ0 a1 b N mo q nn nm hc r136 σ136 τ15 from ⟨hR, hF, hFL, by omega, by first | exact RO.ofr ((one_l (by omega) (by omega) (by omega) (by omega)).trans (lea_n (by omega) (by omega))) (by omega) ⟨gCT, by omega, by omega⟩ | (exfalso; omega) | exact RO.ofk (one_x (by omega)) (by omega) (by omega) (by omega) | exact RO.ofk (one_4 (by omega) (by omega)) (by omega) (by omega) (by omega) | (obtain ⟨f, e1, x1, x2⟩ := o1.no (by omega); exact RO.ofl ((one_n (by omega) (by omega)).trans e1) (by omega) x1 x2) | exact RO.ofr ((one_n (by omega) (by omega)).trans e1) (by omega) ⟨gCT, by omega, by omega⟩ | (obtain ⟨f, e2, x1, x2⟩ := o2.no (by omega); exact RO.ofl (by rw [one_o (by omega) (by omega), e2, bnd_l]) (by omega) x1 x2) | (obtain ⟨f, e3, x1, x2⟩ := o3.no (by omega); exact RO.ofl (by rw [one_o (by omega) (by omega), e2, bnd_r, e3, bnd_l]) (by omega) x1 x2) | exact RO.ofr (by rw [one_o (by omega) (by omega), e2, bnd_r, e3, bnd_r]) (by omega) ⟨gCT, by omega, by omega⟩ | (rw [one_l (by omega) (by omega) (by omega) (by omega)]; exact o4.map (fun s es h => ⟨h.1, h.2.1, by have h2 := h.2.2; have hl := lea_up es; omega⟩)) | (rw [one_l (by omega) (by omega) (by omega) (by omega)]; exact o5.map (fun s es h => ⟨h.1, h.2.1, by have h2 := h.2.2; have hl := lea_up es; omega⟩)), gWH⟩)
        by_cases c139 : (σ0 1 9).toInt = 42
        · refine lv_tableIn (off := 177) (tgt := 249) hx hb dX7_readOne_72 (by omega) (by omega) (by rw [c139]; rfl) (by decide) ?_
          refine lv_aload_n hx hb dX7_readOne_249 rfl (lv_at hl 1 rfl) ?_
          refine fg_7_2 (k := 27) hx hb hts in_X7_readOne_7 hown hK hP (by decide) (by decide) (hts _ lk_X7_readOne_19) dX7_readOne_250 ?_
          refine lv_iload_n hx hb dX7_readOne_253 rfl (lv_at hl 0 rfl) ?_
          refine r_bipush hx hb dX7_readOne_254 (by decide) (fun z140 ez140 => ?_)
          refine r_iconst hx hb dX7_readOne_256 (by decide) (fun z141 ez141 => ?_)
          refine r_cVi (k := 24) (As := [.int (σ0 1 9), .int z140, .int z141]) (rest := []) ⟨hx, hb, hml, hown, hts⟩ hK hP hN hS (c_X6_add l D cA ad hI σ15 τ15 hR (σ0 1 9) z140 z141 (by omega)) (cwV 3 hts gX7_readOne_X6_add rfl rfl rfl (by decide +kernel) ⟨by decide, by decide⟩) (rv_Sent hK hP (by decide) (by decide)) rfl hl.1 rfl (Nat.le_of_ble_eq_true rfl) dX7_readOne_257 (Nat.zero_le _) (Nat.zero_le _) (fun r142 u142 H142 locs142 hp142 hP hS => ?_)
          obtain ⟨σ142, τ142⟩ := u142
          obtain ⟨hR, f142, fL142, hq142, hp142_0⟩ : P_X6_add σ15 τ15 (σ0 1 9) z140 z141 r142 σ142 τ142 := hp142
          have hP : va_P D vwCl (gw cA ad σ142 τ142) H142 := hP
          obtain rfl := FrL.nil fL142
          have hF := hF.step f142 (by decide)
          have gCT := gCT.ag (Agr.fr f142 (by decide))
          have gWH := gWH.ag (Agr.fr f142 (by decide))
          have t143 : (σ142 24 1).toInt = (σ15 24 1).toInt := congrArg Int32.toInt (f142.at 24 1 (by decide))
          have hr144 := rg_6_2 hR (k := 24) (by decide) (by decide)
          exact r_zret hx hb hr hK hP hS hk (by omega) dX7_readOne_260 (show P_X7_readOne_d1 σ0 τ0 a1 b N mo q nn nm hc r142 σ142 τ15 from ⟨hR, hF, hFL, by omega, by first | exact RO.ofr ((one_l (by omega) (by omega) (by omega) (by omega)).trans (lea_n (by omega) (by omega))) (by omega) ⟨gCT, by omega, by omega⟩ | (exfalso; omega) | exact RO.ofk (one_x (by omega)) (by omega) (by omega) (by omega) | exact RO.ofk (one_4 (by omega) (by omega)) (by omega) (by omega) (by omega) | (obtain ⟨f, e1, x1, x2⟩ := o1.no (by omega); exact RO.ofl ((one_n (by omega) (by omega)).trans e1) (by omega) x1 x2) | exact RO.ofr ((one_n (by omega) (by omega)).trans e1) (by omega) ⟨gCT, by omega, by omega⟩ | (obtain ⟨f, e2, x1, x2⟩ := o2.no (by omega); exact RO.ofl (by rw [one_o (by omega) (by omega), e2, bnd_l]) (by omega) x1 x2) | (obtain ⟨f, e3, x1, x2⟩ := o3.no (by omega); exact RO.ofl (by rw [one_o (by omega) (by omega), e2, bnd_r, e3, bnd_l]) (by omega) x1 x2) | exact RO.ofr (by rw [one_o (by omega) (by omega), e2, bnd_r, e3, bnd_r]) (by omega) ⟨gCT, by omega, by omega⟩ | (rw [one_l (by omega) (by omega) (by omega) (by omega)]; exact o4.map (fun s es h => ⟨h.1, h.2.1, by have h2 := h.2.2; have hl := lea_up es; omega⟩)) | (rw [one_l (by omega) (by omega) (by omega) (by omega)]; exact o5.map (fun s es h => ⟨h.1, h.2.1, by have h2 := h.2.2; have hl := lea_up es; omega⟩)), gWH⟩)
        by_cases c145 : (σ0 1 9).toInt = 43
        · refine lv_tableIn (off := 177) (tgt := 249) hx hb dX7_readOne_72 (by omega) (by omega) (by rw [c145]; rfl) (by decide) ?_
          refine lv_aload_n hx hb dX7_readOne_249 rfl (lv_at hl 1 rfl) ?_
          refine fg_7_2 (k := 27) hx hb hts in_X7_readOne_7 hown hK hP (by decide) (by decide) (hts _ lk_X7_readOne_19) dX7_readOne_250 ?_
          refine lv_iload_n hx hb dX7_readOne_253 rfl (lv_at hl 0 rfl) ?_
          refine r_bipush hx hb dX7_readOne_254 (by decide) (fun z146 ez146 => ?_)
          refine r_iconst hx hb dX7_readOne_256 (by decide) (fun z147 ez147 => ?_)
          refine r_cVi (k := 24) (As := [.int (σ0 1 9), .int z146, .int z147]) (rest := []) ⟨hx, hb, hml, hown, hts⟩ hK hP hN hS (c_X6_add l D cA ad hI σ15 τ15 hR (σ0 1 9) z146 z147 (by omega)) (cwV 3 hts gX7_readOne_X6_add rfl rfl rfl (by decide +kernel) ⟨by decide, by decide⟩) (rv_Sent hK hP (by decide) (by decide)) rfl hl.1 rfl (Nat.le_of_ble_eq_true rfl) dX7_readOne_257 (Nat.zero_le _) (Nat.zero_le _) (fun r148 u148 H148 locs148 hp148 hP hS => ?_)
          obtain ⟨σ148, τ148⟩ := u148
          obtain ⟨hR, f148, fL148, hq148, hp148_0⟩ : P_X6_add σ15 τ15 (σ0 1 9) z146 z147 r148 σ148 τ148 := hp148
          have hP : va_P D vwCl (gw cA ad σ148 τ148) H148 := hP
          obtain rfl := FrL.nil fL148
          have hF := hF.step f148 (by decide)
          have gCT := gCT.ag (Agr.fr f148 (by decide))
          have gWH := gWH.ag (Agr.fr f148 (by decide))
          have t149 : (σ148 24 1).toInt = (σ15 24 1).toInt := congrArg Int32.toInt (f148.at 24 1 (by decide))
          have hr150 := rg_6_2 hR (k := 24) (by decide) (by decide)
          exact r_zret hx hb hr hK hP hS hk (by omega) dX7_readOne_260 (show P_X7_readOne_d1 σ0 τ0 a1 b N mo q nn nm hc r148 σ148 τ15 from ⟨hR, hF, hFL, by omega, by first | exact RO.ofr ((one_l (by omega) (by omega) (by omega) (by omega)).trans (lea_n (by omega) (by omega))) (by omega) ⟨gCT, by omega, by omega⟩ | (exfalso; omega) | exact RO.ofk (one_x (by omega)) (by omega) (by omega) (by omega) | exact RO.ofk (one_4 (by omega) (by omega)) (by omega) (by omega) (by omega) | (obtain ⟨f, e1, x1, x2⟩ := o1.no (by omega); exact RO.ofl ((one_n (by omega) (by omega)).trans e1) (by omega) x1 x2) | exact RO.ofr ((one_n (by omega) (by omega)).trans e1) (by omega) ⟨gCT, by omega, by omega⟩ | (obtain ⟨f, e2, x1, x2⟩ := o2.no (by omega); exact RO.ofl (by rw [one_o (by omega) (by omega), e2, bnd_l]) (by omega) x1 x2) | (obtain ⟨f, e3, x1, x2⟩ := o3.no (by omega); exact RO.ofl (by rw [one_o (by omega) (by omega), e2, bnd_r, e3, bnd_l]) (by omega) x1 x2) | exact RO.ofr (by rw [one_o (by omega) (by omega), e2, bnd_r, e3, bnd_r]) (by omega) ⟨gCT, by omega, by omega⟩ | (rw [one_l (by omega) (by omega) (by omega) (by omega)]; exact o4.map (fun s es h => ⟨h.1, h.2.1, by have h2 := h.2.2; have hl := lea_up es; omega⟩)) | (rw [one_l (by omega) (by omega) (by omega) (by omega)]; exact o5.map (fun s es h => ⟨h.1, h.2.1, by have h2 := h.2.2; have hl := lea_up es; omega⟩)), gWH⟩)
        by_cases c151 : (σ0 1 9).toInt = 44
        · refine lv_tableIn (off := 138) (tgt := 210) hx hb dX7_readOne_72 (by omega) (by omega) (by rw [c151]; rfl) (by decide) ?_
          refine lv_aload_n hx hb dX7_readOne_210 rfl (lv_at hl 1 rfl) ?_
          refine lv_iload_n hx hb dX7_readOne_211 rfl (lv_at hl 2 rfl) ?_
          refine r_iconst hx hb dX7_readOne_212 (by decide) (fun z152 ez152 => ?_)
          refine r_iadd hx hb dX7_readOne_213 (by omega) (fun z153 ez153 => ?_)
          refine r_cVi (k := 27) (As := [.int z153]) (rest := []) ⟨hx, hb, hml, hown, hts⟩ hK hP hN hS (c_X7_readCond_d2 l D cA ad hI σ15 τ15 hR z153 b N mo _ (nn + 1) nm hc (by omega) (by omega) (by omega) (by omega) gCT gWH) (cwV 1 hts gX7_readOne_X7_readCond rfl rfl rfl (by decide +kernel) ⟨by decide, by decide⟩) (rv_SText hK hP (by decide) (by decide)) rfl hl.1 rfl (Nat.le_of_ble_eq_true rfl) dX7_readOne_214 (Nat.zero_le _) (Nat.zero_le _) (fun r154 u154 H154 locs154 hp154 hP hS => ?_)
          obtain ⟨σ154, τ154⟩ := u154
          obtain ⟨hR, f154, fL154, hq154, hp154_0, gnWH⟩ : P_X7_readCond_d2 σ15 τ15 z153 b N mo _ (nn + 1) nm hc r154 σ154 τ154 := hp154
          have o2 := hp154_0
          have hP : va_P D vwCl (gw cA ad σ154 τ154) H154 := hP
          have hFL := hFL.step fL154 (by decide)
          have gWH := gWH.agL (AgrL.fr fL154 (by decide))
          have hF := hF.step f154 (by decide)
          have gWH := gWH.ag (Agr.fr f154 (by decide))
          have hr155 := rg_6_1 hR (k := 24) (by decide) (by decide)
          have hr156 := rg_6_2 hR (k := 24) (by decide) (by decide)
          refine r_if_eq (tgt := 236) hx hb dX7_readOne_217 (by decide) (fun c157 => ?_) (fun c157 => ?_)
          · refine r_iconst hx hb dX7_readOne_236 (by decide) (fun z158 ez158 => ?_)
            exact r_zret hx hb hr hK hP hS hk (by omega) dX7_readOne_237 (show P_X7_readOne_d1 σ0 τ0 a1 b N mo q nn nm hc z158 σ154 τ154 from ⟨hR, hF, hFL, by omega, by first | exact RO.ofr ((one_l (by omega) (by omega) (by omega) (by omega)).trans (lea_n (by omega) (by omega))) (by omega) ⟨gCT, by omega, by omega⟩ | (exfalso; omega) | exact RO.ofk (one_x (by omega)) (by omega) (by omega) (by omega) | exact RO.ofk (one_4 (by omega) (by omega)) (by omega) (by omega) (by omega) | (obtain ⟨f, e1, x1, x2⟩ := o1.no (by omega); exact RO.ofl ((one_n (by omega) (by omega)).trans e1) (by omega) x1 x2) | exact RO.ofr ((one_n (by omega) (by omega)).trans e1) (by omega) ⟨gCT, by omega, by omega⟩ | (obtain ⟨f, e2, x1, x2⟩ := o2.no (by omega); exact RO.ofl (by rw [one_o (by omega) (by omega), e2, bnd_l]) (by omega) x1 x2) | (obtain ⟨f, e3, x1, x2⟩ := o3.no (by omega); exact RO.ofl (by rw [one_o (by omega) (by omega), e2, bnd_r, e3, bnd_l]) (by omega) x1 x2) | exact RO.ofr (by rw [one_o (by omega) (by omega), e2, bnd_r, e3, bnd_r]) (by omega) ⟨gCT, by omega, by omega⟩ | (rw [one_l (by omega) (by omega) (by omega) (by omega)]; exact o4.map (fun s es h => ⟨h.1, h.2.1, by have h2 := h.2.2; have hl := lea_up es; omega⟩)) | (rw [one_l (by omega) (by omega) (by omega) (by omega)]; exact o5.map (fun s es h => ⟨h.1, h.2.1, by have h2 := h.2.2; have hl := lea_up es; omega⟩)), gWH⟩)
          · obtain ⟨s2, e2, gCT, hs1, hs2⟩ := o2.ye (by omega)
            have hu2 := con_up (one_up _) _ _ _ e2
            refine lv_aload_n hx hb dX7_readOne_220 rfl (lv_at hl 1 rfl) ?_
            refine fg_7_0 (k := 27) hx hb hts in_X7_readOne_7 hown hK hP (by decide) (by decide) (hts _ lk_X7_readOne_9) dX7_readOne_221 ?_
            refine r_bipush hx hb dX7_readOne_224 (by decide) (fun z159 ez159 => ?_)
            refine r_cVi (k := 1) (As := [.int z159]) (rest := []) ⟨hx, hb, hml, hown, hts⟩ hK hP hN hS (c_X8_take_v l D cA ad hI σ154 τ154 hR z159 b N mo _ 45 (by omega) (by omega) gCT) (cwV 1 hts gX7_readOne_X8_take rfl rfl rfl (by decide +kernel) ⟨by decide, by decide⟩) (rv_Tape hK hP (by decide) (by decide)) rfl hl.1 rfl (Nat.le_of_ble_eq_true rfl) dX7_readOne_226 (Nat.zero_le _) (Nat.zero_le _) (fun r160 u160 H160 locs160 hp160 hP hS => ?_)
            obtain ⟨σ160, τ160⟩ := u160
            obtain ⟨hR, f160, fL160, hq160, hp160_0⟩ : P_X8_take_v σ154 τ154 z159 b N mo _ 45 r160 σ160 τ160 := hp160
            have o3 := hp160_0
            have hP : va_P D vwCl (gw cA ad σ160 τ160) H160 := hP
            have hFL := hFL.step fL160 (by decide)
            have gWH := gWH.agL (AgrL.fr fL160 (by decide))
            have hF := hF.step f160 (by decide)
            have gWH := gWH.ag (Agr.fr f160 (by decide))
            have t161 : (σ160 24 1).toInt = (σ154 24 1).toInt := congrArg Int32.toInt (f160.at 24 1 (by decide))
            have t162 : (σ160 24 2).toInt = (σ154 24 2).toInt := congrArg Int32.toInt (f160.at 24 2 (by decide))
            refine r_if_eq (tgt := 236) hx hb dX7_readOne_229 (by decide) (fun c163 => ?_) (fun c163 => ?_)
            · refine r_iconst hx hb dX7_readOne_236 (by decide) (fun z164 ez164 => ?_)
              exact r_zret hx hb hr hK hP hS hk (by omega) dX7_readOne_237 (show P_X7_readOne_d1 σ0 τ0 a1 b N mo q nn nm hc z164 σ160 τ160 from ⟨hR, hF, hFL, by omega, by first | exact RO.ofr ((one_l (by omega) (by omega) (by omega) (by omega)).trans (lea_n (by omega) (by omega))) (by omega) ⟨gCT, by omega, by omega⟩ | (exfalso; omega) | exact RO.ofk (one_x (by omega)) (by omega) (by omega) (by omega) | exact RO.ofk (one_4 (by omega) (by omega)) (by omega) (by omega) (by omega) | (obtain ⟨f, e1, x1, x2⟩ := o1.no (by omega); exact RO.ofl ((one_n (by omega) (by omega)).trans e1) (by omega) x1 x2) | exact RO.ofr ((one_n (by omega) (by omega)).trans e1) (by omega) ⟨gCT, by omega, by omega⟩ | (obtain ⟨f, e2, x1, x2⟩ := o2.no (by omega); exact RO.ofl (by rw [one_o (by omega) (by omega), e2, bnd_l]) (by omega) x1 x2) | (obtain ⟨f, e3, x1, x2⟩ := o3.no (by omega); exact RO.ofl (by rw [one_o (by omega) (by omega), e2, bnd_r, e3, bnd_l]) (by omega) x1 x2) | exact RO.ofr (by rw [one_o (by omega) (by omega), e2, bnd_r, e3, bnd_r]) (by omega) ⟨gCT, by omega, by omega⟩ | (rw [one_l (by omega) (by omega) (by omega) (by omega)]; exact o4.map (fun s es h => ⟨h.1, h.2.1, by have h2 := h.2.2; have hl := lea_up es; omega⟩)) | (rw [one_l (by omega) (by omega) (by omega) (by omega)]; exact o5.map (fun s es h => ⟨h.1, h.2.1, by have h2 := h.2.2; have hl := lea_up es; omega⟩)), gWH⟩)
            · obtain ⟨q3, e3, gCT⟩ := o3.ye (by omega)
              refine r_iconst hx hb dX7_readOne_232 (by decide) (fun z165 ez165 => ?_)
              refine lv_goto (tgt := 237) hx hb dX7_readOne_233 (by decide) ?_
              exact r_zret hx hb hr hK hP hS hk (by omega) dX7_readOne_237 (show P_X7_readOne_d1 σ0 τ0 a1 b N mo q nn nm hc z165 σ160 τ160 from ⟨hR, hF, hFL, by omega, by first | exact RO.ofr ((one_l (by omega) (by omega) (by omega) (by omega)).trans (lea_n (by omega) (by omega))) (by omega) ⟨gCT, by omega, by omega⟩ | (exfalso; omega) | exact RO.ofk (one_x (by omega)) (by omega) (by omega) (by omega) | exact RO.ofk (one_4 (by omega) (by omega)) (by omega) (by omega) (by omega) | (obtain ⟨f, e1, x1, x2⟩ := o1.no (by omega); exact RO.ofl ((one_n (by omega) (by omega)).trans e1) (by omega) x1 x2) | exact RO.ofr ((one_n (by omega) (by omega)).trans e1) (by omega) ⟨gCT, by omega, by omega⟩ | (obtain ⟨f, e2, x1, x2⟩ := o2.no (by omega); exact RO.ofl (by rw [one_o (by omega) (by omega), e2, bnd_l]) (by omega) x1 x2) | (obtain ⟨f, e3, x1, x2⟩ := o3.no (by omega); exact RO.ofl (by rw [one_o (by omega) (by omega), e2, bnd_r, e3, bnd_l]) (by omega) x1 x2) | exact RO.ofr (by rw [one_o (by omega) (by omega), e2, bnd_r, e3, bnd_r]) (by omega) ⟨gCT, by omega, by omega⟩ | (rw [one_l (by omega) (by omega) (by omega) (by omega)]; exact o4.map (fun s es h => ⟨h.1, h.2.1, by have h2 := h.2.2; have hl := lea_up es; omega⟩)) | (rw [one_l (by omega) (by omega) (by omega) (by omega)]; exact o5.map (fun s es h => ⟨h.1, h.2.1, by have h2 := h.2.2; have hl := lea_up es; omega⟩)), gWH⟩)
        refine lv_tableOut (tgt := 249) hx hb dX7_readOne_72 (by omega) (by decide) ?_
        refine lv_aload_n hx hb dX7_readOne_249 rfl (lv_at hl 1 rfl) ?_
        refine fg_7_2 (k := 27) hx hb hts in_X7_readOne_7 hown hK hP (by decide) (by decide) (hts _ lk_X7_readOne_19) dX7_readOne_250 ?_
        refine lv_iload_n hx hb dX7_readOne_253 rfl (lv_at hl 0 rfl) ?_
        refine r_bipush hx hb dX7_readOne_254 (by decide) (fun z166 ez166 => ?_)
        refine r_iconst hx hb dX7_readOne_256 (by decide) (fun z167 ez167 => ?_)
        refine r_cVi (k := 24) (As := [.int (σ0 1 9), .int z166, .int z167]) (rest := []) ⟨hx, hb, hml, hown, hts⟩ hK hP hN hS (c_X6_add l D cA ad hI σ15 τ15 hR (σ0 1 9) z166 z167 (by omega)) (cwV 3 hts gX7_readOne_X6_add rfl rfl rfl (by decide +kernel) ⟨by decide, by decide⟩) (rv_Sent hK hP (by decide) (by decide)) rfl hl.1 rfl (Nat.le_of_ble_eq_true rfl) dX7_readOne_257 (Nat.zero_le _) (Nat.zero_le _) (fun r168 u168 H168 locs168 hp168 hP hS => ?_)
        obtain ⟨σ168, τ168⟩ := u168
        obtain ⟨hR, f168, fL168, hq168, hp168_0⟩ : P_X6_add σ15 τ15 (σ0 1 9) z166 z167 r168 σ168 τ168 := hp168
        have hP : va_P D vwCl (gw cA ad σ168 τ168) H168 := hP
        obtain rfl := FrL.nil fL168
        have hF := hF.step f168 (by decide)
        have gCT := gCT.ag (Agr.fr f168 (by decide))
        have gWH := gWH.ag (Agr.fr f168 (by decide))
        have t169 : (σ168 24 1).toInt = (σ15 24 1).toInt := congrArg Int32.toInt (f168.at 24 1 (by decide))
        have hr170 := rg_6_2 hR (k := 24) (by decide) (by decide)
        exact r_zret hx hb hr hK hP hS hk (by omega) dX7_readOne_260 (show P_X7_readOne_d1 σ0 τ0 a1 b N mo q nn nm hc r168 σ168 τ15 from ⟨hR, hF, hFL, by omega, by first | exact RO.ofr ((one_l (by omega) (by omega) (by omega) (by omega)).trans (lea_n (by omega) (by omega))) (by omega) ⟨gCT, by omega, by omega⟩ | (exfalso; omega) | exact RO.ofk (one_x (by omega)) (by omega) (by omega) (by omega) | exact RO.ofk (one_4 (by omega) (by omega)) (by omega) (by omega) (by omega) | (obtain ⟨f, e1, x1, x2⟩ := o1.no (by omega); exact RO.ofl ((one_n (by omega) (by omega)).trans e1) (by omega) x1 x2) | exact RO.ofr ((one_n (by omega) (by omega)).trans e1) (by omega) ⟨gCT, by omega, by omega⟩ | (obtain ⟨f, e2, x1, x2⟩ := o2.no (by omega); exact RO.ofl (by rw [one_o (by omega) (by omega), e2, bnd_l]) (by omega) x1 x2) | (obtain ⟨f, e3, x1, x2⟩ := o3.no (by omega); exact RO.ofl (by rw [one_o (by omega) (by omega), e2, bnd_r, e3, bnd_l]) (by omega) x1 x2) | exact RO.ofr (by rw [one_o (by omega) (by omega), e2, bnd_r, e3, bnd_r]) (by omega) ⟨gCT, by omega, by omega⟩ | (rw [one_l (by omega) (by omega) (by omega) (by omega)]; exact o4.map (fun s es h => ⟨h.1, h.2.1, by have h2 := h.2.2; have hl := lea_up es; omega⟩)) | (rw [one_l (by omega) (by omega) (by omega) (by omega)]; exact o5.map (fun s es h => ⟨h.1, h.2.1, by have h2 := h.2.2; have hl := lea_up es; omega⟩)), gWH⟩)
      · exfalso; omega
  · refine lv_aload_n hx hb dX7_readOne_15 rfl (lv_at hl 1 rfl) ?_
    refine fg_7_0 (k := 27) hx hb hts in_X7_readOne_7 hown hK hP (by decide) (by decide) (hts _ lk_X7_readOne_9) dX7_readOne_16 ?_
    refine r_iconst hx hb dX7_readOne_19 (by decide) (fun z171 ez171 => ?_)
    refine r_cVi (k := 1) (As := [.int z171]) (rest := []) ⟨hx, hb, hml, hown, hts⟩ hK hP hN hS (c_X8_blame_v l D cA ad hI σ0 τ0 hR z171 _ _ _ _ (by omega) gCT) (cwV 1 hts gX7_readOne_X8_blame rfl rfl rfl (by decide +kernel) ⟨by decide, by decide⟩) (rv_Tape hK hP (by decide) (by decide)) rfl hl.1 rfl (Nat.le_of_ble_eq_true rfl) dX7_readOne_20 (Nat.zero_le _) (Nat.zero_le _) (fun r172 u172 H172 locs172 hp172 hP hS => ?_)
    obtain ⟨σ172, τ172⟩ := u172
    obtain ⟨hR, f172, fL172, hq172, hp172_0, hp172_1, hp172_2, gnCT⟩ : P_X8_blame_v σ0 τ0 z171 _ _ _ _ r172 σ172 τ172 := hp172
    have hP : va_P D vwCl (gw cA ad σ172 τ172) H172 := hP
    obtain rfl := FrL.nil fL172
    have hF := hF.step f172 (by decide)
    have gCT := gCT.ag (Agr.fr f172 (by decide))
    have gWH := gWH.ag (Agr.fr f172 (by decide))
    have t173 : (σ172 24 1).toInt = (σ0 24 1).toInt := congrArg Int32.toInt (f172.at 24 1 (by decide))
    have t174 : (σ172 24 2).toInt = (σ0 24 2).toInt := congrArg Int32.toInt (f172.at 24 2 (by decide))
    exact r_zret hx hb hr hK hP hS hk (by omega) dX7_readOne_23 (show P_X7_readOne_d1 σ0 τ0 a1 b N mo q nn nm hc r172 σ172 τ0 from ⟨hR, hF, hFL, by omega, by first | exact RO.ofr ((one_l (by omega) (by omega) (by omega) (by omega)).trans (lea_n (by omega) (by omega))) (by omega) ⟨gCT, by omega, by omega⟩ | (exfalso; omega) | exact RO.ofk (one_x (by omega)) (by omega) (by omega) (by omega) | exact RO.ofk (one_4 (by omega) (by omega)) (by omega) (by omega) (by omega) | (obtain ⟨f, e1, x1, x2⟩ := o1.no (by omega); exact RO.ofl ((one_n (by omega) (by omega)).trans e1) (by omega) x1 x2) | exact RO.ofr ((one_n (by omega) (by omega)).trans e1) (by omega) ⟨gCT, by omega, by omega⟩ | (obtain ⟨f, e2, x1, x2⟩ := o2.no (by omega); exact RO.ofl (by rw [one_o (by omega) (by omega), e2, bnd_l]) (by omega) x1 x2) | (obtain ⟨f, e3, x1, x2⟩ := o3.no (by omega); exact RO.ofl (by rw [one_o (by omega) (by omega), e2, bnd_r, e3, bnd_l]) (by omega) x1 x2) | exact RO.ofr (by rw [one_o (by omega) (by omega), e2, bnd_r, e3, bnd_r]) (by omega) ⟨gCT, by omega, by omega⟩ | (rw [one_l (by omega) (by omega) (by omega) (by omega)]; exact o4.map (fun s es h => ⟨h.1, h.2.1, by have h2 := h.2.2; have hl := lea_up es; omega⟩)) | (rw [one_l (by omega) (by omega) (by omega) (by omega)]; exact o5.map (fun s es h => ⟨h.1, h.2.1, by have h2 := h.2.2; have hl := lea_up es; omega⟩)), gWH⟩)
abbrev L_X7_readAll_d1 : List Rc := [(1, 1, 7, 10), (372, 372, 0, 39), (376, 376, 0, 39), (380, 380, 0, 39), (24, 24, 1, 2), (1, 1, 12, 14)]
abbrev LL_X7_readAll_d1 : List Rc := [(1, 1, 11, 11)]
def P_X7_readAll_d1 (σ0 : Nat → Nat → Int32) (τ0 : Nat → Nat → Int64) (a1 : Int32) (b : Nat → Int) (N : Nat) (mo : Nat) (q : Nat) (nn : Nat) (nm : Nat → Int) (hc : Nat) (r : Int32) (σ : Nat → Nat → Int32) (τ : Nat → Nat → Int64) : Prop := Rg σ ∧ Fr L_X7_readAll_d1 σ0 σ ∧ FrL LL_X7_readAll_d1 τ0 τ ∧ (0 ≤ r.toInt ∧ r.toInt ≤ 1) ∧ (RO r σ (allP b N mo (fun q nn => oneP b N mo nm hc 8 q nn) q nn) (fun s => CT σ τ b N mo s.1 ∧ (σ 24 1).toInt = (s.2 : Int) ∧ (σ 24 2).toInt + 2 * (nn : Int) + 1 ≤ (σ0 24 2).toInt + 2 * (s.2 : Int))) ∧ WH σ τ nm hc
def J_X7_readAll_d1_12 (p : Program) (l : Launch) (e : Env) (s : State) (m : MethodId) (args : Array Value) (below : List Frame) (meth : Method) (c : Code) (D : va_G) (cA : Nat → ClassId) (ad : Nat → Nat) (σ0 : Nat → Nat → Int32) (τ0 : Nat → Nat → Int64) (a1 : Int32) (b : Nat → Int) (N : Nat) (mo : Nat) (q : Nat) (nn : Nat) (nm : Nat → Int) (hc : Nat) (n : Nat) : Prop := ∀ (σ : Nat → Nat → Int32) (τ : Nat → Nat → Int64) (H : Heap) (locs : List Loc) (x2 : Int32) (fu : Nat) (q1 : Nat) (n1 : Nat) (ls : Array Slot), Rg σ → Fr L_X7_readAll_d1 σ0 σ → FrL LL_X7_readAll_d1 τ0 τ → va_P D vwCl (gw cA ad σ τ) H → va_S (AA ad) s.heap H locs → (0 ≤ x2.toInt ∧ x2.toInt ≤ 200) → (0 ≤ (σ 24 1).toInt ∧ (σ 24 1).toInt ≤ 20) → (0 ≤ (σ 24 2).toInt ∧ (σ 24 2).toInt ≤ 40) → (allP b N mo (fun q nn => oneP b N mo nm hc 8 q nn) q nn = lopP b N mo 21 (fun q nn => oneP b N mo nm hc 8 q nn) fu q1 n1) → ((σ 24 1).toInt = (n1 : Int)) → (0 ≤ (σ 24 2).toInt ∧ (σ 24 2).toInt + 2 * (nn : Int) + 1 ≤ (σ0 24 2).toInt + 2 * (n1 : Int)) → ((fu : Int) + x2.toInt = 200) → (n1 ≤ 20) → (CT σ τ b N mo q1) → (WH σ τ nm hc) → (CT σ τ b N mo q1) → lv_has ls 3 [(0, .ref (ad 27)), (1, .int a1), (2, .int x2)] → 2 * (200 - x2.toInt) + 1 < (n : Int) → W p l e ({ frames := 26, cells := 0, slots := 0, locals := 571 } : Room) s m args below meth c H locs 0 0 (MQ below (va_Qi (fun (r : Int32) (u : SS) => P_X7_readAll_d1 σ0 τ0 a1 b N mo q nn nm hc r u.1 u.2) (WB D cA ad) (AA ad)) args s 0 0 (AA ad)) (F0 m 12 ls [])
set_option maxHeartbeats 4000000 in
theorem B_X7_readAll_d1_12 (p : Program) (l : Launch) (e : Env) (s : State) (m : MethodId) (args : Array Value) (below : List Frame) (meth : Method) (c : Code) (D : va_G) (cA : Nat → ClassId) (ad : Nat → Nat) (σ0 : Nat → Nat → Int32) (τ0 : Nat → Nat → Int64) (a1 : Int32) (b : Nat → Int) (N : Nat) (mo : Nat) (q : Nat) (nn : Nat) (nm : Nat → Int) (hc : Nat) (n : Nat) (C : Cy p s m args meth c cX7_readAll 3 wsX7_readAll RX7 D cA ad (some .boolean)) (ha1 : 1 ≤ a1.toInt ∧ a1.toInt ≤ 1) (hpre0 : (σ0 24 1).toInt = (nn : Int)) (hpre1 : 0 ≤ (σ0 24 2).toInt ∧ (σ0 24 2).toInt ≤ 2 * (nn : Int)) (hpre2 : nn ≤ 20) (gCT0 : CT σ0 τ0 b N mo q) (gWH0 : WH σ0 τ0 nm hc) (K12 : J_X7_readAll_d1_12 p l e s m args below meth c D cA ad σ0 τ0 a1 b N mo q nn nm hc n) : J_X7_readAll_d1_12 p l e s m args below meth c D cA ad σ0 τ0 a1 b N mo q nn nm hc (n + 1) := by
  obtain ⟨hx, hb, hml, hown, hts, hK, hk, hr, hI, hN⟩ := C
  intro σ τ H locs x2 fu q1 n1 ls hR hF hFL hP hS hc0 hc1 hc2 iv ib2 ib3 ifu in20 gCT gWH gCT hl hm
  refine lv_iload_n hx hb dX7_readAll_12 rfl (lv_at hl 2 rfl) ?_
  refine r_sipush hx hb dX7_readAll_13 (by decide) (fun z1 ez1 => ?_)
  refine r_icmp_ge (tgt := 68) hx hb dX7_readAll_16 (by decide) (fun c2 => ?_) (fun c2 => ?_)
  · refine r_iconst hx hb dX7_readAll_68 (by decide) (fun z3 ez3 => ?_)
    exact r_zret hx hb hr hK hP hS hk (by omega) dX7_readAll_69 (show P_X7_readAll_d1 σ0 τ0 a1 b N mo q nn nm hc z3 σ τ from ⟨hR, hF, hFL, by omega, by first | (exfalso; omega) | (obtain ⟨f, e1, x1, x2⟩ := o1.no (by omega); exact RO.ofl (all_f e1) (by omega) x1 x2) | exact RO.ofr (by rw [iv, lop_e (by omega)]) (by omega) ⟨gCT, by omega, by omega⟩ | (obtain ⟨f, e2, x1, x2⟩ := o2.no (by omega); exact RO.ofl (by rw [iv, lop_f (f := (fun q nn => oneP b N mo nm hc 8 q nn)) (by omega) (by omega) e2]) (by omega) x1 x2) | (exfalso; omega), gWH⟩)
  · have htk := gCT.tk
    refine lv_aload_n hx hb dX7_readAll_19 rfl (lv_at hl 0 rfl) ?_
    refine fg_7_0 (k := 27) hx hb hts in_X7_readAll_7 hown hK hP (by decide) (by decide) (hts _ lk_X7_readAll_9) dX7_readAll_20 ?_
    refine fgN_8_9 (k := 1) hx hb hts in_X7_readAll_8 hown hK hP (by decide) (by decide) (hN.use nw_7_32) dX7_readAll_23 ?_
    refine r_bipush hx hb dX7_readAll_26 (by decide) (fun z4 ez4 => ?_)
    refine r_icmp_ne (tgt := 68) hx hb dX7_readAll_28 (by decide) (fun c5 => ?_) (fun c5 => ?_)
    · refine r_iconst hx hb dX7_readAll_68 (by decide) (fun z6 ez6 => ?_)
      exact r_zret hx hb hr hK hP hS hk (by omega) dX7_readAll_69 (show P_X7_readAll_d1 σ0 τ0 a1 b N mo q nn nm hc z6 σ τ from ⟨hR, hF, hFL, by omega, by first | (exfalso; omega) | (obtain ⟨f, e1, x1, x2⟩ := o1.no (by omega); exact RO.ofl (all_f e1) (by omega) x1 x2) | exact RO.ofr (by rw [iv, lop_e (by omega)]) (by omega) ⟨gCT, by omega, by omega⟩ | (obtain ⟨f, e2, x1, x2⟩ := o2.no (by omega); exact RO.ofl (by rw [iv, lop_f (f := (fun q nn => oneP b N mo nm hc 8 q nn)) (by omega) (by omega) e2]) (by omega) x1 x2) | (exfalso; omega), gWH⟩)
    · refine lv_aload_n hx hb dX7_readAll_31 rfl (lv_at hl 0 rfl) ?_
      refine fg_7_0 (k := 27) hx hb hts in_X7_readAll_7 hown hK hP (by decide) (by decide) (hts _ lk_X7_readAll_9) dX7_readAll_32 ?_
      refine r_cVv (k := 1) (As := []) (rest := []) ⟨hx, hb, hml, hown, hts⟩ hK hP hN hS (c_X8_next_v l D cA ad hI σ τ hR _ _ _ _ gCT) (cwV 0 hts gX7_readAll_X8_next rfl rfl rfl (by decide +kernel) ⟨by decide, by decide⟩) (rv_Tape hK hP (by decide) (by decide)) rfl hl.1 rfl (Nat.le_of_ble_eq_true rfl) dX7_readAll_35 (Nat.zero_le _) (Nat.zero_le _) (fun u7 H7 locs7 hp7 hP hS => ?_)
      obtain ⟨σ7, τ7⟩ := u7
      obtain ⟨hR, f7, fL7, hp7_0⟩ : P_X8_next_v σ τ _ _ _ _ σ7 τ7 := hp7
      have hP : va_P D vwCl (gw cA ad σ7 τ7) H7 := hP
      have hFL := hFL.step fL7 (by decide)
      have gWH := gWH.agL (AgrL.fr fL7 (by decide))
      have hF := hF.step f7 (by decide)
      have gWH := gWH.ag (Agr.fr f7 (by decide))
      have t8 : (σ7 24 1).toInt = (σ 24 1).toInt := congrArg Int32.toInt (f7.at 24 1 (by decide))
      have t9 : (σ7 24 2).toInt = (σ 24 2).toInt := congrArg Int32.toInt (f7.at 24 2 (by decide))
      have gCT := hp7_0
      refine lv_aload_n hx hb dX7_readAll_38 rfl (lv_at hl 0 rfl) ?_
      refine lv_iload_n hx hb dX7_readAll_39 rfl (lv_at hl 1 rfl) ?_
      refine r_cVi (k := 27) (As := [.int a1]) (rest := []) ⟨hx, hb, hml, hown, hts⟩ hK hP hN hS (c_X7_readOne_d1 l D cA ad hI σ7 τ7 hR a1 b N mo _ n1 nm hc (by omega) (by omega) (by omega) (by omega) gCT gWH) (cwV 1 hts gX7_readAll_X7_readOne rfl rfl rfl (by decide +kernel) ⟨by decide, by decide⟩) (rv_SText hK hP (by decide) (by decide)) rfl hl.1 rfl (Nat.le_of_ble_eq_true rfl) dX7_readAll_40 (Nat.zero_le _) (Nat.zero_le _) (fun r10 u10 H10 locs10 hp10 hP hS => ?_)
      obtain ⟨σ10, τ10⟩ := u10
      obtain ⟨hR, f10, fL10, hq10, hp10_0, gnWH⟩ : P_X7_readOne_d1 σ7 τ7 a1 b N mo _ n1 nm hc r10 σ10 τ10 := hp10
      have o2 := hp10_0
      have hP : va_P D vwCl (gw cA ad σ10 τ10) H10 := hP
      have hFL := hFL.step fL10 (by decide)
      have gWH := gWH.agL (AgrL.fr fL10 (by decide))
      have hF := hF.step f10 (by decide)
      have gWH := gWH.ag (Agr.fr f10 (by decide))
      have hr11 := rg_6_1 hR (k := 24) (by decide) (by decide)
      have hr12 := rg_6_2 hR (k := 24) (by decide) (by decide)
      refine r_if_eq (tgt := 60) hx hb dX7_readAll_43 (by decide) (fun c13 => ?_) (fun c13 => ?_)
      · refine r_iconst hx hb dX7_readAll_60 (by decide) (fun z14 ez14 => ?_)
        exact r_zret hx hb hr hK hP hS hk (by omega) dX7_readAll_61 (show P_X7_readAll_d1 σ0 τ0 a1 b N mo q nn nm hc z14 σ10 τ10 from ⟨hR, hF, hFL, by omega, by first | (exfalso; omega) | (obtain ⟨f, e1, x1, x2⟩ := o1.no (by omega); exact RO.ofl (all_f e1) (by omega) x1 x2) | exact RO.ofr (by rw [iv, lop_e (by omega)]) (by omega) ⟨gCT, by omega, by omega⟩ | (obtain ⟨f, e2, x1, x2⟩ := o2.no (by omega); exact RO.ofl (by rw [iv, lop_f (f := (fun q nn => oneP b N mo nm hc 8 q nn)) (by omega) (by omega) e2]) (by omega) x1 x2) | (exfalso; omega), gWH⟩)
      · obtain ⟨s2, e2, gCT, hs3, hs4⟩ := o2.ye (by omega)
        have hu2 := one_up _ _ _ _ e2
        refine lv_aload_n hx hb dX7_readAll_46 rfl (lv_at hl 0 rfl) ?_
        refine fg_7_2 (k := 27) hx hb hts in_X7_readAll_7 hown hK hP (by decide) (by decide) (hts _ lk_X7_readAll_19) dX7_readAll_47 ?_
        refine r_bipush hx hb dX7_readAll_50 (by decide) (fun z15 ez15 => ?_)
        refine r_iconst hx hb dX7_readAll_52 (by decide) (fun z16 ez16 => ?_)
        refine r_iconst hx hb dX7_readAll_53 (by decide) (fun z17 ez17 => ?_)
        refine r_cVi (k := 24) (As := [.int z15, .int z16, .int z17]) (rest := []) ⟨hx, hb, hml, hown, hts⟩ hK hP hN hS (c_X6_add l D cA ad hI σ10 τ10 hR z15 z16 z17 (by omega)) (cwV 3 hts gX7_readAll_X6_add rfl rfl rfl (by decide +kernel) ⟨by decide, by decide⟩) (rv_Sent hK hP (by decide) (by decide)) rfl hl.1 rfl (Nat.le_of_ble_eq_true rfl) dX7_readAll_54 (Nat.zero_le _) (Nat.zero_le _) (fun r18 u18 H18 locs18 hp18 hP hS => ?_)
        obtain ⟨σ18, τ18⟩ := u18
        obtain ⟨hR, f18, fL18, hq18, hp18_0⟩ : P_X6_add σ10 τ10 z15 z16 z17 r18 σ18 τ18 := hp18
        have hP : va_P D vwCl (gw cA ad σ18 τ18) H18 := hP
        obtain rfl := FrL.nil fL18
        have hF := hF.step f18 (by decide)
        have gCT := gCT.ag (Agr.fr f18 (by decide))
        have gWH := gWH.ag (Agr.fr f18 (by decide))
        have t19 : (σ18 24 1).toInt = (σ10 24 1).toInt := congrArg Int32.toInt (f18.at 24 1 (by decide))
        have hr20 := rg_6_2 hR (k := 24) (by decide) (by decide)
        refine r_if_ne (tgt := 62) hx hb dX7_readAll_57 (by decide) (fun c21 => ?_) (fun c21 => ?_)
        · refine r_iinc (k := 2) (lv1 := fun z22 => [(2, .int z22), (0, .ref (ad 27)), (1, .int a1)]) hx hb dX7_readAll_62 hl rfl (by decide) (fun _ => rfl) (by decide) (by omega) (fun z22 ls ez22 hl => ?_)
          refine lv_goto (tgt := 12) hx hb dX7_readAll_65 (by decide) ?_
          exact K12 σ18 τ10 H18 locs18 z22 (fu - 1) _ _ ls hR hF hFL hP hS (by omega) (by omega) (by omega) (by first | exact all_s e1 | rw [iv, lop_s (f := (fun q nn => oneP b N mo nm hc 8 q nn)) (by omega) (by omega) e2]) (by omega) (by omega) (by omega) (by omega) gCT gWH gCT (lv_sub hl [1, 2, 0] rfl) (by omega)
        · refine r_iconst hx hb dX7_readAll_60 (by decide) (fun z23 ez23 => ?_)
          exact r_zret hx hb hr hK hP hS hk (by omega) dX7_readAll_61 (show P_X7_readAll_d1 σ0 τ0 a1 b N mo q nn nm hc z23 σ18 τ10 from ⟨hR, hF, hFL, by omega, by first | (exfalso; omega) | (obtain ⟨f, e1, x1, x2⟩ := o1.no (by omega); exact RO.ofl (all_f e1) (by omega) x1 x2) | exact RO.ofr (by rw [iv, lop_e (by omega)]) (by omega) ⟨gCT, by omega, by omega⟩ | (obtain ⟨f, e2, x1, x2⟩ := o2.no (by omega); exact RO.ofl (by rw [iv, lop_f (f := (fun q nn => oneP b N mo nm hc 8 q nn)) (by omega) (by omega) e2]) (by omega) x1 x2) | (exfalso; omega), gWH⟩)
theorem A_X7_readAll_d1 (p : Program) (l : Launch) (e : Env) (s : State) (m : MethodId) (args : Array Value) (below : List Frame) (meth : Method) (c : Code) (D : va_G) (cA : Nat → ClassId) (ad : Nat → Nat) (σ0 : Nat → Nat → Int32) (τ0 : Nat → Nat → Int64) (a1 : Int32) (b : Nat → Int) (N : Nat) (mo : Nat) (q : Nat) (nn : Nat) (nm : Nat → Int) (hc : Nat) (C : Cy p s m args meth c cX7_readAll 3 wsX7_readAll RX7 D cA ad (some .boolean)) (ha1 : 1 ≤ a1.toInt ∧ a1.toInt ≤ 1) (hpre0 : (σ0 24 1).toInt = (nn : Int)) (hpre1 : 0 ≤ (σ0 24 2).toInt ∧ (σ0 24 2).toInt ≤ 2 * (nn : Int)) (hpre2 : nn ≤ 20) (gCT0 : CT σ0 τ0 b N mo q) (gWH0 : WH σ0 τ0 nm hc) : ∀ n : Nat, J_X7_readAll_d1_12 p l e s m args below meth c D cA ad σ0 τ0 a1 b N mo q nn nm hc n := by
  intro n
  induction n with
  | zero =>
    exact (by intro σ τ H locs x2 fu q1 n1 ls hR hF hFL hP hS hc0 hc1 hc2 iv ib2 ib3 ifu in20 gCT gWH gCT hl hm; exfalso; omega)
  | succ n ih =>
    exact B_X7_readAll_d1_12 p l e s m args below meth c D cA ad σ0 τ0 a1 b N mo q nn nm hc n C ha1 hpre0 hpre1 hpre2 gCT0 gWH0 ih
set_option maxHeartbeats 4000000 in
theorem c_X7_readAll_d1 (l : Launch) (D : va_G) (cA : Nat → ClassId) (ad : Nat → Nat) (hI : Inj ad) (σ0 : Nat → Nat → Int32) (τ0 : Nat → Nat → Int64) (hR : Rg σ0) (a1 : Int32) (b : Nat → Int) (N : Nat) (mo : Nat) (q : Nat) (nn : Nat) (nm : Nat → Int) (hc : Nat) (ha1 : 1 ≤ a1.toInt ∧ a1.toInt ≤ 1) (hpre0 : (σ0 24 1).toInt = (nn : Int)) (hpre1 : 0 ≤ (σ0 24 2).toInt ∧ (σ0 24 2).toInt ≤ 2 * (nn : Int)) (hpre2 : nn ≤ 20) (gCT0 : CT σ0 τ0 b N mo q) (gWH0 : WH σ0 τ0 nm hc) : Met l yX7_readAll wsX7_readAll ({ frames := 26, cells := 0, slots := 0, locals := 571 } : Room) (WQc D cA ad [.ref (ad 27), .int a1] σ0 τ0) (va_Qi (fun (r : Int32) (u : SS) => P_X7_readAll_d1 σ0 τ0 a1 b N mo q nn nm hc r u.1 u.2) (WB D cA ad) (AA ad)) 0 0 (AA ad) := by
  refine Met.ofW (cc := cX7_readAll) (maxL := 3) (ret := (some .boolean)) (by decide) rfl ?_
  intro p e s m args below meth c s₁ B hml hv
  obtain ⟨rfl, hP, hK, hN⟩ := hv
  have C : Cy p s m _ meth c cX7_readAll 3 wsX7_readAll RX7 D cA ad (some .boolean) := ⟨B.exec, B.bytes, hml, findClass_of_methodNamed B.named, atoms_spec (ws := wsX7_readAll) B.pre, hK, B.notSynchronized, B.returns, hI, hN⟩
  have hl := lv_entry ([.ref (ad 27), .int a1]) (n := 3) (Nat.le_of_ble_eq_true rfl)
  rw [lg_entry_eq]
  generalize (lg_sl ([.ref (ad 27), .int a1]) ++ List.replicate (3 - (lg_sl ([.ref (ad 27), .int a1])).length) Slot.unset).toArray = ls at hl ⊢
  have hl : lv_has ls 3 [(0, .ref (ad 27)), (1, .int a1)] := hl
  have hS : va_S (AA ad) s.heap s.heap [] := va_S.rf
  have hF : Fr L_X7_readAll_d1 σ0 σ0 := Fr.rf
  have hFL : FrL LL_X7_readAll_d1 τ0 τ0 := FrL.rf
  have gCT := gCT0
  have gWH := gWH0
  have hA := A_X7_readAll_d1 p l e s m _ below meth c D cA ad σ0 τ0 a1 b N mo q nn nm hc C ha1 hpre0 hpre1 hpre2 gCT0 gWH0 810
  have K12 := hA
  clear hA
  obtain ⟨hx, hb, _, hown, hts, _, hk, hr, _, _⟩ := C
  refine lv_aload_n hx hb dX7_readAll_0 rfl (lv_at hl 0 rfl) ?_
  refine lv_iload_n hx hb dX7_readAll_1 rfl (lv_at hl 1 rfl) ?_
  refine r_cVi (k := 27) (As := [.int a1]) (rest := []) ⟨hx, hb, hml, hown, hts⟩ hK hP hN hS (c_X7_readOne_d1 l D cA ad hI σ0 τ0 hR a1 b N mo q nn nm hc (by omega) (by omega) (by omega) (by omega) gCT gWH) (cwV 1 hts gX7_readAll_X7_readOne rfl rfl rfl (by decide +kernel) ⟨by decide, by decide⟩) (rv_SText hK hP (by decide) (by decide)) rfl hl.1 rfl (Nat.le_of_ble_eq_true rfl) dX7_readAll_2 (Nat.zero_le _) (Nat.zero_le _) (fun r1 u1 H1 locs1 hp1 hP hS => ?_)
  obtain ⟨σ1, τ1⟩ := u1
  obtain ⟨hR, f1, fL1, hq1, hp1_0, gnWH⟩ : P_X7_readOne_d1 σ0 τ0 a1 b N mo q nn nm hc r1 σ1 τ1 := hp1
  have o1 := hp1_0
  have hP : va_P D vwCl (gw cA ad σ1 τ1) H1 := hP
  have hFL := hFL.step fL1 (by decide)
  have gWH := gWH.agL (AgrL.fr fL1 (by decide))
  have hF := hF.step f1 (by decide)
  have gWH := gWH.ag (Agr.fr f1 (by decide))
  have hr2 := rg_6_1 hR (k := 24) (by decide) (by decide)
  have hr3 := rg_6_2 hR (k := 24) (by decide) (by decide)
  refine r_if_ne (tgt := 10) hx hb dX7_readAll_5 (by decide) (fun c4 => ?_) (fun c4 => ?_)
  · obtain ⟨s1, e1, gCT, hs1, hs2⟩ := o1.ye (by omega)
    have hu1 := one_up _ _ _ _ e1
    refine r_iconst hx hb dX7_readAll_10 (by decide) (fun z5 ez5 => ?_)
    refine lv_istore_n (lv' := [(2, .int z5), (0, .ref (ad 27)), (1, .int a1)]) hx hb dX7_readAll_11 rfl hl (by decide) rfl (fun ls hl => ?_)
    exact K12 σ1 τ1 H1 locs1 z5 200 _ _ ls hR hF hFL hP hS (by omega) (by omega) (by omega) (by first | exact all_s e1 | rw [iv, lop_s (f := (fun q nn => oneP b N mo nm hc 8 q nn)) (by omega) (by omega) e2]) (by omega) (by omega) (by omega) (by omega) gCT gWH gCT (lv_sub hl [1, 2, 0] rfl) (by omega)
  · refine r_iconst hx hb dX7_readAll_8 (by decide) (fun z6 ez6 => ?_)
    exact r_zret hx hb hr hK hP hS hk (by omega) dX7_readAll_9 (show P_X7_readAll_d1 σ0 τ0 a1 b N mo q nn nm hc z6 σ1 τ1 from ⟨hR, hF, hFL, by omega, by first | (exfalso; omega) | (obtain ⟨f, e1, x1, x2⟩ := o1.no (by omega); exact RO.ofl (all_f e1) (by omega) x1 x2) | exact RO.ofr (by rw [iv, lop_e (by omega)]) (by omega) ⟨gCT, by omega, by omega⟩ | (obtain ⟨f, e2, x1, x2⟩ := o2.no (by omega); exact RO.ofl (by rw [iv, lop_f (f := (fun q nn => oneP b N mo nm hc 8 q nn)) (by omega) (by omega) e2]) (by omega) x1 x2) | (exfalso; omega), gWH⟩)
abbrev L_X7_readCond_d1 : List Rc := [(1, 1, 7, 10), (372, 372, 0, 39), (376, 376, 0, 39), (380, 380, 0, 39), (24, 24, 1, 2), (1, 1, 12, 14)]
abbrev LL_X7_readCond_d1 : List Rc := [(1, 1, 11, 11)]
def P_X7_readCond_d1 (σ0 : Nat → Nat → Int32) (τ0 : Nat → Nat → Int64) (a1 : Int32) (b : Nat → Int) (N : Nat) (mo : Nat) (q : Nat) (nn : Nat) (nm : Nat → Int) (hc : Nat) (r : Int32) (σ : Nat → Nat → Int32) (τ : Nat → Nat → Int64) : Prop := Rg σ ∧ Fr L_X7_readCond_d1 σ0 σ ∧ FrL LL_X7_readCond_d1 τ0 τ ∧ (0 ≤ r.toInt ∧ r.toInt ≤ 1) ∧ (RO r σ (conP b N mo (fun q nn => oneP b N mo nm hc 8 q nn) q nn) (fun s => CT σ τ b N mo s.1 ∧ (σ 24 1).toInt = (s.2 : Int) ∧ (σ 24 2).toInt + 2 * (nn : Int) + 1 ≤ (σ0 24 2).toInt + 2 * (s.2 : Int))) ∧ WH σ τ nm hc
def J_X7_readCond_d1_12 (p : Program) (l : Launch) (e : Env) (s : State) (m : MethodId) (args : Array Value) (below : List Frame) (meth : Method) (c : Code) (D : va_G) (cA : Nat → ClassId) (ad : Nat → Nat) (σ0 : Nat → Nat → Int32) (τ0 : Nat → Nat → Int64) (a1 : Int32) (b : Nat → Int) (N : Nat) (mo : Nat) (q : Nat) (nn : Nat) (nm : Nat → Int) (hc : Nat) (n : Nat) : Prop := ∀ (σ : Nat → Nat → Int32) (τ : Nat → Nat → Int64) (H : Heap) (locs : List Loc) (x2 : Int32) (fu : Nat) (q1 : Nat) (n1 : Nat) (ls : Array Slot), Rg σ → Fr L_X7_readCond_d1 σ0 σ → FrL LL_X7_readCond_d1 τ0 τ → va_P D vwCl (gw cA ad σ τ) H → va_S (AA ad) s.heap H locs → (0 ≤ x2.toInt ∧ x2.toInt ≤ 200) → (0 ≤ (σ 24 1).toInt ∧ (σ 24 1).toInt ≤ 20) → (0 ≤ (σ 24 2).toInt ∧ (σ 24 2).toInt ≤ 40) → (conP b N mo (fun q nn => oneP b N mo nm hc 8 q nn) q nn = lopP b N mo 20 (allP b N mo (fun q nn => oneP b N mo nm hc 8 q nn)) fu q1 n1) → ((σ 24 1).toInt = (n1 : Int)) → (0 ≤ (σ 24 2).toInt ∧ (σ 24 2).toInt + 2 * (nn : Int) + 1 ≤ (σ0 24 2).toInt + 2 * (n1 : Int)) → ((fu : Int) + x2.toInt = 200) → (n1 ≤ 20) → (CT σ τ b N mo q1) → (WH σ τ nm hc) → (CT σ τ b N mo q1) → lv_has ls 3 [(0, .ref (ad 27)), (1, .int a1), (2, .int x2)] → 2 * (200 - x2.toInt) + 1 < (n : Int) → W p l e ({ frames := 27, cells := 0, slots := 0, locals := 593 } : Room) s m args below meth c H locs 0 0 (MQ below (va_Qi (fun (r : Int32) (u : SS) => P_X7_readCond_d1 σ0 τ0 a1 b N mo q nn nm hc r u.1 u.2) (WB D cA ad) (AA ad)) args s 0 0 (AA ad)) (F0 m 12 ls [])
set_option maxHeartbeats 4000000 in
theorem B_X7_readCond_d1_12 (p : Program) (l : Launch) (e : Env) (s : State) (m : MethodId) (args : Array Value) (below : List Frame) (meth : Method) (c : Code) (D : va_G) (cA : Nat → ClassId) (ad : Nat → Nat) (σ0 : Nat → Nat → Int32) (τ0 : Nat → Nat → Int64) (a1 : Int32) (b : Nat → Int) (N : Nat) (mo : Nat) (q : Nat) (nn : Nat) (nm : Nat → Int) (hc : Nat) (n : Nat) (C : Cy p s m args meth c cX7_readCond 3 wsX7_readCond RX7 D cA ad (some .boolean)) (ha1 : 1 ≤ a1.toInt ∧ a1.toInt ≤ 1) (hpre0 : (σ0 24 1).toInt = (nn : Int)) (hpre1 : 0 ≤ (σ0 24 2).toInt ∧ (σ0 24 2).toInt ≤ 2 * (nn : Int)) (hpre2 : nn ≤ 20) (gCT0 : CT σ0 τ0 b N mo q) (gWH0 : WH σ0 τ0 nm hc) (K12 : J_X7_readCond_d1_12 p l e s m args below meth c D cA ad σ0 τ0 a1 b N mo q nn nm hc n) : J_X7_readCond_d1_12 p l e s m args below meth c D cA ad σ0 τ0 a1 b N mo q nn nm hc (n + 1) := by
  obtain ⟨hx, hb, hml, hown, hts, hK, hk, hr, hI, hN⟩ := C
  intro σ τ H locs x2 fu q1 n1 ls hR hF hFL hP hS hc0 hc1 hc2 iv ib2 ib3 ifu in20 gCT gWH gCT hl hm
  refine lv_iload_n hx hb dX7_readCond_12 rfl (lv_at hl 2 rfl) ?_
  refine r_sipush hx hb dX7_readCond_13 (by decide) (fun z1 ez1 => ?_)
  refine r_icmp_ge (tgt := 68) hx hb dX7_readCond_16 (by decide) (fun c2 => ?_) (fun c2 => ?_)
  · refine r_iconst hx hb dX7_readCond_68 (by decide) (fun z3 ez3 => ?_)
    exact r_zret hx hb hr hK hP hS hk (by omega) dX7_readCond_69 (show P_X7_readCond_d1 σ0 τ0 a1 b N mo q nn nm hc z3 σ τ from ⟨hR, hF, hFL, by omega, by first | (exfalso; omega) | (obtain ⟨f, e1, x1, x2⟩ := o1.no (by omega); exact RO.ofl (con_f e1) (by omega) x1 x2) | exact RO.ofr (by rw [iv, lop_e (by omega)]) (by omega) ⟨gCT, by omega, by omega⟩ | (obtain ⟨f, e2, x1, x2⟩ := o2.no (by omega); exact RO.ofl (by rw [iv, lop_f (f := (allP b N mo (fun q nn => oneP b N mo nm hc 8 q nn))) (by omega) (by omega) e2]) (by omega) x1 x2) | (exfalso; omega), gWH⟩)
  · have htk := gCT.tk
    refine lv_aload_n hx hb dX7_readCond_19 rfl (lv_at hl 0 rfl) ?_
    refine fg_7_0 (k := 27) hx hb hts in_X7_readCond_7 hown hK hP (by decide) (by decide) (hts _ lk_X7_readCond_9) dX7_readCond_20 ?_
    refine fgN_8_9 (k := 1) hx hb hts in_X7_readCond_8 hown hK hP (by decide) (by decide) (hN.use nw_7_32) dX7_readCond_23 ?_
    refine r_bipush hx hb dX7_readCond_26 (by decide) (fun z4 ez4 => ?_)
    refine r_icmp_ne (tgt := 68) hx hb dX7_readCond_28 (by decide) (fun c5 => ?_) (fun c5 => ?_)
    · refine r_iconst hx hb dX7_readCond_68 (by decide) (fun z6 ez6 => ?_)
      exact r_zret hx hb hr hK hP hS hk (by omega) dX7_readCond_69 (show P_X7_readCond_d1 σ0 τ0 a1 b N mo q nn nm hc z6 σ τ from ⟨hR, hF, hFL, by omega, by first | (exfalso; omega) | (obtain ⟨f, e1, x1, x2⟩ := o1.no (by omega); exact RO.ofl (con_f e1) (by omega) x1 x2) | exact RO.ofr (by rw [iv, lop_e (by omega)]) (by omega) ⟨gCT, by omega, by omega⟩ | (obtain ⟨f, e2, x1, x2⟩ := o2.no (by omega); exact RO.ofl (by rw [iv, lop_f (f := (allP b N mo (fun q nn => oneP b N mo nm hc 8 q nn))) (by omega) (by omega) e2]) (by omega) x1 x2) | (exfalso; omega), gWH⟩)
    · refine lv_aload_n hx hb dX7_readCond_31 rfl (lv_at hl 0 rfl) ?_
      refine fg_7_0 (k := 27) hx hb hts in_X7_readCond_7 hown hK hP (by decide) (by decide) (hts _ lk_X7_readCond_9) dX7_readCond_32 ?_
      refine r_cVv (k := 1) (As := []) (rest := []) ⟨hx, hb, hml, hown, hts⟩ hK hP hN hS (c_X8_next_v l D cA ad hI σ τ hR _ _ _ _ gCT) (cwV 0 hts gX7_readCond_X8_next rfl rfl rfl (by decide +kernel) ⟨by decide, by decide⟩) (rv_Tape hK hP (by decide) (by decide)) rfl hl.1 rfl (Nat.le_of_ble_eq_true rfl) dX7_readCond_35 (Nat.zero_le _) (Nat.zero_le _) (fun u7 H7 locs7 hp7 hP hS => ?_)
      obtain ⟨σ7, τ7⟩ := u7
      obtain ⟨hR, f7, fL7, hp7_0⟩ : P_X8_next_v σ τ _ _ _ _ σ7 τ7 := hp7
      have hP : va_P D vwCl (gw cA ad σ7 τ7) H7 := hP
      have hFL := hFL.step fL7 (by decide)
      have gWH := gWH.agL (AgrL.fr fL7 (by decide))
      have hF := hF.step f7 (by decide)
      have gWH := gWH.ag (Agr.fr f7 (by decide))
      have t8 : (σ7 24 1).toInt = (σ 24 1).toInt := congrArg Int32.toInt (f7.at 24 1 (by decide))
      have t9 : (σ7 24 2).toInt = (σ 24 2).toInt := congrArg Int32.toInt (f7.at 24 2 (by decide))
      have gCT := hp7_0
      refine lv_aload_n hx hb dX7_readCond_38 rfl (lv_at hl 0 rfl) ?_
      refine lv_iload_n hx hb dX7_readCond_39 rfl (lv_at hl 1 rfl) ?_
      refine r_cVi (k := 27) (As := [.int a1]) (rest := []) ⟨hx, hb, hml, hown, hts⟩ hK hP hN hS (c_X7_readAll_d1 l D cA ad hI σ7 τ7 hR a1 b N mo _ n1 nm hc (by omega) (by omega) (by omega) (by omega) gCT gWH) (cwV 1 hts gX7_readCond_X7_readAll rfl rfl rfl (by decide +kernel) ⟨by decide, by decide⟩) (rv_SText hK hP (by decide) (by decide)) rfl hl.1 rfl (Nat.le_of_ble_eq_true rfl) dX7_readCond_40 (Nat.zero_le _) (Nat.zero_le _) (fun r10 u10 H10 locs10 hp10 hP hS => ?_)
      obtain ⟨σ10, τ10⟩ := u10
      obtain ⟨hR, f10, fL10, hq10, hp10_0, gnWH⟩ : P_X7_readAll_d1 σ7 τ7 a1 b N mo _ n1 nm hc r10 σ10 τ10 := hp10
      have o2 := hp10_0
      have hP : va_P D vwCl (gw cA ad σ10 τ10) H10 := hP
      have hFL := hFL.step fL10 (by decide)
      have gWH := gWH.agL (AgrL.fr fL10 (by decide))
      have hF := hF.step f10 (by decide)
      have gWH := gWH.ag (Agr.fr f10 (by decide))
      have hr11 := rg_6_1 hR (k := 24) (by decide) (by decide)
      have hr12 := rg_6_2 hR (k := 24) (by decide) (by decide)
      refine r_if_eq (tgt := 60) hx hb dX7_readCond_43 (by decide) (fun c13 => ?_) (fun c13 => ?_)
      · refine r_iconst hx hb dX7_readCond_60 (by decide) (fun z14 ez14 => ?_)
        exact r_zret hx hb hr hK hP hS hk (by omega) dX7_readCond_61 (show P_X7_readCond_d1 σ0 τ0 a1 b N mo q nn nm hc z14 σ10 τ10 from ⟨hR, hF, hFL, by omega, by first | (exfalso; omega) | (obtain ⟨f, e1, x1, x2⟩ := o1.no (by omega); exact RO.ofl (con_f e1) (by omega) x1 x2) | exact RO.ofr (by rw [iv, lop_e (by omega)]) (by omega) ⟨gCT, by omega, by omega⟩ | (obtain ⟨f, e2, x1, x2⟩ := o2.no (by omega); exact RO.ofl (by rw [iv, lop_f (f := (allP b N mo (fun q nn => oneP b N mo nm hc 8 q nn))) (by omega) (by omega) e2]) (by omega) x1 x2) | (exfalso; omega), gWH⟩)
      · obtain ⟨s2, e2, gCT, hs3, hs4⟩ := o2.ye (by omega)
        have hu2 := all_up (one_up _) _ _ _ e2
        refine lv_aload_n hx hb dX7_readCond_46 rfl (lv_at hl 0 rfl) ?_
        refine fg_7_2 (k := 27) hx hb hts in_X7_readCond_7 hown hK hP (by decide) (by decide) (hts _ lk_X7_readCond_19) dX7_readCond_47 ?_
        refine r_bipush hx hb dX7_readCond_50 (by decide) (fun z15 ez15 => ?_)
        refine r_iconst hx hb dX7_readCond_52 (by decide) (fun z16 ez16 => ?_)
        refine r_iconst hx hb dX7_readCond_53 (by decide) (fun z17 ez17 => ?_)
        refine r_cVi (k := 24) (As := [.int z15, .int z16, .int z17]) (rest := []) ⟨hx, hb, hml, hown, hts⟩ hK hP hN hS (c_X6_add l D cA ad hI σ10 τ10 hR z15 z16 z17 (by omega)) (cwV 3 hts gX7_readCond_X6_add rfl rfl rfl (by decide +kernel) ⟨by decide, by decide⟩) (rv_Sent hK hP (by decide) (by decide)) rfl hl.1 rfl (Nat.le_of_ble_eq_true rfl) dX7_readCond_54 (Nat.zero_le _) (Nat.zero_le _) (fun r18 u18 H18 locs18 hp18 hP hS => ?_)
        obtain ⟨σ18, τ18⟩ := u18
        obtain ⟨hR, f18, fL18, hq18, hp18_0⟩ : P_X6_add σ10 τ10 z15 z16 z17 r18 σ18 τ18 := hp18
        have hP : va_P D vwCl (gw cA ad σ18 τ18) H18 := hP
        obtain rfl := FrL.nil fL18
        have hF := hF.step f18 (by decide)
        have gCT := gCT.ag (Agr.fr f18 (by decide))
        have gWH := gWH.ag (Agr.fr f18 (by decide))
        have t19 : (σ18 24 1).toInt = (σ10 24 1).toInt := congrArg Int32.toInt (f18.at 24 1 (by decide))
        have hr20 := rg_6_2 hR (k := 24) (by decide) (by decide)
        refine r_if_ne (tgt := 62) hx hb dX7_readCond_57 (by decide) (fun c21 => ?_) (fun c21 => ?_)
        · refine r_iinc (k := 2) (lv1 := fun z22 => [(2, .int z22), (0, .ref (ad 27)), (1, .int a1)]) hx hb dX7_readCond_62 hl rfl (by decide) (fun _ => rfl) (by decide) (by omega) (fun z22 ls ez22 hl => ?_)
          refine lv_goto (tgt := 12) hx hb dX7_readCond_65 (by decide) ?_
          exact K12 σ18 τ10 H18 locs18 z22 (fu - 1) _ _ ls hR hF hFL hP hS (by omega) (by omega) (by omega) (by first | exact con_s e1 | rw [iv, lop_s (f := (allP b N mo (fun q nn => oneP b N mo nm hc 8 q nn))) (by omega) (by omega) e2]) (by omega) (by omega) (by omega) (by omega) gCT gWH gCT (lv_sub hl [1, 2, 0] rfl) (by omega)
        · refine r_iconst hx hb dX7_readCond_60 (by decide) (fun z23 ez23 => ?_)
          exact r_zret hx hb hr hK hP hS hk (by omega) dX7_readCond_61 (show P_X7_readCond_d1 σ0 τ0 a1 b N mo q nn nm hc z23 σ18 τ10 from ⟨hR, hF, hFL, by omega, by first | (exfalso; omega) | (obtain ⟨f, e1, x1, x2⟩ := o1.no (by omega); exact RO.ofl (con_f e1) (by omega) x1 x2) | exact RO.ofr (by rw [iv, lop_e (by omega)]) (by omega) ⟨gCT, by omega, by omega⟩ | (obtain ⟨f, e2, x1, x2⟩ := o2.no (by omega); exact RO.ofl (by rw [iv, lop_f (f := (allP b N mo (fun q nn => oneP b N mo nm hc 8 q nn))) (by omega) (by omega) e2]) (by omega) x1 x2) | (exfalso; omega), gWH⟩)
theorem A_X7_readCond_d1 (p : Program) (l : Launch) (e : Env) (s : State) (m : MethodId) (args : Array Value) (below : List Frame) (meth : Method) (c : Code) (D : va_G) (cA : Nat → ClassId) (ad : Nat → Nat) (σ0 : Nat → Nat → Int32) (τ0 : Nat → Nat → Int64) (a1 : Int32) (b : Nat → Int) (N : Nat) (mo : Nat) (q : Nat) (nn : Nat) (nm : Nat → Int) (hc : Nat) (C : Cy p s m args meth c cX7_readCond 3 wsX7_readCond RX7 D cA ad (some .boolean)) (ha1 : 1 ≤ a1.toInt ∧ a1.toInt ≤ 1) (hpre0 : (σ0 24 1).toInt = (nn : Int)) (hpre1 : 0 ≤ (σ0 24 2).toInt ∧ (σ0 24 2).toInt ≤ 2 * (nn : Int)) (hpre2 : nn ≤ 20) (gCT0 : CT σ0 τ0 b N mo q) (gWH0 : WH σ0 τ0 nm hc) : ∀ n : Nat, J_X7_readCond_d1_12 p l e s m args below meth c D cA ad σ0 τ0 a1 b N mo q nn nm hc n := by
  intro n
  induction n with
  | zero =>
    exact (by intro σ τ H locs x2 fu q1 n1 ls hR hF hFL hP hS hc0 hc1 hc2 iv ib2 ib3 ifu in20 gCT gWH gCT hl hm; exfalso; omega)
  | succ n ih =>
    exact B_X7_readCond_d1_12 p l e s m args below meth c D cA ad σ0 τ0 a1 b N mo q nn nm hc n C ha1 hpre0 hpre1 hpre2 gCT0 gWH0 ih
set_option maxHeartbeats 4000000 in
theorem c_X7_readCond_d1 (l : Launch) (D : va_G) (cA : Nat → ClassId) (ad : Nat → Nat) (hI : Inj ad) (σ0 : Nat → Nat → Int32) (τ0 : Nat → Nat → Int64) (hR : Rg σ0) (a1 : Int32) (b : Nat → Int) (N : Nat) (mo : Nat) (q : Nat) (nn : Nat) (nm : Nat → Int) (hc : Nat) (ha1 : 1 ≤ a1.toInt ∧ a1.toInt ≤ 1) (hpre0 : (σ0 24 1).toInt = (nn : Int)) (hpre1 : 0 ≤ (σ0 24 2).toInt ∧ (σ0 24 2).toInt ≤ 2 * (nn : Int)) (hpre2 : nn ≤ 20) (gCT0 : CT σ0 τ0 b N mo q) (gWH0 : WH σ0 τ0 nm hc) : Met l yX7_readCond wsX7_readCond ({ frames := 27, cells := 0, slots := 0, locals := 593 } : Room) (WQc D cA ad [.ref (ad 27), .int a1] σ0 τ0) (va_Qi (fun (r : Int32) (u : SS) => P_X7_readCond_d1 σ0 τ0 a1 b N mo q nn nm hc r u.1 u.2) (WB D cA ad) (AA ad)) 0 0 (AA ad) := by
  refine Met.ofW (cc := cX7_readCond) (maxL := 3) (ret := (some .boolean)) (by decide) rfl ?_
  intro p e s m args below meth c s₁ B hml hv
  obtain ⟨rfl, hP, hK, hN⟩ := hv
  have C : Cy p s m _ meth c cX7_readCond 3 wsX7_readCond RX7 D cA ad (some .boolean) := ⟨B.exec, B.bytes, hml, findClass_of_methodNamed B.named, atoms_spec (ws := wsX7_readCond) B.pre, hK, B.notSynchronized, B.returns, hI, hN⟩
  have hl := lv_entry ([.ref (ad 27), .int a1]) (n := 3) (Nat.le_of_ble_eq_true rfl)
  rw [lg_entry_eq]
  generalize (lg_sl ([.ref (ad 27), .int a1]) ++ List.replicate (3 - (lg_sl ([.ref (ad 27), .int a1])).length) Slot.unset).toArray = ls at hl ⊢
  have hl : lv_has ls 3 [(0, .ref (ad 27)), (1, .int a1)] := hl
  have hS : va_S (AA ad) s.heap s.heap [] := va_S.rf
  have hF : Fr L_X7_readCond_d1 σ0 σ0 := Fr.rf
  have hFL : FrL LL_X7_readCond_d1 τ0 τ0 := FrL.rf
  have gCT := gCT0
  have gWH := gWH0
  have hA := A_X7_readCond_d1 p l e s m _ below meth c D cA ad σ0 τ0 a1 b N mo q nn nm hc C ha1 hpre0 hpre1 hpre2 gCT0 gWH0 810
  have K12 := hA
  clear hA
  obtain ⟨hx, hb, _, hown, hts, _, hk, hr, _, _⟩ := C
  refine lv_aload_n hx hb dX7_readCond_0 rfl (lv_at hl 0 rfl) ?_
  refine lv_iload_n hx hb dX7_readCond_1 rfl (lv_at hl 1 rfl) ?_
  refine r_cVi (k := 27) (As := [.int a1]) (rest := []) ⟨hx, hb, hml, hown, hts⟩ hK hP hN hS (c_X7_readAll_d1 l D cA ad hI σ0 τ0 hR a1 b N mo q nn nm hc (by omega) (by omega) (by omega) (by omega) gCT gWH) (cwV 1 hts gX7_readCond_X7_readAll rfl rfl rfl (by decide +kernel) ⟨by decide, by decide⟩) (rv_SText hK hP (by decide) (by decide)) rfl hl.1 rfl (Nat.le_of_ble_eq_true rfl) dX7_readCond_2 (Nat.zero_le _) (Nat.zero_le _) (fun r1 u1 H1 locs1 hp1 hP hS => ?_)
  obtain ⟨σ1, τ1⟩ := u1
  obtain ⟨hR, f1, fL1, hq1, hp1_0, gnWH⟩ : P_X7_readAll_d1 σ0 τ0 a1 b N mo q nn nm hc r1 σ1 τ1 := hp1
  have o1 := hp1_0
  have hP : va_P D vwCl (gw cA ad σ1 τ1) H1 := hP
  have hFL := hFL.step fL1 (by decide)
  have gWH := gWH.agL (AgrL.fr fL1 (by decide))
  have hF := hF.step f1 (by decide)
  have gWH := gWH.ag (Agr.fr f1 (by decide))
  have hr2 := rg_6_1 hR (k := 24) (by decide) (by decide)
  have hr3 := rg_6_2 hR (k := 24) (by decide) (by decide)
  refine r_if_ne (tgt := 10) hx hb dX7_readCond_5 (by decide) (fun c4 => ?_) (fun c4 => ?_)
  · obtain ⟨s1, e1, gCT, hs1, hs2⟩ := o1.ye (by omega)
    have hu1 := all_up (one_up _) _ _ _ e1
    refine r_iconst hx hb dX7_readCond_10 (by decide) (fun z5 ez5 => ?_)
    refine lv_istore_n (lv' := [(2, .int z5), (0, .ref (ad 27)), (1, .int a1)]) hx hb dX7_readCond_11 rfl hl (by decide) rfl (fun ls hl => ?_)
    exact K12 σ1 τ1 H1 locs1 z5 200 _ _ ls hR hF hFL hP hS (by omega) (by omega) (by omega) (by first | exact con_s e1 | rw [iv, lop_s (f := (allP b N mo (fun q nn => oneP b N mo nm hc 8 q nn))) (by omega) (by omega) e2]) (by omega) (by omega) (by omega) (by omega) gCT gWH gCT (lv_sub hl [1, 2, 0] rfl) (by omega)
  · refine r_iconst hx hb dX7_readCond_8 (by decide) (fun z6 ez6 => ?_)
    exact r_zret hx hb hr hK hP hS hk (by omega) dX7_readCond_9 (show P_X7_readCond_d1 σ0 τ0 a1 b N mo q nn nm hc z6 σ1 τ1 from ⟨hR, hF, hFL, by omega, by first | (exfalso; omega) | (obtain ⟨f, e1, x1, x2⟩ := o1.no (by omega); exact RO.ofl (con_f e1) (by omega) x1 x2) | exact RO.ofr (by rw [iv, lop_e (by omega)]) (by omega) ⟨gCT, by omega, by omega⟩ | (obtain ⟨f, e2, x1, x2⟩ := o2.no (by omega); exact RO.ofl (by rw [iv, lop_f (f := (allP b N mo (fun q nn => oneP b N mo nm hc 8 q nn))) (by omega) (by omega) e2]) (by omega) x1 x2) | (exfalso; omega), gWH⟩)
theorem in_X7_read_6 : ∀ w ∈ u_ws RX6 TX6 7, w ∈ wsX7_read := by decide +kernel
theorem in_X7_read_7 : ∀ w ∈ u_ws RX7 TX7 3, w ∈ wsX7_read := by decide +kernel
theorem in_X7_read_8 : ∀ w ∈ u_ws RX8 TX8 15, w ∈ wsX7_read := by decide +kernel
theorem lk_X7_read_19 : Cond.fieldLink RX7 19 "CuckooShares$SentenceText" "into" "LCuckooShares$Sentence;" ∈ wsX7_read := by decide +kernel
theorem lk_X7_read_9 : Cond.fieldLink RX7 9 "CuckooShares$SentenceText" "tape" "LCuckooShares$Tape;" ∈ wsX7_read := by decide +kernel
abbrev L_X7_read : List Rc := [(23, 24, 0, 2), (1, 1, 7, 10), (372, 372, 0, 39), (376, 376, 0, 39), (380, 380, 0, 39), (1, 1, 12, 14)]
abbrev LL_X7_read : List Rc := [(1, 1, 11, 11)]
def P_X7_read (σ0 : Nat → Nat → Int32) (τ0 : Nat → Nat → Int64) (b : Nat → Int) (N : Nat) (mo : Nat) (nm : Nat → Int) (hc : Nat) (r : Int32) (σ : Nat → Nat → Int32) (τ : Nat → Nat → Int64) : Prop := Rg σ ∧ Fr L_X7_read σ0 σ ∧ FrL LL_X7_read τ0 τ ∧ (0 ≤ r.toInt ∧ r.toInt ≤ 1) ∧ (RO r σ (senP b N mo nm hc) (fun k => (σ 24 1).toInt = (k : Int))) ∧ WH σ τ nm hc
set_option maxHeartbeats 4000000 in
theorem c_X7_read (l : Launch) (D : va_G) (cA : Nat → ClassId) (ad : Nat → Nat) (hI : Inj ad) (σ0 : Nat → Nat → Int32) (τ0 : Nat → Nat → Int64) (hR : Rg σ0) (b : Nat → Int) (N : Nat) (mo : Nat) (nm : Nat → Int) (hc : Nat) (hpre0 : CT σ0 τ0 b N mo (posq b N mo 0)) (gWH0 : WH σ0 τ0 nm hc) : Met l yX7_read wsX7_read ({ frames := 28, cells := 0, slots := 0, locals := 615 } : Room) (WQc D cA ad [.ref (ad 27)] σ0 τ0) (va_Qi (fun (r : Int32) (u : SS) => P_X7_read σ0 τ0 b N mo nm hc r u.1 u.2) (WB D cA ad) (AA ad)) 0 0 (AA ad) := by
  refine Met.ofW (cc := cX7_read) (maxL := 1) (ret := (some .boolean)) (by decide) rfl ?_
  intro p e s m args below meth c s₁ B hml hv
  obtain ⟨rfl, hP, hK, hN⟩ := hv
  have C : Cy p s m _ meth c cX7_read 1 wsX7_read RX7 D cA ad (some .boolean) := ⟨B.exec, B.bytes, hml, findClass_of_methodNamed B.named, atoms_spec (ws := wsX7_read) B.pre, hK, B.notSynchronized, B.returns, hI, hN⟩
  have hl := lv_entry ([.ref (ad 27)]) (n := 1) (Nat.le_of_ble_eq_true rfl)
  rw [lg_entry_eq]
  generalize (lg_sl ([.ref (ad 27)]) ++ List.replicate (1 - (lg_sl ([.ref (ad 27)])).length) Slot.unset).toArray = ls at hl ⊢
  have hl : lv_has ls 1 [(0, .ref (ad 27))] := hl
  have hS : va_S (AA ad) s.heap s.heap [] := va_S.rf
  have hF : Fr L_X7_read σ0 σ0 := Fr.rf
  have hFL : FrL LL_X7_read τ0 τ0 := FrL.rf
  have gWH := gWH0
  obtain ⟨hx, hb, _, hown, hts, _, hk, hr, _, _⟩ := C
  have gCT := hpre0
  refine lv_aload_n hx hb dX7_read_0 rfl (lv_at hl 0 rfl) ?_
  refine fg_7_2 (k := 27) hx hb hts in_X7_read_7 hown hK hP (by decide) (by decide) (hts _ lk_X7_read_19) dX7_read_1 ?_
  refine r_cVv (k := 24) (As := []) (rest := []) ⟨hx, hb, hml, hown, hts⟩ hK hP hN hS (c_X6_clear l D cA ad hI σ0 τ0 hR 24 ⟨by omega, by omega⟩) (cwV 0 hts gX7_read_X6_clear rfl rfl rfl (by decide +kernel) ⟨by decide, by decide⟩) (rv_Sent hK hP (by decide) (by decide)) rfl hl.1 rfl (Nat.le_of_ble_eq_true rfl) dX7_read_4 (Nat.zero_le _) (Nat.zero_le _) (fun u1 H1 locs1 hp1 hP hS => ?_)
  obtain ⟨σ1, τ1⟩ := u1
  obtain ⟨hR, f1, fL1, hp1_0, hp1_1⟩ : P_X6_clear σ0 τ0 24 σ1 τ1 := hp1
  have hP : va_P D vwCl (gw cA ad σ1 τ1) H1 := hP
  obtain rfl := FrL.nil fL1
  have hF := hF.step f1 (by decide)
  have gCT := gCT.ag (Agr.fr f1 (by decide))
  have gWH := gWH.ag (Agr.fr f1 (by decide))
  have hr2 := rg_6_1 hR (k := 24) (by decide) (by decide)
  have hr3 := rg_6_2 hR (k := 24) (by decide) (by decide)
  refine lv_aload_n hx hb dX7_read_7 rfl (lv_at hl 0 rfl) ?_
  refine r_iconst hx hb dX7_read_8 (by decide) (fun z4 ez4 => ?_)
  refine r_cVi (k := 27) (As := [.int z4]) (rest := []) ⟨hx, hb, hml, hown, hts⟩ hK hP hN hS (c_X7_readCond_d1 l D cA ad hI σ1 τ0 hR z4 b N mo (posq b N mo 0) 0 nm hc (by omega) (by omega) (by omega) (by omega) gCT gWH) (cwV 1 hts gX7_read_X7_readCond rfl rfl rfl (by decide +kernel) ⟨by decide, by decide⟩) (rv_SText hK hP (by decide) (by decide)) rfl hl.1 rfl (Nat.le_of_ble_eq_true rfl) dX7_read_9 (Nat.zero_le _) (Nat.zero_le _) (fun r5 u5 H5 locs5 hp5 hP hS => ?_)
  obtain ⟨σ5, τ5⟩ := u5
  obtain ⟨hR, f5, fL5, hq5, hp5_0, gnWH⟩ : P_X7_readCond_d1 σ1 τ0 z4 b N mo (posq b N mo 0) 0 nm hc r5 σ5 τ5 := hp5
  have o1 := hp5_0
  have hP : va_P D vwCl (gw cA ad σ5 τ5) H5 := hP
  have hFL := hFL.step fL5 (by decide)
  have gWH := gWH.agL (AgrL.fr fL5 (by decide))
  have hF := hF.step f5 (by decide)
  have gWH := gWH.ag (Agr.fr f5 (by decide))
  have hr6 := rg_6_1 hR (k := 24) (by decide) (by decide)
  have hr7 := rg_6_2 hR (k := 24) (by decide) (by decide)
  refine r_if_ne (tgt := 17) hx hb dX7_read_12 (by decide) (fun c8 => ?_) (fun c8 => ?_)
  · obtain ⟨s1, e1, gCT, hs1, hs2⟩ := o1.ye (by omega)
    have htk := gCT.tk
    refine lv_aload_n hx hb dX7_read_17 rfl (lv_at hl 0 rfl) ?_
    refine fg_7_0 (k := 27) hx hb hts in_X7_read_7 hown hK hP (by decide) (by decide) (hts _ lk_X7_read_9) dX7_read_18 ?_
    refine fgN_8_9 (k := 1) hx hb hts in_X7_read_8 hown hK hP (by decide) (by decide) (hN.use nw_7_32) dX7_read_21 ?_
    refine r_bipush hx hb dX7_read_24 (by decide) (fun z9 ez9 => ?_)
    refine r_icmp_eq (tgt := 38) hx hb dX7_read_26 (by decide) (fun c10 => ?_) (fun c10 => ?_)
    · refine lv_aload_n hx hb dX7_read_38 rfl (lv_at hl 0 rfl) ?_
      refine fg_7_2 (k := 27) hx hb hts in_X7_read_7 hown hK hP (by decide) (by decide) (hts _ lk_X7_read_19) dX7_read_39 ?_
      refine r_iconst hx hb dX7_read_42 (by decide) (fun z11 ez11 => ?_)
      refine fpN_6_0 (k := 24) hx hb hts in_X7_read_6 hown hK hP (by decide) (by decide) (hN.use nw_7_41) hI hR hS (by omega) dX7_read_43 (fun σ12 H12 locs12 u12 v12 hR hP hS => ?_)
      have hF := hF.puts u12 0 rfl (by decide) (by decide) (by decide) (by decide)
      have gCT := gCT.ag (Agr.put u12 (by decide))
      have gWH := gWH.ag (Agr.put u12 (by decide))
      have t13 : (σ12 24 1).toInt = (σ5 24 1).toInt := congrArg Int32.toInt (u12 24 1 (by omega))
      have t14 : (σ12 24 2).toInt = (σ5 24 2).toInt := congrArg Int32.toInt (u12 24 2 (by omega))
      refine r_iconst hx hb dX7_read_46 (by decide) (fun z15 ez15 => ?_)
      exact r_zret hx hb hr hK hP hS hk (by omega) dX7_read_47 (show P_X7_read σ0 τ0 b N mo nm hc z15 σ12 τ5 from ⟨hR, hF, hFL, by omega, by first | (obtain ⟨f, e1, x1, x2⟩ := o1.no (by omega); exact RO.ofl (by unfold senP; rw [e1, bnd_l]) (by omega) x1 x2) | exact RO.ofk (by unfold senP; rw [e1, bnd_r, if_pos (by omega)]) (by omega) (by omega) (by omega) | exact RO.ofr (by unfold senP; rw [e1, bnd_r, if_neg (by omega)]) (by omega) (by omega), gWH⟩)
    · refine lv_aload_n hx hb dX7_read_29 rfl (lv_at hl 0 rfl) ?_
      refine fg_7_0 (k := 27) hx hb hts in_X7_read_7 hown hK hP (by decide) (by decide) (hts _ lk_X7_read_9) dX7_read_30 ?_
      refine r_iconst hx hb dX7_read_33 (by decide) (fun z16 ez16 => ?_)
      refine r_cVi (k := 1) (As := [.int z16]) (rest := []) ⟨hx, hb, hml, hown, hts⟩ hK hP hN hS (c_X8_blame_v l D cA ad hI σ5 τ5 hR z16 _ _ _ _ (by omega) gCT) (cwV 1 hts gX7_read_X8_blame rfl rfl rfl (by decide +kernel) ⟨by decide, by decide⟩) (rv_Tape hK hP (by decide) (by decide)) rfl hl.1 rfl (Nat.le_of_ble_eq_true rfl) dX7_read_34 (Nat.zero_le _) (Nat.zero_le _) (fun r17 u17 H17 locs17 hp17 hP hS => ?_)
      obtain ⟨σ17, τ17⟩ := u17
      obtain ⟨hR, f17, fL17, hq17, hp17_0, hp17_1, hp17_2, gnCT⟩ : P_X8_blame_v σ5 τ5 z16 _ _ _ _ r17 σ17 τ17 := hp17
      have hP : va_P D vwCl (gw cA ad σ17 τ17) H17 := hP
      obtain rfl := FrL.nil fL17
      have hF := hF.step f17 (by decide)
      have gCT := gCT.ag (Agr.fr f17 (by decide))
      have gWH := gWH.ag (Agr.fr f17 (by decide))
      have t18 : (σ17 24 1).toInt = (σ5 24 1).toInt := congrArg Int32.toInt (f17.at 24 1 (by decide))
      have t19 : (σ17 24 2).toInt = (σ5 24 2).toInt := congrArg Int32.toInt (f17.at 24 2 (by decide))
      exact r_zret hx hb hr hK hP hS hk (by omega) dX7_read_37 (show P_X7_read σ0 τ0 b N mo nm hc r17 σ17 τ5 from ⟨hR, hF, hFL, by omega, by first | (obtain ⟨f, e1, x1, x2⟩ := o1.no (by omega); exact RO.ofl (by unfold senP; rw [e1, bnd_l]) (by omega) x1 x2) | exact RO.ofk (by unfold senP; rw [e1, bnd_r, if_pos (by omega)]) (by omega) (by omega) (by omega) | exact RO.ofr (by unfold senP; rw [e1, bnd_r, if_neg (by omega)]) (by omega) (by omega), gWH⟩)
  · refine r_iconst hx hb dX7_read_15 (by decide) (fun z20 ez20 => ?_)
    exact r_zret hx hb hr hK hP hS hk (by omega) dX7_read_16 (show P_X7_read σ0 τ0 b N mo nm hc z20 σ5 τ5 from ⟨hR, hF, hFL, by omega, by first | (obtain ⟨f, e1, x1, x2⟩ := o1.no (by omega); exact RO.ofl (by unfold senP; rw [e1, bnd_l]) (by omega) x1 x2) | exact RO.ofk (by unfold senP; rw [e1, bnd_r, if_pos (by omega)]) (by omega) (by omega) (by omega) | exact RO.ofr (by unfold senP; rw [e1, bnd_r, if_neg (by omega)]) (by omega) (by omega), gWH⟩)
theorem in_X0_hearersSoFar_0 : ∀ w ∈ u_ws RX0 TX0 3, w ∈ wsX0_hearersSoFar := by decide +kernel
theorem in_X0_hearersSoFar_2 : ∀ w ∈ u_ws RX2 TX2 7, w ∈ wsX0_hearersSoFar := by decide +kernel
theorem lk_X0_hearersSoFar_15 : Cond.fieldLink RX0 15 "CuckooShares$Acts" "camp" "LCuckooShares$Camp;" ∈ wsX0_hearersSoFar := by decide +kernel
abbrev L_X0_hearersSoFar : List Rc := [(360, 360, 0, 7), (361, 361, 0, 7), (362, 362, 0, 7)]
abbrev LL_X0_hearersSoFar : List Rc := []
def P_X0_hearersSoFar (σ0 : Nat → Nat → Int32) (τ0 : Nat → Nat → Int64)  (r : Int32) (σ : Nat → Nat → Int32) (τ : Nat → Nat → Int64) : Prop := Rg σ ∧ Fr L_X0_hearersSoFar σ0 σ ∧ FrL LL_X0_hearersSoFar τ0 τ
def J_X0_hearersSoFar_19 (p : Program) (l : Launch) (e : Env) (s : State) (m : MethodId) (args : Array Value) (below : List Frame) (meth : Method) (c : Code) (D : va_G) (cA : Nat → ClassId) (ad : Nat → Nat) (σ0 : Nat → Nat → Int32) (τ0 : Nat → Nat → Int64)  (n : Nat) : Prop := ∀ (σ : Nat → Nat → Int32) (τ : Nat → Nat → Int64) (H : Heap) (locs : List Loc) (x2 : Int32) (x3 : Int32) (x4 : Int32) (ls : Array Slot), Rg σ → Fr L_X0_hearersSoFar σ0 σ → FrL LL_X0_hearersSoFar τ0 τ → va_P D vwCl (gw cA ad σ τ) H → va_S (AA ad) s.heap H locs → (0 ≤ x2.toInt ∧ x2.toInt ≤ 10) → (0 ≤ x4.toInt ∧ x4.toInt ≤ 10) → (x2.toInt = 0 ∨ (0 ≤ (σ 7 1).toInt ∧ (σ 7 1).toInt ≤ 3)) → lv_has ls 5 [(0, .ref (ad 22)), (1, .ref (ad 7)), (2, .int x2), (3, .int x3), (4, .int x4)] → 2 * (10 - x4.toInt) + 1 < (n : Int) → W p l e ({ frames := 4, cells := 0, slots := 0, locals := 95 } : Room) s m args below meth c H locs 0 0 (MQ below (va_Qi (fun (r : Int32) (u : SS) => P_X0_hearersSoFar σ0 τ0 r u.1 u.2) (WB D cA ad) (AA ad)) args s 0 0 (AA ad)) (F0 m 19 ls [])
set_option maxHeartbeats 4000000 in
theorem B_X0_hearersSoFar_19 (p : Program) (l : Launch) (e : Env) (s : State) (m : MethodId) (args : Array Value) (below : List Frame) (meth : Method) (c : Code) (D : va_G) (cA : Nat → ClassId) (ad : Nat → Nat) (σ0 : Nat → Nat → Int32) (τ0 : Nat → Nat → Int64)  (n : Nat) (C : Cy p s m args meth c cX0_hearersSoFar 5 wsX0_hearersSoFar RX0 D cA ad (some .int))  (K19 : J_X0_hearersSoFar_19 p l e s m args below meth c D cA ad σ0 τ0 n) : J_X0_hearersSoFar_19 p l e s m args below meth c D cA ad σ0 τ0 (n + 1) := by
  obtain ⟨hx, hb, hml, hown, hts, hK, hk, hr, hI, hN⟩ := C
  intro σ τ H locs x2 x3 x4 ls hR hF hFL hP hS hc0 hc1 hi0 hl hm
  obtain rfl := FrL.nil hFL
  refine lv_iload hx hb dX0_hearersSoFar_19 (lv_at hl 4 rfl) ?_
  refine lv_iload_n hx hb dX0_hearersSoFar_21 rfl (lv_at hl 2 rfl) ?_
  refine r_icmp_ge (tgt := 47) hx hb dX0_hearersSoFar_22 (by decide) (fun c1 => ?_) (fun c1 => ?_)
  · refine lv_iload_n hx hb dX0_hearersSoFar_47 rfl (lv_at hl 3 rfl) ?_
    exact r_iret hx hb hr hK hP hS hk dX0_hearersSoFar_48 (show P_X0_hearersSoFar σ0 τ0 x3 σ τ0 from ⟨hR, hF, hFL⟩)
  · refine lv_iload_n hx hb dX0_hearersSoFar_25 rfl (lv_at hl 3 rfl) ?_
    refine lv_aload_n hx hb dX0_hearersSoFar_26 rfl (lv_at hl 0 rfl) ?_
    refine fg_0_1 (k := 22) hx hb hts in_X0_hearersSoFar_0 hown hK hP (by decide) (by decide) (hts _ lk_X0_hearersSoFar_15) dX0_hearersSoFar_27 ?_
    refine lv_aload_n hx hb dX0_hearersSoFar_30 rfl (lv_at hl 1 rfl) ?_
    refine fgN_2_1 (k := 7) hx hb hts in_X0_hearersSoFar_2 hown hK hP (by decide) (by decide) (hN.use nw_0_19) dX0_hearersSoFar_31 ?_
    refine lv_iload hx hb dX0_hearersSoFar_34 (lv_at hl 4 rfl) ?_
    refine r_cVi (k := 21) (As := [.int (σ 7 1), .int x4]) (rest := [.int x3]) ⟨hx, hb, hml, hown, hts⟩ hK hP hN hS (c_X1_hearers l D cA ad hI σ τ0 hR (σ 7 1) x4 (by omega) (by omega)) (cwV 2 hts gX0_hearersSoFar_X1_hearers rfl rfl rfl (by decide +kernel) ⟨by decide, by decide⟩) (rv_Camp hK hP (by decide) (by decide)) rfl hl.1 rfl (Nat.le_of_ble_eq_true rfl) dX0_hearersSoFar_36 (Nat.zero_le _) (Nat.zero_le _) (fun r2 u2 H2 locs2 hp2 hP hS => ?_)
    obtain ⟨σ2, τ2⟩ := u2
    obtain ⟨hR, f2, fL2⟩ : P_X1_hearers σ τ0 (σ 7 1) x4 r2 σ2 τ2 := hp2
    have hP : va_P D vwCl (gw cA ad σ2 τ2) H2 := hP
    obtain rfl := FrL.nil fL2
    obtain rfl := Fr.nil f2
    refine r_iorU hx hb dX0_hearersSoFar_39 (fun z3 => ?_)
    refine lv_istore_n (lv' := [(3, .int z3), (0, .ref (ad 22)), (1, .ref (ad 7)), (2, .int x2), (4, .int x4)]) hx hb dX0_hearersSoFar_40 rfl hl (by decide) rfl (fun ls hl => ?_)
    refine r_iinc (k := 4) (lv1 := fun z4 => [(4, .int z4), (3, .int z3), (0, .ref (ad 22)), (1, .ref (ad 7)), (2, .int x2)]) hx hb dX0_hearersSoFar_41 hl rfl (by decide) (fun _ => rfl) (by decide) (by omega) (fun z4 ls ez4 hl => ?_)
    refine lv_goto (tgt := 19) hx hb dX0_hearersSoFar_44 (by decide) ?_
    exact K19 σ τ0 H2 locs2 x2 z3 z4 ls hR hF hFL hP hS (by omega) (by omega) (by omega) (lv_sub hl [2, 3, 4, 1, 0] rfl) (by omega)
theorem A_X0_hearersSoFar (p : Program) (l : Launch) (e : Env) (s : State) (m : MethodId) (args : Array Value) (below : List Frame) (meth : Method) (c : Code) (D : va_G) (cA : Nat → ClassId) (ad : Nat → Nat) (σ0 : Nat → Nat → Int32) (τ0 : Nat → Nat → Int64)  (C : Cy p s m args meth c cX0_hearersSoFar 5 wsX0_hearersSoFar RX0 D cA ad (some .int))  : ∀ n : Nat, J_X0_hearersSoFar_19 p l e s m args below meth c D cA ad σ0 τ0 n := by
  intro n
  induction n with
  | zero =>
    exact (by intro σ τ H locs x2 x3 x4 ls hR hF hFL hP hS hc0 hc1 hi0 hl hm; exfalso; omega)
  | succ n ih =>
    exact B_X0_hearersSoFar_19 p l e s m args below meth c D cA ad σ0 τ0 n C  ih
set_option maxHeartbeats 4000000 in
theorem c_X0_hearersSoFar (l : Launch) (D : va_G) (cA : Nat → ClassId) (ad : Nat → Nat) (hI : Inj ad) (σ0 : Nat → Nat → Int32) (τ0 : Nat → Nat → Int64) (hR : Rg σ0)   : Met l yX0_hearersSoFar wsX0_hearersSoFar ({ frames := 4, cells := 0, slots := 0, locals := 95 } : Room) (WQc D cA ad [.ref (ad 22), .ref (ad 7)] σ0 τ0) (va_Qi (fun (r : Int32) (u : SS) => P_X0_hearersSoFar σ0 τ0 r u.1 u.2) (WB D cA ad) (AA ad)) 0 0 (AA ad) := by
  refine Met.ofW (cc := cX0_hearersSoFar) (maxL := 5) (ret := (some .int)) (by decide) rfl ?_
  intro p e s m args below meth c s₁ B hml hv
  obtain ⟨rfl, hP, hK, hN⟩ := hv
  have C : Cy p s m _ meth c cX0_hearersSoFar 5 wsX0_hearersSoFar RX0 D cA ad (some .int) := ⟨B.exec, B.bytes, hml, findClass_of_methodNamed B.named, atoms_spec (ws := wsX0_hearersSoFar) B.pre, hK, B.notSynchronized, B.returns, hI, hN⟩
  have hl := lv_entry ([.ref (ad 22), .ref (ad 7)]) (n := 5) (Nat.le_of_ble_eq_true rfl)
  rw [lg_entry_eq]
  generalize (lg_sl ([.ref (ad 22), .ref (ad 7)]) ++ List.replicate (5 - (lg_sl ([.ref (ad 22), .ref (ad 7)])).length) Slot.unset).toArray = ls at hl ⊢
  have hl : lv_has ls 5 [(0, .ref (ad 22)), (1, .ref (ad 7))] := hl
  have hS : va_S (AA ad) s.heap s.heap [] := va_S.rf
  have hF : Fr L_X0_hearersSoFar σ0 σ0 := Fr.rf
  have hFL : FrL LL_X0_hearersSoFar τ0 τ0 := FrL.rf
  have hA := A_X0_hearersSoFar p l e s m _ below meth c D cA ad σ0 τ0 C  50
  have K19 := hA
  clear hA
  obtain ⟨hx, hb, _, hown, hts, _, hk, hr, _, _⟩ := C
  refine lv_aload_n hx hb dX0_hearersSoFar_0 rfl (lv_at hl 0 rfl) ?_
  refine fg_0_1 (k := 22) hx hb hts in_X0_hearersSoFar_0 hown hK hP (by decide) (by decide) (hts _ lk_X0_hearersSoFar_15) dX0_hearersSoFar_1 ?_
  refine lv_aload_n hx hb dX0_hearersSoFar_4 rfl (lv_at hl 1 rfl) ?_
  refine r_cVv (k := 21) (As := [.ref (ad 7)]) (rest := []) ⟨hx, hb, hml, hown, hts⟩ hK hP hN hS (c_X1_pitch l D cA ad hI σ0 τ0 hR 7 ⟨by omega, by omega⟩) (cwV 1 hts gX0_hearersSoFar_X1_pitch rfl rfl rfl (by decide +kernel) ⟨by decide, by decide⟩) (rv_Camp hK hP (by decide) (by decide)) rfl hl.1 rfl (Nat.le_of_ble_eq_true rfl) dX0_hearersSoFar_5 (Nat.zero_le _) (Nat.zero_le _) (fun u1 H1 locs1 hp1 hP hS => ?_)
  obtain ⟨σ1, τ1⟩ := u1
  obtain ⟨hR, f1, fL1⟩ : P_X1_pitch σ0 τ0 7 σ1 τ1 := hp1
  have hP : va_P D vwCl (gw cA ad σ1 τ1) H1 := hP
  obtain rfl := FrL.nil fL1
  have hF := hF.step f1 (by decide)
  refine lv_aload_n hx hb dX0_hearersSoFar_8 rfl (lv_at hl 0 rfl) ?_
  refine lv_aload_n hx hb dX0_hearersSoFar_9 rfl (lv_at hl 1 rfl) ?_
  refine r_cVi (k := 22) (As := [.ref (ad 7)]) (rest := []) ⟨hx, hb, hml, hown, hts⟩ hK hP hN hS (c_X0_past l D cA ad hI σ1 τ0 hR 7 ⟨by omega, by omega⟩) (cwV 1 hts gX0_hearersSoFar_X0_past rfl rfl rfl (by decide +kernel) ⟨by decide, by decide⟩) (rv_Acts hK hP (by decide) (by decide)) rfl hl.1 rfl (Nat.le_of_ble_eq_true rfl) dX0_hearersSoFar_10 (Nat.zero_le _) (Nat.zero_le _) (fun r2 u2 H2 locs2 hp2 hP hS => ?_)
  obtain ⟨σ2, τ2⟩ := u2
  obtain ⟨hR, f2, fL2, hq2, hp2_0⟩ : P_X0_past σ1 τ0 7 r2 σ2 τ2 := hp2
  have hP : va_P D vwCl (gw cA ad σ2 τ2) H2 := hP
  obtain rfl := FrL.nil fL2
  obtain rfl := Fr.nil f2
  refine lv_istore_n (lv' := [(2, .int r2), (0, .ref (ad 22)), (1, .ref (ad 7))]) hx hb dX0_hearersSoFar_13 rfl hl (by decide) rfl (fun ls hl => ?_)
  refine r_iconst hx hb dX0_hearersSoFar_14 (by decide) (fun z3 ez3 => ?_)
  refine lv_istore_n (lv' := [(3, .int z3), (2, .int r2), (0, .ref (ad 22)), (1, .ref (ad 7))]) hx hb dX0_hearersSoFar_15 rfl hl (by decide) rfl (fun ls hl => ?_)
  refine r_iconst hx hb dX0_hearersSoFar_16 (by decide) (fun z4 ez4 => ?_)
  refine lv_istore (lv' := [(4, .int z4), (3, .int z3), (2, .int r2), (0, .ref (ad 22)), (1, .ref (ad 7))]) hx hb dX0_hearersSoFar_17 hl (by decide) rfl (fun ls hl => ?_)
  exact K19 σ1 τ0 H2 locs2 r2 z3 z4 ls hR hF hFL hP hS (by omega) (by omega) (by omega) (lv_sub hl [3, 4, 2, 1, 0] rfl) (by omega)
theorem in_X6_isSo_6 : ∀ w ∈ u_ws RX6 TX6 7, w ∈ wsX6_isSo := by decide +kernel
theorem lk_X6_isSo_15 : Cond.fieldLink RX6 15 "CuckooShares$Sentence" "sign" "[I" ∈ wsX6_isSo := by decide +kernel
theorem lk_X6_isSo_18 : Cond.fieldLink RX6 18 "CuckooShares$Sentence" "value" "[I" ∈ wsX6_isSo := by decide +kernel
abbrev L_X6_isSo : List Rc := []
abbrev LL_X6_isSo : List Rc := []
def P_X6_isSo (σ0 : Nat → Nat → Int32) (τ0 : Nat → Nat → Int64) (a1 : Int32) (a2 : Int32) (r : Int32) (σ : Nat → Nat → Int32) (τ : Nat → Nat → Int64) : Prop := Rg σ ∧ Fr L_X6_isSo σ0 σ ∧ FrL LL_X6_isSo τ0 τ ∧ (0 ≤ r.toInt ∧ r.toInt ≤ 1)
set_option maxHeartbeats 4000000 in
theorem c_X6_isSo (l : Launch) (D : va_G) (cA : Nat → ClassId) (ad : Nat → Nat) (hI : Inj ad) (σ0 : Nat → Nat → Int32) (τ0 : Nat → Nat → Int64) (hR : Rg σ0) (a1 : Int32) (a2 : Int32) (ha1 : 0 ≤ a1.toInt ∧ a1.toInt ≤ 39) : Met l yX6_isSo wsX6_isSo ({ frames := 0, cells := 0, slots := 0, locals := 0 } : Room) (WQc D cA ad [.ref (ad 23), .int a1, .int a2] σ0 τ0) (va_Qi (fun (r : Int32) (u : SS) => P_X6_isSo σ0 τ0 a1 a2 r u.1 u.2) (WB D cA ad) (AA ad)) 0 0 (AA ad) := by
  refine Met.ofW (cc := cX6_isSo) (maxL := 3) (ret := (some .boolean)) (by decide) rfl ?_
  intro p e s m args below meth c s₁ B hml hv
  obtain ⟨rfl, hP, hK, hN⟩ := hv
  have C : Cy p s m _ meth c cX6_isSo 3 wsX6_isSo RX6 D cA ad (some .boolean) := ⟨B.exec, B.bytes, hml, findClass_of_methodNamed B.named, atoms_spec (ws := wsX6_isSo) B.pre, hK, B.notSynchronized, B.returns, hI, hN⟩
  have hl := lv_entry ([.ref (ad 23), .int a1, .int a2]) (n := 3) (Nat.le_of_ble_eq_true rfl)
  rw [lg_entry_eq]
  generalize (lg_sl ([.ref (ad 23), .int a1, .int a2]) ++ List.replicate (3 - (lg_sl ([.ref (ad 23), .int a1, .int a2])).length) Slot.unset).toArray = ls at hl ⊢
  have hl : lv_has ls 3 [(0, .ref (ad 23)), (1, .int a1), (2, .int a2)] := hl
  have hS : va_S (AA ad) s.heap s.heap [] := va_S.rf
  have hF : Fr L_X6_isSo σ0 σ0 := Fr.rf
  have hFL : FrL LL_X6_isSo τ0 τ0 := FrL.rf
  obtain ⟨hx, hb, _, hown, hts, _, hk, hr, _, _⟩ := C
  refine lv_aload_n hx hb dX6_isSo_0 rfl (lv_at hl 0 rfl) ?_
  refine fg_6_4 (k := 23) hx hb hts in_X6_isSo_6 hown hK hP (by decide) (by decide) (hts _ lk_X6_isSo_15) dX6_isSo_1 ?_
  refine lv_iload_n hx hb dX6_isSo_4 rfl (lv_at hl 1 rfl) ?_
  obtain ⟨j1, ej1⟩ : ∃ j : Nat, a1.toInt = (j : Int) := ⟨_, ti_nat (by omega)⟩
  refine ad_sent40 (k := 375) (j := j1) hx hb hK hP (by decide) (by decide) ej1 (by omega) dX6_isSo_5 ?_
  by_cases c2 : (σ0 375 j1).toInt = 41
  · refine lv_lookup (off := 26) (tgt := 32) hx hb dX6_isSo_6 (by decide) (by rw [c2]; rfl) (by decide) ?_
    refine lv_iload_n hx hb dX6_isSo_32 rfl (lv_at hl 2 rfl) ?_
    refine lv_aload_n hx hb dX6_isSo_33 rfl (lv_at hl 0 rfl) ?_
    refine fg_6_5 (k := 23) hx hb hts in_X6_isSo_6 hown hK hP (by decide) (by decide) (hts _ lk_X6_isSo_18) dX6_isSo_34 ?_
    refine lv_iload_n hx hb dX6_isSo_37 rfl (lv_at hl 1 rfl) ?_
    refine ad_sent40 (k := 379) (j := j1) hx hb hK hP (by decide) (by decide) ej1 (by omega) dX6_isSo_38 ?_
    refine r_icmp_ge (tgt := 46) hx hb dX6_isSo_39 (by decide) (fun c3 => ?_) (fun c3 => ?_)
    · refine r_iconst hx hb dX6_isSo_46 (by decide) (fun z4 ez4 => ?_)
      exact r_zret hx hb hr hK hP hS hk (by omega) dX6_isSo_47 (show P_X6_isSo σ0 τ0 a1 a2 z4 σ0 τ0 from ⟨hR, hF, hFL, by omega⟩)
    · refine r_iconst hx hb dX6_isSo_42 (by decide) (fun z5 ez5 => ?_)
      refine lv_goto (tgt := 47) hx hb dX6_isSo_43 (by decide) ?_
      exact r_zret hx hb hr hK hP hS hk (by omega) dX6_isSo_47 (show P_X6_isSo σ0 τ0 a1 a2 z5 σ0 τ0 from ⟨hR, hF, hFL, by omega⟩)
  by_cases c6 : (σ0 375 j1).toInt = 43
  · refine lv_lookup (off := 42) (tgt := 48) hx hb dX6_isSo_6 (by decide) (by rw [c6]; rfl) (by decide) ?_
    refine lv_iload_n hx hb dX6_isSo_48 rfl (lv_at hl 2 rfl) ?_
    refine lv_aload_n hx hb dX6_isSo_49 rfl (lv_at hl 0 rfl) ?_
    refine fg_6_5 (k := 23) hx hb hts in_X6_isSo_6 hown hK hP (by decide) (by decide) (hts _ lk_X6_isSo_18) dX6_isSo_50 ?_
    refine lv_iload_n hx hb dX6_isSo_53 rfl (lv_at hl 1 rfl) ?_
    refine ad_sent40 (k := 379) (j := j1) hx hb hK hP (by decide) (by decide) ej1 (by omega) dX6_isSo_54 ?_
    refine r_icmp_le (tgt := 62) hx hb dX6_isSo_55 (by decide) (fun c7 => ?_) (fun c7 => ?_)
    · refine r_iconst hx hb dX6_isSo_62 (by decide) (fun z8 ez8 => ?_)
      exact r_zret hx hb hr hK hP hS hk (by omega) dX6_isSo_63 (show P_X6_isSo σ0 τ0 a1 a2 z8 σ0 τ0 from ⟨hR, hF, hFL, by omega⟩)
    · refine r_iconst hx hb dX6_isSo_58 (by decide) (fun z9 ez9 => ?_)
      refine lv_goto (tgt := 63) hx hb dX6_isSo_59 (by decide) ?_
      exact r_zret hx hb hr hK hP hS hk (by omega) dX6_isSo_63 (show P_X6_isSo σ0 τ0 a1 a2 z9 σ0 τ0 from ⟨hR, hF, hFL, by omega⟩)
  refine lv_lookup (off := 58) (tgt := 64) hx hb dX6_isSo_6 (by decide) (by simp [Op.lookupswitch.offset, c2, Ne.symm c2, c6, Ne.symm c6]) (by decide) ?_
  refine lv_iload_n hx hb dX6_isSo_64 rfl (lv_at hl 2 rfl) ?_
  refine lv_aload_n hx hb dX6_isSo_65 rfl (lv_at hl 0 rfl) ?_
  refine fg_6_5 (k := 23) hx hb hts in_X6_isSo_6 hown hK hP (by decide) (by decide) (hts _ lk_X6_isSo_18) dX6_isSo_66 ?_
  refine lv_iload_n hx hb dX6_isSo_69 rfl (lv_at hl 1 rfl) ?_
  refine ad_sent40 (k := 379) (j := j1) hx hb hK hP (by decide) (by decide) ej1 (by omega) dX6_isSo_70 ?_
  refine r_icmp_ne (tgt := 78) hx hb dX6_isSo_71 (by decide) (fun c10 => ?_) (fun c10 => ?_)
  · refine r_iconst hx hb dX6_isSo_78 (by decide) (fun z11 ez11 => ?_)
    exact r_zret hx hb hr hK hP hS hk (by omega) dX6_isSo_79 (show P_X6_isSo σ0 τ0 a1 a2 z11 σ0 τ0 from ⟨hR, hF, hFL, by omega⟩)
  · refine r_iconst hx hb dX6_isSo_74 (by decide) (fun z12 ez12 => ?_)
    refine lv_goto (tgt := 79) hx hb dX6_isSo_75 (by decide) ?_
    exact r_zret hx hb hr hK hP hS hk (by omega) dX6_isSo_79 (show P_X6_isSo σ0 τ0 a1 a2 z12 σ0 τ0 from ⟨hR, hF, hFL, by omega⟩)
theorem in_X6_measure_2 : ∀ w ∈ u_ws RX2 TX2 7, w ∈ wsX6_measure := by decide +kernel
theorem in_X6_measure_9 : ∀ w ∈ u_ws RX9 TX9 14, w ∈ wsX6_measure := by decide +kernel
abbrev L_X6_measure : List Rc := []
abbrev LL_X6_measure : List Rc := []
def P_X6_measure (σ0 : Nat → Nat → Int32) (τ0 : Nat → Nat → Int64) (a0 : Int32) (a1 : Int32) (r : Int32) (σ : Nat → Nat → Int32) (τ : Nat → Nat → Int64) : Prop := Rg σ ∧ Fr L_X6_measure σ0 σ ∧ FrL LL_X6_measure τ0 τ
set_option maxHeartbeats 4000000 in
theorem c_X6_measure (l : Launch) (D : va_G) (cA : Nat → ClassId) (ad : Nat → Nat) (hI : Inj ad) (σ0 : Nat → Nat → Int32) (τ0 : Nat → Nat → Int64) (hR : Rg σ0) (a0 : Int32) (a1 : Int32) (ha1 : 0 ≤ a1.toInt ∧ a1.toInt ≤ 7) : Met l yX6_measure wsX6_measure ({ frames := 0, cells := 0, slots := 0, locals := 0 } : Room) (WQc D cA ad [.int a0, .int a1, .ref (ad 2), .ref (ad 7)] σ0 τ0) (va_Qi (fun (r : Int32) (u : SS) => P_X6_measure σ0 τ0 a0 a1 r u.1 u.2) (WB D cA ad) (AA ad)) 0 0 (AA ad) := by
  refine Met.ofW (cc := cX6_measure) (maxL := 4) (ret := (some .int)) (by decide) rfl ?_
  intro p e s m args below meth c s₁ B hml hv
  obtain ⟨rfl, hP, hK, hN⟩ := hv
  have C : Cy p s m _ meth c cX6_measure 4 wsX6_measure RX6 D cA ad (some .int) := ⟨B.exec, B.bytes, hml, findClass_of_methodNamed B.named, atoms_spec (ws := wsX6_measure) B.pre, hK, B.notSynchronized, B.returns, hI, hN⟩
  have hl := lv_entry ([.int a0, .int a1, .ref (ad 2), .ref (ad 7)]) (n := 4) (Nat.le_of_ble_eq_true rfl)
  rw [lg_entry_eq]
  generalize (lg_sl ([.int a0, .int a1, .ref (ad 2), .ref (ad 7)]) ++ List.replicate (4 - (lg_sl ([.int a0, .int a1, .ref (ad 2), .ref (ad 7)])).length) Slot.unset).toArray = ls at hl ⊢
  have hl : lv_has ls 4 [(0, .int a0), (1, .int a1), (2, .ref (ad 2)), (3, .ref (ad 7))] := hl
  have hS : va_S (AA ad) s.heap s.heap [] := va_S.rf
  have hF : Fr L_X6_measure σ0 σ0 := Fr.rf
  have hFL : FrL LL_X6_measure τ0 τ0 := FrL.rf
  obtain ⟨hx, hb, _, hown, hts, _, hk, hr, _, _⟩ := C
  refine lv_iload_n hx hb dX6_measure_0 rfl (lv_at hl 0 rfl) ?_
  by_cases c1 : a0.toInt = 10
  · refine lv_lookup (off := 51) (tgt := 52) hx hb dX6_measure_1 (by decide) (by rw [c1]; rfl) (by decide) ?_
    refine lv_aload_n hx hb dX6_measure_52 rfl (lv_at hl 2 rfl) ?_
    refine fgN_9_10 (k := 2) hx hb hts in_X6_measure_9 hown hK hP (by decide) (by decide) (hN.use nw_6_85) dX6_measure_53 ?_
    refine lv_iload_n hx hb dX6_measure_56 rfl (lv_at hl 1 rfl) ?_
    obtain ⟨j2, ej2⟩ : ∃ j : Nat, a1.toInt = (j : Int) := ⟨_, ti_nat (by omega)⟩
    refine ad_manA (k := 52) (j := j2) hx hb hK hP (by decide) (by decide) ej2 (by omega) dX6_measure_57 ?_
    refine r_iconst hx hb dX6_measure_58 (by decide) (fun z3 ez3 => ?_)
    refine ad_manR (k := 100 + j2) (j := 3) hx hb hK hP (by omega) (by omega) (by omega) (by omega) dX6_measure_59 ?_
    exact r_iret hx hb hr hK hP hS hk dX6_measure_60 (show P_X6_measure σ0 τ0 a0 a1 (σ0 (100 + j2) 3) σ0 τ0 from ⟨hR, hF, hFL⟩)
  by_cases c4 : a0.toInt = 11
  · refine lv_lookup (off := 60) (tgt := 61) hx hb dX6_measure_1 (by decide) (by rw [c4]; rfl) (by decide) ?_
    refine lv_aload_n hx hb dX6_measure_61 rfl (lv_at hl 2 rfl) ?_
    refine fgN_9_10 (k := 2) hx hb hts in_X6_measure_9 hown hK hP (by decide) (by decide) (hN.use nw_6_85) dX6_measure_62 ?_
    refine lv_iload_n hx hb dX6_measure_65 rfl (lv_at hl 1 rfl) ?_
    obtain ⟨j5, ej5⟩ : ∃ j : Nat, a1.toInt = (j : Int) := ⟨_, ti_nat (by omega)⟩
    refine ad_manA (k := 52) (j := j5) hx hb hK hP (by decide) (by decide) ej5 (by omega) dX6_measure_66 ?_
    refine r_iconst hx hb dX6_measure_67 (by decide) (fun z6 ez6 => ?_)
    refine ad_manR (k := 100 + j5) (j := 4) hx hb hK hP (by omega) (by omega) (by omega) (by omega) dX6_measure_68 ?_
    refine r_iconst hx hb dX6_measure_69 (by decide) (fun z7 ez7 => ?_)
    refine r_icmp_ne (tgt := 77) hx hb dX6_measure_70 (by decide) (fun c8 => ?_) (fun c8 => ?_)
    · refine r_iconst hx hb dX6_measure_77 (by decide) (fun z9 ez9 => ?_)
      exact r_iret hx hb hr hK hP hS hk dX6_measure_78 (show P_X6_measure σ0 τ0 a0 a1 z9 σ0 τ0 from ⟨hR, hF, hFL⟩)
    · refine r_iconst hx hb dX6_measure_73 (by decide) (fun z10 ez10 => ?_)
      refine lv_goto (tgt := 78) hx hb dX6_measure_74 (by decide) ?_
      exact r_iret hx hb hr hK hP hS hk dX6_measure_78 (show P_X6_measure σ0 τ0 a0 a1 z10 σ0 τ0 from ⟨hR, hF, hFL⟩)
  by_cases c11 : a0.toInt = 27
  · refine lv_lookup (off := 78) (tgt := 79) hx hb dX6_measure_1 (by decide) (by rw [c11]; rfl) (by decide) ?_
    refine lv_aload_n hx hb dX6_measure_79 rfl (lv_at hl 3 rfl) ?_
    refine fgN_2_4 (k := 7) hx hb hts in_X6_measure_2 hown hK hP (by decide) (by decide) (hN.use nw_6_89) dX6_measure_80 ?_
    refine lv_iload_n hx hb dX6_measure_83 rfl (lv_at hl 1 rfl) ?_
    obtain ⟨j12, ej12⟩ : ∃ j : Nat, a1.toInt = (j : Int) := ⟨_, ti_nat (by omega)⟩
    refine ad_days8 (k := 321) (j := j12) hx hb hK hP (by decide) (by decide) ej12 (by omega) dX6_measure_84 ?_
    exact r_iret hx hb hr hK hP hS hk dX6_measure_85 (show P_X6_measure σ0 τ0 a0 a1 (σ0 321 j12) σ0 τ0 from ⟨hR, hF, hFL⟩)
  by_cases c13 : a0.toInt = 28
  · refine lv_lookup (off := 85) (tgt := 86) hx hb dX6_measure_1 (by decide) (by rw [c13]; rfl) (by decide) ?_
    refine lv_aload_n hx hb dX6_measure_86 rfl (lv_at hl 3 rfl) ?_
    refine fgN_2_6 (k := 7) hx hb hts in_X6_measure_2 hown hK hP (by decide) (by decide) (hN.use nw_6_92) dX6_measure_87 ?_
    refine lv_iload_n hx hb dX6_measure_90 rfl (lv_at hl 1 rfl) ?_
    obtain ⟨j14, ej14⟩ : ∃ j : Nat, a1.toInt = (j : Int) := ⟨_, ti_nat (by omega)⟩
    refine ad_days8 (k := 347) (j := j14) hx hb hK hP (by decide) (by decide) ej14 (by omega) dX6_measure_91 ?_
    exact r_iret hx hb hr hK hP hS hk dX6_measure_92 (show P_X6_measure σ0 τ0 a0 a1 (σ0 347 j14) σ0 τ0 from ⟨hR, hF, hFL⟩)
  by_cases c15 : a0.toInt = 29
  · refine lv_lookup (off := 92) (tgt := 93) hx hb dX6_measure_1 (by decide) (by rw [c15]; rfl) (by decide) ?_
    refine lv_aload_n hx hb dX6_measure_93 rfl (lv_at hl 2 rfl) ?_
    refine fgN_9_10 (k := 2) hx hb hts in_X6_measure_9 hown hK hP (by decide) (by decide) (hN.use nw_6_85) dX6_measure_94 ?_
    refine lv_iload_n hx hb dX6_measure_97 rfl (lv_at hl 1 rfl) ?_
    obtain ⟨j16, ej16⟩ : ∃ j : Nat, a1.toInt = (j : Int) := ⟨_, ti_nat (by omega)⟩
    refine ad_manA (k := 52) (j := j16) hx hb hK hP (by decide) (by decide) ej16 (by omega) dX6_measure_98 ?_
    refine r_iconst hx hb dX6_measure_99 (by decide) (fun z17 ez17 => ?_)
    refine ad_manR (k := 100 + j16) (j := 1) hx hb hK hP (by omega) (by omega) (by omega) (by omega) dX6_measure_100 ?_
    exact r_iret hx hb hr hK hP hS hk dX6_measure_101 (show P_X6_measure σ0 τ0 a0 a1 (σ0 (100 + j16) 1) σ0 τ0 from ⟨hR, hF, hFL⟩)
  refine lv_lookup (off := 101) (tgt := 102) hx hb dX6_measure_1 (by decide) (by simp [Op.lookupswitch.offset, c1, Ne.symm c1, c4, Ne.symm c4, c11, Ne.symm c11, c13, Ne.symm c13, c15, Ne.symm c15]) (by decide) ?_
  refine lv_iload_n hx hb dX6_measure_102 rfl (lv_at hl 1 rfl) ?_
  exact r_iret hx hb hr hK hP hS hk dX6_measure_103 (show P_X6_measure σ0 τ0 a0 a1 a1 σ0 τ0 from ⟨hR, hF, hFL⟩)
theorem in_X6_menWhoAre_6 : ∀ w ∈ u_ws RX6 TX6 7, w ∈ wsX6_menWhoAre := by decide +kernel
theorem in_X6_menWhoAre_9 : ∀ w ∈ u_ws RX9 TX9 14, w ∈ wsX6_menWhoAre := by decide +kernel
theorem lk_X6_menWhoAre_9 : Cond.fieldLink RX6 9 "CuckooShares$Sentence" "word" "[I" ∈ wsX6_menWhoAre := by decide +kernel
abbrev L_X6_menWhoAre : List Rc := []
abbrev LL_X6_menWhoAre : List Rc := []
def P_X6_menWhoAre (σ0 : Nat → Nat → Int32) (τ0 : Nat → Nat → Int64) (a1 : Int32) (r : Int32) (σ : Nat → Nat → Int32) (τ : Nat → Nat → Int64) : Prop := Rg σ ∧ Fr L_X6_menWhoAre σ0 σ ∧ FrL LL_X6_menWhoAre τ0 τ
def J_X6_menWhoAre_6 (p : Program) (l : Launch) (e : Env) (s : State) (m : MethodId) (args : Array Value) (below : List Frame) (meth : Method) (c : Code) (D : va_G) (cA : Nat → ClassId) (ad : Nat → Nat) (σ0 : Nat → Nat → Int32) (τ0 : Nat → Nat → Int64) (a1 : Int32) (n : Nat) : Prop := ∀ (σ : Nat → Nat → Int32) (τ : Nat → Nat → Int64) (H : Heap) (locs : List Loc) (x4 : Int32) (x5 : Int32) (ls : Array Slot), Rg σ → Fr L_X6_menWhoAre σ0 σ → FrL LL_X6_menWhoAre τ0 τ → va_P D vwCl (gw cA ad σ τ) H → va_S (AA ad) s.heap H locs → (0 ≤ x5.toInt ∧ x5.toInt ≤ 8) → lv_has ls 6 [(0, .ref (ad 23)), (1, .int a1), (2, .ref (ad 2)), (3, .ref (ad 7)), (4, .int x4), (5, .int x5)] → 2 * (8 - x5.toInt) + 1 < (n : Int) → W p l e ({ frames := 1, cells := 0, slots := 0, locals := 23 } : Room) s m args below meth c H locs 0 0 (MQ below (va_Qi (fun (r : Int32) (u : SS) => P_X6_menWhoAre σ0 τ0 a1 r u.1 u.2) (WB D cA ad) (AA ad)) args s 0 0 (AA ad)) (F0 m 6 ls [])
set_option maxHeartbeats 4000000 in
theorem B_X6_menWhoAre_6 (p : Program) (l : Launch) (e : Env) (s : State) (m : MethodId) (args : Array Value) (below : List Frame) (meth : Method) (c : Code) (D : va_G) (cA : Nat → ClassId) (ad : Nat → Nat) (σ0 : Nat → Nat → Int32) (τ0 : Nat → Nat → Int64) (a1 : Int32) (n : Nat) (C : Cy p s m args meth c cX6_menWhoAre 6 wsX6_menWhoAre RX6 D cA ad (some .int)) (ha1 : 0 ≤ a1.toInt ∧ a1.toInt ≤ 39) (K6 : J_X6_menWhoAre_6 p l e s m args below meth c D cA ad σ0 τ0 a1 n) : J_X6_menWhoAre_6 p l e s m args below meth c D cA ad σ0 τ0 a1 (n + 1) := by
  obtain ⟨hx, hb, hml, hown, hts, hK, hk, hr, hI, hN⟩ := C
  intro σ τ H locs x4 x5 ls hR hF hFL hP hS hc0 hl hm
  obtain rfl := Fr.nil hF
  obtain rfl := FrL.nil hFL
  refine lv_iload hx hb dX6_menWhoAre_6 (lv_at hl 5 rfl) ?_
  refine lv_aload_n hx hb dX6_menWhoAre_8 rfl (lv_at hl 2 rfl) ?_
  refine fgN_9_5 (k := 2) hx hb hts in_X6_menWhoAre_9 hown hK hP (by decide) (by decide) (hN.use nw_6_51) dX6_menWhoAre_9 ?_
  have hr1 := rg_9_5 hR (k := 2) (by decide) (by decide)
  refine r_icmp_ge (tgt := 51) hx hb dX6_menWhoAre_12 (by decide) (fun c2 => ?_) (fun c2 => ?_)
  · refine lv_iload hx hb dX6_menWhoAre_51 (lv_at hl 4 rfl) ?_
    exact r_iret hx hb hr hK hP hS hk dX6_menWhoAre_53 (show P_X6_menWhoAre σ0 τ0 a1 x4 σ0 τ0 from ⟨hR, hF, hFL⟩)
  · refine lv_aload_n hx hb dX6_menWhoAre_15 rfl (lv_at hl 0 rfl) ?_
    refine lv_iload_n hx hb dX6_menWhoAre_16 rfl (lv_at hl 1 rfl) ?_
    refine lv_aload_n hx hb dX6_menWhoAre_17 rfl (lv_at hl 0 rfl) ?_
    refine fg_6_3 (k := 23) hx hb hts in_X6_menWhoAre_6 hown hK hP (by decide) (by decide) (hts _ lk_X6_menWhoAre_9) dX6_menWhoAre_18 ?_
    refine lv_iload_n hx hb dX6_menWhoAre_21 rfl (lv_at hl 1 rfl) ?_
    obtain ⟨j3, ej3⟩ : ∃ j : Nat, a1.toInt = (j : Int) := ⟨_, ti_nat (by omega)⟩
    refine ad_sent40 (k := 371) (j := j3) hx hb hK hP (by decide) (by decide) ej3 (by omega) dX6_menWhoAre_22 ?_
    refine lv_iload hx hb dX6_menWhoAre_23 (lv_at hl 5 rfl) ?_
    refine lv_aload_n hx hb dX6_menWhoAre_25 rfl (lv_at hl 2 rfl) ?_
    refine lv_aload_n hx hb dX6_menWhoAre_26 rfl (lv_at hl 3 rfl) ?_
    refine r_cSi (As := [.int (σ0 371 j3), .int x5, .ref (ad 2), .ref (ad 7)]) (rest := [.int a1, .ref (ad 23)]) ⟨hx, hb, hml, hown, hts⟩ hK hP hN hS (c_X6_measure l D cA ad hI σ0 τ0 hR (σ0 371 j3) x5 (by omega)) (va_cwS 4 hts gX6_menWhoAre_X6_measure rfl rfl rfl (by decide +kernel) ⟨by decide, by decide⟩) rfl hl.1 rfl (Nat.le_of_ble_eq_true rfl) dX6_menWhoAre_27 (Nat.zero_le _) (Nat.zero_le _) (fun r4 u4 H4 locs4 hp4 hP hS => ?_)
    obtain ⟨σ4, τ4⟩ := u4
    obtain ⟨hR, f4, fL4⟩ : P_X6_measure σ0 τ0 (σ0 371 j3) x5 r4 σ4 τ4 := hp4
    have hP : va_P D vwCl (gw cA ad σ4 τ4) H4 := hP
    obtain rfl := FrL.nil fL4
    obtain rfl := Fr.nil f4
    refine r_cVi (k := 23) (As := [.int a1, .int r4]) (rest := []) ⟨hx, hb, hml, hown, hts⟩ hK hP hN hS (c_X6_isSo l D cA ad hI σ0 τ0 hR a1 r4 (by omega)) (cwV 2 hts gX6_menWhoAre_X6_isSo rfl rfl rfl (by decide +kernel) ⟨by decide, by decide⟩) (rv_Sent hK hP (by decide) (by decide)) rfl hl.1 rfl (Nat.le_of_ble_eq_true rfl) dX6_menWhoAre_30 (Nat.zero_le _) (Nat.zero_le _) (fun r5 u5 H5 locs5 hp5 hP hS => ?_)
    obtain ⟨σ5, τ5⟩ := u5
    obtain ⟨hR, f5, fL5, hq5⟩ : P_X6_isSo σ0 τ0 a1 r4 r5 σ5 τ5 := hp5
    have hP : va_P D vwCl (gw cA ad σ5 τ5) H5 := hP
    obtain rfl := FrL.nil fL5
    obtain rfl := Fr.nil f5
    refine r_if_eq (tgt := 45) hx hb dX6_menWhoAre_33 (by decide) (fun c6 => ?_) (fun c6 => ?_)
    · refine r_iinc (k := 5) (lv1 := fun z7 => [(5, .int z7), (0, .ref (ad 23)), (1, .int a1), (2, .ref (ad 2)), (3, .ref (ad 7)), (4, .int x4)]) hx hb dX6_menWhoAre_45 hl rfl (by decide) (fun _ => rfl) (by decide) (by omega) (fun z7 ls ez7 hl => ?_)
      refine lv_goto (tgt := 6) hx hb dX6_menWhoAre_48 (by decide) ?_
      exact K6 σ0 τ0 H5 locs5 x4 z7 ls hR hF hFL hP hS (by omega) (lv_sub hl [1, 2, 3, 4, 5, 0] rfl) (by omega)
    · refine lv_iload hx hb dX6_menWhoAre_36 (lv_at hl 4 rfl) ?_
      refine r_iconst hx hb dX6_menWhoAre_38 (by decide) (fun z8 ez8 => ?_)
      refine lv_iload hx hb dX6_menWhoAre_39 (lv_at hl 5 rfl) ?_
      refine r_ishlU hx hb dX6_menWhoAre_41 (fun z9 => ?_)
      refine r_iorU hx hb dX6_menWhoAre_42 (fun z10 => ?_)
      refine lv_istore (lv' := [(4, .int z10), (0, .ref (ad 23)), (1, .int a1), (2, .ref (ad 2)), (3, .ref (ad 7)), (5, .int x5)]) hx hb dX6_menWhoAre_43 hl (by decide) rfl (fun ls hl => ?_)
      refine r_iinc (k := 5) (lv1 := fun z11 => [(5, .int z11), (4, .int z10), (0, .ref (ad 23)), (1, .int a1), (2, .ref (ad 2)), (3, .ref (ad 7))]) hx hb dX6_menWhoAre_45 hl rfl (by decide) (fun _ => rfl) (by decide) (by omega) (fun z11 ls ez11 hl => ?_)
      refine lv_goto (tgt := 6) hx hb dX6_menWhoAre_48 (by decide) ?_
      exact K6 σ0 τ0 H5 locs5 z10 z11 ls hR hF hFL hP hS (by omega) (lv_sub hl [2, 3, 4, 5, 1, 0] rfl) (by omega)
theorem A_X6_menWhoAre (p : Program) (l : Launch) (e : Env) (s : State) (m : MethodId) (args : Array Value) (below : List Frame) (meth : Method) (c : Code) (D : va_G) (cA : Nat → ClassId) (ad : Nat → Nat) (σ0 : Nat → Nat → Int32) (τ0 : Nat → Nat → Int64) (a1 : Int32) (C : Cy p s m args meth c cX6_menWhoAre 6 wsX6_menWhoAre RX6 D cA ad (some .int)) (ha1 : 0 ≤ a1.toInt ∧ a1.toInt ≤ 39) : ∀ n : Nat, J_X6_menWhoAre_6 p l e s m args below meth c D cA ad σ0 τ0 a1 n := by
  intro n
  induction n with
  | zero =>
    exact (by intro σ τ H locs x4 x5 ls hR hF hFL hP hS hc0 hl hm; exfalso; omega)
  | succ n ih =>
    exact B_X6_menWhoAre_6 p l e s m args below meth c D cA ad σ0 τ0 a1 n C ha1 ih
set_option maxHeartbeats 4000000 in
theorem c_X6_menWhoAre (l : Launch) (D : va_G) (cA : Nat → ClassId) (ad : Nat → Nat) (hI : Inj ad) (σ0 : Nat → Nat → Int32) (τ0 : Nat → Nat → Int64) (hR : Rg σ0) (a1 : Int32) (ha1 : 0 ≤ a1.toInt ∧ a1.toInt ≤ 39) : Met l yX6_menWhoAre wsX6_menWhoAre ({ frames := 1, cells := 0, slots := 0, locals := 23 } : Room) (WQc D cA ad [.ref (ad 23), .int a1, .ref (ad 2), .ref (ad 7)] σ0 τ0) (va_Qi (fun (r : Int32) (u : SS) => P_X6_menWhoAre σ0 τ0 a1 r u.1 u.2) (WB D cA ad) (AA ad)) 0 0 (AA ad) := by
  refine Met.ofW (cc := cX6_menWhoAre) (maxL := 6) (ret := (some .int)) (by decide) rfl ?_
  intro p e s m args below meth c s₁ B hml hv
  obtain ⟨rfl, hP, hK, hN⟩ := hv
  have C : Cy p s m _ meth c cX6_menWhoAre 6 wsX6_menWhoAre RX6 D cA ad (some .int) := ⟨B.exec, B.bytes, hml, findClass_of_methodNamed B.named, atoms_spec (ws := wsX6_menWhoAre) B.pre, hK, B.notSynchronized, B.returns, hI, hN⟩
  have hl := lv_entry ([.ref (ad 23), .int a1, .ref (ad 2), .ref (ad 7)]) (n := 6) (Nat.le_of_ble_eq_true rfl)
  rw [lg_entry_eq]
  generalize (lg_sl ([.ref (ad 23), .int a1, .ref (ad 2), .ref (ad 7)]) ++ List.replicate (6 - (lg_sl ([.ref (ad 23), .int a1, .ref (ad 2), .ref (ad 7)])).length) Slot.unset).toArray = ls at hl ⊢
  have hl : lv_has ls 6 [(0, .ref (ad 23)), (1, .int a1), (2, .ref (ad 2)), (3, .ref (ad 7))] := hl
  have hS : va_S (AA ad) s.heap s.heap [] := va_S.rf
  have hF : Fr L_X6_menWhoAre σ0 σ0 := Fr.rf
  have hFL : FrL LL_X6_menWhoAre τ0 τ0 := FrL.rf
  have hA := A_X6_menWhoAre p l e s m _ below meth c D cA ad σ0 τ0 a1 C ha1 42
  have K6 := hA
  clear hA
  obtain ⟨hx, hb, _, hown, hts, _, hk, hr, _, _⟩ := C
  refine r_iconst hx hb dX6_menWhoAre_0 (by decide) (fun z1 ez1 => ?_)
  refine lv_istore (lv' := [(4, .int z1), (0, .ref (ad 23)), (1, .int a1), (2, .ref (ad 2)), (3, .ref (ad 7))]) hx hb dX6_menWhoAre_1 hl (by decide) rfl (fun ls hl => ?_)
  refine r_iconst hx hb dX6_menWhoAre_3 (by decide) (fun z2 ez2 => ?_)
  refine lv_istore (lv' := [(5, .int z2), (4, .int z1), (0, .ref (ad 23)), (1, .int a1), (2, .ref (ad 2)), (3, .ref (ad 7))]) hx hb dX6_menWhoAre_4 hl (by decide) rfl (fun ls hl => ?_)
  exact K6 σ0 τ0 s.heap [] z1 z2 ls hR hF hFL hP hS (by omega) (lv_sub hl [2, 3, 4, 5, 1, 0] rfl) (by omega)
theorem in_X6_menOfStep_6 : ∀ w ∈ u_ws RX6 TX6 7, w ∈ wsX6_menOfStep := by decide +kernel
theorem in_X6_menOfStep_9 : ∀ w ∈ u_ws RX9 TX9 14, w ∈ wsX6_menOfStep := by decide +kernel
theorem lk_X6_menOfStep_18 : Cond.fieldLink RX6 18 "CuckooShares$Sentence" "value" "[I" ∈ wsX6_menOfStep := by decide +kernel
theorem lk_X6_menOfStep_9 : Cond.fieldLink RX6 9 "CuckooShares$Sentence" "word" "[I" ∈ wsX6_menOfStep := by decide +kernel
abbrev L_X6_menOfStep : List Rc := [(360, 360, 0, 7), (361, 361, 0, 7), (362, 362, 0, 7)]
abbrev LL_X6_menOfStep : List Rc := []
def P_X6_menOfStep (σ0 : Nat → Nat → Int32) (τ0 : Nat → Nat → Int64) (a1 : Int32) (r : Int32) (σ : Nat → Nat → Int32) (τ : Nat → Nat → Int64) : Prop := Rg σ ∧ Fr L_X6_menOfStep σ0 σ ∧ FrL LL_X6_menOfStep τ0 τ
set_option maxHeartbeats 4000000 in
theorem c_X6_menOfStep (l : Launch) (D : va_G) (cA : Nat → ClassId) (ad : Nat → Nat) (hI : Inj ad) (σ0 : Nat → Nat → Int32) (τ0 : Nat → Nat → Int64) (hR : Rg σ0) (a1 : Int32) (ha1 : 0 ≤ a1.toInt ∧ a1.toInt ≤ 39) : Met l yX6_menOfStep wsX6_menOfStep ({ frames := 5, cells := 0, slots := 0, locals := 119 } : Room) (WQc D cA ad [.ref (ad 23), .int a1, .ref (ad 2), .ref (ad 7), .ref (ad 22)] σ0 τ0) (va_Qi (fun (r : Int32) (u : SS) => P_X6_menOfStep σ0 τ0 a1 r u.1 u.2) (WB D cA ad) (AA ad)) 0 0 (AA ad) := by
  refine Met.ofW (cc := cX6_menOfStep) (maxL := 5) (ret := (some .int)) (by decide) rfl ?_
  intro p e s m args below meth c s₁ B hml hv
  obtain ⟨rfl, hP, hK, hN⟩ := hv
  have C : Cy p s m _ meth c cX6_menOfStep 5 wsX6_menOfStep RX6 D cA ad (some .int) := ⟨B.exec, B.bytes, hml, findClass_of_methodNamed B.named, atoms_spec (ws := wsX6_menOfStep) B.pre, hK, B.notSynchronized, B.returns, hI, hN⟩
  have hl := lv_entry ([.ref (ad 23), .int a1, .ref (ad 2), .ref (ad 7), .ref (ad 22)]) (n := 5) (Nat.le_of_ble_eq_true rfl)
  rw [lg_entry_eq]
  generalize (lg_sl ([.ref (ad 23), .int a1, .ref (ad 2), .ref (ad 7), .ref (ad 22)]) ++ List.replicate (5 - (lg_sl ([.ref (ad 23), .int a1, .ref (ad 2), .ref (ad 7), .ref (ad 22)])).length) Slot.unset).toArray = ls at hl ⊢
  have hl : lv_has ls 5 [(0, .ref (ad 23)), (1, .int a1), (2, .ref (ad 2)), (3, .ref (ad 7)), (4, .ref (ad 22))] := hl
  have hS : va_S (AA ad) s.heap s.heap [] := va_S.rf
  have hF : Fr L_X6_menOfStep σ0 σ0 := Fr.rf
  have hFL : FrL LL_X6_menOfStep τ0 τ0 := FrL.rf
  obtain ⟨hx, hb, _, hown, hts, _, hk, hr, _, _⟩ := C
  refine lv_aload_n hx hb dX6_menOfStep_0 rfl (lv_at hl 0 rfl) ?_
  refine fg_6_3 (k := 23) hx hb hts in_X6_menOfStep_6 hown hK hP (by decide) (by decide) (hts _ lk_X6_menOfStep_9) dX6_menOfStep_1 ?_
  refine lv_iload_n hx hb dX6_menOfStep_4 rfl (lv_at hl 1 rfl) ?_
  obtain ⟨j1, ej1⟩ : ∃ j : Nat, a1.toInt = (j : Int) := ⟨_, ti_nat (by omega)⟩
  refine ad_sent40 (k := 371) (j := j1) hx hb hK hP (by decide) (by decide) ej1 (by omega) dX6_menOfStep_5 ?_
  by_cases c2 : (σ0 371 j1).toInt = 23
  · refine lv_tableIn (off := 30) (tgt := 36) hx hb dX6_menOfStep_6 (by omega) (by omega) (by rw [c2]; rfl) (by decide) ?_
    refine lv_aload_n hx hb dX6_menOfStep_36 rfl (lv_at hl 3 rfl) ?_
    refine lv_aload_n hx hb dX6_menOfStep_37 rfl (lv_at hl 2 rfl) ?_
    refine fgN_9_5 (k := 2) hx hb hts in_X6_menOfStep_9 hown hK hP (by decide) (by decide) (hN.use nw_6_51) dX6_menOfStep_38 ?_
    have hr3 := rg_9_5 hR (k := 2) (by decide) (by decide)
    refine r_cVi (k := 7) (As := [.int (σ0 2 5)]) (rest := []) ⟨hx, hb, hml, hown, hts⟩ hK hP hN hS (c_X2_swornMen l D cA ad hI σ0 τ0 hR (σ0 2 5) (by omega)) (cwV 1 hts gX6_menOfStep_X2_swornMen rfl rfl rfl (by decide +kernel) ⟨by decide, by decide⟩) (rv_Days hK hP (by decide) (by decide)) rfl hl.1 rfl (Nat.le_of_ble_eq_true rfl) dX6_menOfStep_41 (Nat.zero_le _) (Nat.zero_le _) (fun r4 u4 H4 locs4 hp4 hP hS => ?_)
    obtain ⟨σ4, τ4⟩ := u4
    obtain ⟨hR, f4, fL4⟩ : P_X2_swornMen σ0 τ0 (σ0 2 5) r4 σ4 τ4 := hp4
    have hP : va_P D vwCl (gw cA ad σ4 τ4) H4 := hP
    obtain rfl := FrL.nil fL4
    obtain rfl := Fr.nil f4
    exact r_iret hx hb hr hK hP hS hk dX6_menOfStep_44 (show P_X6_menOfStep σ0 τ0 a1 r4 σ0 τ0 from ⟨hR, hF, hFL⟩)
  by_cases c5 : (σ0 371 j1).toInt = 24
  · refine lv_tableIn (off := 39) (tgt := 45) hx hb dX6_menOfStep_6 (by omega) (by omega) (by rw [c5]; rfl) (by decide) ?_
    refine lv_aload hx hb dX6_menOfStep_45 (lv_at hl 4 rfl) ?_
    refine lv_aload_n hx hb dX6_menOfStep_47 rfl (lv_at hl 3 rfl) ?_
    refine r_cVi (k := 22) (As := [.ref (ad 7)]) (rest := []) ⟨hx, hb, hml, hown, hts⟩ hK hP hN hS (c_X0_liars l D cA ad hI σ0 τ0 hR) (cwV 1 hts gX6_menOfStep_X0_liars rfl rfl rfl (by decide +kernel) ⟨by decide, by decide⟩) (rv_Acts hK hP (by decide) (by decide)) rfl hl.1 rfl (Nat.le_of_ble_eq_true rfl) dX6_menOfStep_48 (Nat.zero_le _) (Nat.zero_le _) (fun r6 u6 H6 locs6 hp6 hP hS => ?_)
    obtain ⟨σ6, τ6⟩ := u6
    obtain ⟨hR, f6, fL6⟩ : P_X0_liars σ0 τ0 r6 σ6 τ6 := hp6
    have hP : va_P D vwCl (gw cA ad σ6 τ6) H6 := hP
    obtain rfl := FrL.nil fL6
    have hF := hF.step f6 (by decide)
    exact r_iret hx hb hr hK hP hS hk dX6_menOfStep_51 (show P_X6_menOfStep σ0 τ0 a1 r6 σ6 τ0 from ⟨hR, hF, hFL⟩)
  by_cases c7 : (σ0 371 j1).toInt = 25
  · refine lv_tableIn (off := 46) (tgt := 52) hx hb dX6_menOfStep_6 (by omega) (by omega) (by rw [c7]; rfl) (by decide) ?_
    refine lv_aload_n hx hb dX6_menOfStep_52 rfl (lv_at hl 3 rfl) ?_
    refine lv_aload_n hx hb dX6_menOfStep_53 rfl (lv_at hl 0 rfl) ?_
    refine fg_6_5 (k := 23) hx hb hts in_X6_menOfStep_6 hown hK hP (by decide) (by decide) (hts _ lk_X6_menOfStep_18) dX6_menOfStep_54 ?_
    refine lv_iload_n hx hb dX6_menOfStep_57 rfl (lv_at hl 1 rfl) ?_
    refine ad_sent40 (k := 379) (j := j1) hx hb hK hP (by decide) (by decide) ej1 (by omega) dX6_menOfStep_58 ?_
    refine lv_aload_n hx hb dX6_menOfStep_59 rfl (lv_at hl 2 rfl) ?_
    refine fgN_9_5 (k := 2) hx hb hts in_X6_menOfStep_9 hown hK hP (by decide) (by decide) (hN.use nw_6_51) dX6_menOfStep_60 ?_
    have hr8 := rg_9_5 hR (k := 2) (by decide) (by decide)
    refine r_cVi (k := 7) (As := [.int (σ0 379 j1), .int (σ0 2 5)]) (rest := []) ⟨hx, hb, hml, hown, hts⟩ hK hP hN hS (c_X2_menOn l D cA ad hI σ0 τ0 hR (σ0 379 j1) (σ0 2 5) (by omega)) (cwV 2 hts gX6_menOfStep_X2_menOn rfl rfl rfl (by decide +kernel) ⟨by decide, by decide⟩) (rv_Days hK hP (by decide) (by decide)) rfl hl.1 rfl (Nat.le_of_ble_eq_true rfl) dX6_menOfStep_63 (Nat.zero_le _) (Nat.zero_le _) (fun r9 u9 H9 locs9 hp9 hP hS => ?_)
    obtain ⟨σ9, τ9⟩ := u9
    obtain ⟨hR, f9, fL9⟩ : P_X2_menOn σ0 τ0 (σ0 379 j1) (σ0 2 5) r9 σ9 τ9 := hp9
    have hP : va_P D vwCl (gw cA ad σ9 τ9) H9 := hP
    obtain rfl := FrL.nil fL9
    obtain rfl := Fr.nil f9
    exact r_iret hx hb hr hK hP hS hk dX6_menOfStep_66 (show P_X6_menOfStep σ0 τ0 a1 r9 σ0 τ0 from ⟨hR, hF, hFL⟩)
  by_cases c10 : (σ0 371 j1).toInt = 26
  · refine lv_tableIn (off := 61) (tgt := 67) hx hb dX6_menOfStep_6 (by omega) (by omega) (by rw [c10]; rfl) (by decide) ?_
    refine lv_aload hx hb dX6_menOfStep_67 (lv_at hl 4 rfl) ?_
    refine lv_aload_n hx hb dX6_menOfStep_69 rfl (lv_at hl 3 rfl) ?_
    refine r_cVi (k := 22) (As := [.ref (ad 7)]) (rest := []) ⟨hx, hb, hml, hown, hts⟩ hK hP hN hS (c_X0_hearersSoFar l D cA ad hI σ0 τ0 hR) (cwV 1 hts gX6_menOfStep_X0_hearersSoFar rfl rfl rfl (by decide +kernel) ⟨by decide, by decide⟩) (rv_Acts hK hP (by decide) (by decide)) rfl hl.1 rfl (Nat.le_of_ble_eq_true rfl) dX6_menOfStep_70 (Nat.zero_le _) (Nat.zero_le _) (fun r11 u11 H11 locs11 hp11 hP hS => ?_)
    obtain ⟨σ11, τ11⟩ := u11
    obtain ⟨hR, f11, fL11⟩ : P_X0_hearersSoFar σ0 τ0 r11 σ11 τ11 := hp11
    have hP : va_P D vwCl (gw cA ad σ11 τ11) H11 := hP
    obtain rfl := FrL.nil fL11
    have hF := hF.step f11 (by decide)
    exact r_iret hx hb hr hK hP hS hk dX6_menOfStep_73 (show P_X6_menOfStep σ0 τ0 a1 r11 σ11 τ0 from ⟨hR, hF, hFL⟩)
  refine lv_tableOut (tgt := 74) hx hb dX6_menOfStep_6 (by omega) (by decide) ?_
  refine lv_aload_n hx hb dX6_menOfStep_74 rfl (lv_at hl 0 rfl) ?_
  refine lv_iload_n hx hb dX6_menOfStep_75 rfl (lv_at hl 1 rfl) ?_
  refine lv_aload_n hx hb dX6_menOfStep_76 rfl (lv_at hl 2 rfl) ?_
  refine lv_aload_n hx hb dX6_menOfStep_77 rfl (lv_at hl 3 rfl) ?_
  refine r_cVi (k := 23) (As := [.int a1, .ref (ad 2), .ref (ad 7)]) (rest := []) ⟨hx, hb, hml, hown, hts⟩ hK hP hN hS (c_X6_menWhoAre l D cA ad hI σ0 τ0 hR a1 (by omega)) (cwV 3 hts gX6_menOfStep_X6_menWhoAre rfl rfl rfl (by decide +kernel) ⟨by decide, by decide⟩) (rv_Sent hK hP (by decide) (by decide)) rfl hl.1 rfl (Nat.le_of_ble_eq_true rfl) dX6_menOfStep_78 (Nat.zero_le _) (Nat.zero_le _) (fun r12 u12 H12 locs12 hp12 hP hS => ?_)
  obtain ⟨σ12, τ12⟩ := u12
  obtain ⟨hR, f12, fL12⟩ : P_X6_menWhoAre σ0 τ0 a1 r12 σ12 τ12 := hp12
  have hP : va_P D vwCl (gw cA ad σ12 τ12) H12 := hP
  obtain rfl := FrL.nil fL12
  obtain rfl := Fr.nil f12
  exact r_iret hx hb hr hK hP hS hk dX6_menOfStep_81 (show P_X6_menOfStep σ0 τ0 a1 r12 σ0 τ0 from ⟨hR, hF, hFL⟩)
