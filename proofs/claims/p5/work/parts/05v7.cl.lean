abbrev L_X7_readOne_d5 : List Rc := [(1, 1, 7, 10), (372, 372, 0, 39), (376, 376, 0, 39), (380, 380, 0, 39), (24, 24, 1, 2), (1, 1, 12, 14)]
abbrev LL_X7_readOne_d5 : List Rc := [(1, 1, 11, 11)]
def P_X7_readOne_d5 (σ0 : Nat → Nat → Int32) (τ0 : Nat → Nat → Int64) (a1 : Int32) (b : Nat → Int) (N : Nat) (mo : Nat) (q : Nat) (nn : Nat) (nm : Nat → Int) (hc : Nat) (r : Int32) (σ : Nat → Nat → Int32) (τ : Nat → Nat → Int64) : Prop := Rg σ ∧ Fr L_X7_readOne_d5 σ0 σ ∧ FrL LL_X7_readOne_d5 τ0 τ ∧ (0 ≤ r.toInt ∧ r.toInt ≤ 1) ∧ (RO r σ (oneP b N mo nm hc 4 q nn) (fun s => CT σ τ b N mo s.1 ∧ (σ 24 1).toInt = (s.2 : Int) ∧ (σ 24 2).toInt + 2 * (nn : Int) + 1 ≤ (σ0 24 2).toInt + 2 * (s.2 : Int))) ∧ (r.toInt = 0 ∨ (σ 1 13).toInt = (σ0 1 13).toInt) ∧ WH σ τ nm hc
set_option maxHeartbeats 4000000 in
theorem c_X7_readOne_d5 (l : Launch) (D : va_G) (cA : Nat → ClassId) (ad : Nat → Nat) (hI : Inj ad) (σ0 : Nat → Nat → Int32) (τ0 : Nat → Nat → Int64) (hR : Rg σ0) (a1 : Int32) (b : Nat → Int) (N : Nat) (mo : Nat) (q : Nat) (nn : Nat) (nm : Nat → Int) (hc : Nat) (ha1 : 5 ≤ a1.toInt ∧ a1.toInt ≤ 5) (hpre0 : (σ0 24 1).toInt = (nn : Int)) (hpre1 : 0 ≤ (σ0 24 2).toInt ∧ (σ0 24 2).toInt ≤ 2 * (nn : Int)) (hpre2 : nn ≤ 20) (gCT0 : CT σ0 τ0 b N mo q) (gWH0 : WH σ0 τ0 nm hc) : Met l yX7_readOne wsX7_readOne ({ frames := 13, cells := 0, slots := 0, locals := 285 } : Room) (WQc D cA ad [.ref (ad 27), .int a1] σ0 τ0) (va_Qi (fun (r : Int32) (u : SS) => P_X7_readOne_d5 σ0 τ0 a1 b N mo q nn nm hc r u.1 u.2) (WB D cA ad) (AA ad)) 0 0 (AA ad) := by
  refine Met.ofW (cc := cX7_readOne) (maxL := 3) (ret := (some .boolean)) (by decide) rfl ?_
  intro p e s m args below meth c s₁ B hml hv
  obtain ⟨rfl, hP, hK, hN⟩ := hv
  have C : Cy p s m _ meth c cX7_readOne 3 wsX7_readOne RX7 D cA ad (some .boolean) := ⟨B.exec, B.bytes, hml, findClass_of_methodNamed B.named, atoms_spec (ws := wsX7_readOne) B.pre, hK, B.notSynchronized, B.returns, hI, hN⟩
  have hl := lv_entry ([.ref (ad 27), .int a1]) (n := 3) (Nat.le_of_ble_eq_true rfl)
  rw [lg_entry_eq]
  generalize (lg_sl ([.ref (ad 27), .int a1]) ++ List.replicate (3 - (lg_sl ([.ref (ad 27), .int a1])).length) Slot.unset).toArray = ls at hl ⊢
  have hl : lv_has ls 3 [(0, .ref (ad 27)), (1, .int a1)] := hl
  have hS : va_S (AA ad) s.heap s.heap [] := va_S.rf
  have hF : Fr L_X7_readOne_d5 σ0 σ0 := Fr.rf
  have hFL : FrL LL_X7_readOne_d5 τ0 τ0 := FrL.rf
  have gCT := gCT0
  have gWH := gWH0
  obtain ⟨hx, hb, _, hown, hts, _, hk, hr, _, _⟩ := C
  have htk := gCT.tk
  refine lv_aload_n hx hb dX7_readOne_0 rfl (lv_at hl 0 rfl) ?_
  refine fg_7_0 (k := 27) hx hb hts in_X7_readOne_7 hown hK hP (by decide) (by decide) (hts _ lk_X7_readOne_9) dX7_readOne_1 ?_
  refine fgN_8_9 (k := 1) hx hb hts in_X7_readOne_8 hown hK hP (by decide) (by decide) (hN.use nw_7_32) dX7_readOne_4 ?_
  refine lv_istore_n (lv' := [(2, .int (σ0 1 9)), (0, .ref (ad 27)), (1, .int a1)]) hx hb dX7_readOne_7 rfl hl (by decide) rfl (fun ls hl => ?_)
  refine lv_iload_n hx hb dX7_readOne_8 rfl (lv_at hl 0 rfl) ?_
  refine r_cSi (As := [.int (σ0 1 9)]) (rest := []) ⟨hx, hb, hml, hown, hts⟩ hK hP hN hS (c_X7_beginsOne l D cA ad hI σ0 τ0 hR (σ0 1 9)) (va_cwS 1 hts gX7_readOne_X7_beginsOne rfl rfl rfl (by decide +kernel) ⟨by decide, by decide⟩) rfl hl.1 rfl (Nat.le_of_ble_eq_true rfl) dX7_readOne_9 (Nat.zero_le _) (Nat.zero_le _) (fun r1 u1 H1 locs1 hp1 hP hS => ?_)
  obtain ⟨σ1, τ1⟩ := u1
  obtain ⟨hR, f1, fL1, hq1, hp1_0⟩ : P_X7_beginsOne σ0 τ0 (σ0 1 9) r1 σ1 τ1 := hp1
  have hP : va_P D vwCl (gw cA ad σ1 τ1) H1 := hP
  obtain rfl := FrL.nil fL1
  obtain rfl := Fr.nil f1
  refine r_if_ne (tgt := 24) hx hb dX7_readOne_12 (by decide) (fun c2 => ?_) (fun c2 => ?_)
  · refine lv_aload_n hx hb dX7_readOne_24 rfl (lv_at hl 1 rfl) ?_
    refine fg_7_2 (k := 27) hx hb hts in_X7_readOne_7 hown hK hP (by decide) (by decide) (hts _ lk_X7_readOne_19) dX7_readOne_25 ?_
    refine fgN_6_1 (k := 24) hx hb hts in_X7_readOne_6 hown hK hP (by decide) (by decide) (hN.use nw_7_61) dX7_readOne_28 ?_
    refine r_bipush hx hb dX7_readOne_31 (by decide) (fun z3 ez3 => ?_)
    refine r_icmp_ge (tgt := 42) hx hb dX7_readOne_33 (by decide) (fun c4 => ?_) (fun c4 => ?_)
    · refine lv_aload_n hx hb dX7_readOne_42 rfl (lv_at hl 1 rfl) ?_
      refine fg_7_0 (k := 27) hx hb hts in_X7_readOne_7 hown hK hP (by decide) (by decide) (hts _ lk_X7_readOne_9) dX7_readOne_43 ?_
      refine r_iconst hx hb dX7_readOne_46 (by decide) (fun z5 ez5 => ?_)
      refine r_cVi (k := 1) (As := [.int z5]) (rest := []) ⟨hx, hb, hml, hown, hts⟩ hK hP hN hS (c_X8_blame_v l D cA ad hI σ0 τ0 hR z5 _ _ _ _ (by omega) gCT) (cwV 1 hts gX7_readOne_X8_blame rfl rfl rfl (by decide +kernel) ⟨by decide, by decide⟩) (rv_Tape hK hP (by decide) (by decide)) rfl hl.1 rfl (Nat.le_of_ble_eq_true rfl) dX7_readOne_47 (Nat.zero_le _) (Nat.zero_le _) (fun r6 u6 H6 locs6 hp6 hP hS => ?_)
      obtain ⟨σ6, τ6⟩ := u6
      obtain ⟨hR, f6, fL6, hq6, hp6_0, hp6_1, hp6_2, gnCT⟩ : P_X8_blame_v σ0 τ0 z5 _ _ _ _ r6 σ6 τ6 := hp6
      have hP : va_P D vwCl (gw cA ad σ6 τ6) H6 := hP
      obtain rfl := FrL.nil fL6
      have hF := hF.step f6 (by decide)
      have gCT := gCT.ag (Agr.fr f6 (by decide))
      have gWH := gWH.ag (Agr.fr f6 (by decide))
      have t7 : (σ6 24 1).toInt = (σ0 24 1).toInt := congrArg Int32.toInt (f6.at 24 1 (by decide))
      have t8 : (σ6 24 2).toInt = (σ0 24 2).toInt := congrArg Int32.toInt (f6.at 24 2 (by decide))
      exact r_zret hx hb hr hK hP hS hk (by omega) dX7_readOne_50 (show P_X7_readOne_d5 σ0 τ0 a1 b N mo q nn nm hc r6 σ6 τ0 from ⟨hR, hF, hFL, by omega, by first | exact RO.ofr ((one_l (by omega) (by omega) (by omega) (by omega)).trans (lea_n (by omega) (by omega))) (by omega) ⟨gCT, by omega, by omega⟩ | (exfalso; omega) | exact RO.ofk (one_x (by omega)) (by omega) (by omega) (by omega) | exact RO.ofk (one_4 (by omega) (by omega)) (by omega) (by omega) (by omega) | (obtain ⟨f, e1, x1, x2⟩ := o1.no (by omega); exact RO.ofl ((one_n (by omega) (by omega)).trans e1) (by omega) x1 x2) | exact RO.ofr ((one_n (by omega) (by omega)).trans e1) (by omega) ⟨gCT, by omega, by omega⟩ | (obtain ⟨f, e2, x1, x2⟩ := o2.no (by omega); exact RO.ofl (by rw [one_o (by omega) (by omega), e2, bnd_l]) (by omega) x1 x2) | (obtain ⟨f, e3, x1, x2⟩ := o3.no (by omega); exact RO.ofl (by rw [one_o (by omega) (by omega), e2, bnd_r, e3, bnd_l]) (by omega) x1 x2) | exact RO.ofr (by rw [one_o (by omega) (by omega), e2, bnd_r, e3, bnd_r]) (by omega) ⟨gCT, by omega, by omega⟩ | (rw [one_l (by omega) (by omega) (by omega) (by omega)]; exact o4.map (fun s es h => ⟨h.1, h.2.1, by have h2 := h.2.2; have hl := lea_up es; omega⟩)) | (rw [one_l (by omega) (by omega) (by omega) (by omega)]; exact o5.map (fun s es h => ⟨h.1, h.2.1, by have h2 := h.2.2; have hl := lea_up es; omega⟩)), by omega, gWH⟩)
    · refine lv_iload_n hx hb dX7_readOne_36 rfl (lv_at hl 2 rfl) ?_
      refine r_bipush hx hb dX7_readOne_37 (by decide) (fun z9 ez9 => ?_)
      refine r_icmp_le (tgt := 51) hx hb dX7_readOne_39 (by decide) (fun c10 => ?_) (fun c10 => ?_)
      · refine lv_aload_n hx hb dX7_readOne_51 rfl (lv_at hl 1 rfl) ?_
        refine fg_7_2 (k := 27) hx hb hts in_X7_readOne_7 hown hK hP (by decide) (by decide) (hts _ lk_X7_readOne_19) dX7_readOne_52 ?_
        refine lv_dup hx hb dX7_readOne_55 rfl ?_
        refine fgN_6_1 (k := 24) hx hb hts in_X7_readOne_6 hown hK hP (by decide) (by decide) (hN.use nw_7_61) dX7_readOne_56 ?_
        refine r_iconst hx hb dX7_readOne_59 (by decide) (fun z11 ez11 => ?_)
        refine r_iadd hx hb dX7_readOne_60 (by omega) (fun z12 ez12 => ?_)
        refine fpN_6_1 (k := 24) hx hb hts in_X7_readOne_6 hown hK hP (by decide) (by decide) (hN.use nw_7_61) hI hR hS (by omega) dX7_readOne_61 (fun σ13 H13 locs13 u13 v13 hR hP hS => ?_)
        have hF := hF.puts u13 4 rfl (by decide) (by decide) (by decide) (by decide)
        have gCT := gCT.ag (Agr.put u13 (by decide))
        have gWH := gWH.ag (Agr.put u13 (by decide))
        have t14 : (σ13 24 2).toInt = (σ0 24 2).toInt := congrArg Int32.toInt (u13 24 2 (by omega))
        have t15 : (σ13 1 13).toInt = (σ0 1 13).toInt := congrArg Int32.toInt (u13 1 13 (by omega))
        refine lv_aload_n hx hb dX7_readOne_64 rfl (lv_at hl 1 rfl) ?_
        refine fg_7_0 (k := 27) hx hb hts in_X7_readOne_7 hown hK hP (by decide) (by decide) (hts _ lk_X7_readOne_9) dX7_readOne_65 ?_
        refine r_cVv (k := 1) (As := []) (rest := []) ⟨hx, hb, hml, hown, hts⟩ hK hP hN hS (c_X8_next_v l D cA ad hI σ13 τ0 hR _ _ _ _ gCT) (cwV 0 hts gX7_readOne_X8_next rfl rfl rfl (by decide +kernel) ⟨by decide, by decide⟩) (rv_Tape hK hP (by decide) (by decide)) rfl hl.1 rfl (Nat.le_of_ble_eq_true rfl) dX7_readOne_68 (Nat.zero_le _) (Nat.zero_le _) (fun u16 H16 locs16 hp16 hP hS => ?_)
        obtain ⟨σ16, τ16⟩ := u16
        obtain ⟨hR, f16, fL16, hp16_0⟩ : P_X8_next_v σ13 τ0 _ _ _ _ σ16 τ16 := hp16
        have hP : va_P D vwCl (gw cA ad σ16 τ16) H16 := hP
        have hFL := hFL.step fL16 (by decide)
        have gWH := gWH.agL (AgrL.fr fL16 (by decide))
        have hF := hF.step f16 (by decide)
        have gWH := gWH.ag (Agr.fr f16 (by decide))
        have t17 : (σ16 24 2).toInt = (σ13 24 2).toInt := congrArg Int32.toInt (f16.at 24 2 (by decide))
        have t18 : (σ16 1 13).toInt = (σ13 1 13).toInt := congrArg Int32.toInt (f16.at 1 13 (by decide))
        have t19 : (σ16 24 1).toInt = (σ13 24 1).toInt := congrArg Int32.toInt (f16.at 24 1 (by decide))
        have gCT := hp16_0
        refine lv_iload_n hx hb dX7_readOne_71 rfl (lv_at hl 0 rfl) ?_
        by_cases c20 : (σ0 1 9).toInt = 22
        · refine lv_tableIn (off := 108) (tgt := 180) hx hb dX7_readOne_72 (by omega) (by omega) (by rw [c20]; rfl) (by decide) ?_
          refine lv_aload_n hx hb dX7_readOne_180 rfl (lv_at hl 1 rfl) ?_
          refine lv_iload_n hx hb dX7_readOne_181 rfl (lv_at hl 2 rfl) ?_
          refine r_iconst hx hb dX7_readOne_182 (by decide) (fun z21 ez21 => ?_)
          refine r_iadd hx hb dX7_readOne_183 (by omega) (fun z22 ez22 => ?_)
          refine r_cVi (k := 27) (As := [.int z22]) (rest := []) ⟨hx, hb, hml, hown, hts⟩ hK hP hN hS (c_X7_readOne_d6 l D cA ad hI σ16 τ16 hR z22 b N mo _ (nn + 1) nm hc (by omega) (by omega) (by omega) (by omega) gCT gWH) (cwV 1 hts gX7_readOne_X7_readOne rfl rfl rfl (by decide +kernel) ⟨by decide, by decide⟩) (rv_SText hK hP (by decide) (by decide)) rfl hl.1 rfl (Nat.le_of_ble_eq_true rfl) dX7_readOne_184 (Nat.zero_le _) (Nat.zero_le _) (fun r23 u23 H23 locs23 hp23 hP hS => ?_)
          obtain ⟨σ23, τ23⟩ := u23
          obtain ⟨hR, f23, fL23, hq23, hp23_0, hp23_1, gnWH⟩ : P_X7_readOne_d6 σ16 τ16 z22 b N mo _ (nn + 1) nm hc r23 σ23 τ23 := hp23
          have o1 := hp23_0
          have hP : va_P D vwCl (gw cA ad σ23 τ23) H23 := hP
          have hFL := hFL.step fL23 (by decide)
          have gWH := gWH.agL (AgrL.fr fL23 (by decide))
          have hF := hF.step f23 (by decide)
          have gWH := gWH.ag (Agr.fr f23 (by decide))
          have hr24 := rg_6_1 hR (k := 24) (by decide) (by decide)
          have hr25 := rg_6_2 hR (k := 24) (by decide) (by decide)
          refine r_if_eq (tgt := 208) hx hb dX7_readOne_187 (by decide) (fun c26 => ?_) (fun c26 => ?_)
          · clear hp23_1
            refine r_iconst hx hb dX7_readOne_208 (by decide) (fun z27 ez27 => ?_)
            exact r_zret hx hb hr hK hP hS hk (by omega) dX7_readOne_209 (show P_X7_readOne_d5 σ0 τ0 a1 b N mo q nn nm hc z27 σ23 τ23 from ⟨hR, hF, hFL, by omega, by first | exact RO.ofr ((one_l (by omega) (by omega) (by omega) (by omega)).trans (lea_n (by omega) (by omega))) (by omega) ⟨gCT, by omega, by omega⟩ | (exfalso; omega) | exact RO.ofk (one_x (by omega)) (by omega) (by omega) (by omega) | exact RO.ofk (one_4 (by omega) (by omega)) (by omega) (by omega) (by omega) | (obtain ⟨f, e1, x1, x2⟩ := o1.no (by omega); exact RO.ofl ((one_n (by omega) (by omega)).trans e1) (by omega) x1 x2) | exact RO.ofr ((one_n (by omega) (by omega)).trans e1) (by omega) ⟨gCT, by omega, by omega⟩ | (obtain ⟨f, e2, x1, x2⟩ := o2.no (by omega); exact RO.ofl (by rw [one_o (by omega) (by omega), e2, bnd_l]) (by omega) x1 x2) | (obtain ⟨f, e3, x1, x2⟩ := o3.no (by omega); exact RO.ofl (by rw [one_o (by omega) (by omega), e2, bnd_r, e3, bnd_l]) (by omega) x1 x2) | exact RO.ofr (by rw [one_o (by omega) (by omega), e2, bnd_r, e3, bnd_r]) (by omega) ⟨gCT, by omega, by omega⟩ | (rw [one_l (by omega) (by omega) (by omega) (by omega)]; exact o4.map (fun s es h => ⟨h.1, h.2.1, by have h2 := h.2.2; have hl := lea_up es; omega⟩)) | (rw [one_l (by omega) (by omega) (by omega) (by omega)]; exact o5.map (fun s es h => ⟨h.1, h.2.1, by have h2 := h.2.2; have hl := lea_up es; omega⟩)), by omega, gWH⟩)
          · replace hp23_1 := hp23_1.resolve_left (by omega)
            obtain ⟨s1, e1, gCT, hs1, hs2⟩ := o1.ye (by omega)
            have hu1 := one_up _ _ _ _ e1
            refine lv_aload_n hx hb dX7_readOne_190 rfl (lv_at hl 1 rfl) ?_
            refine fg_7_2 (k := 27) hx hb hts in_X7_readOne_7 hown hK hP (by decide) (by decide) (hts _ lk_X7_readOne_19) dX7_readOne_191 ?_
            refine r_bipush hx hb dX7_readOne_194 (by decide) (fun z28 ez28 => ?_)
            refine r_iconst hx hb dX7_readOne_196 (by decide) (fun z29 ez29 => ?_)
            refine r_iconst hx hb dX7_readOne_197 (by decide) (fun z30 ez30 => ?_)
            refine r_cVi (k := 24) (As := [.int z28, .int z29, .int z30]) (rest := []) ⟨hx, hb, hml, hown, hts⟩ hK hP hN hS (c_X6_add l D cA ad hI σ23 τ23 hR z28 z29 z30 (by omega)) (cwV 3 hts gX7_readOne_X6_add rfl rfl rfl (by decide +kernel) ⟨by decide, by decide⟩) (rv_Sent hK hP (by decide) (by decide)) rfl hl.1 rfl (Nat.le_of_ble_eq_true rfl) dX7_readOne_198 (Nat.zero_le _) (Nat.zero_le _) (fun r31 u31 H31 locs31 hp31 hP hS => ?_)
            obtain ⟨σ31, τ31⟩ := u31
            obtain ⟨hR, f31, fL31, hq31, hp31_0⟩ : P_X6_add σ23 τ23 z28 z29 z30 r31 σ31 τ31 := hp31
            have hP : va_P D vwCl (gw cA ad σ31 τ31) H31 := hP
            obtain rfl := FrL.nil fL31
            have hF := hF.step f31 (by decide)
            have gCT := gCT.ag (Agr.fr f31 (by decide))
            have gWH := gWH.ag (Agr.fr f31 (by decide))
            have t32 : (σ31 24 1).toInt = (σ23 24 1).toInt := congrArg Int32.toInt (f31.at 24 1 (by decide))
            have t33 : (σ31 1 13).toInt = (σ23 1 13).toInt := congrArg Int32.toInt (f31.at 1 13 (by decide))
            have hr34 := rg_6_2 hR (k := 24) (by decide) (by decide)
            refine r_if_eq (tgt := 208) hx hb dX7_readOne_201 (by decide) (fun c35 => ?_) (fun c35 => ?_)
            · refine r_iconst hx hb dX7_readOne_208 (by decide) (fun z36 ez36 => ?_)
              exact r_zret hx hb hr hK hP hS hk (by omega) dX7_readOne_209 (show P_X7_readOne_d5 σ0 τ0 a1 b N mo q nn nm hc z36 σ31 τ23 from ⟨hR, hF, hFL, by omega, by first | exact RO.ofr ((one_l (by omega) (by omega) (by omega) (by omega)).trans (lea_n (by omega) (by omega))) (by omega) ⟨gCT, by omega, by omega⟩ | (exfalso; omega) | exact RO.ofk (one_x (by omega)) (by omega) (by omega) (by omega) | exact RO.ofk (one_4 (by omega) (by omega)) (by omega) (by omega) (by omega) | (obtain ⟨f, e1, x1, x2⟩ := o1.no (by omega); exact RO.ofl ((one_n (by omega) (by omega)).trans e1) (by omega) x1 x2) | exact RO.ofr ((one_n (by omega) (by omega)).trans e1) (by omega) ⟨gCT, by omega, by omega⟩ | (obtain ⟨f, e2, x1, x2⟩ := o2.no (by omega); exact RO.ofl (by rw [one_o (by omega) (by omega), e2, bnd_l]) (by omega) x1 x2) | (obtain ⟨f, e3, x1, x2⟩ := o3.no (by omega); exact RO.ofl (by rw [one_o (by omega) (by omega), e2, bnd_r, e3, bnd_l]) (by omega) x1 x2) | exact RO.ofr (by rw [one_o (by omega) (by omega), e2, bnd_r, e3, bnd_r]) (by omega) ⟨gCT, by omega, by omega⟩ | (rw [one_l (by omega) (by omega) (by omega) (by omega)]; exact o4.map (fun s es h => ⟨h.1, h.2.1, by have h2 := h.2.2; have hl := lea_up es; omega⟩)) | (rw [one_l (by omega) (by omega) (by omega) (by omega)]; exact o5.map (fun s es h => ⟨h.1, h.2.1, by have h2 := h.2.2; have hl := lea_up es; omega⟩)), by omega, gWH⟩)
            · refine r_iconst hx hb dX7_readOne_204 (by decide) (fun z37 ez37 => ?_)
              refine lv_goto (tgt := 209) hx hb dX7_readOne_205 (by decide) ?_
              exact r_zret hx hb hr hK hP hS hk (by omega) dX7_readOne_209 (show P_X7_readOne_d5 σ0 τ0 a1 b N mo q nn nm hc z37 σ31 τ23 from ⟨hR, hF, hFL, by omega, by first | exact RO.ofr ((one_l (by omega) (by omega) (by omega) (by omega)).trans (lea_n (by omega) (by omega))) (by omega) ⟨gCT, by omega, by omega⟩ | (exfalso; omega) | exact RO.ofk (one_x (by omega)) (by omega) (by omega) (by omega) | exact RO.ofk (one_4 (by omega) (by omega)) (by omega) (by omega) (by omega) | (obtain ⟨f, e1, x1, x2⟩ := o1.no (by omega); exact RO.ofl ((one_n (by omega) (by omega)).trans e1) (by omega) x1 x2) | exact RO.ofr ((one_n (by omega) (by omega)).trans e1) (by omega) ⟨gCT, by omega, by omega⟩ | (obtain ⟨f, e2, x1, x2⟩ := o2.no (by omega); exact RO.ofl (by rw [one_o (by omega) (by omega), e2, bnd_l]) (by omega) x1 x2) | (obtain ⟨f, e3, x1, x2⟩ := o3.no (by omega); exact RO.ofl (by rw [one_o (by omega) (by omega), e2, bnd_r, e3, bnd_l]) (by omega) x1 x2) | exact RO.ofr (by rw [one_o (by omega) (by omega), e2, bnd_r, e3, bnd_r]) (by omega) ⟨gCT, by omega, by omega⟩ | (rw [one_l (by omega) (by omega) (by omega) (by omega)]; exact o4.map (fun s es h => ⟨h.1, h.2.1, by have h2 := h.2.2; have hl := lea_up es; omega⟩)) | (rw [one_l (by omega) (by omega) (by omega) (by omega)]; exact o5.map (fun s es h => ⟨h.1, h.2.1, by have h2 := h.2.2; have hl := lea_up es; omega⟩)), by omega, gWH⟩)
        by_cases c38 : (σ0 1 9).toInt = 23
        · refine lv_tableIn (off := 177) (tgt := 249) hx hb dX7_readOne_72 (by omega) (by omega) (by rw [c38]; rfl) (by decide) ?_
          refine lv_aload_n hx hb dX7_readOne_249 rfl (lv_at hl 1 rfl) ?_
          refine fg_7_2 (k := 27) hx hb hts in_X7_readOne_7 hown hK hP (by decide) (by decide) (hts _ lk_X7_readOne_19) dX7_readOne_250 ?_
          refine lv_iload_n hx hb dX7_readOne_253 rfl (lv_at hl 0 rfl) ?_
          refine r_bipush hx hb dX7_readOne_254 (by decide) (fun z39 ez39 => ?_)
          refine r_iconst hx hb dX7_readOne_256 (by decide) (fun z40 ez40 => ?_)
          refine r_cVi (k := 24) (As := [.int (σ0 1 9), .int z39, .int z40]) (rest := []) ⟨hx, hb, hml, hown, hts⟩ hK hP hN hS (c_X6_add l D cA ad hI σ16 τ16 hR (σ0 1 9) z39 z40 (by omega)) (cwV 3 hts gX7_readOne_X6_add rfl rfl rfl (by decide +kernel) ⟨by decide, by decide⟩) (rv_Sent hK hP (by decide) (by decide)) rfl hl.1 rfl (Nat.le_of_ble_eq_true rfl) dX7_readOne_257 (Nat.zero_le _) (Nat.zero_le _) (fun r41 u41 H41 locs41 hp41 hP hS => ?_)
          obtain ⟨σ41, τ41⟩ := u41
          obtain ⟨hR, f41, fL41, hq41, hp41_0⟩ : P_X6_add σ16 τ16 (σ0 1 9) z39 z40 r41 σ41 τ41 := hp41
          have hP : va_P D vwCl (gw cA ad σ41 τ41) H41 := hP
          obtain rfl := FrL.nil fL41
          have hF := hF.step f41 (by decide)
          have gCT := gCT.ag (Agr.fr f41 (by decide))
          have gWH := gWH.ag (Agr.fr f41 (by decide))
          have t42 : (σ41 1 13).toInt = (σ16 1 13).toInt := congrArg Int32.toInt (f41.at 1 13 (by decide))
          have t43 : (σ41 24 1).toInt = (σ16 24 1).toInt := congrArg Int32.toInt (f41.at 24 1 (by decide))
          have hr44 := rg_6_2 hR (k := 24) (by decide) (by decide)
          exact r_zret hx hb hr hK hP hS hk (by omega) dX7_readOne_260 (show P_X7_readOne_d5 σ0 τ0 a1 b N mo q nn nm hc r41 σ41 τ16 from ⟨hR, hF, hFL, by omega, by first | exact RO.ofr ((one_l (by omega) (by omega) (by omega) (by omega)).trans (lea_n (by omega) (by omega))) (by omega) ⟨gCT, by omega, by omega⟩ | (exfalso; omega) | exact RO.ofk (one_x (by omega)) (by omega) (by omega) (by omega) | exact RO.ofk (one_4 (by omega) (by omega)) (by omega) (by omega) (by omega) | (obtain ⟨f, e1, x1, x2⟩ := o1.no (by omega); exact RO.ofl ((one_n (by omega) (by omega)).trans e1) (by omega) x1 x2) | exact RO.ofr ((one_n (by omega) (by omega)).trans e1) (by omega) ⟨gCT, by omega, by omega⟩ | (obtain ⟨f, e2, x1, x2⟩ := o2.no (by omega); exact RO.ofl (by rw [one_o (by omega) (by omega), e2, bnd_l]) (by omega) x1 x2) | (obtain ⟨f, e3, x1, x2⟩ := o3.no (by omega); exact RO.ofl (by rw [one_o (by omega) (by omega), e2, bnd_r, e3, bnd_l]) (by omega) x1 x2) | exact RO.ofr (by rw [one_o (by omega) (by omega), e2, bnd_r, e3, bnd_r]) (by omega) ⟨gCT, by omega, by omega⟩ | (rw [one_l (by omega) (by omega) (by omega) (by omega)]; exact o4.map (fun s es h => ⟨h.1, h.2.1, by have h2 := h.2.2; have hl := lea_up es; omega⟩)) | (rw [one_l (by omega) (by omega) (by omega) (by omega)]; exact o5.map (fun s es h => ⟨h.1, h.2.1, by have h2 := h.2.2; have hl := lea_up es; omega⟩)), by omega, gWH⟩)
        by_cases c45 : (σ0 1 9).toInt = 24
        · refine lv_tableIn (off := 177) (tgt := 249) hx hb dX7_readOne_72 (by omega) (by omega) (by rw [c45]; rfl) (by decide) ?_
          refine lv_aload_n hx hb dX7_readOne_249 rfl (lv_at hl 1 rfl) ?_
          refine fg_7_2 (k := 27) hx hb hts in_X7_readOne_7 hown hK hP (by decide) (by decide) (hts _ lk_X7_readOne_19) dX7_readOne_250 ?_
          refine lv_iload_n hx hb dX7_readOne_253 rfl (lv_at hl 0 rfl) ?_
          refine r_bipush hx hb dX7_readOne_254 (by decide) (fun z46 ez46 => ?_)
          refine r_iconst hx hb dX7_readOne_256 (by decide) (fun z47 ez47 => ?_)
          refine r_cVi (k := 24) (As := [.int (σ0 1 9), .int z46, .int z47]) (rest := []) ⟨hx, hb, hml, hown, hts⟩ hK hP hN hS (c_X6_add l D cA ad hI σ16 τ16 hR (σ0 1 9) z46 z47 (by omega)) (cwV 3 hts gX7_readOne_X6_add rfl rfl rfl (by decide +kernel) ⟨by decide, by decide⟩) (rv_Sent hK hP (by decide) (by decide)) rfl hl.1 rfl (Nat.le_of_ble_eq_true rfl) dX7_readOne_257 (Nat.zero_le _) (Nat.zero_le _) (fun r48 u48 H48 locs48 hp48 hP hS => ?_)
          obtain ⟨σ48, τ48⟩ := u48
          obtain ⟨hR, f48, fL48, hq48, hp48_0⟩ : P_X6_add σ16 τ16 (σ0 1 9) z46 z47 r48 σ48 τ48 := hp48
          have hP : va_P D vwCl (gw cA ad σ48 τ48) H48 := hP
          obtain rfl := FrL.nil fL48
          have hF := hF.step f48 (by decide)
          have gCT := gCT.ag (Agr.fr f48 (by decide))
          have gWH := gWH.ag (Agr.fr f48 (by decide))
          have t49 : (σ48 1 13).toInt = (σ16 1 13).toInt := congrArg Int32.toInt (f48.at 1 13 (by decide))
          have t50 : (σ48 24 1).toInt = (σ16 24 1).toInt := congrArg Int32.toInt (f48.at 24 1 (by decide))
          have hr51 := rg_6_2 hR (k := 24) (by decide) (by decide)
          exact r_zret hx hb hr hK hP hS hk (by omega) dX7_readOne_260 (show P_X7_readOne_d5 σ0 τ0 a1 b N mo q nn nm hc r48 σ48 τ16 from ⟨hR, hF, hFL, by omega, by first | exact RO.ofr ((one_l (by omega) (by omega) (by omega) (by omega)).trans (lea_n (by omega) (by omega))) (by omega) ⟨gCT, by omega, by omega⟩ | (exfalso; omega) | exact RO.ofk (one_x (by omega)) (by omega) (by omega) (by omega) | exact RO.ofk (one_4 (by omega) (by omega)) (by omega) (by omega) (by omega) | (obtain ⟨f, e1, x1, x2⟩ := o1.no (by omega); exact RO.ofl ((one_n (by omega) (by omega)).trans e1) (by omega) x1 x2) | exact RO.ofr ((one_n (by omega) (by omega)).trans e1) (by omega) ⟨gCT, by omega, by omega⟩ | (obtain ⟨f, e2, x1, x2⟩ := o2.no (by omega); exact RO.ofl (by rw [one_o (by omega) (by omega), e2, bnd_l]) (by omega) x1 x2) | (obtain ⟨f, e3, x1, x2⟩ := o3.no (by omega); exact RO.ofl (by rw [one_o (by omega) (by omega), e2, bnd_r, e3, bnd_l]) (by omega) x1 x2) | exact RO.ofr (by rw [one_o (by omega) (by omega), e2, bnd_r, e3, bnd_r]) (by omega) ⟨gCT, by omega, by omega⟩ | (rw [one_l (by omega) (by omega) (by omega) (by omega)]; exact o4.map (fun s es h => ⟨h.1, h.2.1, by have h2 := h.2.2; have hl := lea_up es; omega⟩)) | (rw [one_l (by omega) (by omega) (by omega) (by omega)]; exact o5.map (fun s es h => ⟨h.1, h.2.1, by have h2 := h.2.2; have hl := lea_up es; omega⟩)), by omega, gWH⟩)
        by_cases c52 : (σ0 1 9).toInt = 25
        · refine lv_tableIn (off := 166) (tgt := 238) hx hb dX7_readOne_72 (by omega) (by omega) (by rw [c52]; rfl) (by decide) ?_
          refine lv_aload_n hx hb dX7_readOne_238 rfl (lv_at hl 1 rfl) ?_
          refine r_cVi (k := 27) (As := []) (rest := []) ⟨hx, hb, hml, hown, hts⟩ hK hP hN hS (c_X7_readOn l D cA ad hI σ16 τ16 hR b N mo _ (nn + 1) nm hc (tkq b N mo q) (by omega) (by omega) (by omega) gCT gWH) (cwV 0 hts gX7_readOne_X7_readOn rfl rfl rfl (by decide +kernel) ⟨by decide, by decide⟩) (rv_SText hK hP (by decide) (by decide)) rfl hl.1 rfl (Nat.le_of_ble_eq_true rfl) dX7_readOne_239 (Nat.zero_le _) (Nat.zero_le _) (fun r53 u53 H53 locs53 hp53 hP hS => ?_)
          obtain ⟨σ53, τ53⟩ := u53
          obtain ⟨hR, f53, fL53, hq53, hp53_0, hp53_1, gnWH⟩ : P_X7_readOn σ16 τ16 b N mo _ (nn + 1) nm hc (tkq b N mo q) r53 σ53 τ53 := hp53
          have o4 := hp53_0
          have hP : va_P D vwCl (gw cA ad σ53 τ53) H53 := hP
          have hFL := hFL.step fL53 (by decide)
          have gWH := gWH.agL (AgrL.fr fL53 (by decide))
          have hF := hF.step f53 (by decide)
          have gWH := gWH.ag (Agr.fr f53 (by decide))
          have t54 : (σ53 24 1).toInt = (σ16 24 1).toInt := congrArg Int32.toInt (f53.at 24 1 (by decide))
          have hr55 := rg_6_2 hR (k := 24) (by decide) (by decide)
          exact r_zret hx hb hr hK hP hS hk (by omega) dX7_readOne_242 (show P_X7_readOne_d5 σ0 τ0 a1 b N mo q nn nm hc r53 σ53 τ53 from ⟨hR, hF, hFL, by omega, by first | exact RO.ofr ((one_l (by omega) (by omega) (by omega) (by omega)).trans (lea_n (by omega) (by omega))) (by omega) ⟨gCT, by omega, by omega⟩ | (exfalso; omega) | exact RO.ofk (one_x (by omega)) (by omega) (by omega) (by omega) | exact RO.ofk (one_4 (by omega) (by omega)) (by omega) (by omega) (by omega) | (obtain ⟨f, e1, x1, x2⟩ := o1.no (by omega); exact RO.ofl ((one_n (by omega) (by omega)).trans e1) (by omega) x1 x2) | exact RO.ofr ((one_n (by omega) (by omega)).trans e1) (by omega) ⟨gCT, by omega, by omega⟩ | (obtain ⟨f, e2, x1, x2⟩ := o2.no (by omega); exact RO.ofl (by rw [one_o (by omega) (by omega), e2, bnd_l]) (by omega) x1 x2) | (obtain ⟨f, e3, x1, x2⟩ := o3.no (by omega); exact RO.ofl (by rw [one_o (by omega) (by omega), e2, bnd_r, e3, bnd_l]) (by omega) x1 x2) | exact RO.ofr (by rw [one_o (by omega) (by omega), e2, bnd_r, e3, bnd_r]) (by omega) ⟨gCT, by omega, by omega⟩ | (rw [one_l (by omega) (by omega) (by omega) (by omega)]; exact o4.map (fun s es h => ⟨h.1, h.2.1, by have h2 := h.2.2; have hl := lea_up es; omega⟩)) | (rw [one_l (by omega) (by omega) (by omega) (by omega)]; exact o5.map (fun s es h => ⟨h.1, h.2.1, by have h2 := h.2.2; have hl := lea_up es; omega⟩)), by omega, gWH⟩)
        by_cases c56 : (σ0 1 9).toInt = 26
        · refine lv_tableIn (off := 177) (tgt := 249) hx hb dX7_readOne_72 (by omega) (by omega) (by rw [c56]; rfl) (by decide) ?_
          refine lv_aload_n hx hb dX7_readOne_249 rfl (lv_at hl 1 rfl) ?_
          refine fg_7_2 (k := 27) hx hb hts in_X7_readOne_7 hown hK hP (by decide) (by decide) (hts _ lk_X7_readOne_19) dX7_readOne_250 ?_
          refine lv_iload_n hx hb dX7_readOne_253 rfl (lv_at hl 0 rfl) ?_
          refine r_bipush hx hb dX7_readOne_254 (by decide) (fun z57 ez57 => ?_)
          refine r_iconst hx hb dX7_readOne_256 (by decide) (fun z58 ez58 => ?_)
          refine r_cVi (k := 24) (As := [.int (σ0 1 9), .int z57, .int z58]) (rest := []) ⟨hx, hb, hml, hown, hts⟩ hK hP hN hS (c_X6_add l D cA ad hI σ16 τ16 hR (σ0 1 9) z57 z58 (by omega)) (cwV 3 hts gX7_readOne_X6_add rfl rfl rfl (by decide +kernel) ⟨by decide, by decide⟩) (rv_Sent hK hP (by decide) (by decide)) rfl hl.1 rfl (Nat.le_of_ble_eq_true rfl) dX7_readOne_257 (Nat.zero_le _) (Nat.zero_le _) (fun r59 u59 H59 locs59 hp59 hP hS => ?_)
          obtain ⟨σ59, τ59⟩ := u59
          obtain ⟨hR, f59, fL59, hq59, hp59_0⟩ : P_X6_add σ16 τ16 (σ0 1 9) z57 z58 r59 σ59 τ59 := hp59
          have hP : va_P D vwCl (gw cA ad σ59 τ59) H59 := hP
          obtain rfl := FrL.nil fL59
          have hF := hF.step f59 (by decide)
          have gCT := gCT.ag (Agr.fr f59 (by decide))
          have gWH := gWH.ag (Agr.fr f59 (by decide))
          have t60 : (σ59 1 13).toInt = (σ16 1 13).toInt := congrArg Int32.toInt (f59.at 1 13 (by decide))
          have t61 : (σ59 24 1).toInt = (σ16 24 1).toInt := congrArg Int32.toInt (f59.at 24 1 (by decide))
          have hr62 := rg_6_2 hR (k := 24) (by decide) (by decide)
          exact r_zret hx hb hr hK hP hS hk (by omega) dX7_readOne_260 (show P_X7_readOne_d5 σ0 τ0 a1 b N mo q nn nm hc r59 σ59 τ16 from ⟨hR, hF, hFL, by omega, by first | exact RO.ofr ((one_l (by omega) (by omega) (by omega) (by omega)).trans (lea_n (by omega) (by omega))) (by omega) ⟨gCT, by omega, by omega⟩ | (exfalso; omega) | exact RO.ofk (one_x (by omega)) (by omega) (by omega) (by omega) | exact RO.ofk (one_4 (by omega) (by omega)) (by omega) (by omega) (by omega) | (obtain ⟨f, e1, x1, x2⟩ := o1.no (by omega); exact RO.ofl ((one_n (by omega) (by omega)).trans e1) (by omega) x1 x2) | exact RO.ofr ((one_n (by omega) (by omega)).trans e1) (by omega) ⟨gCT, by omega, by omega⟩ | (obtain ⟨f, e2, x1, x2⟩ := o2.no (by omega); exact RO.ofl (by rw [one_o (by omega) (by omega), e2, bnd_l]) (by omega) x1 x2) | (obtain ⟨f, e3, x1, x2⟩ := o3.no (by omega); exact RO.ofl (by rw [one_o (by omega) (by omega), e2, bnd_r, e3, bnd_l]) (by omega) x1 x2) | exact RO.ofr (by rw [one_o (by omega) (by omega), e2, bnd_r, e3, bnd_r]) (by omega) ⟨gCT, by omega, by omega⟩ | (rw [one_l (by omega) (by omega) (by omega) (by omega)]; exact o4.map (fun s es h => ⟨h.1, h.2.1, by have h2 := h.2.2; have hl := lea_up es; omega⟩)) | (rw [one_l (by omega) (by omega) (by omega) (by omega)]; exact o5.map (fun s es h => ⟨h.1, h.2.1, by have h2 := h.2.2; have hl := lea_up es; omega⟩)), by omega, gWH⟩)
        by_cases c63 : (σ0 1 9).toInt = 27
        · refine lv_tableIn (off := 171) (tgt := 243) hx hb dX7_readOne_72 (by omega) (by omega) (by rw [c63]; rfl) (by decide) ?_
          refine lv_aload_n hx hb dX7_readOne_243 rfl (lv_at hl 1 rfl) ?_
          refine lv_iload_n hx hb dX7_readOne_244 rfl (lv_at hl 0 rfl) ?_
          refine r_cVi (k := 27) (As := [.int (σ0 1 9)]) (rest := []) ⟨hx, hb, hml, hown, hts⟩ hK hP hN hS (c_X7_readMeasure l D cA ad hI σ16 τ16 hR (σ0 1 9) b N mo _ (nn + 1) nm hc (tkq b N mo q) (by omega) (by omega) (by omega) (by omega) gCT gWH) (cwV 1 hts gX7_readOne_X7_readMeasure rfl rfl rfl (by decide +kernel) ⟨by decide, by decide⟩) (rv_SText hK hP (by decide) (by decide)) rfl hl.1 rfl (Nat.le_of_ble_eq_true rfl) dX7_readOne_245 (Nat.zero_le _) (Nat.zero_le _) (fun r64 u64 H64 locs64 hp64 hP hS => ?_)
          obtain ⟨σ64, τ64⟩ := u64
          obtain ⟨hR, f64, fL64, hq64, hp64_0, hp64_1, gnWH⟩ : P_X7_readMeasure σ16 τ16 (σ0 1 9) b N mo _ (nn + 1) nm hc (tkq b N mo q) r64 σ64 τ64 := hp64
          have o5 := hp64_0
          have hP : va_P D vwCl (gw cA ad σ64 τ64) H64 := hP
          have hFL := hFL.step fL64 (by decide)
          have gWH := gWH.agL (AgrL.fr fL64 (by decide))
          have hF := hF.step f64 (by decide)
          have gWH := gWH.ag (Agr.fr f64 (by decide))
          have t65 : (σ64 24 1).toInt = (σ16 24 1).toInt := congrArg Int32.toInt (f64.at 24 1 (by decide))
          have hr66 := rg_6_2 hR (k := 24) (by decide) (by decide)
          exact r_zret hx hb hr hK hP hS hk (by omega) dX7_readOne_248 (show P_X7_readOne_d5 σ0 τ0 a1 b N mo q nn nm hc r64 σ64 τ64 from ⟨hR, hF, hFL, by omega, by first | exact RO.ofr ((one_l (by omega) (by omega) (by omega) (by omega)).trans (lea_n (by omega) (by omega))) (by omega) ⟨gCT, by omega, by omega⟩ | (exfalso; omega) | exact RO.ofk (one_x (by omega)) (by omega) (by omega) (by omega) | exact RO.ofk (one_4 (by omega) (by omega)) (by omega) (by omega) (by omega) | (obtain ⟨f, e1, x1, x2⟩ := o1.no (by omega); exact RO.ofl ((one_n (by omega) (by omega)).trans e1) (by omega) x1 x2) | exact RO.ofr ((one_n (by omega) (by omega)).trans e1) (by omega) ⟨gCT, by omega, by omega⟩ | (obtain ⟨f, e2, x1, x2⟩ := o2.no (by omega); exact RO.ofl (by rw [one_o (by omega) (by omega), e2, bnd_l]) (by omega) x1 x2) | (obtain ⟨f, e3, x1, x2⟩ := o3.no (by omega); exact RO.ofl (by rw [one_o (by omega) (by omega), e2, bnd_r, e3, bnd_l]) (by omega) x1 x2) | exact RO.ofr (by rw [one_o (by omega) (by omega), e2, bnd_r, e3, bnd_r]) (by omega) ⟨gCT, by omega, by omega⟩ | (rw [one_l (by omega) (by omega) (by omega) (by omega)]; exact o4.map (fun s es h => ⟨h.1, h.2.1, by have h2 := h.2.2; have hl := lea_up es; omega⟩)) | (rw [one_l (by omega) (by omega) (by omega) (by omega)]; exact o5.map (fun s es h => ⟨h.1, h.2.1, by have h2 := h.2.2; have hl := lea_up es; omega⟩)), by omega, gWH⟩)
        by_cases c67 : (σ0 1 9).toInt = 28
        · refine lv_tableIn (off := 171) (tgt := 243) hx hb dX7_readOne_72 (by omega) (by omega) (by rw [c67]; rfl) (by decide) ?_
          refine lv_aload_n hx hb dX7_readOne_243 rfl (lv_at hl 1 rfl) ?_
          refine lv_iload_n hx hb dX7_readOne_244 rfl (lv_at hl 0 rfl) ?_
          refine r_cVi (k := 27) (As := [.int (σ0 1 9)]) (rest := []) ⟨hx, hb, hml, hown, hts⟩ hK hP hN hS (c_X7_readMeasure l D cA ad hI σ16 τ16 hR (σ0 1 9) b N mo _ (nn + 1) nm hc (tkq b N mo q) (by omega) (by omega) (by omega) (by omega) gCT gWH) (cwV 1 hts gX7_readOne_X7_readMeasure rfl rfl rfl (by decide +kernel) ⟨by decide, by decide⟩) (rv_SText hK hP (by decide) (by decide)) rfl hl.1 rfl (Nat.le_of_ble_eq_true rfl) dX7_readOne_245 (Nat.zero_le _) (Nat.zero_le _) (fun r68 u68 H68 locs68 hp68 hP hS => ?_)
          obtain ⟨σ68, τ68⟩ := u68
          obtain ⟨hR, f68, fL68, hq68, hp68_0, hp68_1, gnWH⟩ : P_X7_readMeasure σ16 τ16 (σ0 1 9) b N mo _ (nn + 1) nm hc (tkq b N mo q) r68 σ68 τ68 := hp68
          have o5 := hp68_0
          have hP : va_P D vwCl (gw cA ad σ68 τ68) H68 := hP
          have hFL := hFL.step fL68 (by decide)
          have gWH := gWH.agL (AgrL.fr fL68 (by decide))
          have hF := hF.step f68 (by decide)
          have gWH := gWH.ag (Agr.fr f68 (by decide))
          have t69 : (σ68 24 1).toInt = (σ16 24 1).toInt := congrArg Int32.toInt (f68.at 24 1 (by decide))
          have hr70 := rg_6_2 hR (k := 24) (by decide) (by decide)
          exact r_zret hx hb hr hK hP hS hk (by omega) dX7_readOne_248 (show P_X7_readOne_d5 σ0 τ0 a1 b N mo q nn nm hc r68 σ68 τ68 from ⟨hR, hF, hFL, by omega, by first | exact RO.ofr ((one_l (by omega) (by omega) (by omega) (by omega)).trans (lea_n (by omega) (by omega))) (by omega) ⟨gCT, by omega, by omega⟩ | (exfalso; omega) | exact RO.ofk (one_x (by omega)) (by omega) (by omega) (by omega) | exact RO.ofk (one_4 (by omega) (by omega)) (by omega) (by omega) (by omega) | (obtain ⟨f, e1, x1, x2⟩ := o1.no (by omega); exact RO.ofl ((one_n (by omega) (by omega)).trans e1) (by omega) x1 x2) | exact RO.ofr ((one_n (by omega) (by omega)).trans e1) (by omega) ⟨gCT, by omega, by omega⟩ | (obtain ⟨f, e2, x1, x2⟩ := o2.no (by omega); exact RO.ofl (by rw [one_o (by omega) (by omega), e2, bnd_l]) (by omega) x1 x2) | (obtain ⟨f, e3, x1, x2⟩ := o3.no (by omega); exact RO.ofl (by rw [one_o (by omega) (by omega), e2, bnd_r, e3, bnd_l]) (by omega) x1 x2) | exact RO.ofr (by rw [one_o (by omega) (by omega), e2, bnd_r, e3, bnd_r]) (by omega) ⟨gCT, by omega, by omega⟩ | (rw [one_l (by omega) (by omega) (by omega) (by omega)]; exact o4.map (fun s es h => ⟨h.1, h.2.1, by have h2 := h.2.2; have hl := lea_up es; omega⟩)) | (rw [one_l (by omega) (by omega) (by omega) (by omega)]; exact o5.map (fun s es h => ⟨h.1, h.2.1, by have h2 := h.2.2; have hl := lea_up es; omega⟩)), by omega, gWH⟩)
        by_cases c71 : (σ0 1 9).toInt = 29
        · refine lv_tableIn (off := 171) (tgt := 243) hx hb dX7_readOne_72 (by omega) (by omega) (by rw [c71]; rfl) (by decide) ?_
          refine lv_aload_n hx hb dX7_readOne_243 rfl (lv_at hl 1 rfl) ?_
          refine lv_iload_n hx hb dX7_readOne_244 rfl (lv_at hl 0 rfl) ?_
          refine r_cVi (k := 27) (As := [.int (σ0 1 9)]) (rest := []) ⟨hx, hb, hml, hown, hts⟩ hK hP hN hS (c_X7_readMeasure l D cA ad hI σ16 τ16 hR (σ0 1 9) b N mo _ (nn + 1) nm hc (tkq b N mo q) (by omega) (by omega) (by omega) (by omega) gCT gWH) (cwV 1 hts gX7_readOne_X7_readMeasure rfl rfl rfl (by decide +kernel) ⟨by decide, by decide⟩) (rv_SText hK hP (by decide) (by decide)) rfl hl.1 rfl (Nat.le_of_ble_eq_true rfl) dX7_readOne_245 (Nat.zero_le _) (Nat.zero_le _) (fun r72 u72 H72 locs72 hp72 hP hS => ?_)
          obtain ⟨σ72, τ72⟩ := u72
          obtain ⟨hR, f72, fL72, hq72, hp72_0, hp72_1, gnWH⟩ : P_X7_readMeasure σ16 τ16 (σ0 1 9) b N mo _ (nn + 1) nm hc (tkq b N mo q) r72 σ72 τ72 := hp72
          have o5 := hp72_0
          have hP : va_P D vwCl (gw cA ad σ72 τ72) H72 := hP
          have hFL := hFL.step fL72 (by decide)
          have gWH := gWH.agL (AgrL.fr fL72 (by decide))
          have hF := hF.step f72 (by decide)
          have gWH := gWH.ag (Agr.fr f72 (by decide))
          have t73 : (σ72 24 1).toInt = (σ16 24 1).toInt := congrArg Int32.toInt (f72.at 24 1 (by decide))
          have hr74 := rg_6_2 hR (k := 24) (by decide) (by decide)
          exact r_zret hx hb hr hK hP hS hk (by omega) dX7_readOne_248 (show P_X7_readOne_d5 σ0 τ0 a1 b N mo q nn nm hc r72 σ72 τ72 from ⟨hR, hF, hFL, by omega, by first | exact RO.ofr ((one_l (by omega) (by omega) (by omega) (by omega)).trans (lea_n (by omega) (by omega))) (by omega) ⟨gCT, by omega, by omega⟩ | (exfalso; omega) | exact RO.ofk (one_x (by omega)) (by omega) (by omega) (by omega) | exact RO.ofk (one_4 (by omega) (by omega)) (by omega) (by omega) (by omega) | (obtain ⟨f, e1, x1, x2⟩ := o1.no (by omega); exact RO.ofl ((one_n (by omega) (by omega)).trans e1) (by omega) x1 x2) | exact RO.ofr ((one_n (by omega) (by omega)).trans e1) (by omega) ⟨gCT, by omega, by omega⟩ | (obtain ⟨f, e2, x1, x2⟩ := o2.no (by omega); exact RO.ofl (by rw [one_o (by omega) (by omega), e2, bnd_l]) (by omega) x1 x2) | (obtain ⟨f, e3, x1, x2⟩ := o3.no (by omega); exact RO.ofl (by rw [one_o (by omega) (by omega), e2, bnd_r, e3, bnd_l]) (by omega) x1 x2) | exact RO.ofr (by rw [one_o (by omega) (by omega), e2, bnd_r, e3, bnd_r]) (by omega) ⟨gCT, by omega, by omega⟩ | (rw [one_l (by omega) (by omega) (by omega) (by omega)]; exact o4.map (fun s es h => ⟨h.1, h.2.1, by have h2 := h.2.2; have hl := lea_up es; omega⟩)) | (rw [one_l (by omega) (by omega) (by omega) (by omega)]; exact o5.map (fun s es h => ⟨h.1, h.2.1, by have h2 := h.2.2; have hl := lea_up es; omega⟩)), by omega, gWH⟩)
        by_cases c75 : (σ0 1 9).toInt = 30
        · refine lv_tableIn (off := 171) (tgt := 243) hx hb dX7_readOne_72 (by omega) (by omega) (by rw [c75]; rfl) (by decide) ?_
          refine lv_aload_n hx hb dX7_readOne_243 rfl (lv_at hl 1 rfl) ?_
          refine lv_iload_n hx hb dX7_readOne_244 rfl (lv_at hl 0 rfl) ?_
          refine r_cVi (k := 27) (As := [.int (σ0 1 9)]) (rest := []) ⟨hx, hb, hml, hown, hts⟩ hK hP hN hS (c_X7_readMeasure l D cA ad hI σ16 τ16 hR (σ0 1 9) b N mo _ (nn + 1) nm hc (tkq b N mo q) (by omega) (by omega) (by omega) (by omega) gCT gWH) (cwV 1 hts gX7_readOne_X7_readMeasure rfl rfl rfl (by decide +kernel) ⟨by decide, by decide⟩) (rv_SText hK hP (by decide) (by decide)) rfl hl.1 rfl (Nat.le_of_ble_eq_true rfl) dX7_readOne_245 (Nat.zero_le _) (Nat.zero_le _) (fun r76 u76 H76 locs76 hp76 hP hS => ?_)
          obtain ⟨σ76, τ76⟩ := u76
          obtain ⟨hR, f76, fL76, hq76, hp76_0, hp76_1, gnWH⟩ : P_X7_readMeasure σ16 τ16 (σ0 1 9) b N mo _ (nn + 1) nm hc (tkq b N mo q) r76 σ76 τ76 := hp76
          have o5 := hp76_0
          have hP : va_P D vwCl (gw cA ad σ76 τ76) H76 := hP
          have hFL := hFL.step fL76 (by decide)
          have gWH := gWH.agL (AgrL.fr fL76 (by decide))
          have hF := hF.step f76 (by decide)
          have gWH := gWH.ag (Agr.fr f76 (by decide))
          have t77 : (σ76 24 1).toInt = (σ16 24 1).toInt := congrArg Int32.toInt (f76.at 24 1 (by decide))
          have hr78 := rg_6_2 hR (k := 24) (by decide) (by decide)
          exact r_zret hx hb hr hK hP hS hk (by omega) dX7_readOne_248 (show P_X7_readOne_d5 σ0 τ0 a1 b N mo q nn nm hc r76 σ76 τ76 from ⟨hR, hF, hFL, by omega, by first | exact RO.ofr ((one_l (by omega) (by omega) (by omega) (by omega)).trans (lea_n (by omega) (by omega))) (by omega) ⟨gCT, by omega, by omega⟩ | (exfalso; omega) | exact RO.ofk (one_x (by omega)) (by omega) (by omega) (by omega) | exact RO.ofk (one_4 (by omega) (by omega)) (by omega) (by omega) (by omega) | (obtain ⟨f, e1, x1, x2⟩ := o1.no (by omega); exact RO.ofl ((one_n (by omega) (by omega)).trans e1) (by omega) x1 x2) | exact RO.ofr ((one_n (by omega) (by omega)).trans e1) (by omega) ⟨gCT, by omega, by omega⟩ | (obtain ⟨f, e2, x1, x2⟩ := o2.no (by omega); exact RO.ofl (by rw [one_o (by omega) (by omega), e2, bnd_l]) (by omega) x1 x2) | (obtain ⟨f, e3, x1, x2⟩ := o3.no (by omega); exact RO.ofl (by rw [one_o (by omega) (by omega), e2, bnd_r, e3, bnd_l]) (by omega) x1 x2) | exact RO.ofr (by rw [one_o (by omega) (by omega), e2, bnd_r, e3, bnd_r]) (by omega) ⟨gCT, by omega, by omega⟩ | (rw [one_l (by omega) (by omega) (by omega) (by omega)]; exact o4.map (fun s es h => ⟨h.1, h.2.1, by have h2 := h.2.2; have hl := lea_up es; omega⟩)) | (rw [one_l (by omega) (by omega) (by omega) (by omega)]; exact o5.map (fun s es h => ⟨h.1, h.2.1, by have h2 := h.2.2; have hl := lea_up es; omega⟩)), by omega, gWH⟩)
        by_cases c79 : (σ0 1 9).toInt = 31
        · refine lv_tableIn (off := 177) (tgt := 249) hx hb dX7_readOne_72 (by omega) (by omega) (by rw [c79]; rfl) (by decide) ?_
          refine lv_aload_n hx hb dX7_readOne_249 rfl (lv_at hl 1 rfl) ?_
          refine fg_7_2 (k := 27) hx hb hts in_X7_readOne_7 hown hK hP (by decide) (by decide) (hts _ lk_X7_readOne_19) dX7_readOne_250 ?_
          refine lv_iload_n hx hb dX7_readOne_253 rfl (lv_at hl 0 rfl) ?_
          refine r_bipush hx hb dX7_readOne_254 (by decide) (fun z80 ez80 => ?_)
          refine r_iconst hx hb dX7_readOne_256 (by decide) (fun z81 ez81 => ?_)
          refine r_cVi (k := 24) (As := [.int (σ0 1 9), .int z80, .int z81]) (rest := []) ⟨hx, hb, hml, hown, hts⟩ hK hP hN hS (c_X6_add l D cA ad hI σ16 τ16 hR (σ0 1 9) z80 z81 (by omega)) (cwV 3 hts gX7_readOne_X6_add rfl rfl rfl (by decide +kernel) ⟨by decide, by decide⟩) (rv_Sent hK hP (by decide) (by decide)) rfl hl.1 rfl (Nat.le_of_ble_eq_true rfl) dX7_readOne_257 (Nat.zero_le _) (Nat.zero_le _) (fun r82 u82 H82 locs82 hp82 hP hS => ?_)
          obtain ⟨σ82, τ82⟩ := u82
          obtain ⟨hR, f82, fL82, hq82, hp82_0⟩ : P_X6_add σ16 τ16 (σ0 1 9) z80 z81 r82 σ82 τ82 := hp82
          have hP : va_P D vwCl (gw cA ad σ82 τ82) H82 := hP
          obtain rfl := FrL.nil fL82
          have hF := hF.step f82 (by decide)
          have gCT := gCT.ag (Agr.fr f82 (by decide))
          have gWH := gWH.ag (Agr.fr f82 (by decide))
          have t83 : (σ82 1 13).toInt = (σ16 1 13).toInt := congrArg Int32.toInt (f82.at 1 13 (by decide))
          have t84 : (σ82 24 1).toInt = (σ16 24 1).toInt := congrArg Int32.toInt (f82.at 24 1 (by decide))
          have hr85 := rg_6_2 hR (k := 24) (by decide) (by decide)
          exact r_zret hx hb hr hK hP hS hk (by omega) dX7_readOne_260 (show P_X7_readOne_d5 σ0 τ0 a1 b N mo q nn nm hc r82 σ82 τ16 from ⟨hR, hF, hFL, by omega, by first | exact RO.ofr ((one_l (by omega) (by omega) (by omega) (by omega)).trans (lea_n (by omega) (by omega))) (by omega) ⟨gCT, by omega, by omega⟩ | (exfalso; omega) | exact RO.ofk (one_x (by omega)) (by omega) (by omega) (by omega) | exact RO.ofk (one_4 (by omega) (by omega)) (by omega) (by omega) (by omega) | (obtain ⟨f, e1, x1, x2⟩ := o1.no (by omega); exact RO.ofl ((one_n (by omega) (by omega)).trans e1) (by omega) x1 x2) | exact RO.ofr ((one_n (by omega) (by omega)).trans e1) (by omega) ⟨gCT, by omega, by omega⟩ | (obtain ⟨f, e2, x1, x2⟩ := o2.no (by omega); exact RO.ofl (by rw [one_o (by omega) (by omega), e2, bnd_l]) (by omega) x1 x2) | (obtain ⟨f, e3, x1, x2⟩ := o3.no (by omega); exact RO.ofl (by rw [one_o (by omega) (by omega), e2, bnd_r, e3, bnd_l]) (by omega) x1 x2) | exact RO.ofr (by rw [one_o (by omega) (by omega), e2, bnd_r, e3, bnd_r]) (by omega) ⟨gCT, by omega, by omega⟩ | (rw [one_l (by omega) (by omega) (by omega) (by omega)]; exact o4.map (fun s es h => ⟨h.1, h.2.1, by have h2 := h.2.2; have hl := lea_up es; omega⟩)) | (rw [one_l (by omega) (by omega) (by omega) (by omega)]; exact o5.map (fun s es h => ⟨h.1, h.2.1, by have h2 := h.2.2; have hl := lea_up es; omega⟩)), by omega, gWH⟩)
        by_cases c86 : (σ0 1 9).toInt = 32
        · refine lv_tableIn (off := 177) (tgt := 249) hx hb dX7_readOne_72 (by omega) (by omega) (by rw [c86]; rfl) (by decide) ?_
          refine lv_aload_n hx hb dX7_readOne_249 rfl (lv_at hl 1 rfl) ?_
          refine fg_7_2 (k := 27) hx hb hts in_X7_readOne_7 hown hK hP (by decide) (by decide) (hts _ lk_X7_readOne_19) dX7_readOne_250 ?_
          refine lv_iload_n hx hb dX7_readOne_253 rfl (lv_at hl 0 rfl) ?_
          refine r_bipush hx hb dX7_readOne_254 (by decide) (fun z87 ez87 => ?_)
          refine r_iconst hx hb dX7_readOne_256 (by decide) (fun z88 ez88 => ?_)
          refine r_cVi (k := 24) (As := [.int (σ0 1 9), .int z87, .int z88]) (rest := []) ⟨hx, hb, hml, hown, hts⟩ hK hP hN hS (c_X6_add l D cA ad hI σ16 τ16 hR (σ0 1 9) z87 z88 (by omega)) (cwV 3 hts gX7_readOne_X6_add rfl rfl rfl (by decide +kernel) ⟨by decide, by decide⟩) (rv_Sent hK hP (by decide) (by decide)) rfl hl.1 rfl (Nat.le_of_ble_eq_true rfl) dX7_readOne_257 (Nat.zero_le _) (Nat.zero_le _) (fun r89 u89 H89 locs89 hp89 hP hS => ?_)
          obtain ⟨σ89, τ89⟩ := u89
          obtain ⟨hR, f89, fL89, hq89, hp89_0⟩ : P_X6_add σ16 τ16 (σ0 1 9) z87 z88 r89 σ89 τ89 := hp89
          have hP : va_P D vwCl (gw cA ad σ89 τ89) H89 := hP
          obtain rfl := FrL.nil fL89
          have hF := hF.step f89 (by decide)
          have gCT := gCT.ag (Agr.fr f89 (by decide))
          have gWH := gWH.ag (Agr.fr f89 (by decide))
          have t90 : (σ89 1 13).toInt = (σ16 1 13).toInt := congrArg Int32.toInt (f89.at 1 13 (by decide))
          have t91 : (σ89 24 1).toInt = (σ16 24 1).toInt := congrArg Int32.toInt (f89.at 24 1 (by decide))
          have hr92 := rg_6_2 hR (k := 24) (by decide) (by decide)
          exact r_zret hx hb hr hK hP hS hk (by omega) dX7_readOne_260 (show P_X7_readOne_d5 σ0 τ0 a1 b N mo q nn nm hc r89 σ89 τ16 from ⟨hR, hF, hFL, by omega, by first | exact RO.ofr ((one_l (by omega) (by omega) (by omega) (by omega)).trans (lea_n (by omega) (by omega))) (by omega) ⟨gCT, by omega, by omega⟩ | (exfalso; omega) | exact RO.ofk (one_x (by omega)) (by omega) (by omega) (by omega) | exact RO.ofk (one_4 (by omega) (by omega)) (by omega) (by omega) (by omega) | (obtain ⟨f, e1, x1, x2⟩ := o1.no (by omega); exact RO.ofl ((one_n (by omega) (by omega)).trans e1) (by omega) x1 x2) | exact RO.ofr ((one_n (by omega) (by omega)).trans e1) (by omega) ⟨gCT, by omega, by omega⟩ | (obtain ⟨f, e2, x1, x2⟩ := o2.no (by omega); exact RO.ofl (by rw [one_o (by omega) (by omega), e2, bnd_l]) (by omega) x1 x2) | (obtain ⟨f, e3, x1, x2⟩ := o3.no (by omega); exact RO.ofl (by rw [one_o (by omega) (by omega), e2, bnd_r, e3, bnd_l]) (by omega) x1 x2) | exact RO.ofr (by rw [one_o (by omega) (by omega), e2, bnd_r, e3, bnd_r]) (by omega) ⟨gCT, by omega, by omega⟩ | (rw [one_l (by omega) (by omega) (by omega) (by omega)]; exact o4.map (fun s es h => ⟨h.1, h.2.1, by have h2 := h.2.2; have hl := lea_up es; omega⟩)) | (rw [one_l (by omega) (by omega) (by omega) (by omega)]; exact o5.map (fun s es h => ⟨h.1, h.2.1, by have h2 := h.2.2; have hl := lea_up es; omega⟩)), by omega, gWH⟩)
        by_cases c93 : (σ0 1 9).toInt = 33
        · refine lv_tableIn (off := 177) (tgt := 249) hx hb dX7_readOne_72 (by omega) (by omega) (by rw [c93]; rfl) (by decide) ?_
          refine lv_aload_n hx hb dX7_readOne_249 rfl (lv_at hl 1 rfl) ?_
          refine fg_7_2 (k := 27) hx hb hts in_X7_readOne_7 hown hK hP (by decide) (by decide) (hts _ lk_X7_readOne_19) dX7_readOne_250 ?_
          refine lv_iload_n hx hb dX7_readOne_253 rfl (lv_at hl 0 rfl) ?_
          refine r_bipush hx hb dX7_readOne_254 (by decide) (fun z94 ez94 => ?_)
          refine r_iconst hx hb dX7_readOne_256 (by decide) (fun z95 ez95 => ?_)
          refine r_cVi (k := 24) (As := [.int (σ0 1 9), .int z94, .int z95]) (rest := []) ⟨hx, hb, hml, hown, hts⟩ hK hP hN hS (c_X6_add l D cA ad hI σ16 τ16 hR (σ0 1 9) z94 z95 (by omega)) (cwV 3 hts gX7_readOne_X6_add rfl rfl rfl (by decide +kernel) ⟨by decide, by decide⟩) (rv_Sent hK hP (by decide) (by decide)) rfl hl.1 rfl (Nat.le_of_ble_eq_true rfl) dX7_readOne_257 (Nat.zero_le _) (Nat.zero_le _) (fun r96 u96 H96 locs96 hp96 hP hS => ?_)
          obtain ⟨σ96, τ96⟩ := u96
          obtain ⟨hR, f96, fL96, hq96, hp96_0⟩ : P_X6_add σ16 τ16 (σ0 1 9) z94 z95 r96 σ96 τ96 := hp96
          have hP : va_P D vwCl (gw cA ad σ96 τ96) H96 := hP
          obtain rfl := FrL.nil fL96
          have hF := hF.step f96 (by decide)
          have gCT := gCT.ag (Agr.fr f96 (by decide))
          have gWH := gWH.ag (Agr.fr f96 (by decide))
          have t97 : (σ96 1 13).toInt = (σ16 1 13).toInt := congrArg Int32.toInt (f96.at 1 13 (by decide))
          have t98 : (σ96 24 1).toInt = (σ16 24 1).toInt := congrArg Int32.toInt (f96.at 24 1 (by decide))
          have hr99 := rg_6_2 hR (k := 24) (by decide) (by decide)
          exact r_zret hx hb hr hK hP hS hk (by omega) dX7_readOne_260 (show P_X7_readOne_d5 σ0 τ0 a1 b N mo q nn nm hc r96 σ96 τ16 from ⟨hR, hF, hFL, by omega, by first | exact RO.ofr ((one_l (by omega) (by omega) (by omega) (by omega)).trans (lea_n (by omega) (by omega))) (by omega) ⟨gCT, by omega, by omega⟩ | (exfalso; omega) | exact RO.ofk (one_x (by omega)) (by omega) (by omega) (by omega) | exact RO.ofk (one_4 (by omega) (by omega)) (by omega) (by omega) (by omega) | (obtain ⟨f, e1, x1, x2⟩ := o1.no (by omega); exact RO.ofl ((one_n (by omega) (by omega)).trans e1) (by omega) x1 x2) | exact RO.ofr ((one_n (by omega) (by omega)).trans e1) (by omega) ⟨gCT, by omega, by omega⟩ | (obtain ⟨f, e2, x1, x2⟩ := o2.no (by omega); exact RO.ofl (by rw [one_o (by omega) (by omega), e2, bnd_l]) (by omega) x1 x2) | (obtain ⟨f, e3, x1, x2⟩ := o3.no (by omega); exact RO.ofl (by rw [one_o (by omega) (by omega), e2, bnd_r, e3, bnd_l]) (by omega) x1 x2) | exact RO.ofr (by rw [one_o (by omega) (by omega), e2, bnd_r, e3, bnd_r]) (by omega) ⟨gCT, by omega, by omega⟩ | (rw [one_l (by omega) (by omega) (by omega) (by omega)]; exact o4.map (fun s es h => ⟨h.1, h.2.1, by have h2 := h.2.2; have hl := lea_up es; omega⟩)) | (rw [one_l (by omega) (by omega) (by omega) (by omega)]; exact o5.map (fun s es h => ⟨h.1, h.2.1, by have h2 := h.2.2; have hl := lea_up es; omega⟩)), by omega, gWH⟩)
        by_cases c100 : (σ0 1 9).toInt = 34
        · refine lv_tableIn (off := 177) (tgt := 249) hx hb dX7_readOne_72 (by omega) (by omega) (by rw [c100]; rfl) (by decide) ?_
          refine lv_aload_n hx hb dX7_readOne_249 rfl (lv_at hl 1 rfl) ?_
          refine fg_7_2 (k := 27) hx hb hts in_X7_readOne_7 hown hK hP (by decide) (by decide) (hts _ lk_X7_readOne_19) dX7_readOne_250 ?_
          refine lv_iload_n hx hb dX7_readOne_253 rfl (lv_at hl 0 rfl) ?_
          refine r_bipush hx hb dX7_readOne_254 (by decide) (fun z101 ez101 => ?_)
          refine r_iconst hx hb dX7_readOne_256 (by decide) (fun z102 ez102 => ?_)
          refine r_cVi (k := 24) (As := [.int (σ0 1 9), .int z101, .int z102]) (rest := []) ⟨hx, hb, hml, hown, hts⟩ hK hP hN hS (c_X6_add l D cA ad hI σ16 τ16 hR (σ0 1 9) z101 z102 (by omega)) (cwV 3 hts gX7_readOne_X6_add rfl rfl rfl (by decide +kernel) ⟨by decide, by decide⟩) (rv_Sent hK hP (by decide) (by decide)) rfl hl.1 rfl (Nat.le_of_ble_eq_true rfl) dX7_readOne_257 (Nat.zero_le _) (Nat.zero_le _) (fun r103 u103 H103 locs103 hp103 hP hS => ?_)
          obtain ⟨σ103, τ103⟩ := u103
          obtain ⟨hR, f103, fL103, hq103, hp103_0⟩ : P_X6_add σ16 τ16 (σ0 1 9) z101 z102 r103 σ103 τ103 := hp103
          have hP : va_P D vwCl (gw cA ad σ103 τ103) H103 := hP
          obtain rfl := FrL.nil fL103
          have hF := hF.step f103 (by decide)
          have gCT := gCT.ag (Agr.fr f103 (by decide))
          have gWH := gWH.ag (Agr.fr f103 (by decide))
          have t104 : (σ103 1 13).toInt = (σ16 1 13).toInt := congrArg Int32.toInt (f103.at 1 13 (by decide))
          have t105 : (σ103 24 1).toInt = (σ16 24 1).toInt := congrArg Int32.toInt (f103.at 24 1 (by decide))
          have hr106 := rg_6_2 hR (k := 24) (by decide) (by decide)
          exact r_zret hx hb hr hK hP hS hk (by omega) dX7_readOne_260 (show P_X7_readOne_d5 σ0 τ0 a1 b N mo q nn nm hc r103 σ103 τ16 from ⟨hR, hF, hFL, by omega, by first | exact RO.ofr ((one_l (by omega) (by omega) (by omega) (by omega)).trans (lea_n (by omega) (by omega))) (by omega) ⟨gCT, by omega, by omega⟩ | (exfalso; omega) | exact RO.ofk (one_x (by omega)) (by omega) (by omega) (by omega) | exact RO.ofk (one_4 (by omega) (by omega)) (by omega) (by omega) (by omega) | (obtain ⟨f, e1, x1, x2⟩ := o1.no (by omega); exact RO.ofl ((one_n (by omega) (by omega)).trans e1) (by omega) x1 x2) | exact RO.ofr ((one_n (by omega) (by omega)).trans e1) (by omega) ⟨gCT, by omega, by omega⟩ | (obtain ⟨f, e2, x1, x2⟩ := o2.no (by omega); exact RO.ofl (by rw [one_o (by omega) (by omega), e2, bnd_l]) (by omega) x1 x2) | (obtain ⟨f, e3, x1, x2⟩ := o3.no (by omega); exact RO.ofl (by rw [one_o (by omega) (by omega), e2, bnd_r, e3, bnd_l]) (by omega) x1 x2) | exact RO.ofr (by rw [one_o (by omega) (by omega), e2, bnd_r, e3, bnd_r]) (by omega) ⟨gCT, by omega, by omega⟩ | (rw [one_l (by omega) (by omega) (by omega) (by omega)]; exact o4.map (fun s es h => ⟨h.1, h.2.1, by have h2 := h.2.2; have hl := lea_up es; omega⟩)) | (rw [one_l (by omega) (by omega) (by omega) (by omega)]; exact o5.map (fun s es h => ⟨h.1, h.2.1, by have h2 := h.2.2; have hl := lea_up es; omega⟩)), by omega, gWH⟩)
        by_cases c107 : (σ0 1 9).toInt = 35
        · refine lv_tableIn (off := 177) (tgt := 249) hx hb dX7_readOne_72 (by omega) (by omega) (by rw [c107]; rfl) (by decide) ?_
          refine lv_aload_n hx hb dX7_readOne_249 rfl (lv_at hl 1 rfl) ?_
          refine fg_7_2 (k := 27) hx hb hts in_X7_readOne_7 hown hK hP (by decide) (by decide) (hts _ lk_X7_readOne_19) dX7_readOne_250 ?_
          refine lv_iload_n hx hb dX7_readOne_253 rfl (lv_at hl 0 rfl) ?_
          refine r_bipush hx hb dX7_readOne_254 (by decide) (fun z108 ez108 => ?_)
          refine r_iconst hx hb dX7_readOne_256 (by decide) (fun z109 ez109 => ?_)
          refine r_cVi (k := 24) (As := [.int (σ0 1 9), .int z108, .int z109]) (rest := []) ⟨hx, hb, hml, hown, hts⟩ hK hP hN hS (c_X6_add l D cA ad hI σ16 τ16 hR (σ0 1 9) z108 z109 (by omega)) (cwV 3 hts gX7_readOne_X6_add rfl rfl rfl (by decide +kernel) ⟨by decide, by decide⟩) (rv_Sent hK hP (by decide) (by decide)) rfl hl.1 rfl (Nat.le_of_ble_eq_true rfl) dX7_readOne_257 (Nat.zero_le _) (Nat.zero_le _) (fun r110 u110 H110 locs110 hp110 hP hS => ?_)
          obtain ⟨σ110, τ110⟩ := u110
          obtain ⟨hR, f110, fL110, hq110, hp110_0⟩ : P_X6_add σ16 τ16 (σ0 1 9) z108 z109 r110 σ110 τ110 := hp110
          have hP : va_P D vwCl (gw cA ad σ110 τ110) H110 := hP
          obtain rfl := FrL.nil fL110
          have hF := hF.step f110 (by decide)
          have gCT := gCT.ag (Agr.fr f110 (by decide))
          have gWH := gWH.ag (Agr.fr f110 (by decide))
          have t111 : (σ110 1 13).toInt = (σ16 1 13).toInt := congrArg Int32.toInt (f110.at 1 13 (by decide))
          have t112 : (σ110 24 1).toInt = (σ16 24 1).toInt := congrArg Int32.toInt (f110.at 24 1 (by decide))
          have hr113 := rg_6_2 hR (k := 24) (by decide) (by decide)
          exact r_zret hx hb hr hK hP hS hk (by omega) dX7_readOne_260 (show P_X7_readOne_d5 σ0 τ0 a1 b N mo q nn nm hc r110 σ110 τ16 from ⟨hR, hF, hFL, by omega, by first | exact RO.ofr ((one_l (by omega) (by omega) (by omega) (by omega)).trans (lea_n (by omega) (by omega))) (by omega) ⟨gCT, by omega, by omega⟩ | (exfalso; omega) | exact RO.ofk (one_x (by omega)) (by omega) (by omega) (by omega) | exact RO.ofk (one_4 (by omega) (by omega)) (by omega) (by omega) (by omega) | (obtain ⟨f, e1, x1, x2⟩ := o1.no (by omega); exact RO.ofl ((one_n (by omega) (by omega)).trans e1) (by omega) x1 x2) | exact RO.ofr ((one_n (by omega) (by omega)).trans e1) (by omega) ⟨gCT, by omega, by omega⟩ | (obtain ⟨f, e2, x1, x2⟩ := o2.no (by omega); exact RO.ofl (by rw [one_o (by omega) (by omega), e2, bnd_l]) (by omega) x1 x2) | (obtain ⟨f, e3, x1, x2⟩ := o3.no (by omega); exact RO.ofl (by rw [one_o (by omega) (by omega), e2, bnd_r, e3, bnd_l]) (by omega) x1 x2) | exact RO.ofr (by rw [one_o (by omega) (by omega), e2, bnd_r, e3, bnd_r]) (by omega) ⟨gCT, by omega, by omega⟩ | (rw [one_l (by omega) (by omega) (by omega) (by omega)]; exact o4.map (fun s es h => ⟨h.1, h.2.1, by have h2 := h.2.2; have hl := lea_up es; omega⟩)) | (rw [one_l (by omega) (by omega) (by omega) (by omega)]; exact o5.map (fun s es h => ⟨h.1, h.2.1, by have h2 := h.2.2; have hl := lea_up es; omega⟩)), by omega, gWH⟩)
        by_cases c114 : (σ0 1 9).toInt = 36
        · refine lv_tableIn (off := 177) (tgt := 249) hx hb dX7_readOne_72 (by omega) (by omega) (by rw [c114]; rfl) (by decide) ?_
          refine lv_aload_n hx hb dX7_readOne_249 rfl (lv_at hl 1 rfl) ?_
          refine fg_7_2 (k := 27) hx hb hts in_X7_readOne_7 hown hK hP (by decide) (by decide) (hts _ lk_X7_readOne_19) dX7_readOne_250 ?_
          refine lv_iload_n hx hb dX7_readOne_253 rfl (lv_at hl 0 rfl) ?_
          refine r_bipush hx hb dX7_readOne_254 (by decide) (fun z115 ez115 => ?_)
          refine r_iconst hx hb dX7_readOne_256 (by decide) (fun z116 ez116 => ?_)
          refine r_cVi (k := 24) (As := [.int (σ0 1 9), .int z115, .int z116]) (rest := []) ⟨hx, hb, hml, hown, hts⟩ hK hP hN hS (c_X6_add l D cA ad hI σ16 τ16 hR (σ0 1 9) z115 z116 (by omega)) (cwV 3 hts gX7_readOne_X6_add rfl rfl rfl (by decide +kernel) ⟨by decide, by decide⟩) (rv_Sent hK hP (by decide) (by decide)) rfl hl.1 rfl (Nat.le_of_ble_eq_true rfl) dX7_readOne_257 (Nat.zero_le _) (Nat.zero_le _) (fun r117 u117 H117 locs117 hp117 hP hS => ?_)
          obtain ⟨σ117, τ117⟩ := u117
          obtain ⟨hR, f117, fL117, hq117, hp117_0⟩ : P_X6_add σ16 τ16 (σ0 1 9) z115 z116 r117 σ117 τ117 := hp117
          have hP : va_P D vwCl (gw cA ad σ117 τ117) H117 := hP
          obtain rfl := FrL.nil fL117
          have hF := hF.step f117 (by decide)
          have gCT := gCT.ag (Agr.fr f117 (by decide))
          have gWH := gWH.ag (Agr.fr f117 (by decide))
          have t118 : (σ117 1 13).toInt = (σ16 1 13).toInt := congrArg Int32.toInt (f117.at 1 13 (by decide))
          have t119 : (σ117 24 1).toInt = (σ16 24 1).toInt := congrArg Int32.toInt (f117.at 24 1 (by decide))
          have hr120 := rg_6_2 hR (k := 24) (by decide) (by decide)
          exact r_zret hx hb hr hK hP hS hk (by omega) dX7_readOne_260 (show P_X7_readOne_d5 σ0 τ0 a1 b N mo q nn nm hc r117 σ117 τ16 from ⟨hR, hF, hFL, by omega, by first | exact RO.ofr ((one_l (by omega) (by omega) (by omega) (by omega)).trans (lea_n (by omega) (by omega))) (by omega) ⟨gCT, by omega, by omega⟩ | (exfalso; omega) | exact RO.ofk (one_x (by omega)) (by omega) (by omega) (by omega) | exact RO.ofk (one_4 (by omega) (by omega)) (by omega) (by omega) (by omega) | (obtain ⟨f, e1, x1, x2⟩ := o1.no (by omega); exact RO.ofl ((one_n (by omega) (by omega)).trans e1) (by omega) x1 x2) | exact RO.ofr ((one_n (by omega) (by omega)).trans e1) (by omega) ⟨gCT, by omega, by omega⟩ | (obtain ⟨f, e2, x1, x2⟩ := o2.no (by omega); exact RO.ofl (by rw [one_o (by omega) (by omega), e2, bnd_l]) (by omega) x1 x2) | (obtain ⟨f, e3, x1, x2⟩ := o3.no (by omega); exact RO.ofl (by rw [one_o (by omega) (by omega), e2, bnd_r, e3, bnd_l]) (by omega) x1 x2) | exact RO.ofr (by rw [one_o (by omega) (by omega), e2, bnd_r, e3, bnd_r]) (by omega) ⟨gCT, by omega, by omega⟩ | (rw [one_l (by omega) (by omega) (by omega) (by omega)]; exact o4.map (fun s es h => ⟨h.1, h.2.1, by have h2 := h.2.2; have hl := lea_up es; omega⟩)) | (rw [one_l (by omega) (by omega) (by omega) (by omega)]; exact o5.map (fun s es h => ⟨h.1, h.2.1, by have h2 := h.2.2; have hl := lea_up es; omega⟩)), by omega, gWH⟩)
        by_cases c121 : (σ0 1 9).toInt = 37
        · refine lv_tableIn (off := 177) (tgt := 249) hx hb dX7_readOne_72 (by omega) (by omega) (by rw [c121]; rfl) (by decide) ?_
          refine lv_aload_n hx hb dX7_readOne_249 rfl (lv_at hl 1 rfl) ?_
          refine fg_7_2 (k := 27) hx hb hts in_X7_readOne_7 hown hK hP (by decide) (by decide) (hts _ lk_X7_readOne_19) dX7_readOne_250 ?_
          refine lv_iload_n hx hb dX7_readOne_253 rfl (lv_at hl 0 rfl) ?_
          refine r_bipush hx hb dX7_readOne_254 (by decide) (fun z122 ez122 => ?_)
          refine r_iconst hx hb dX7_readOne_256 (by decide) (fun z123 ez123 => ?_)
          refine r_cVi (k := 24) (As := [.int (σ0 1 9), .int z122, .int z123]) (rest := []) ⟨hx, hb, hml, hown, hts⟩ hK hP hN hS (c_X6_add l D cA ad hI σ16 τ16 hR (σ0 1 9) z122 z123 (by omega)) (cwV 3 hts gX7_readOne_X6_add rfl rfl rfl (by decide +kernel) ⟨by decide, by decide⟩) (rv_Sent hK hP (by decide) (by decide)) rfl hl.1 rfl (Nat.le_of_ble_eq_true rfl) dX7_readOne_257 (Nat.zero_le _) (Nat.zero_le _) (fun r124 u124 H124 locs124 hp124 hP hS => ?_)
          obtain ⟨σ124, τ124⟩ := u124
          obtain ⟨hR, f124, fL124, hq124, hp124_0⟩ : P_X6_add σ16 τ16 (σ0 1 9) z122 z123 r124 σ124 τ124 := hp124
          have hP : va_P D vwCl (gw cA ad σ124 τ124) H124 := hP
          obtain rfl := FrL.nil fL124
          have hF := hF.step f124 (by decide)
          have gCT := gCT.ag (Agr.fr f124 (by decide))
          have gWH := gWH.ag (Agr.fr f124 (by decide))
          have t125 : (σ124 1 13).toInt = (σ16 1 13).toInt := congrArg Int32.toInt (f124.at 1 13 (by decide))
          have t126 : (σ124 24 1).toInt = (σ16 24 1).toInt := congrArg Int32.toInt (f124.at 24 1 (by decide))
          have hr127 := rg_6_2 hR (k := 24) (by decide) (by decide)
          exact r_zret hx hb hr hK hP hS hk (by omega) dX7_readOne_260 (show P_X7_readOne_d5 σ0 τ0 a1 b N mo q nn nm hc r124 σ124 τ16 from ⟨hR, hF, hFL, by omega, by first | exact RO.ofr ((one_l (by omega) (by omega) (by omega) (by omega)).trans (lea_n (by omega) (by omega))) (by omega) ⟨gCT, by omega, by omega⟩ | (exfalso; omega) | exact RO.ofk (one_x (by omega)) (by omega) (by omega) (by omega) | exact RO.ofk (one_4 (by omega) (by omega)) (by omega) (by omega) (by omega) | (obtain ⟨f, e1, x1, x2⟩ := o1.no (by omega); exact RO.ofl ((one_n (by omega) (by omega)).trans e1) (by omega) x1 x2) | exact RO.ofr ((one_n (by omega) (by omega)).trans e1) (by omega) ⟨gCT, by omega, by omega⟩ | (obtain ⟨f, e2, x1, x2⟩ := o2.no (by omega); exact RO.ofl (by rw [one_o (by omega) (by omega), e2, bnd_l]) (by omega) x1 x2) | (obtain ⟨f, e3, x1, x2⟩ := o3.no (by omega); exact RO.ofl (by rw [one_o (by omega) (by omega), e2, bnd_r, e3, bnd_l]) (by omega) x1 x2) | exact RO.ofr (by rw [one_o (by omega) (by omega), e2, bnd_r, e3, bnd_r]) (by omega) ⟨gCT, by omega, by omega⟩ | (rw [one_l (by omega) (by omega) (by omega) (by omega)]; exact o4.map (fun s es h => ⟨h.1, h.2.1, by have h2 := h.2.2; have hl := lea_up es; omega⟩)) | (rw [one_l (by omega) (by omega) (by omega) (by omega)]; exact o5.map (fun s es h => ⟨h.1, h.2.1, by have h2 := h.2.2; have hl := lea_up es; omega⟩)), by omega, gWH⟩)
        by_cases c128 : (σ0 1 9).toInt = 38
        · refine lv_tableIn (off := 177) (tgt := 249) hx hb dX7_readOne_72 (by omega) (by omega) (by rw [c128]; rfl) (by decide) ?_
          refine lv_aload_n hx hb dX7_readOne_249 rfl (lv_at hl 1 rfl) ?_
          refine fg_7_2 (k := 27) hx hb hts in_X7_readOne_7 hown hK hP (by decide) (by decide) (hts _ lk_X7_readOne_19) dX7_readOne_250 ?_
          refine lv_iload_n hx hb dX7_readOne_253 rfl (lv_at hl 0 rfl) ?_
          refine r_bipush hx hb dX7_readOne_254 (by decide) (fun z129 ez129 => ?_)
          refine r_iconst hx hb dX7_readOne_256 (by decide) (fun z130 ez130 => ?_)
          refine r_cVi (k := 24) (As := [.int (σ0 1 9), .int z129, .int z130]) (rest := []) ⟨hx, hb, hml, hown, hts⟩ hK hP hN hS (c_X6_add l D cA ad hI σ16 τ16 hR (σ0 1 9) z129 z130 (by omega)) (cwV 3 hts gX7_readOne_X6_add rfl rfl rfl (by decide +kernel) ⟨by decide, by decide⟩) (rv_Sent hK hP (by decide) (by decide)) rfl hl.1 rfl (Nat.le_of_ble_eq_true rfl) dX7_readOne_257 (Nat.zero_le _) (Nat.zero_le _) (fun r131 u131 H131 locs131 hp131 hP hS => ?_)
          obtain ⟨σ131, τ131⟩ := u131
          obtain ⟨hR, f131, fL131, hq131, hp131_0⟩ : P_X6_add σ16 τ16 (σ0 1 9) z129 z130 r131 σ131 τ131 := hp131
          have hP : va_P D vwCl (gw cA ad σ131 τ131) H131 := hP
          obtain rfl := FrL.nil fL131
          have hF := hF.step f131 (by decide)
          have gCT := gCT.ag (Agr.fr f131 (by decide))
          have gWH := gWH.ag (Agr.fr f131 (by decide))
          have t132 : (σ131 1 13).toInt = (σ16 1 13).toInt := congrArg Int32.toInt (f131.at 1 13 (by decide))
          have t133 : (σ131 24 1).toInt = (σ16 24 1).toInt := congrArg Int32.toInt (f131.at 24 1 (by decide))
          have hr134 := rg_6_2 hR (k := 24) (by decide) (by decide)
          exact r_zret hx hb hr hK hP hS hk (by omega) dX7_readOne_260 (show P_X7_readOne_d5 σ0 τ0 a1 b N mo q nn nm hc r131 σ131 τ16 from ⟨hR, hF, hFL, by omega, by first | exact RO.ofr ((one_l (by omega) (by omega) (by omega) (by omega)).trans (lea_n (by omega) (by omega))) (by omega) ⟨gCT, by omega, by omega⟩ | (exfalso; omega) | exact RO.ofk (one_x (by omega)) (by omega) (by omega) (by omega) | exact RO.ofk (one_4 (by omega) (by omega)) (by omega) (by omega) (by omega) | (obtain ⟨f, e1, x1, x2⟩ := o1.no (by omega); exact RO.ofl ((one_n (by omega) (by omega)).trans e1) (by omega) x1 x2) | exact RO.ofr ((one_n (by omega) (by omega)).trans e1) (by omega) ⟨gCT, by omega, by omega⟩ | (obtain ⟨f, e2, x1, x2⟩ := o2.no (by omega); exact RO.ofl (by rw [one_o (by omega) (by omega), e2, bnd_l]) (by omega) x1 x2) | (obtain ⟨f, e3, x1, x2⟩ := o3.no (by omega); exact RO.ofl (by rw [one_o (by omega) (by omega), e2, bnd_r, e3, bnd_l]) (by omega) x1 x2) | exact RO.ofr (by rw [one_o (by omega) (by omega), e2, bnd_r, e3, bnd_r]) (by omega) ⟨gCT, by omega, by omega⟩ | (rw [one_l (by omega) (by omega) (by omega) (by omega)]; exact o4.map (fun s es h => ⟨h.1, h.2.1, by have h2 := h.2.2; have hl := lea_up es; omega⟩)) | (rw [one_l (by omega) (by omega) (by omega) (by omega)]; exact o5.map (fun s es h => ⟨h.1, h.2.1, by have h2 := h.2.2; have hl := lea_up es; omega⟩)), by omega, gWH⟩)
        by_cases c135 : (σ0 1 9).toInt = 39
        · refine lv_tableIn (off := 177) (tgt := 249) hx hb dX7_readOne_72 (by omega) (by omega) (by rw [c135]; rfl) (by decide) ?_
          refine lv_aload_n hx hb dX7_readOne_249 rfl (lv_at hl 1 rfl) ?_
          refine fg_7_2 (k := 27) hx hb hts in_X7_readOne_7 hown hK hP (by decide) (by decide) (hts _ lk_X7_readOne_19) dX7_readOne_250 ?_
          refine lv_iload_n hx hb dX7_readOne_253 rfl (lv_at hl 0 rfl) ?_
          refine r_bipush hx hb dX7_readOne_254 (by decide) (fun z136 ez136 => ?_)
          refine r_iconst hx hb dX7_readOne_256 (by decide) (fun z137 ez137 => ?_)
          refine r_cVi (k := 24) (As := [.int (σ0 1 9), .int z136, .int z137]) (rest := []) ⟨hx, hb, hml, hown, hts⟩ hK hP hN hS (c_X6_add l D cA ad hI σ16 τ16 hR (σ0 1 9) z136 z137 (by omega)) (cwV 3 hts gX7_readOne_X6_add rfl rfl rfl (by decide +kernel) ⟨by decide, by decide⟩) (rv_Sent hK hP (by decide) (by decide)) rfl hl.1 rfl (Nat.le_of_ble_eq_true rfl) dX7_readOne_257 (Nat.zero_le _) (Nat.zero_le _) (fun r138 u138 H138 locs138 hp138 hP hS => ?_)
          obtain ⟨σ138, τ138⟩ := u138
          obtain ⟨hR, f138, fL138, hq138, hp138_0⟩ : P_X6_add σ16 τ16 (σ0 1 9) z136 z137 r138 σ138 τ138 := hp138
          have hP : va_P D vwCl (gw cA ad σ138 τ138) H138 := hP
          obtain rfl := FrL.nil fL138
          have hF := hF.step f138 (by decide)
          have gCT := gCT.ag (Agr.fr f138 (by decide))
          have gWH := gWH.ag (Agr.fr f138 (by decide))
          have t139 : (σ138 1 13).toInt = (σ16 1 13).toInt := congrArg Int32.toInt (f138.at 1 13 (by decide))
          have t140 : (σ138 24 1).toInt = (σ16 24 1).toInt := congrArg Int32.toInt (f138.at 24 1 (by decide))
          have hr141 := rg_6_2 hR (k := 24) (by decide) (by decide)
          exact r_zret hx hb hr hK hP hS hk (by omega) dX7_readOne_260 (show P_X7_readOne_d5 σ0 τ0 a1 b N mo q nn nm hc r138 σ138 τ16 from ⟨hR, hF, hFL, by omega, by first | exact RO.ofr ((one_l (by omega) (by omega) (by omega) (by omega)).trans (lea_n (by omega) (by omega))) (by omega) ⟨gCT, by omega, by omega⟩ | (exfalso; omega) | exact RO.ofk (one_x (by omega)) (by omega) (by omega) (by omega) | exact RO.ofk (one_4 (by omega) (by omega)) (by omega) (by omega) (by omega) | (obtain ⟨f, e1, x1, x2⟩ := o1.no (by omega); exact RO.ofl ((one_n (by omega) (by omega)).trans e1) (by omega) x1 x2) | exact RO.ofr ((one_n (by omega) (by omega)).trans e1) (by omega) ⟨gCT, by omega, by omega⟩ | (obtain ⟨f, e2, x1, x2⟩ := o2.no (by omega); exact RO.ofl (by rw [one_o (by omega) (by omega), e2, bnd_l]) (by omega) x1 x2) | (obtain ⟨f, e3, x1, x2⟩ := o3.no (by omega); exact RO.ofl (by rw [one_o (by omega) (by omega), e2, bnd_r, e3, bnd_l]) (by omega) x1 x2) | exact RO.ofr (by rw [one_o (by omega) (by omega), e2, bnd_r, e3, bnd_r]) (by omega) ⟨gCT, by omega, by omega⟩ | (rw [one_l (by omega) (by omega) (by omega) (by omega)]; exact o4.map (fun s es h => ⟨h.1, h.2.1, by have h2 := h.2.2; have hl := lea_up es; omega⟩)) | (rw [one_l (by omega) (by omega) (by omega) (by omega)]; exact o5.map (fun s es h => ⟨h.1, h.2.1, by have h2 := h.2.2; have hl := lea_up es; omega⟩)), by omega, gWH⟩)
        by_cases c142 : (σ0 1 9).toInt = 40
        · refine lv_tableIn (off := 177) (tgt := 249) hx hb dX7_readOne_72 (by omega) (by omega) (by rw [c142]; rfl) (by decide) ?_
          refine lv_aload_n hx hb dX7_readOne_249 rfl (lv_at hl 1 rfl) ?_
          refine fg_7_2 (k := 27) hx hb hts in_X7_readOne_7 hown hK hP (by decide) (by decide) (hts _ lk_X7_readOne_19) dX7_readOne_250 ?_
          refine lv_iload_n hx hb dX7_readOne_253 rfl (lv_at hl 0 rfl) ?_
          refine r_bipush hx hb dX7_readOne_254 (by decide) (fun z143 ez143 => ?_)
          refine r_iconst hx hb dX7_readOne_256 (by decide) (fun z144 ez144 => ?_)
          refine r_cVi (k := 24) (As := [.int (σ0 1 9), .int z143, .int z144]) (rest := []) ⟨hx, hb, hml, hown, hts⟩ hK hP hN hS (c_X6_add l D cA ad hI σ16 τ16 hR (σ0 1 9) z143 z144 (by omega)) (cwV 3 hts gX7_readOne_X6_add rfl rfl rfl (by decide +kernel) ⟨by decide, by decide⟩) (rv_Sent hK hP (by decide) (by decide)) rfl hl.1 rfl (Nat.le_of_ble_eq_true rfl) dX7_readOne_257 (Nat.zero_le _) (Nat.zero_le _) (fun r145 u145 H145 locs145 hp145 hP hS => ?_)
          obtain ⟨σ145, τ145⟩ := u145
          obtain ⟨hR, f145, fL145, hq145, hp145_0⟩ : P_X6_add σ16 τ16 (σ0 1 9) z143 z144 r145 σ145 τ145 := hp145
          have hP : va_P D vwCl (gw cA ad σ145 τ145) H145 := hP
          obtain rfl := FrL.nil fL145
          have hF := hF.step f145 (by decide)
          have gCT := gCT.ag (Agr.fr f145 (by decide))
          have gWH := gWH.ag (Agr.fr f145 (by decide))
          have t146 : (σ145 1 13).toInt = (σ16 1 13).toInt := congrArg Int32.toInt (f145.at 1 13 (by decide))
          have t147 : (σ145 24 1).toInt = (σ16 24 1).toInt := congrArg Int32.toInt (f145.at 24 1 (by decide))
          have hr148 := rg_6_2 hR (k := 24) (by decide) (by decide)
          exact r_zret hx hb hr hK hP hS hk (by omega) dX7_readOne_260 (show P_X7_readOne_d5 σ0 τ0 a1 b N mo q nn nm hc r145 σ145 τ16 from ⟨hR, hF, hFL, by omega, by first | exact RO.ofr ((one_l (by omega) (by omega) (by omega) (by omega)).trans (lea_n (by omega) (by omega))) (by omega) ⟨gCT, by omega, by omega⟩ | (exfalso; omega) | exact RO.ofk (one_x (by omega)) (by omega) (by omega) (by omega) | exact RO.ofk (one_4 (by omega) (by omega)) (by omega) (by omega) (by omega) | (obtain ⟨f, e1, x1, x2⟩ := o1.no (by omega); exact RO.ofl ((one_n (by omega) (by omega)).trans e1) (by omega) x1 x2) | exact RO.ofr ((one_n (by omega) (by omega)).trans e1) (by omega) ⟨gCT, by omega, by omega⟩ | (obtain ⟨f, e2, x1, x2⟩ := o2.no (by omega); exact RO.ofl (by rw [one_o (by omega) (by omega), e2, bnd_l]) (by omega) x1 x2) | (obtain ⟨f, e3, x1, x2⟩ := o3.no (by omega); exact RO.ofl (by rw [one_o (by omega) (by omega), e2, bnd_r, e3, bnd_l]) (by omega) x1 x2) | exact RO.ofr (by rw [one_o (by omega) (by omega), e2, bnd_r, e3, bnd_r]) (by omega) ⟨gCT, by omega, by omega⟩ | (rw [one_l (by omega) (by omega) (by omega) (by omega)]; exact o4.map (fun s es h => ⟨h.1, h.2.1, by have h2 := h.2.2; have hl := lea_up es; omega⟩)) | (rw [one_l (by omega) (by omega) (by omega) (by omega)]; exact o5.map (fun s es h => ⟨h.1, h.2.1, by have h2 := h.2.2; have hl := lea_up es; omega⟩)), by omega, gWH⟩)
        by_cases c149 : (σ0 1 9).toInt = 41
        · refine lv_tableIn (off := 177) (tgt := 249) hx hb dX7_readOne_72 (by omega) (by omega) (by rw [c149]; rfl) (by decide) ?_
          refine lv_aload_n hx hb dX7_readOne_249 rfl (lv_at hl 1 rfl) ?_
          refine fg_7_2 (k := 27) hx hb hts in_X7_readOne_7 hown hK hP (by decide) (by decide) (hts _ lk_X7_readOne_19) dX7_readOne_250 ?_
          refine lv_iload_n hx hb dX7_readOne_253 rfl (lv_at hl 0 rfl) ?_
          refine r_bipush hx hb dX7_readOne_254 (by decide) (fun z150 ez150 => ?_)
          refine r_iconst hx hb dX7_readOne_256 (by decide) (fun z151 ez151 => ?_)
          refine r_cVi (k := 24) (As := [.int (σ0 1 9), .int z150, .int z151]) (rest := []) ⟨hx, hb, hml, hown, hts⟩ hK hP hN hS (c_X6_add l D cA ad hI σ16 τ16 hR (σ0 1 9) z150 z151 (by omega)) (cwV 3 hts gX7_readOne_X6_add rfl rfl rfl (by decide +kernel) ⟨by decide, by decide⟩) (rv_Sent hK hP (by decide) (by decide)) rfl hl.1 rfl (Nat.le_of_ble_eq_true rfl) dX7_readOne_257 (Nat.zero_le _) (Nat.zero_le _) (fun r152 u152 H152 locs152 hp152 hP hS => ?_)
          obtain ⟨σ152, τ152⟩ := u152
          obtain ⟨hR, f152, fL152, hq152, hp152_0⟩ : P_X6_add σ16 τ16 (σ0 1 9) z150 z151 r152 σ152 τ152 := hp152
          have hP : va_P D vwCl (gw cA ad σ152 τ152) H152 := hP
          obtain rfl := FrL.nil fL152
          have hF := hF.step f152 (by decide)
          have gCT := gCT.ag (Agr.fr f152 (by decide))
          have gWH := gWH.ag (Agr.fr f152 (by decide))
          have t153 : (σ152 1 13).toInt = (σ16 1 13).toInt := congrArg Int32.toInt (f152.at 1 13 (by decide))
          have t154 : (σ152 24 1).toInt = (σ16 24 1).toInt := congrArg Int32.toInt (f152.at 24 1 (by decide))
          have hr155 := rg_6_2 hR (k := 24) (by decide) (by decide)
          exact r_zret hx hb hr hK hP hS hk (by omega) dX7_readOne_260 (show P_X7_readOne_d5 σ0 τ0 a1 b N mo q nn nm hc r152 σ152 τ16 from ⟨hR, hF, hFL, by omega, by first | exact RO.ofr ((one_l (by omega) (by omega) (by omega) (by omega)).trans (lea_n (by omega) (by omega))) (by omega) ⟨gCT, by omega, by omega⟩ | (exfalso; omega) | exact RO.ofk (one_x (by omega)) (by omega) (by omega) (by omega) | exact RO.ofk (one_4 (by omega) (by omega)) (by omega) (by omega) (by omega) | (obtain ⟨f, e1, x1, x2⟩ := o1.no (by omega); exact RO.ofl ((one_n (by omega) (by omega)).trans e1) (by omega) x1 x2) | exact RO.ofr ((one_n (by omega) (by omega)).trans e1) (by omega) ⟨gCT, by omega, by omega⟩ | (obtain ⟨f, e2, x1, x2⟩ := o2.no (by omega); exact RO.ofl (by rw [one_o (by omega) (by omega), e2, bnd_l]) (by omega) x1 x2) | (obtain ⟨f, e3, x1, x2⟩ := o3.no (by omega); exact RO.ofl (by rw [one_o (by omega) (by omega), e2, bnd_r, e3, bnd_l]) (by omega) x1 x2) | exact RO.ofr (by rw [one_o (by omega) (by omega), e2, bnd_r, e3, bnd_r]) (by omega) ⟨gCT, by omega, by omega⟩ | (rw [one_l (by omega) (by omega) (by omega) (by omega)]; exact o4.map (fun s es h => ⟨h.1, h.2.1, by have h2 := h.2.2; have hl := lea_up es; omega⟩)) | (rw [one_l (by omega) (by omega) (by omega) (by omega)]; exact o5.map (fun s es h => ⟨h.1, h.2.1, by have h2 := h.2.2; have hl := lea_up es; omega⟩)), by omega, gWH⟩)
        by_cases c156 : (σ0 1 9).toInt = 42
        · refine lv_tableIn (off := 177) (tgt := 249) hx hb dX7_readOne_72 (by omega) (by omega) (by rw [c156]; rfl) (by decide) ?_
          refine lv_aload_n hx hb dX7_readOne_249 rfl (lv_at hl 1 rfl) ?_
          refine fg_7_2 (k := 27) hx hb hts in_X7_readOne_7 hown hK hP (by decide) (by decide) (hts _ lk_X7_readOne_19) dX7_readOne_250 ?_
          refine lv_iload_n hx hb dX7_readOne_253 rfl (lv_at hl 0 rfl) ?_
          refine r_bipush hx hb dX7_readOne_254 (by decide) (fun z157 ez157 => ?_)
          refine r_iconst hx hb dX7_readOne_256 (by decide) (fun z158 ez158 => ?_)
          refine r_cVi (k := 24) (As := [.int (σ0 1 9), .int z157, .int z158]) (rest := []) ⟨hx, hb, hml, hown, hts⟩ hK hP hN hS (c_X6_add l D cA ad hI σ16 τ16 hR (σ0 1 9) z157 z158 (by omega)) (cwV 3 hts gX7_readOne_X6_add rfl rfl rfl (by decide +kernel) ⟨by decide, by decide⟩) (rv_Sent hK hP (by decide) (by decide)) rfl hl.1 rfl (Nat.le_of_ble_eq_true rfl) dX7_readOne_257 (Nat.zero_le _) (Nat.zero_le _) (fun r159 u159 H159 locs159 hp159 hP hS => ?_)
          obtain ⟨σ159, τ159⟩ := u159
          obtain ⟨hR, f159, fL159, hq159, hp159_0⟩ : P_X6_add σ16 τ16 (σ0 1 9) z157 z158 r159 σ159 τ159 := hp159
          have hP : va_P D vwCl (gw cA ad σ159 τ159) H159 := hP
          obtain rfl := FrL.nil fL159
          have hF := hF.step f159 (by decide)
          have gCT := gCT.ag (Agr.fr f159 (by decide))
          have gWH := gWH.ag (Agr.fr f159 (by decide))
          have t160 : (σ159 1 13).toInt = (σ16 1 13).toInt := congrArg Int32.toInt (f159.at 1 13 (by decide))
          have t161 : (σ159 24 1).toInt = (σ16 24 1).toInt := congrArg Int32.toInt (f159.at 24 1 (by decide))
          have hr162 := rg_6_2 hR (k := 24) (by decide) (by decide)
          exact r_zret hx hb hr hK hP hS hk (by omega) dX7_readOne_260 (show P_X7_readOne_d5 σ0 τ0 a1 b N mo q nn nm hc r159 σ159 τ16 from ⟨hR, hF, hFL, by omega, by first | exact RO.ofr ((one_l (by omega) (by omega) (by omega) (by omega)).trans (lea_n (by omega) (by omega))) (by omega) ⟨gCT, by omega, by omega⟩ | (exfalso; omega) | exact RO.ofk (one_x (by omega)) (by omega) (by omega) (by omega) | exact RO.ofk (one_4 (by omega) (by omega)) (by omega) (by omega) (by omega) | (obtain ⟨f, e1, x1, x2⟩ := o1.no (by omega); exact RO.ofl ((one_n (by omega) (by omega)).trans e1) (by omega) x1 x2) | exact RO.ofr ((one_n (by omega) (by omega)).trans e1) (by omega) ⟨gCT, by omega, by omega⟩ | (obtain ⟨f, e2, x1, x2⟩ := o2.no (by omega); exact RO.ofl (by rw [one_o (by omega) (by omega), e2, bnd_l]) (by omega) x1 x2) | (obtain ⟨f, e3, x1, x2⟩ := o3.no (by omega); exact RO.ofl (by rw [one_o (by omega) (by omega), e2, bnd_r, e3, bnd_l]) (by omega) x1 x2) | exact RO.ofr (by rw [one_o (by omega) (by omega), e2, bnd_r, e3, bnd_r]) (by omega) ⟨gCT, by omega, by omega⟩ | (rw [one_l (by omega) (by omega) (by omega) (by omega)]; exact o4.map (fun s es h => ⟨h.1, h.2.1, by have h2 := h.2.2; have hl := lea_up es; omega⟩)) | (rw [one_l (by omega) (by omega) (by omega) (by omega)]; exact o5.map (fun s es h => ⟨h.1, h.2.1, by have h2 := h.2.2; have hl := lea_up es; omega⟩)), by omega, gWH⟩)
        by_cases c163 : (σ0 1 9).toInt = 43
        · refine lv_tableIn (off := 177) (tgt := 249) hx hb dX7_readOne_72 (by omega) (by omega) (by rw [c163]; rfl) (by decide) ?_
          refine lv_aload_n hx hb dX7_readOne_249 rfl (lv_at hl 1 rfl) ?_
          refine fg_7_2 (k := 27) hx hb hts in_X7_readOne_7 hown hK hP (by decide) (by decide) (hts _ lk_X7_readOne_19) dX7_readOne_250 ?_
          refine lv_iload_n hx hb dX7_readOne_253 rfl (lv_at hl 0 rfl) ?_
          refine r_bipush hx hb dX7_readOne_254 (by decide) (fun z164 ez164 => ?_)
          refine r_iconst hx hb dX7_readOne_256 (by decide) (fun z165 ez165 => ?_)
          refine r_cVi (k := 24) (As := [.int (σ0 1 9), .int z164, .int z165]) (rest := []) ⟨hx, hb, hml, hown, hts⟩ hK hP hN hS (c_X6_add l D cA ad hI σ16 τ16 hR (σ0 1 9) z164 z165 (by omega)) (cwV 3 hts gX7_readOne_X6_add rfl rfl rfl (by decide +kernel) ⟨by decide, by decide⟩) (rv_Sent hK hP (by decide) (by decide)) rfl hl.1 rfl (Nat.le_of_ble_eq_true rfl) dX7_readOne_257 (Nat.zero_le _) (Nat.zero_le _) (fun r166 u166 H166 locs166 hp166 hP hS => ?_)
          obtain ⟨σ166, τ166⟩ := u166
          obtain ⟨hR, f166, fL166, hq166, hp166_0⟩ : P_X6_add σ16 τ16 (σ0 1 9) z164 z165 r166 σ166 τ166 := hp166
          have hP : va_P D vwCl (gw cA ad σ166 τ166) H166 := hP
          obtain rfl := FrL.nil fL166
          have hF := hF.step f166 (by decide)
          have gCT := gCT.ag (Agr.fr f166 (by decide))
          have gWH := gWH.ag (Agr.fr f166 (by decide))
          have t167 : (σ166 1 13).toInt = (σ16 1 13).toInt := congrArg Int32.toInt (f166.at 1 13 (by decide))
          have t168 : (σ166 24 1).toInt = (σ16 24 1).toInt := congrArg Int32.toInt (f166.at 24 1 (by decide))
          have hr169 := rg_6_2 hR (k := 24) (by decide) (by decide)
          exact r_zret hx hb hr hK hP hS hk (by omega) dX7_readOne_260 (show P_X7_readOne_d5 σ0 τ0 a1 b N mo q nn nm hc r166 σ166 τ16 from ⟨hR, hF, hFL, by omega, by first | exact RO.ofr ((one_l (by omega) (by omega) (by omega) (by omega)).trans (lea_n (by omega) (by omega))) (by omega) ⟨gCT, by omega, by omega⟩ | (exfalso; omega) | exact RO.ofk (one_x (by omega)) (by omega) (by omega) (by omega) | exact RO.ofk (one_4 (by omega) (by omega)) (by omega) (by omega) (by omega) | (obtain ⟨f, e1, x1, x2⟩ := o1.no (by omega); exact RO.ofl ((one_n (by omega) (by omega)).trans e1) (by omega) x1 x2) | exact RO.ofr ((one_n (by omega) (by omega)).trans e1) (by omega) ⟨gCT, by omega, by omega⟩ | (obtain ⟨f, e2, x1, x2⟩ := o2.no (by omega); exact RO.ofl (by rw [one_o (by omega) (by omega), e2, bnd_l]) (by omega) x1 x2) | (obtain ⟨f, e3, x1, x2⟩ := o3.no (by omega); exact RO.ofl (by rw [one_o (by omega) (by omega), e2, bnd_r, e3, bnd_l]) (by omega) x1 x2) | exact RO.ofr (by rw [one_o (by omega) (by omega), e2, bnd_r, e3, bnd_r]) (by omega) ⟨gCT, by omega, by omega⟩ | (rw [one_l (by omega) (by omega) (by omega) (by omega)]; exact o4.map (fun s es h => ⟨h.1, h.2.1, by have h2 := h.2.2; have hl := lea_up es; omega⟩)) | (rw [one_l (by omega) (by omega) (by omega) (by omega)]; exact o5.map (fun s es h => ⟨h.1, h.2.1, by have h2 := h.2.2; have hl := lea_up es; omega⟩)), by omega, gWH⟩)
        by_cases c170 : (σ0 1 9).toInt = 44
        · refine lv_tableIn (off := 138) (tgt := 210) hx hb dX7_readOne_72 (by omega) (by omega) (by rw [c170]; rfl) (by decide) ?_
          refine lv_aload_n hx hb dX7_readOne_210 rfl (lv_at hl 1 rfl) ?_
          refine lv_iload_n hx hb dX7_readOne_211 rfl (lv_at hl 2 rfl) ?_
          refine r_iconst hx hb dX7_readOne_212 (by decide) (fun z171 ez171 => ?_)
          refine r_iadd hx hb dX7_readOne_213 (by omega) (fun z172 ez172 => ?_)
          refine r_cVi (k := 27) (As := [.int z172]) (rest := []) ⟨hx, hb, hml, hown, hts⟩ hK hP hN hS (c_X7_readCond_d6 l D cA ad hI σ16 τ16 hR z172 b N mo _ (nn + 1) nm hc (by omega) (by omega) (by omega) (by omega) gCT gWH) (cwV 1 hts gX7_readOne_X7_readCond rfl rfl rfl (by decide +kernel) ⟨by decide, by decide⟩) (rv_SText hK hP (by decide) (by decide)) rfl hl.1 rfl (Nat.le_of_ble_eq_true rfl) dX7_readOne_214 (Nat.zero_le _) (Nat.zero_le _) (fun r173 u173 H173 locs173 hp173 hP hS => ?_)
          obtain ⟨σ173, τ173⟩ := u173
          obtain ⟨hR, f173, fL173, hq173, hp173_0, hp173_1, gnWH⟩ : P_X7_readCond_d6 σ16 τ16 z172 b N mo _ (nn + 1) nm hc r173 σ173 τ173 := hp173
          have o2 := hp173_0
          have hP : va_P D vwCl (gw cA ad σ173 τ173) H173 := hP
          have hFL := hFL.step fL173 (by decide)
          have gWH := gWH.agL (AgrL.fr fL173 (by decide))
          have hF := hF.step f173 (by decide)
          have gWH := gWH.ag (Agr.fr f173 (by decide))
          have hr174 := rg_6_1 hR (k := 24) (by decide) (by decide)
          have hr175 := rg_6_2 hR (k := 24) (by decide) (by decide)
          refine r_if_eq (tgt := 236) hx hb dX7_readOne_217 (by decide) (fun c176 => ?_) (fun c176 => ?_)
          · clear hp173_1
            refine r_iconst hx hb dX7_readOne_236 (by decide) (fun z177 ez177 => ?_)
            exact r_zret hx hb hr hK hP hS hk (by omega) dX7_readOne_237 (show P_X7_readOne_d5 σ0 τ0 a1 b N mo q nn nm hc z177 σ173 τ173 from ⟨hR, hF, hFL, by omega, by first | exact RO.ofr ((one_l (by omega) (by omega) (by omega) (by omega)).trans (lea_n (by omega) (by omega))) (by omega) ⟨gCT, by omega, by omega⟩ | (exfalso; omega) | exact RO.ofk (one_x (by omega)) (by omega) (by omega) (by omega) | exact RO.ofk (one_4 (by omega) (by omega)) (by omega) (by omega) (by omega) | (obtain ⟨f, e1, x1, x2⟩ := o1.no (by omega); exact RO.ofl ((one_n (by omega) (by omega)).trans e1) (by omega) x1 x2) | exact RO.ofr ((one_n (by omega) (by omega)).trans e1) (by omega) ⟨gCT, by omega, by omega⟩ | (obtain ⟨f, e2, x1, x2⟩ := o2.no (by omega); exact RO.ofl (by rw [one_o (by omega) (by omega), e2, bnd_l]) (by omega) x1 x2) | (obtain ⟨f, e3, x1, x2⟩ := o3.no (by omega); exact RO.ofl (by rw [one_o (by omega) (by omega), e2, bnd_r, e3, bnd_l]) (by omega) x1 x2) | exact RO.ofr (by rw [one_o (by omega) (by omega), e2, bnd_r, e3, bnd_r]) (by omega) ⟨gCT, by omega, by omega⟩ | (rw [one_l (by omega) (by omega) (by omega) (by omega)]; exact o4.map (fun s es h => ⟨h.1, h.2.1, by have h2 := h.2.2; have hl := lea_up es; omega⟩)) | (rw [one_l (by omega) (by omega) (by omega) (by omega)]; exact o5.map (fun s es h => ⟨h.1, h.2.1, by have h2 := h.2.2; have hl := lea_up es; omega⟩)), by omega, gWH⟩)
          · replace hp173_1 := hp173_1.resolve_left (by omega)
            obtain ⟨s2, e2, gCT, hs1, hs2⟩ := o2.ye (by omega)
            have hu2 := con_up (one_up _) _ _ _ e2
            refine lv_aload_n hx hb dX7_readOne_220 rfl (lv_at hl 1 rfl) ?_
            refine fg_7_0 (k := 27) hx hb hts in_X7_readOne_7 hown hK hP (by decide) (by decide) (hts _ lk_X7_readOne_9) dX7_readOne_221 ?_
            refine r_bipush hx hb dX7_readOne_224 (by decide) (fun z178 ez178 => ?_)
            refine r_cVi (k := 1) (As := [.int z178]) (rest := []) ⟨hx, hb, hml, hown, hts⟩ hK hP hN hS (c_X8_take_v l D cA ad hI σ173 τ173 hR z178 b N mo _ 45 (by omega) (by omega) gCT) (cwV 1 hts gX7_readOne_X8_take rfl rfl rfl (by decide +kernel) ⟨by decide, by decide⟩) (rv_Tape hK hP (by decide) (by decide)) rfl hl.1 rfl (Nat.le_of_ble_eq_true rfl) dX7_readOne_226 (Nat.zero_le _) (Nat.zero_le _) (fun r179 u179 H179 locs179 hp179 hP hS => ?_)
            obtain ⟨σ179, τ179⟩ := u179
            obtain ⟨hR, f179, fL179, hq179, hp179_0, hp179_1⟩ : P_X8_take_v σ173 τ173 z178 b N mo _ 45 r179 σ179 τ179 := hp179
            have o3 := hp179_0
            have hP : va_P D vwCl (gw cA ad σ179 τ179) H179 := hP
            have hFL := hFL.step fL179 (by decide)
            have gWH := gWH.agL (AgrL.fr fL179 (by decide))
            have hF := hF.step f179 (by decide)
            have gWH := gWH.ag (Agr.fr f179 (by decide))
            have t180 : (σ179 24 1).toInt = (σ173 24 1).toInt := congrArg Int32.toInt (f179.at 24 1 (by decide))
            have t181 : (σ179 24 2).toInt = (σ173 24 2).toInt := congrArg Int32.toInt (f179.at 24 2 (by decide))
            refine r_if_eq (tgt := 236) hx hb dX7_readOne_229 (by decide) (fun c182 => ?_) (fun c182 => ?_)
            · clear hp179_1
              refine r_iconst hx hb dX7_readOne_236 (by decide) (fun z183 ez183 => ?_)
              exact r_zret hx hb hr hK hP hS hk (by omega) dX7_readOne_237 (show P_X7_readOne_d5 σ0 τ0 a1 b N mo q nn nm hc z183 σ179 τ179 from ⟨hR, hF, hFL, by omega, by first | exact RO.ofr ((one_l (by omega) (by omega) (by omega) (by omega)).trans (lea_n (by omega) (by omega))) (by omega) ⟨gCT, by omega, by omega⟩ | (exfalso; omega) | exact RO.ofk (one_x (by omega)) (by omega) (by omega) (by omega) | exact RO.ofk (one_4 (by omega) (by omega)) (by omega) (by omega) (by omega) | (obtain ⟨f, e1, x1, x2⟩ := o1.no (by omega); exact RO.ofl ((one_n (by omega) (by omega)).trans e1) (by omega) x1 x2) | exact RO.ofr ((one_n (by omega) (by omega)).trans e1) (by omega) ⟨gCT, by omega, by omega⟩ | (obtain ⟨f, e2, x1, x2⟩ := o2.no (by omega); exact RO.ofl (by rw [one_o (by omega) (by omega), e2, bnd_l]) (by omega) x1 x2) | (obtain ⟨f, e3, x1, x2⟩ := o3.no (by omega); exact RO.ofl (by rw [one_o (by omega) (by omega), e2, bnd_r, e3, bnd_l]) (by omega) x1 x2) | exact RO.ofr (by rw [one_o (by omega) (by omega), e2, bnd_r, e3, bnd_r]) (by omega) ⟨gCT, by omega, by omega⟩ | (rw [one_l (by omega) (by omega) (by omega) (by omega)]; exact o4.map (fun s es h => ⟨h.1, h.2.1, by have h2 := h.2.2; have hl := lea_up es; omega⟩)) | (rw [one_l (by omega) (by omega) (by omega) (by omega)]; exact o5.map (fun s es h => ⟨h.1, h.2.1, by have h2 := h.2.2; have hl := lea_up es; omega⟩)), by omega, gWH⟩)
            · replace hp179_1 := hp179_1.resolve_left (by omega)
              obtain ⟨q3, e3, gCT⟩ := o3.ye (by omega)
              refine r_iconst hx hb dX7_readOne_232 (by decide) (fun z184 ez184 => ?_)
              refine lv_goto (tgt := 237) hx hb dX7_readOne_233 (by decide) ?_
              exact r_zret hx hb hr hK hP hS hk (by omega) dX7_readOne_237 (show P_X7_readOne_d5 σ0 τ0 a1 b N mo q nn nm hc z184 σ179 τ179 from ⟨hR, hF, hFL, by omega, by first | exact RO.ofr ((one_l (by omega) (by omega) (by omega) (by omega)).trans (lea_n (by omega) (by omega))) (by omega) ⟨gCT, by omega, by omega⟩ | (exfalso; omega) | exact RO.ofk (one_x (by omega)) (by omega) (by omega) (by omega) | exact RO.ofk (one_4 (by omega) (by omega)) (by omega) (by omega) (by omega) | (obtain ⟨f, e1, x1, x2⟩ := o1.no (by omega); exact RO.ofl ((one_n (by omega) (by omega)).trans e1) (by omega) x1 x2) | exact RO.ofr ((one_n (by omega) (by omega)).trans e1) (by omega) ⟨gCT, by omega, by omega⟩ | (obtain ⟨f, e2, x1, x2⟩ := o2.no (by omega); exact RO.ofl (by rw [one_o (by omega) (by omega), e2, bnd_l]) (by omega) x1 x2) | (obtain ⟨f, e3, x1, x2⟩ := o3.no (by omega); exact RO.ofl (by rw [one_o (by omega) (by omega), e2, bnd_r, e3, bnd_l]) (by omega) x1 x2) | exact RO.ofr (by rw [one_o (by omega) (by omega), e2, bnd_r, e3, bnd_r]) (by omega) ⟨gCT, by omega, by omega⟩ | (rw [one_l (by omega) (by omega) (by omega) (by omega)]; exact o4.map (fun s es h => ⟨h.1, h.2.1, by have h2 := h.2.2; have hl := lea_up es; omega⟩)) | (rw [one_l (by omega) (by omega) (by omega) (by omega)]; exact o5.map (fun s es h => ⟨h.1, h.2.1, by have h2 := h.2.2; have hl := lea_up es; omega⟩)), by omega, gWH⟩)
        refine lv_tableOut (tgt := 249) hx hb dX7_readOne_72 (by omega) (by decide) ?_
        refine lv_aload_n hx hb dX7_readOne_249 rfl (lv_at hl 1 rfl) ?_
        refine fg_7_2 (k := 27) hx hb hts in_X7_readOne_7 hown hK hP (by decide) (by decide) (hts _ lk_X7_readOne_19) dX7_readOne_250 ?_
        refine lv_iload_n hx hb dX7_readOne_253 rfl (lv_at hl 0 rfl) ?_
        refine r_bipush hx hb dX7_readOne_254 (by decide) (fun z185 ez185 => ?_)
        refine r_iconst hx hb dX7_readOne_256 (by decide) (fun z186 ez186 => ?_)
        refine r_cVi (k := 24) (As := [.int (σ0 1 9), .int z185, .int z186]) (rest := []) ⟨hx, hb, hml, hown, hts⟩ hK hP hN hS (c_X6_add l D cA ad hI σ16 τ16 hR (σ0 1 9) z185 z186 (by omega)) (cwV 3 hts gX7_readOne_X6_add rfl rfl rfl (by decide +kernel) ⟨by decide, by decide⟩) (rv_Sent hK hP (by decide) (by decide)) rfl hl.1 rfl (Nat.le_of_ble_eq_true rfl) dX7_readOne_257 (Nat.zero_le _) (Nat.zero_le _) (fun r187 u187 H187 locs187 hp187 hP hS => ?_)
        obtain ⟨σ187, τ187⟩ := u187
        obtain ⟨hR, f187, fL187, hq187, hp187_0⟩ : P_X6_add σ16 τ16 (σ0 1 9) z185 z186 r187 σ187 τ187 := hp187
        have hP : va_P D vwCl (gw cA ad σ187 τ187) H187 := hP
        obtain rfl := FrL.nil fL187
        have hF := hF.step f187 (by decide)
        have gCT := gCT.ag (Agr.fr f187 (by decide))
        have gWH := gWH.ag (Agr.fr f187 (by decide))
        have t188 : (σ187 1 13).toInt = (σ16 1 13).toInt := congrArg Int32.toInt (f187.at 1 13 (by decide))
        have t189 : (σ187 24 1).toInt = (σ16 24 1).toInt := congrArg Int32.toInt (f187.at 24 1 (by decide))
        have hr190 := rg_6_2 hR (k := 24) (by decide) (by decide)
        exact r_zret hx hb hr hK hP hS hk (by omega) dX7_readOne_260 (show P_X7_readOne_d5 σ0 τ0 a1 b N mo q nn nm hc r187 σ187 τ16 from ⟨hR, hF, hFL, by omega, by first | exact RO.ofr ((one_l (by omega) (by omega) (by omega) (by omega)).trans (lea_n (by omega) (by omega))) (by omega) ⟨gCT, by omega, by omega⟩ | (exfalso; omega) | exact RO.ofk (one_x (by omega)) (by omega) (by omega) (by omega) | exact RO.ofk (one_4 (by omega) (by omega)) (by omega) (by omega) (by omega) | (obtain ⟨f, e1, x1, x2⟩ := o1.no (by omega); exact RO.ofl ((one_n (by omega) (by omega)).trans e1) (by omega) x1 x2) | exact RO.ofr ((one_n (by omega) (by omega)).trans e1) (by omega) ⟨gCT, by omega, by omega⟩ | (obtain ⟨f, e2, x1, x2⟩ := o2.no (by omega); exact RO.ofl (by rw [one_o (by omega) (by omega), e2, bnd_l]) (by omega) x1 x2) | (obtain ⟨f, e3, x1, x2⟩ := o3.no (by omega); exact RO.ofl (by rw [one_o (by omega) (by omega), e2, bnd_r, e3, bnd_l]) (by omega) x1 x2) | exact RO.ofr (by rw [one_o (by omega) (by omega), e2, bnd_r, e3, bnd_r]) (by omega) ⟨gCT, by omega, by omega⟩ | (rw [one_l (by omega) (by omega) (by omega) (by omega)]; exact o4.map (fun s es h => ⟨h.1, h.2.1, by have h2 := h.2.2; have hl := lea_up es; omega⟩)) | (rw [one_l (by omega) (by omega) (by omega) (by omega)]; exact o5.map (fun s es h => ⟨h.1, h.2.1, by have h2 := h.2.2; have hl := lea_up es; omega⟩)), by omega, gWH⟩)
      · exfalso; omega
  · refine lv_aload_n hx hb dX7_readOne_15 rfl (lv_at hl 1 rfl) ?_
    refine fg_7_0 (k := 27) hx hb hts in_X7_readOne_7 hown hK hP (by decide) (by decide) (hts _ lk_X7_readOne_9) dX7_readOne_16 ?_
    refine r_iconst hx hb dX7_readOne_19 (by decide) (fun z191 ez191 => ?_)
    refine r_cVi (k := 1) (As := [.int z191]) (rest := []) ⟨hx, hb, hml, hown, hts⟩ hK hP hN hS (c_X8_blame_v l D cA ad hI σ0 τ0 hR z191 _ _ _ _ (by omega) gCT) (cwV 1 hts gX7_readOne_X8_blame rfl rfl rfl (by decide +kernel) ⟨by decide, by decide⟩) (rv_Tape hK hP (by decide) (by decide)) rfl hl.1 rfl (Nat.le_of_ble_eq_true rfl) dX7_readOne_20 (Nat.zero_le _) (Nat.zero_le _) (fun r192 u192 H192 locs192 hp192 hP hS => ?_)
    obtain ⟨σ192, τ192⟩ := u192
    obtain ⟨hR, f192, fL192, hq192, hp192_0, hp192_1, hp192_2, gnCT⟩ : P_X8_blame_v σ0 τ0 z191 _ _ _ _ r192 σ192 τ192 := hp192
    have hP : va_P D vwCl (gw cA ad σ192 τ192) H192 := hP
    obtain rfl := FrL.nil fL192
    have hF := hF.step f192 (by decide)
    have gCT := gCT.ag (Agr.fr f192 (by decide))
    have gWH := gWH.ag (Agr.fr f192 (by decide))
    have t193 : (σ192 24 1).toInt = (σ0 24 1).toInt := congrArg Int32.toInt (f192.at 24 1 (by decide))
    have t194 : (σ192 24 2).toInt = (σ0 24 2).toInt := congrArg Int32.toInt (f192.at 24 2 (by decide))
    exact r_zret hx hb hr hK hP hS hk (by omega) dX7_readOne_23 (show P_X7_readOne_d5 σ0 τ0 a1 b N mo q nn nm hc r192 σ192 τ0 from ⟨hR, hF, hFL, by omega, by first | exact RO.ofr ((one_l (by omega) (by omega) (by omega) (by omega)).trans (lea_n (by omega) (by omega))) (by omega) ⟨gCT, by omega, by omega⟩ | (exfalso; omega) | exact RO.ofk (one_x (by omega)) (by omega) (by omega) (by omega) | exact RO.ofk (one_4 (by omega) (by omega)) (by omega) (by omega) (by omega) | (obtain ⟨f, e1, x1, x2⟩ := o1.no (by omega); exact RO.ofl ((one_n (by omega) (by omega)).trans e1) (by omega) x1 x2) | exact RO.ofr ((one_n (by omega) (by omega)).trans e1) (by omega) ⟨gCT, by omega, by omega⟩ | (obtain ⟨f, e2, x1, x2⟩ := o2.no (by omega); exact RO.ofl (by rw [one_o (by omega) (by omega), e2, bnd_l]) (by omega) x1 x2) | (obtain ⟨f, e3, x1, x2⟩ := o3.no (by omega); exact RO.ofl (by rw [one_o (by omega) (by omega), e2, bnd_r, e3, bnd_l]) (by omega) x1 x2) | exact RO.ofr (by rw [one_o (by omega) (by omega), e2, bnd_r, e3, bnd_r]) (by omega) ⟨gCT, by omega, by omega⟩ | (rw [one_l (by omega) (by omega) (by omega) (by omega)]; exact o4.map (fun s es h => ⟨h.1, h.2.1, by have h2 := h.2.2; have hl := lea_up es; omega⟩)) | (rw [one_l (by omega) (by omega) (by omega) (by omega)]; exact o5.map (fun s es h => ⟨h.1, h.2.1, by have h2 := h.2.2; have hl := lea_up es; omega⟩)), by omega, gWH⟩)
abbrev L_X7_readAll_d5 : List Rc := [(1, 1, 7, 10), (372, 372, 0, 39), (376, 376, 0, 39), (380, 380, 0, 39), (24, 24, 1, 2), (1, 1, 12, 14)]
abbrev LL_X7_readAll_d5 : List Rc := [(1, 1, 11, 11)]
def P_X7_readAll_d5 (σ0 : Nat → Nat → Int32) (τ0 : Nat → Nat → Int64) (a1 : Int32) (b : Nat → Int) (N : Nat) (mo : Nat) (q : Nat) (nn : Nat) (nm : Nat → Int) (hc : Nat) (r : Int32) (σ : Nat → Nat → Int32) (τ : Nat → Nat → Int64) : Prop := Rg σ ∧ Fr L_X7_readAll_d5 σ0 σ ∧ FrL LL_X7_readAll_d5 τ0 τ ∧ (0 ≤ r.toInt ∧ r.toInt ≤ 1) ∧ (RO r σ (allP b N mo (fun q nn => oneP b N mo nm hc 4 q nn) q nn) (fun s => CT σ τ b N mo s.1 ∧ (σ 24 1).toInt = (s.2 : Int) ∧ (σ 24 2).toInt + 2 * (nn : Int) + 1 ≤ (σ0 24 2).toInt + 2 * (s.2 : Int))) ∧ (r.toInt = 0 ∨ (σ 1 13).toInt = (σ0 1 13).toInt) ∧ WH σ τ nm hc
def J_X7_readAll_d5_12 (p : Program) (l : Launch) (e : Env) (s : State) (m : MethodId) (args : Array Value) (below : List Frame) (meth : Method) (c : Code) (D : va_G) (cA : Nat → ClassId) (ad : Nat → Nat) (σ0 : Nat → Nat → Int32) (τ0 : Nat → Nat → Int64) (a1 : Int32) (b : Nat → Int) (N : Nat) (mo : Nat) (q : Nat) (nn : Nat) (nm : Nat → Int) (hc : Nat) (n : Nat) : Prop := ∀ (σ : Nat → Nat → Int32) (τ : Nat → Nat → Int64) (H : Heap) (locs : List Loc) (x2 : Int32) (fu : Nat) (q1 : Nat) (n1 : Nat) (ls : Array Slot), Rg σ → Fr L_X7_readAll_d5 σ0 σ → FrL LL_X7_readAll_d5 τ0 τ → va_P D vwCl (gw cA ad σ τ) H → va_S (AA ad) s.heap H locs → (0 ≤ x2.toInt ∧ x2.toInt ≤ 200) → (0 ≤ (σ 24 1).toInt ∧ (σ 24 1).toInt ≤ 20) → (0 ≤ (σ 24 2).toInt ∧ (σ 24 2).toInt ≤ 40) → (allP b N mo (fun q nn => oneP b N mo nm hc 4 q nn) q nn = lopP b N mo 21 (fun q nn => oneP b N mo nm hc 4 q nn) fu q1 n1) → ((σ 24 1).toInt = (n1 : Int)) → (0 ≤ (σ 24 2).toInt ∧ (σ 24 2).toInt + 2 * (nn : Int) + 1 ≤ (σ0 24 2).toInt + 2 * (n1 : Int)) → ((fu : Int) + x2.toInt = 200) → (n1 ≤ 20) → ((σ 1 13).toInt = (σ0 1 13).toInt) → (CT σ τ b N mo q1) → (WH σ τ nm hc) → (CT σ τ b N mo q1) → lv_has ls 3 [(0, .ref (ad 27)), (1, .int a1), (2, .int x2)] → 2 * (200 - x2.toInt) + 1 < (n : Int) → W p l e ({ frames := 14, cells := 0, slots := 0, locals := 307 } : Room) s m args below meth c H locs 0 0 (MQ below (va_Qi (fun (r : Int32) (u : SS) => P_X7_readAll_d5 σ0 τ0 a1 b N mo q nn nm hc r u.1 u.2) (WB D cA ad) (AA ad)) args s 0 0 (AA ad)) (F0 m 12 ls [])
set_option maxHeartbeats 4000000 in
theorem B_X7_readAll_d5_12 (p : Program) (l : Launch) (e : Env) (s : State) (m : MethodId) (args : Array Value) (below : List Frame) (meth : Method) (c : Code) (D : va_G) (cA : Nat → ClassId) (ad : Nat → Nat) (σ0 : Nat → Nat → Int32) (τ0 : Nat → Nat → Int64) (a1 : Int32) (b : Nat → Int) (N : Nat) (mo : Nat) (q : Nat) (nn : Nat) (nm : Nat → Int) (hc : Nat) (n : Nat) (C : Cy p s m args meth c cX7_readAll 3 wsX7_readAll RX7 D cA ad (some .boolean)) (ha1 : 5 ≤ a1.toInt ∧ a1.toInt ≤ 5) (hpre0 : (σ0 24 1).toInt = (nn : Int)) (hpre1 : 0 ≤ (σ0 24 2).toInt ∧ (σ0 24 2).toInt ≤ 2 * (nn : Int)) (hpre2 : nn ≤ 20) (gCT0 : CT σ0 τ0 b N mo q) (gWH0 : WH σ0 τ0 nm hc) (K12 : J_X7_readAll_d5_12 p l e s m args below meth c D cA ad σ0 τ0 a1 b N mo q nn nm hc n) : J_X7_readAll_d5_12 p l e s m args below meth c D cA ad σ0 τ0 a1 b N mo q nn nm hc (n + 1) := by
  obtain ⟨hx, hb, hml, hown, hts, hK, hk, hr, hI, hN⟩ := C
  intro σ τ H locs x2 fu q1 n1 ls hR hF hFL hP hS hc0 hc1 hc2 iv ib2 ib3 ifu in20 ik13 gCT gWH gCT hl hm
  refine lv_iload_n hx hb dX7_readAll_12 rfl (lv_at hl 2 rfl) ?_
  refine r_sipush hx hb dX7_readAll_13 (by decide) (fun z1 ez1 => ?_)
  refine r_icmp_ge (tgt := 68) hx hb dX7_readAll_16 (by decide) (fun c2 => ?_) (fun c2 => ?_)
  · refine r_iconst hx hb dX7_readAll_68 (by decide) (fun z3 ez3 => ?_)
    exact r_zret hx hb hr hK hP hS hk (by omega) dX7_readAll_69 (show P_X7_readAll_d5 σ0 τ0 a1 b N mo q nn nm hc z3 σ τ from ⟨hR, hF, hFL, by omega, by first | (exfalso; omega) | (obtain ⟨f, e1, x1, x2⟩ := o1.no (by omega); exact RO.ofl (all_f e1) (by omega) x1 x2) | exact RO.ofr (by rw [iv, lop_e (by omega)]) (by omega) ⟨gCT, by omega, by omega⟩ | (obtain ⟨f, e2, x1, x2⟩ := o2.no (by omega); exact RO.ofl (by rw [iv, lop_f (f := (fun q nn => oneP b N mo nm hc 4 q nn)) (by omega) (by omega) e2]) (by omega) x1 x2) | (exfalso; omega), by omega, gWH⟩)
  · have htk := gCT.tk
    refine lv_aload_n hx hb dX7_readAll_19 rfl (lv_at hl 0 rfl) ?_
    refine fg_7_0 (k := 27) hx hb hts in_X7_readAll_7 hown hK hP (by decide) (by decide) (hts _ lk_X7_readAll_9) dX7_readAll_20 ?_
    refine fgN_8_9 (k := 1) hx hb hts in_X7_readAll_8 hown hK hP (by decide) (by decide) (hN.use nw_7_32) dX7_readAll_23 ?_
    refine r_bipush hx hb dX7_readAll_26 (by decide) (fun z4 ez4 => ?_)
    refine r_icmp_ne (tgt := 68) hx hb dX7_readAll_28 (by decide) (fun c5 => ?_) (fun c5 => ?_)
    · refine r_iconst hx hb dX7_readAll_68 (by decide) (fun z6 ez6 => ?_)
      exact r_zret hx hb hr hK hP hS hk (by omega) dX7_readAll_69 (show P_X7_readAll_d5 σ0 τ0 a1 b N mo q nn nm hc z6 σ τ from ⟨hR, hF, hFL, by omega, by first | (exfalso; omega) | (obtain ⟨f, e1, x1, x2⟩ := o1.no (by omega); exact RO.ofl (all_f e1) (by omega) x1 x2) | exact RO.ofr (by rw [iv, lop_e (by omega)]) (by omega) ⟨gCT, by omega, by omega⟩ | (obtain ⟨f, e2, x1, x2⟩ := o2.no (by omega); exact RO.ofl (by rw [iv, lop_f (f := (fun q nn => oneP b N mo nm hc 4 q nn)) (by omega) (by omega) e2]) (by omega) x1 x2) | (exfalso; omega), by omega, gWH⟩)
    · refine lv_aload_n hx hb dX7_readAll_31 rfl (lv_at hl 0 rfl) ?_
      refine fg_7_0 (k := 27) hx hb hts in_X7_readAll_7 hown hK hP (by decide) (by decide) (hts _ lk_X7_readAll_9) dX7_readAll_32 ?_
      refine r_cVv (k := 1) (As := []) (rest := []) ⟨hx, hb, hml, hown, hts⟩ hK hP hN hS (c_X8_next_v l D cA ad hI σ τ hR _ _ _ _ gCT) (cwV 0 hts gX7_readAll_X8_next rfl rfl rfl (by decide +kernel) ⟨by decide, by decide⟩) (rv_Tape hK hP (by decide) (by decide)) rfl hl.1 rfl (Nat.le_of_ble_eq_true rfl) dX7_readAll_35 (Nat.zero_le _) (Nat.zero_le _) (fun u7 H7 locs7 hp7 hP hS => ?_)
      obtain ⟨σ7, τ7⟩ := u7
      obtain ⟨hR, f7, fL7, hp7_0⟩ : P_X8_next_v σ τ _ _ _ _ σ7 τ7 := hp7
      have hP : va_P D vwCl (gw cA ad σ7 τ7) H7 := hP
      have hFL := hFL.step fL7 (by decide)
      have gWH := gWH.agL (AgrL.fr fL7 (by decide))
      have hF := hF.step f7 (by decide)
      have gWH := gWH.ag (Agr.fr f7 (by decide))
      have t8 : (σ7 24 1).toInt = (σ 24 1).toInt := congrArg Int32.toInt (f7.at 24 1 (by decide))
      have t9 : (σ7 24 2).toInt = (σ 24 2).toInt := congrArg Int32.toInt (f7.at 24 2 (by decide))
      have t10 : (σ7 1 13).toInt = (σ 1 13).toInt := congrArg Int32.toInt (f7.at 1 13 (by decide))
      have gCT := hp7_0
      refine lv_aload_n hx hb dX7_readAll_38 rfl (lv_at hl 0 rfl) ?_
      refine lv_iload_n hx hb dX7_readAll_39 rfl (lv_at hl 1 rfl) ?_
      refine r_cVi (k := 27) (As := [.int a1]) (rest := []) ⟨hx, hb, hml, hown, hts⟩ hK hP hN hS (c_X7_readOne_d5 l D cA ad hI σ7 τ7 hR a1 b N mo _ n1 nm hc (by omega) (by omega) (by omega) (by omega) gCT gWH) (cwV 1 hts gX7_readAll_X7_readOne rfl rfl rfl (by decide +kernel) ⟨by decide, by decide⟩) (rv_SText hK hP (by decide) (by decide)) rfl hl.1 rfl (Nat.le_of_ble_eq_true rfl) dX7_readAll_40 (Nat.zero_le _) (Nat.zero_le _) (fun r11 u11 H11 locs11 hp11 hP hS => ?_)
      obtain ⟨σ11, τ11⟩ := u11
      obtain ⟨hR, f11, fL11, hq11, hp11_0, hp11_1, gnWH⟩ : P_X7_readOne_d5 σ7 τ7 a1 b N mo _ n1 nm hc r11 σ11 τ11 := hp11
      have o2 := hp11_0
      have hP : va_P D vwCl (gw cA ad σ11 τ11) H11 := hP
      have hFL := hFL.step fL11 (by decide)
      have gWH := gWH.agL (AgrL.fr fL11 (by decide))
      have hF := hF.step f11 (by decide)
      have gWH := gWH.ag (Agr.fr f11 (by decide))
      have hr12 := rg_6_1 hR (k := 24) (by decide) (by decide)
      have hr13 := rg_6_2 hR (k := 24) (by decide) (by decide)
      refine r_if_eq (tgt := 60) hx hb dX7_readAll_43 (by decide) (fun c14 => ?_) (fun c14 => ?_)
      · clear hp11_1
        refine r_iconst hx hb dX7_readAll_60 (by decide) (fun z15 ez15 => ?_)
        exact r_zret hx hb hr hK hP hS hk (by omega) dX7_readAll_61 (show P_X7_readAll_d5 σ0 τ0 a1 b N mo q nn nm hc z15 σ11 τ11 from ⟨hR, hF, hFL, by omega, by first | (exfalso; omega) | (obtain ⟨f, e1, x1, x2⟩ := o1.no (by omega); exact RO.ofl (all_f e1) (by omega) x1 x2) | exact RO.ofr (by rw [iv, lop_e (by omega)]) (by omega) ⟨gCT, by omega, by omega⟩ | (obtain ⟨f, e2, x1, x2⟩ := o2.no (by omega); exact RO.ofl (by rw [iv, lop_f (f := (fun q nn => oneP b N mo nm hc 4 q nn)) (by omega) (by omega) e2]) (by omega) x1 x2) | (exfalso; omega), by omega, gWH⟩)
      · replace hp11_1 := hp11_1.resolve_left (by omega)
        obtain ⟨s2, e2, gCT, hs3, hs4⟩ := o2.ye (by omega)
        have hu2 := one_up _ _ _ _ e2
        refine lv_aload_n hx hb dX7_readAll_46 rfl (lv_at hl 0 rfl) ?_
        refine fg_7_2 (k := 27) hx hb hts in_X7_readAll_7 hown hK hP (by decide) (by decide) (hts _ lk_X7_readAll_19) dX7_readAll_47 ?_
        refine r_bipush hx hb dX7_readAll_50 (by decide) (fun z16 ez16 => ?_)
        refine r_iconst hx hb dX7_readAll_52 (by decide) (fun z17 ez17 => ?_)
        refine r_iconst hx hb dX7_readAll_53 (by decide) (fun z18 ez18 => ?_)
        refine r_cVi (k := 24) (As := [.int z16, .int z17, .int z18]) (rest := []) ⟨hx, hb, hml, hown, hts⟩ hK hP hN hS (c_X6_add l D cA ad hI σ11 τ11 hR z16 z17 z18 (by omega)) (cwV 3 hts gX7_readAll_X6_add rfl rfl rfl (by decide +kernel) ⟨by decide, by decide⟩) (rv_Sent hK hP (by decide) (by decide)) rfl hl.1 rfl (Nat.le_of_ble_eq_true rfl) dX7_readAll_54 (Nat.zero_le _) (Nat.zero_le _) (fun r19 u19 H19 locs19 hp19 hP hS => ?_)
        obtain ⟨σ19, τ19⟩ := u19
        obtain ⟨hR, f19, fL19, hq19, hp19_0⟩ : P_X6_add σ11 τ11 z16 z17 z18 r19 σ19 τ19 := hp19
        have hP : va_P D vwCl (gw cA ad σ19 τ19) H19 := hP
        obtain rfl := FrL.nil fL19
        have hF := hF.step f19 (by decide)
        have gCT := gCT.ag (Agr.fr f19 (by decide))
        have gWH := gWH.ag (Agr.fr f19 (by decide))
        have t20 : (σ19 24 1).toInt = (σ11 24 1).toInt := congrArg Int32.toInt (f19.at 24 1 (by decide))
        have t21 : (σ19 1 13).toInt = (σ11 1 13).toInt := congrArg Int32.toInt (f19.at 1 13 (by decide))
        have hr22 := rg_6_2 hR (k := 24) (by decide) (by decide)
        refine r_if_ne (tgt := 62) hx hb dX7_readAll_57 (by decide) (fun c23 => ?_) (fun c23 => ?_)
        · refine r_iinc (k := 2) (lv1 := fun z24 => [(2, .int z24), (0, .ref (ad 27)), (1, .int a1)]) hx hb dX7_readAll_62 hl rfl (by decide) (fun _ => rfl) (by decide) (by omega) (fun z24 ls ez24 hl => ?_)
          refine lv_goto (tgt := 12) hx hb dX7_readAll_65 (by decide) ?_
          exact K12 σ19 τ11 H19 locs19 z24 (fu - 1) _ _ ls hR hF hFL hP hS (by omega) (by omega) (by omega) (by first | exact all_s e1 | rw [iv, lop_s (f := (fun q nn => oneP b N mo nm hc 4 q nn)) (by omega) (by omega) e2]) (by omega) (by omega) (by omega) (by omega) (by omega) gCT gWH gCT (lv_sub hl [1, 2, 0] rfl) (by omega)
        · refine r_iconst hx hb dX7_readAll_60 (by decide) (fun z25 ez25 => ?_)
          exact r_zret hx hb hr hK hP hS hk (by omega) dX7_readAll_61 (show P_X7_readAll_d5 σ0 τ0 a1 b N mo q nn nm hc z25 σ19 τ11 from ⟨hR, hF, hFL, by omega, by first | (exfalso; omega) | (obtain ⟨f, e1, x1, x2⟩ := o1.no (by omega); exact RO.ofl (all_f e1) (by omega) x1 x2) | exact RO.ofr (by rw [iv, lop_e (by omega)]) (by omega) ⟨gCT, by omega, by omega⟩ | (obtain ⟨f, e2, x1, x2⟩ := o2.no (by omega); exact RO.ofl (by rw [iv, lop_f (f := (fun q nn => oneP b N mo nm hc 4 q nn)) (by omega) (by omega) e2]) (by omega) x1 x2) | (exfalso; omega), by omega, gWH⟩)
theorem A_X7_readAll_d5 (p : Program) (l : Launch) (e : Env) (s : State) (m : MethodId) (args : Array Value) (below : List Frame) (meth : Method) (c : Code) (D : va_G) (cA : Nat → ClassId) (ad : Nat → Nat) (σ0 : Nat → Nat → Int32) (τ0 : Nat → Nat → Int64) (a1 : Int32) (b : Nat → Int) (N : Nat) (mo : Nat) (q : Nat) (nn : Nat) (nm : Nat → Int) (hc : Nat) (C : Cy p s m args meth c cX7_readAll 3 wsX7_readAll RX7 D cA ad (some .boolean)) (ha1 : 5 ≤ a1.toInt ∧ a1.toInt ≤ 5) (hpre0 : (σ0 24 1).toInt = (nn : Int)) (hpre1 : 0 ≤ (σ0 24 2).toInt ∧ (σ0 24 2).toInt ≤ 2 * (nn : Int)) (hpre2 : nn ≤ 20) (gCT0 : CT σ0 τ0 b N mo q) (gWH0 : WH σ0 τ0 nm hc) : ∀ n : Nat, J_X7_readAll_d5_12 p l e s m args below meth c D cA ad σ0 τ0 a1 b N mo q nn nm hc n := by
  intro n
  induction n with
  | zero =>
    exact (by intro σ τ H locs x2 fu q1 n1 ls hR hF hFL hP hS hc0 hc1 hc2 iv ib2 ib3 ifu in20 ik13 gCT gWH gCT hl hm; exfalso; omega)
  | succ n ih =>
    exact B_X7_readAll_d5_12 p l e s m args below meth c D cA ad σ0 τ0 a1 b N mo q nn nm hc n C ha1 hpre0 hpre1 hpre2 gCT0 gWH0 ih
set_option maxHeartbeats 4000000 in
theorem c_X7_readAll_d5 (l : Launch) (D : va_G) (cA : Nat → ClassId) (ad : Nat → Nat) (hI : Inj ad) (σ0 : Nat → Nat → Int32) (τ0 : Nat → Nat → Int64) (hR : Rg σ0) (a1 : Int32) (b : Nat → Int) (N : Nat) (mo : Nat) (q : Nat) (nn : Nat) (nm : Nat → Int) (hc : Nat) (ha1 : 5 ≤ a1.toInt ∧ a1.toInt ≤ 5) (hpre0 : (σ0 24 1).toInt = (nn : Int)) (hpre1 : 0 ≤ (σ0 24 2).toInt ∧ (σ0 24 2).toInt ≤ 2 * (nn : Int)) (hpre2 : nn ≤ 20) (gCT0 : CT σ0 τ0 b N mo q) (gWH0 : WH σ0 τ0 nm hc) : Met l yX7_readAll wsX7_readAll ({ frames := 14, cells := 0, slots := 0, locals := 307 } : Room) (WQc D cA ad [.ref (ad 27), .int a1] σ0 τ0) (va_Qi (fun (r : Int32) (u : SS) => P_X7_readAll_d5 σ0 τ0 a1 b N mo q nn nm hc r u.1 u.2) (WB D cA ad) (AA ad)) 0 0 (AA ad) := by
  refine Met.ofW (cc := cX7_readAll) (maxL := 3) (ret := (some .boolean)) (by decide) rfl ?_
  intro p e s m args below meth c s₁ B hml hv
  obtain ⟨rfl, hP, hK, hN⟩ := hv
  have C : Cy p s m _ meth c cX7_readAll 3 wsX7_readAll RX7 D cA ad (some .boolean) := ⟨B.exec, B.bytes, hml, findClass_of_methodNamed B.named, atoms_spec (ws := wsX7_readAll) B.pre, hK, B.notSynchronized, B.returns, hI, hN⟩
  have hl := lv_entry ([.ref (ad 27), .int a1]) (n := 3) (Nat.le_of_ble_eq_true rfl)
  rw [lg_entry_eq]
  generalize (lg_sl ([.ref (ad 27), .int a1]) ++ List.replicate (3 - (lg_sl ([.ref (ad 27), .int a1])).length) Slot.unset).toArray = ls at hl ⊢
  have hl : lv_has ls 3 [(0, .ref (ad 27)), (1, .int a1)] := hl
  have hS : va_S (AA ad) s.heap s.heap [] := va_S.rf
  have hF : Fr L_X7_readAll_d5 σ0 σ0 := Fr.rf
  have hFL : FrL LL_X7_readAll_d5 τ0 τ0 := FrL.rf
  have gCT := gCT0
  have gWH := gWH0
  have hA := A_X7_readAll_d5 p l e s m _ below meth c D cA ad σ0 τ0 a1 b N mo q nn nm hc C ha1 hpre0 hpre1 hpre2 gCT0 gWH0 810
  have K12 := hA
  clear hA
  obtain ⟨hx, hb, _, hown, hts, _, hk, hr, _, _⟩ := C
  refine lv_aload_n hx hb dX7_readAll_0 rfl (lv_at hl 0 rfl) ?_
  refine lv_iload_n hx hb dX7_readAll_1 rfl (lv_at hl 1 rfl) ?_
  refine r_cVi (k := 27) (As := [.int a1]) (rest := []) ⟨hx, hb, hml, hown, hts⟩ hK hP hN hS (c_X7_readOne_d5 l D cA ad hI σ0 τ0 hR a1 b N mo q nn nm hc (by omega) (by omega) (by omega) (by omega) gCT gWH) (cwV 1 hts gX7_readAll_X7_readOne rfl rfl rfl (by decide +kernel) ⟨by decide, by decide⟩) (rv_SText hK hP (by decide) (by decide)) rfl hl.1 rfl (Nat.le_of_ble_eq_true rfl) dX7_readAll_2 (Nat.zero_le _) (Nat.zero_le _) (fun r1 u1 H1 locs1 hp1 hP hS => ?_)
  obtain ⟨σ1, τ1⟩ := u1
  obtain ⟨hR, f1, fL1, hq1, hp1_0, hp1_1, gnWH⟩ : P_X7_readOne_d5 σ0 τ0 a1 b N mo q nn nm hc r1 σ1 τ1 := hp1
  have o1 := hp1_0
  have hP : va_P D vwCl (gw cA ad σ1 τ1) H1 := hP
  have hFL := hFL.step fL1 (by decide)
  have gWH := gWH.agL (AgrL.fr fL1 (by decide))
  have hF := hF.step f1 (by decide)
  have gWH := gWH.ag (Agr.fr f1 (by decide))
  have hr2 := rg_6_1 hR (k := 24) (by decide) (by decide)
  have hr3 := rg_6_2 hR (k := 24) (by decide) (by decide)
  refine r_if_ne (tgt := 10) hx hb dX7_readAll_5 (by decide) (fun c4 => ?_) (fun c4 => ?_)
  · replace hp1_1 := hp1_1.resolve_left (by omega)
    obtain ⟨s1, e1, gCT, hs1, hs2⟩ := o1.ye (by omega)
    have hu1 := one_up _ _ _ _ e1
    refine r_iconst hx hb dX7_readAll_10 (by decide) (fun z5 ez5 => ?_)
    refine lv_istore_n (lv' := [(2, .int z5), (0, .ref (ad 27)), (1, .int a1)]) hx hb dX7_readAll_11 rfl hl (by decide) rfl (fun ls hl => ?_)
    exact K12 σ1 τ1 H1 locs1 z5 200 _ _ ls hR hF hFL hP hS (by omega) (by omega) (by omega) (by first | exact all_s e1 | rw [iv, lop_s (f := (fun q nn => oneP b N mo nm hc 4 q nn)) (by omega) (by omega) e2]) (by omega) (by omega) (by omega) (by omega) (by omega) gCT gWH gCT (lv_sub hl [1, 2, 0] rfl) (by omega)
  · clear hp1_1
    refine r_iconst hx hb dX7_readAll_8 (by decide) (fun z6 ez6 => ?_)
    exact r_zret hx hb hr hK hP hS hk (by omega) dX7_readAll_9 (show P_X7_readAll_d5 σ0 τ0 a1 b N mo q nn nm hc z6 σ1 τ1 from ⟨hR, hF, hFL, by omega, by first | (exfalso; omega) | (obtain ⟨f, e1, x1, x2⟩ := o1.no (by omega); exact RO.ofl (all_f e1) (by omega) x1 x2) | exact RO.ofr (by rw [iv, lop_e (by omega)]) (by omega) ⟨gCT, by omega, by omega⟩ | (obtain ⟨f, e2, x1, x2⟩ := o2.no (by omega); exact RO.ofl (by rw [iv, lop_f (f := (fun q nn => oneP b N mo nm hc 4 q nn)) (by omega) (by omega) e2]) (by omega) x1 x2) | (exfalso; omega), by omega, gWH⟩)
abbrev L_X7_readCond_d5 : List Rc := [(1, 1, 7, 10), (372, 372, 0, 39), (376, 376, 0, 39), (380, 380, 0, 39), (24, 24, 1, 2), (1, 1, 12, 14)]
abbrev LL_X7_readCond_d5 : List Rc := [(1, 1, 11, 11)]
def P_X7_readCond_d5 (σ0 : Nat → Nat → Int32) (τ0 : Nat → Nat → Int64) (a1 : Int32) (b : Nat → Int) (N : Nat) (mo : Nat) (q : Nat) (nn : Nat) (nm : Nat → Int) (hc : Nat) (r : Int32) (σ : Nat → Nat → Int32) (τ : Nat → Nat → Int64) : Prop := Rg σ ∧ Fr L_X7_readCond_d5 σ0 σ ∧ FrL LL_X7_readCond_d5 τ0 τ ∧ (0 ≤ r.toInt ∧ r.toInt ≤ 1) ∧ (RO r σ (conP b N mo (fun q nn => oneP b N mo nm hc 4 q nn) q nn) (fun s => CT σ τ b N mo s.1 ∧ (σ 24 1).toInt = (s.2 : Int) ∧ (σ 24 2).toInt + 2 * (nn : Int) + 1 ≤ (σ0 24 2).toInt + 2 * (s.2 : Int))) ∧ (r.toInt = 0 ∨ (σ 1 13).toInt = (σ0 1 13).toInt) ∧ WH σ τ nm hc
def J_X7_readCond_d5_12 (p : Program) (l : Launch) (e : Env) (s : State) (m : MethodId) (args : Array Value) (below : List Frame) (meth : Method) (c : Code) (D : va_G) (cA : Nat → ClassId) (ad : Nat → Nat) (σ0 : Nat → Nat → Int32) (τ0 : Nat → Nat → Int64) (a1 : Int32) (b : Nat → Int) (N : Nat) (mo : Nat) (q : Nat) (nn : Nat) (nm : Nat → Int) (hc : Nat) (n : Nat) : Prop := ∀ (σ : Nat → Nat → Int32) (τ : Nat → Nat → Int64) (H : Heap) (locs : List Loc) (x2 : Int32) (fu : Nat) (q1 : Nat) (n1 : Nat) (ls : Array Slot), Rg σ → Fr L_X7_readCond_d5 σ0 σ → FrL LL_X7_readCond_d5 τ0 τ → va_P D vwCl (gw cA ad σ τ) H → va_S (AA ad) s.heap H locs → (0 ≤ x2.toInt ∧ x2.toInt ≤ 200) → (0 ≤ (σ 24 1).toInt ∧ (σ 24 1).toInt ≤ 20) → (0 ≤ (σ 24 2).toInt ∧ (σ 24 2).toInt ≤ 40) → (conP b N mo (fun q nn => oneP b N mo nm hc 4 q nn) q nn = lopP b N mo 20 (allP b N mo (fun q nn => oneP b N mo nm hc 4 q nn)) fu q1 n1) → ((σ 24 1).toInt = (n1 : Int)) → (0 ≤ (σ 24 2).toInt ∧ (σ 24 2).toInt + 2 * (nn : Int) + 1 ≤ (σ0 24 2).toInt + 2 * (n1 : Int)) → ((fu : Int) + x2.toInt = 200) → (n1 ≤ 20) → ((σ 1 13).toInt = (σ0 1 13).toInt) → (CT σ τ b N mo q1) → (WH σ τ nm hc) → (CT σ τ b N mo q1) → lv_has ls 3 [(0, .ref (ad 27)), (1, .int a1), (2, .int x2)] → 2 * (200 - x2.toInt) + 1 < (n : Int) → W p l e ({ frames := 15, cells := 0, slots := 0, locals := 329 } : Room) s m args below meth c H locs 0 0 (MQ below (va_Qi (fun (r : Int32) (u : SS) => P_X7_readCond_d5 σ0 τ0 a1 b N mo q nn nm hc r u.1 u.2) (WB D cA ad) (AA ad)) args s 0 0 (AA ad)) (F0 m 12 ls [])
set_option maxHeartbeats 4000000 in
theorem B_X7_readCond_d5_12 (p : Program) (l : Launch) (e : Env) (s : State) (m : MethodId) (args : Array Value) (below : List Frame) (meth : Method) (c : Code) (D : va_G) (cA : Nat → ClassId) (ad : Nat → Nat) (σ0 : Nat → Nat → Int32) (τ0 : Nat → Nat → Int64) (a1 : Int32) (b : Nat → Int) (N : Nat) (mo : Nat) (q : Nat) (nn : Nat) (nm : Nat → Int) (hc : Nat) (n : Nat) (C : Cy p s m args meth c cX7_readCond 3 wsX7_readCond RX7 D cA ad (some .boolean)) (ha1 : 5 ≤ a1.toInt ∧ a1.toInt ≤ 5) (hpre0 : (σ0 24 1).toInt = (nn : Int)) (hpre1 : 0 ≤ (σ0 24 2).toInt ∧ (σ0 24 2).toInt ≤ 2 * (nn : Int)) (hpre2 : nn ≤ 20) (gCT0 : CT σ0 τ0 b N mo q) (gWH0 : WH σ0 τ0 nm hc) (K12 : J_X7_readCond_d5_12 p l e s m args below meth c D cA ad σ0 τ0 a1 b N mo q nn nm hc n) : J_X7_readCond_d5_12 p l e s m args below meth c D cA ad σ0 τ0 a1 b N mo q nn nm hc (n + 1) := by
  obtain ⟨hx, hb, hml, hown, hts, hK, hk, hr, hI, hN⟩ := C
  intro σ τ H locs x2 fu q1 n1 ls hR hF hFL hP hS hc0 hc1 hc2 iv ib2 ib3 ifu in20 ik13 gCT gWH gCT hl hm
  refine lv_iload_n hx hb dX7_readCond_12 rfl (lv_at hl 2 rfl) ?_
  refine r_sipush hx hb dX7_readCond_13 (by decide) (fun z1 ez1 => ?_)
  refine r_icmp_ge (tgt := 68) hx hb dX7_readCond_16 (by decide) (fun c2 => ?_) (fun c2 => ?_)
  · refine r_iconst hx hb dX7_readCond_68 (by decide) (fun z3 ez3 => ?_)
    exact r_zret hx hb hr hK hP hS hk (by omega) dX7_readCond_69 (show P_X7_readCond_d5 σ0 τ0 a1 b N mo q nn nm hc z3 σ τ from ⟨hR, hF, hFL, by omega, by first | (exfalso; omega) | (obtain ⟨f, e1, x1, x2⟩ := o1.no (by omega); exact RO.ofl (con_f e1) (by omega) x1 x2) | exact RO.ofr (by rw [iv, lop_e (by omega)]) (by omega) ⟨gCT, by omega, by omega⟩ | (obtain ⟨f, e2, x1, x2⟩ := o2.no (by omega); exact RO.ofl (by rw [iv, lop_f (f := (allP b N mo (fun q nn => oneP b N mo nm hc 4 q nn))) (by omega) (by omega) e2]) (by omega) x1 x2) | (exfalso; omega), by omega, gWH⟩)
  · have htk := gCT.tk
    refine lv_aload_n hx hb dX7_readCond_19 rfl (lv_at hl 0 rfl) ?_
    refine fg_7_0 (k := 27) hx hb hts in_X7_readCond_7 hown hK hP (by decide) (by decide) (hts _ lk_X7_readCond_9) dX7_readCond_20 ?_
    refine fgN_8_9 (k := 1) hx hb hts in_X7_readCond_8 hown hK hP (by decide) (by decide) (hN.use nw_7_32) dX7_readCond_23 ?_
    refine r_bipush hx hb dX7_readCond_26 (by decide) (fun z4 ez4 => ?_)
    refine r_icmp_ne (tgt := 68) hx hb dX7_readCond_28 (by decide) (fun c5 => ?_) (fun c5 => ?_)
    · refine r_iconst hx hb dX7_readCond_68 (by decide) (fun z6 ez6 => ?_)
      exact r_zret hx hb hr hK hP hS hk (by omega) dX7_readCond_69 (show P_X7_readCond_d5 σ0 τ0 a1 b N mo q nn nm hc z6 σ τ from ⟨hR, hF, hFL, by omega, by first | (exfalso; omega) | (obtain ⟨f, e1, x1, x2⟩ := o1.no (by omega); exact RO.ofl (con_f e1) (by omega) x1 x2) | exact RO.ofr (by rw [iv, lop_e (by omega)]) (by omega) ⟨gCT, by omega, by omega⟩ | (obtain ⟨f, e2, x1, x2⟩ := o2.no (by omega); exact RO.ofl (by rw [iv, lop_f (f := (allP b N mo (fun q nn => oneP b N mo nm hc 4 q nn))) (by omega) (by omega) e2]) (by omega) x1 x2) | (exfalso; omega), by omega, gWH⟩)
    · refine lv_aload_n hx hb dX7_readCond_31 rfl (lv_at hl 0 rfl) ?_
      refine fg_7_0 (k := 27) hx hb hts in_X7_readCond_7 hown hK hP (by decide) (by decide) (hts _ lk_X7_readCond_9) dX7_readCond_32 ?_
      refine r_cVv (k := 1) (As := []) (rest := []) ⟨hx, hb, hml, hown, hts⟩ hK hP hN hS (c_X8_next_v l D cA ad hI σ τ hR _ _ _ _ gCT) (cwV 0 hts gX7_readCond_X8_next rfl rfl rfl (by decide +kernel) ⟨by decide, by decide⟩) (rv_Tape hK hP (by decide) (by decide)) rfl hl.1 rfl (Nat.le_of_ble_eq_true rfl) dX7_readCond_35 (Nat.zero_le _) (Nat.zero_le _) (fun u7 H7 locs7 hp7 hP hS => ?_)
      obtain ⟨σ7, τ7⟩ := u7
      obtain ⟨hR, f7, fL7, hp7_0⟩ : P_X8_next_v σ τ _ _ _ _ σ7 τ7 := hp7
      have hP : va_P D vwCl (gw cA ad σ7 τ7) H7 := hP
      have hFL := hFL.step fL7 (by decide)
      have gWH := gWH.agL (AgrL.fr fL7 (by decide))
      have hF := hF.step f7 (by decide)
      have gWH := gWH.ag (Agr.fr f7 (by decide))
      have t8 : (σ7 24 1).toInt = (σ 24 1).toInt := congrArg Int32.toInt (f7.at 24 1 (by decide))
      have t9 : (σ7 24 2).toInt = (σ 24 2).toInt := congrArg Int32.toInt (f7.at 24 2 (by decide))
      have t10 : (σ7 1 13).toInt = (σ 1 13).toInt := congrArg Int32.toInt (f7.at 1 13 (by decide))
      have gCT := hp7_0
      refine lv_aload_n hx hb dX7_readCond_38 rfl (lv_at hl 0 rfl) ?_
      refine lv_iload_n hx hb dX7_readCond_39 rfl (lv_at hl 1 rfl) ?_
      refine r_cVi (k := 27) (As := [.int a1]) (rest := []) ⟨hx, hb, hml, hown, hts⟩ hK hP hN hS (c_X7_readAll_d5 l D cA ad hI σ7 τ7 hR a1 b N mo _ n1 nm hc (by omega) (by omega) (by omega) (by omega) gCT gWH) (cwV 1 hts gX7_readCond_X7_readAll rfl rfl rfl (by decide +kernel) ⟨by decide, by decide⟩) (rv_SText hK hP (by decide) (by decide)) rfl hl.1 rfl (Nat.le_of_ble_eq_true rfl) dX7_readCond_40 (Nat.zero_le _) (Nat.zero_le _) (fun r11 u11 H11 locs11 hp11 hP hS => ?_)
      obtain ⟨σ11, τ11⟩ := u11
      obtain ⟨hR, f11, fL11, hq11, hp11_0, hp11_1, gnWH⟩ : P_X7_readAll_d5 σ7 τ7 a1 b N mo _ n1 nm hc r11 σ11 τ11 := hp11
      have o2 := hp11_0
      have hP : va_P D vwCl (gw cA ad σ11 τ11) H11 := hP
      have hFL := hFL.step fL11 (by decide)
      have gWH := gWH.agL (AgrL.fr fL11 (by decide))
      have hF := hF.step f11 (by decide)
      have gWH := gWH.ag (Agr.fr f11 (by decide))
      have hr12 := rg_6_1 hR (k := 24) (by decide) (by decide)
      have hr13 := rg_6_2 hR (k := 24) (by decide) (by decide)
      refine r_if_eq (tgt := 60) hx hb dX7_readCond_43 (by decide) (fun c14 => ?_) (fun c14 => ?_)
      · clear hp11_1
        refine r_iconst hx hb dX7_readCond_60 (by decide) (fun z15 ez15 => ?_)
        exact r_zret hx hb hr hK hP hS hk (by omega) dX7_readCond_61 (show P_X7_readCond_d5 σ0 τ0 a1 b N mo q nn nm hc z15 σ11 τ11 from ⟨hR, hF, hFL, by omega, by first | (exfalso; omega) | (obtain ⟨f, e1, x1, x2⟩ := o1.no (by omega); exact RO.ofl (con_f e1) (by omega) x1 x2) | exact RO.ofr (by rw [iv, lop_e (by omega)]) (by omega) ⟨gCT, by omega, by omega⟩ | (obtain ⟨f, e2, x1, x2⟩ := o2.no (by omega); exact RO.ofl (by rw [iv, lop_f (f := (allP b N mo (fun q nn => oneP b N mo nm hc 4 q nn))) (by omega) (by omega) e2]) (by omega) x1 x2) | (exfalso; omega), by omega, gWH⟩)
      · replace hp11_1 := hp11_1.resolve_left (by omega)
        obtain ⟨s2, e2, gCT, hs3, hs4⟩ := o2.ye (by omega)
        have hu2 := all_up (one_up _) _ _ _ e2
        refine lv_aload_n hx hb dX7_readCond_46 rfl (lv_at hl 0 rfl) ?_
        refine fg_7_2 (k := 27) hx hb hts in_X7_readCond_7 hown hK hP (by decide) (by decide) (hts _ lk_X7_readCond_19) dX7_readCond_47 ?_
        refine r_bipush hx hb dX7_readCond_50 (by decide) (fun z16 ez16 => ?_)
        refine r_iconst hx hb dX7_readCond_52 (by decide) (fun z17 ez17 => ?_)
        refine r_iconst hx hb dX7_readCond_53 (by decide) (fun z18 ez18 => ?_)
        refine r_cVi (k := 24) (As := [.int z16, .int z17, .int z18]) (rest := []) ⟨hx, hb, hml, hown, hts⟩ hK hP hN hS (c_X6_add l D cA ad hI σ11 τ11 hR z16 z17 z18 (by omega)) (cwV 3 hts gX7_readCond_X6_add rfl rfl rfl (by decide +kernel) ⟨by decide, by decide⟩) (rv_Sent hK hP (by decide) (by decide)) rfl hl.1 rfl (Nat.le_of_ble_eq_true rfl) dX7_readCond_54 (Nat.zero_le _) (Nat.zero_le _) (fun r19 u19 H19 locs19 hp19 hP hS => ?_)
        obtain ⟨σ19, τ19⟩ := u19
        obtain ⟨hR, f19, fL19, hq19, hp19_0⟩ : P_X6_add σ11 τ11 z16 z17 z18 r19 σ19 τ19 := hp19
        have hP : va_P D vwCl (gw cA ad σ19 τ19) H19 := hP
        obtain rfl := FrL.nil fL19
        have hF := hF.step f19 (by decide)
        have gCT := gCT.ag (Agr.fr f19 (by decide))
        have gWH := gWH.ag (Agr.fr f19 (by decide))
        have t20 : (σ19 24 1).toInt = (σ11 24 1).toInt := congrArg Int32.toInt (f19.at 24 1 (by decide))
        have t21 : (σ19 1 13).toInt = (σ11 1 13).toInt := congrArg Int32.toInt (f19.at 1 13 (by decide))
        have hr22 := rg_6_2 hR (k := 24) (by decide) (by decide)
        refine r_if_ne (tgt := 62) hx hb dX7_readCond_57 (by decide) (fun c23 => ?_) (fun c23 => ?_)
        · refine r_iinc (k := 2) (lv1 := fun z24 => [(2, .int z24), (0, .ref (ad 27)), (1, .int a1)]) hx hb dX7_readCond_62 hl rfl (by decide) (fun _ => rfl) (by decide) (by omega) (fun z24 ls ez24 hl => ?_)
          refine lv_goto (tgt := 12) hx hb dX7_readCond_65 (by decide) ?_
          exact K12 σ19 τ11 H19 locs19 z24 (fu - 1) _ _ ls hR hF hFL hP hS (by omega) (by omega) (by omega) (by first | exact con_s e1 | rw [iv, lop_s (f := (allP b N mo (fun q nn => oneP b N mo nm hc 4 q nn))) (by omega) (by omega) e2]) (by omega) (by omega) (by omega) (by omega) (by omega) gCT gWH gCT (lv_sub hl [1, 2, 0] rfl) (by omega)
        · refine r_iconst hx hb dX7_readCond_60 (by decide) (fun z25 ez25 => ?_)
          exact r_zret hx hb hr hK hP hS hk (by omega) dX7_readCond_61 (show P_X7_readCond_d5 σ0 τ0 a1 b N mo q nn nm hc z25 σ19 τ11 from ⟨hR, hF, hFL, by omega, by first | (exfalso; omega) | (obtain ⟨f, e1, x1, x2⟩ := o1.no (by omega); exact RO.ofl (con_f e1) (by omega) x1 x2) | exact RO.ofr (by rw [iv, lop_e (by omega)]) (by omega) ⟨gCT, by omega, by omega⟩ | (obtain ⟨f, e2, x1, x2⟩ := o2.no (by omega); exact RO.ofl (by rw [iv, lop_f (f := (allP b N mo (fun q nn => oneP b N mo nm hc 4 q nn))) (by omega) (by omega) e2]) (by omega) x1 x2) | (exfalso; omega), by omega, gWH⟩)
theorem A_X7_readCond_d5 (p : Program) (l : Launch) (e : Env) (s : State) (m : MethodId) (args : Array Value) (below : List Frame) (meth : Method) (c : Code) (D : va_G) (cA : Nat → ClassId) (ad : Nat → Nat) (σ0 : Nat → Nat → Int32) (τ0 : Nat → Nat → Int64) (a1 : Int32) (b : Nat → Int) (N : Nat) (mo : Nat) (q : Nat) (nn : Nat) (nm : Nat → Int) (hc : Nat) (C : Cy p s m args meth c cX7_readCond 3 wsX7_readCond RX7 D cA ad (some .boolean)) (ha1 : 5 ≤ a1.toInt ∧ a1.toInt ≤ 5) (hpre0 : (σ0 24 1).toInt = (nn : Int)) (hpre1 : 0 ≤ (σ0 24 2).toInt ∧ (σ0 24 2).toInt ≤ 2 * (nn : Int)) (hpre2 : nn ≤ 20) (gCT0 : CT σ0 τ0 b N mo q) (gWH0 : WH σ0 τ0 nm hc) : ∀ n : Nat, J_X7_readCond_d5_12 p l e s m args below meth c D cA ad σ0 τ0 a1 b N mo q nn nm hc n := by
  intro n
  induction n with
  | zero =>
    exact (by intro σ τ H locs x2 fu q1 n1 ls hR hF hFL hP hS hc0 hc1 hc2 iv ib2 ib3 ifu in20 ik13 gCT gWH gCT hl hm; exfalso; omega)
  | succ n ih =>
    exact B_X7_readCond_d5_12 p l e s m args below meth c D cA ad σ0 τ0 a1 b N mo q nn nm hc n C ha1 hpre0 hpre1 hpre2 gCT0 gWH0 ih
set_option maxHeartbeats 4000000 in
theorem c_X7_readCond_d5 (l : Launch) (D : va_G) (cA : Nat → ClassId) (ad : Nat → Nat) (hI : Inj ad) (σ0 : Nat → Nat → Int32) (τ0 : Nat → Nat → Int64) (hR : Rg σ0) (a1 : Int32) (b : Nat → Int) (N : Nat) (mo : Nat) (q : Nat) (nn : Nat) (nm : Nat → Int) (hc : Nat) (ha1 : 5 ≤ a1.toInt ∧ a1.toInt ≤ 5) (hpre0 : (σ0 24 1).toInt = (nn : Int)) (hpre1 : 0 ≤ (σ0 24 2).toInt ∧ (σ0 24 2).toInt ≤ 2 * (nn : Int)) (hpre2 : nn ≤ 20) (gCT0 : CT σ0 τ0 b N mo q) (gWH0 : WH σ0 τ0 nm hc) : Met l yX7_readCond wsX7_readCond ({ frames := 15, cells := 0, slots := 0, locals := 329 } : Room) (WQc D cA ad [.ref (ad 27), .int a1] σ0 τ0) (va_Qi (fun (r : Int32) (u : SS) => P_X7_readCond_d5 σ0 τ0 a1 b N mo q nn nm hc r u.1 u.2) (WB D cA ad) (AA ad)) 0 0 (AA ad) := by
  refine Met.ofW (cc := cX7_readCond) (maxL := 3) (ret := (some .boolean)) (by decide) rfl ?_
  intro p e s m args below meth c s₁ B hml hv
  obtain ⟨rfl, hP, hK, hN⟩ := hv
  have C : Cy p s m _ meth c cX7_readCond 3 wsX7_readCond RX7 D cA ad (some .boolean) := ⟨B.exec, B.bytes, hml, findClass_of_methodNamed B.named, atoms_spec (ws := wsX7_readCond) B.pre, hK, B.notSynchronized, B.returns, hI, hN⟩
  have hl := lv_entry ([.ref (ad 27), .int a1]) (n := 3) (Nat.le_of_ble_eq_true rfl)
  rw [lg_entry_eq]
  generalize (lg_sl ([.ref (ad 27), .int a1]) ++ List.replicate (3 - (lg_sl ([.ref (ad 27), .int a1])).length) Slot.unset).toArray = ls at hl ⊢
  have hl : lv_has ls 3 [(0, .ref (ad 27)), (1, .int a1)] := hl
  have hS : va_S (AA ad) s.heap s.heap [] := va_S.rf
  have hF : Fr L_X7_readCond_d5 σ0 σ0 := Fr.rf
  have hFL : FrL LL_X7_readCond_d5 τ0 τ0 := FrL.rf
  have gCT := gCT0
  have gWH := gWH0
  have hA := A_X7_readCond_d5 p l e s m _ below meth c D cA ad σ0 τ0 a1 b N mo q nn nm hc C ha1 hpre0 hpre1 hpre2 gCT0 gWH0 810
  have K12 := hA
  clear hA
  obtain ⟨hx, hb, _, hown, hts, _, hk, hr, _, _⟩ := C
  refine lv_aload_n hx hb dX7_readCond_0 rfl (lv_at hl 0 rfl) ?_
  refine lv_iload_n hx hb dX7_readCond_1 rfl (lv_at hl 1 rfl) ?_
  refine r_cVi (k := 27) (As := [.int a1]) (rest := []) ⟨hx, hb, hml, hown, hts⟩ hK hP hN hS (c_X7_readAll_d5 l D cA ad hI σ0 τ0 hR a1 b N mo q nn nm hc (by omega) (by omega) (by omega) (by omega) gCT gWH) (cwV 1 hts gX7_readCond_X7_readAll rfl rfl rfl (by decide +kernel) ⟨by decide, by decide⟩) (rv_SText hK hP (by decide) (by decide)) rfl hl.1 rfl (Nat.le_of_ble_eq_true rfl) dX7_readCond_2 (Nat.zero_le _) (Nat.zero_le _) (fun r1 u1 H1 locs1 hp1 hP hS => ?_)
  obtain ⟨σ1, τ1⟩ := u1
  obtain ⟨hR, f1, fL1, hq1, hp1_0, hp1_1, gnWH⟩ : P_X7_readAll_d5 σ0 τ0 a1 b N mo q nn nm hc r1 σ1 τ1 := hp1
  have o1 := hp1_0
  have hP : va_P D vwCl (gw cA ad σ1 τ1) H1 := hP
  have hFL := hFL.step fL1 (by decide)
  have gWH := gWH.agL (AgrL.fr fL1 (by decide))
  have hF := hF.step f1 (by decide)
  have gWH := gWH.ag (Agr.fr f1 (by decide))
  have hr2 := rg_6_1 hR (k := 24) (by decide) (by decide)
  have hr3 := rg_6_2 hR (k := 24) (by decide) (by decide)
  refine r_if_ne (tgt := 10) hx hb dX7_readCond_5 (by decide) (fun c4 => ?_) (fun c4 => ?_)
  · replace hp1_1 := hp1_1.resolve_left (by omega)
    obtain ⟨s1, e1, gCT, hs1, hs2⟩ := o1.ye (by omega)
    have hu1 := all_up (one_up _) _ _ _ e1
    refine r_iconst hx hb dX7_readCond_10 (by decide) (fun z5 ez5 => ?_)
    refine lv_istore_n (lv' := [(2, .int z5), (0, .ref (ad 27)), (1, .int a1)]) hx hb dX7_readCond_11 rfl hl (by decide) rfl (fun ls hl => ?_)
    exact K12 σ1 τ1 H1 locs1 z5 200 _ _ ls hR hF hFL hP hS (by omega) (by omega) (by omega) (by first | exact con_s e1 | rw [iv, lop_s (f := (allP b N mo (fun q nn => oneP b N mo nm hc 4 q nn))) (by omega) (by omega) e2]) (by omega) (by omega) (by omega) (by omega) (by omega) gCT gWH gCT (lv_sub hl [1, 2, 0] rfl) (by omega)
  · clear hp1_1
    refine r_iconst hx hb dX7_readCond_8 (by decide) (fun z6 ez6 => ?_)
    exact r_zret hx hb hr hK hP hS hk (by omega) dX7_readCond_9 (show P_X7_readCond_d5 σ0 τ0 a1 b N mo q nn nm hc z6 σ1 τ1 from ⟨hR, hF, hFL, by omega, by first | (exfalso; omega) | (obtain ⟨f, e1, x1, x2⟩ := o1.no (by omega); exact RO.ofl (con_f e1) (by omega) x1 x2) | exact RO.ofr (by rw [iv, lop_e (by omega)]) (by omega) ⟨gCT, by omega, by omega⟩ | (obtain ⟨f, e2, x1, x2⟩ := o2.no (by omega); exact RO.ofl (by rw [iv, lop_f (f := (allP b N mo (fun q nn => oneP b N mo nm hc 4 q nn))) (by omega) (by omega) e2]) (by omega) x1 x2) | (exfalso; omega), by omega, gWH⟩)
abbrev L_X7_readOne_d4 : List Rc := [(1, 1, 7, 10), (372, 372, 0, 39), (376, 376, 0, 39), (380, 380, 0, 39), (24, 24, 1, 2), (1, 1, 12, 14)]
abbrev LL_X7_readOne_d4 : List Rc := [(1, 1, 11, 11)]
def P_X7_readOne_d4 (σ0 : Nat → Nat → Int32) (τ0 : Nat → Nat → Int64) (a1 : Int32) (b : Nat → Int) (N : Nat) (mo : Nat) (q : Nat) (nn : Nat) (nm : Nat → Int) (hc : Nat) (r : Int32) (σ : Nat → Nat → Int32) (τ : Nat → Nat → Int64) : Prop := Rg σ ∧ Fr L_X7_readOne_d4 σ0 σ ∧ FrL LL_X7_readOne_d4 τ0 τ ∧ (0 ≤ r.toInt ∧ r.toInt ≤ 1) ∧ (RO r σ (oneP b N mo nm hc 5 q nn) (fun s => CT σ τ b N mo s.1 ∧ (σ 24 1).toInt = (s.2 : Int) ∧ (σ 24 2).toInt + 2 * (nn : Int) + 1 ≤ (σ0 24 2).toInt + 2 * (s.2 : Int))) ∧ (r.toInt = 0 ∨ (σ 1 13).toInt = (σ0 1 13).toInt) ∧ WH σ τ nm hc
set_option maxHeartbeats 4000000 in
theorem c_X7_readOne_d4 (l : Launch) (D : va_G) (cA : Nat → ClassId) (ad : Nat → Nat) (hI : Inj ad) (σ0 : Nat → Nat → Int32) (τ0 : Nat → Nat → Int64) (hR : Rg σ0) (a1 : Int32) (b : Nat → Int) (N : Nat) (mo : Nat) (q : Nat) (nn : Nat) (nm : Nat → Int) (hc : Nat) (ha1 : 4 ≤ a1.toInt ∧ a1.toInt ≤ 4) (hpre0 : (σ0 24 1).toInt = (nn : Int)) (hpre1 : 0 ≤ (σ0 24 2).toInt ∧ (σ0 24 2).toInt ≤ 2 * (nn : Int)) (hpre2 : nn ≤ 20) (gCT0 : CT σ0 τ0 b N mo q) (gWH0 : WH σ0 τ0 nm hc) : Met l yX7_readOne wsX7_readOne ({ frames := 16, cells := 0, slots := 0, locals := 351 } : Room) (WQc D cA ad [.ref (ad 27), .int a1] σ0 τ0) (va_Qi (fun (r : Int32) (u : SS) => P_X7_readOne_d4 σ0 τ0 a1 b N mo q nn nm hc r u.1 u.2) (WB D cA ad) (AA ad)) 0 0 (AA ad) := by
  refine Met.ofW (cc := cX7_readOne) (maxL := 3) (ret := (some .boolean)) (by decide) rfl ?_
  intro p e s m args below meth c s₁ B hml hv
  obtain ⟨rfl, hP, hK, hN⟩ := hv
  have C : Cy p s m _ meth c cX7_readOne 3 wsX7_readOne RX7 D cA ad (some .boolean) := ⟨B.exec, B.bytes, hml, findClass_of_methodNamed B.named, atoms_spec (ws := wsX7_readOne) B.pre, hK, B.notSynchronized, B.returns, hI, hN⟩
  have hl := lv_entry ([.ref (ad 27), .int a1]) (n := 3) (Nat.le_of_ble_eq_true rfl)
  rw [lg_entry_eq]
  generalize (lg_sl ([.ref (ad 27), .int a1]) ++ List.replicate (3 - (lg_sl ([.ref (ad 27), .int a1])).length) Slot.unset).toArray = ls at hl ⊢
  have hl : lv_has ls 3 [(0, .ref (ad 27)), (1, .int a1)] := hl
  have hS : va_S (AA ad) s.heap s.heap [] := va_S.rf
  have hF : Fr L_X7_readOne_d4 σ0 σ0 := Fr.rf
  have hFL : FrL LL_X7_readOne_d4 τ0 τ0 := FrL.rf
  have gCT := gCT0
  have gWH := gWH0
  obtain ⟨hx, hb, _, hown, hts, _, hk, hr, _, _⟩ := C
  have htk := gCT.tk
  refine lv_aload_n hx hb dX7_readOne_0 rfl (lv_at hl 0 rfl) ?_
  refine fg_7_0 (k := 27) hx hb hts in_X7_readOne_7 hown hK hP (by decide) (by decide) (hts _ lk_X7_readOne_9) dX7_readOne_1 ?_
  refine fgN_8_9 (k := 1) hx hb hts in_X7_readOne_8 hown hK hP (by decide) (by decide) (hN.use nw_7_32) dX7_readOne_4 ?_
  refine lv_istore_n (lv' := [(2, .int (σ0 1 9)), (0, .ref (ad 27)), (1, .int a1)]) hx hb dX7_readOne_7 rfl hl (by decide) rfl (fun ls hl => ?_)
  refine lv_iload_n hx hb dX7_readOne_8 rfl (lv_at hl 0 rfl) ?_
  refine r_cSi (As := [.int (σ0 1 9)]) (rest := []) ⟨hx, hb, hml, hown, hts⟩ hK hP hN hS (c_X7_beginsOne l D cA ad hI σ0 τ0 hR (σ0 1 9)) (va_cwS 1 hts gX7_readOne_X7_beginsOne rfl rfl rfl (by decide +kernel) ⟨by decide, by decide⟩) rfl hl.1 rfl (Nat.le_of_ble_eq_true rfl) dX7_readOne_9 (Nat.zero_le _) (Nat.zero_le _) (fun r1 u1 H1 locs1 hp1 hP hS => ?_)
  obtain ⟨σ1, τ1⟩ := u1
  obtain ⟨hR, f1, fL1, hq1, hp1_0⟩ : P_X7_beginsOne σ0 τ0 (σ0 1 9) r1 σ1 τ1 := hp1
  have hP : va_P D vwCl (gw cA ad σ1 τ1) H1 := hP
  obtain rfl := FrL.nil fL1
  obtain rfl := Fr.nil f1
  refine r_if_ne (tgt := 24) hx hb dX7_readOne_12 (by decide) (fun c2 => ?_) (fun c2 => ?_)
  · refine lv_aload_n hx hb dX7_readOne_24 rfl (lv_at hl 1 rfl) ?_
    refine fg_7_2 (k := 27) hx hb hts in_X7_readOne_7 hown hK hP (by decide) (by decide) (hts _ lk_X7_readOne_19) dX7_readOne_25 ?_
    refine fgN_6_1 (k := 24) hx hb hts in_X7_readOne_6 hown hK hP (by decide) (by decide) (hN.use nw_7_61) dX7_readOne_28 ?_
    refine r_bipush hx hb dX7_readOne_31 (by decide) (fun z3 ez3 => ?_)
    refine r_icmp_ge (tgt := 42) hx hb dX7_readOne_33 (by decide) (fun c4 => ?_) (fun c4 => ?_)
    · refine lv_aload_n hx hb dX7_readOne_42 rfl (lv_at hl 1 rfl) ?_
      refine fg_7_0 (k := 27) hx hb hts in_X7_readOne_7 hown hK hP (by decide) (by decide) (hts _ lk_X7_readOne_9) dX7_readOne_43 ?_
      refine r_iconst hx hb dX7_readOne_46 (by decide) (fun z5 ez5 => ?_)
      refine r_cVi (k := 1) (As := [.int z5]) (rest := []) ⟨hx, hb, hml, hown, hts⟩ hK hP hN hS (c_X8_blame_v l D cA ad hI σ0 τ0 hR z5 _ _ _ _ (by omega) gCT) (cwV 1 hts gX7_readOne_X8_blame rfl rfl rfl (by decide +kernel) ⟨by decide, by decide⟩) (rv_Tape hK hP (by decide) (by decide)) rfl hl.1 rfl (Nat.le_of_ble_eq_true rfl) dX7_readOne_47 (Nat.zero_le _) (Nat.zero_le _) (fun r6 u6 H6 locs6 hp6 hP hS => ?_)
      obtain ⟨σ6, τ6⟩ := u6
      obtain ⟨hR, f6, fL6, hq6, hp6_0, hp6_1, hp6_2, gnCT⟩ : P_X8_blame_v σ0 τ0 z5 _ _ _ _ r6 σ6 τ6 := hp6
      have hP : va_P D vwCl (gw cA ad σ6 τ6) H6 := hP
      obtain rfl := FrL.nil fL6
      have hF := hF.step f6 (by decide)
      have gCT := gCT.ag (Agr.fr f6 (by decide))
      have gWH := gWH.ag (Agr.fr f6 (by decide))
      have t7 : (σ6 24 1).toInt = (σ0 24 1).toInt := congrArg Int32.toInt (f6.at 24 1 (by decide))
      have t8 : (σ6 24 2).toInt = (σ0 24 2).toInt := congrArg Int32.toInt (f6.at 24 2 (by decide))
      exact r_zret hx hb hr hK hP hS hk (by omega) dX7_readOne_50 (show P_X7_readOne_d4 σ0 τ0 a1 b N mo q nn nm hc r6 σ6 τ0 from ⟨hR, hF, hFL, by omega, by first | exact RO.ofr ((one_l (by omega) (by omega) (by omega) (by omega)).trans (lea_n (by omega) (by omega))) (by omega) ⟨gCT, by omega, by omega⟩ | (exfalso; omega) | exact RO.ofk (one_x (by omega)) (by omega) (by omega) (by omega) | exact RO.ofk (one_4 (by omega) (by omega)) (by omega) (by omega) (by omega) | (obtain ⟨f, e1, x1, x2⟩ := o1.no (by omega); exact RO.ofl ((one_n (by omega) (by omega)).trans e1) (by omega) x1 x2) | exact RO.ofr ((one_n (by omega) (by omega)).trans e1) (by omega) ⟨gCT, by omega, by omega⟩ | (obtain ⟨f, e2, x1, x2⟩ := o2.no (by omega); exact RO.ofl (by rw [one_o (by omega) (by omega), e2, bnd_l]) (by omega) x1 x2) | (obtain ⟨f, e3, x1, x2⟩ := o3.no (by omega); exact RO.ofl (by rw [one_o (by omega) (by omega), e2, bnd_r, e3, bnd_l]) (by omega) x1 x2) | exact RO.ofr (by rw [one_o (by omega) (by omega), e2, bnd_r, e3, bnd_r]) (by omega) ⟨gCT, by omega, by omega⟩ | (rw [one_l (by omega) (by omega) (by omega) (by omega)]; exact o4.map (fun s es h => ⟨h.1, h.2.1, by have h2 := h.2.2; have hl := lea_up es; omega⟩)) | (rw [one_l (by omega) (by omega) (by omega) (by omega)]; exact o5.map (fun s es h => ⟨h.1, h.2.1, by have h2 := h.2.2; have hl := lea_up es; omega⟩)), by omega, gWH⟩)
    · refine lv_iload_n hx hb dX7_readOne_36 rfl (lv_at hl 2 rfl) ?_
      refine r_bipush hx hb dX7_readOne_37 (by decide) (fun z9 ez9 => ?_)
      refine r_icmp_le (tgt := 51) hx hb dX7_readOne_39 (by decide) (fun c10 => ?_) (fun c10 => ?_)
      · refine lv_aload_n hx hb dX7_readOne_51 rfl (lv_at hl 1 rfl) ?_
        refine fg_7_2 (k := 27) hx hb hts in_X7_readOne_7 hown hK hP (by decide) (by decide) (hts _ lk_X7_readOne_19) dX7_readOne_52 ?_
        refine lv_dup hx hb dX7_readOne_55 rfl ?_
        refine fgN_6_1 (k := 24) hx hb hts in_X7_readOne_6 hown hK hP (by decide) (by decide) (hN.use nw_7_61) dX7_readOne_56 ?_
        refine r_iconst hx hb dX7_readOne_59 (by decide) (fun z11 ez11 => ?_)
        refine r_iadd hx hb dX7_readOne_60 (by omega) (fun z12 ez12 => ?_)
        refine fpN_6_1 (k := 24) hx hb hts in_X7_readOne_6 hown hK hP (by decide) (by decide) (hN.use nw_7_61) hI hR hS (by omega) dX7_readOne_61 (fun σ13 H13 locs13 u13 v13 hR hP hS => ?_)
        have hF := hF.puts u13 4 rfl (by decide) (by decide) (by decide) (by decide)
        have gCT := gCT.ag (Agr.put u13 (by decide))
        have gWH := gWH.ag (Agr.put u13 (by decide))
        have t14 : (σ13 24 2).toInt = (σ0 24 2).toInt := congrArg Int32.toInt (u13 24 2 (by omega))
        have t15 : (σ13 1 13).toInt = (σ0 1 13).toInt := congrArg Int32.toInt (u13 1 13 (by omega))
        refine lv_aload_n hx hb dX7_readOne_64 rfl (lv_at hl 1 rfl) ?_
        refine fg_7_0 (k := 27) hx hb hts in_X7_readOne_7 hown hK hP (by decide) (by decide) (hts _ lk_X7_readOne_9) dX7_readOne_65 ?_
        refine r_cVv (k := 1) (As := []) (rest := []) ⟨hx, hb, hml, hown, hts⟩ hK hP hN hS (c_X8_next_v l D cA ad hI σ13 τ0 hR _ _ _ _ gCT) (cwV 0 hts gX7_readOne_X8_next rfl rfl rfl (by decide +kernel) ⟨by decide, by decide⟩) (rv_Tape hK hP (by decide) (by decide)) rfl hl.1 rfl (Nat.le_of_ble_eq_true rfl) dX7_readOne_68 (Nat.zero_le _) (Nat.zero_le _) (fun u16 H16 locs16 hp16 hP hS => ?_)
        obtain ⟨σ16, τ16⟩ := u16
        obtain ⟨hR, f16, fL16, hp16_0⟩ : P_X8_next_v σ13 τ0 _ _ _ _ σ16 τ16 := hp16
        have hP : va_P D vwCl (gw cA ad σ16 τ16) H16 := hP
        have hFL := hFL.step fL16 (by decide)
        have gWH := gWH.agL (AgrL.fr fL16 (by decide))
        have hF := hF.step f16 (by decide)
        have gWH := gWH.ag (Agr.fr f16 (by decide))
        have t17 : (σ16 24 2).toInt = (σ13 24 2).toInt := congrArg Int32.toInt (f16.at 24 2 (by decide))
        have t18 : (σ16 1 13).toInt = (σ13 1 13).toInt := congrArg Int32.toInt (f16.at 1 13 (by decide))
        have t19 : (σ16 24 1).toInt = (σ13 24 1).toInt := congrArg Int32.toInt (f16.at 24 1 (by decide))
        have gCT := hp16_0
        refine lv_iload_n hx hb dX7_readOne_71 rfl (lv_at hl 0 rfl) ?_
        by_cases c20 : (σ0 1 9).toInt = 22
        · refine lv_tableIn (off := 108) (tgt := 180) hx hb dX7_readOne_72 (by omega) (by omega) (by rw [c20]; rfl) (by decide) ?_
          refine lv_aload_n hx hb dX7_readOne_180 rfl (lv_at hl 1 rfl) ?_
          refine lv_iload_n hx hb dX7_readOne_181 rfl (lv_at hl 2 rfl) ?_
          refine r_iconst hx hb dX7_readOne_182 (by decide) (fun z21 ez21 => ?_)
          refine r_iadd hx hb dX7_readOne_183 (by omega) (fun z22 ez22 => ?_)
          refine r_cVi (k := 27) (As := [.int z22]) (rest := []) ⟨hx, hb, hml, hown, hts⟩ hK hP hN hS (c_X7_readOne_d5 l D cA ad hI σ16 τ16 hR z22 b N mo _ (nn + 1) nm hc (by omega) (by omega) (by omega) (by omega) gCT gWH) (cwV 1 hts gX7_readOne_X7_readOne rfl rfl rfl (by decide +kernel) ⟨by decide, by decide⟩) (rv_SText hK hP (by decide) (by decide)) rfl hl.1 rfl (Nat.le_of_ble_eq_true rfl) dX7_readOne_184 (Nat.zero_le _) (Nat.zero_le _) (fun r23 u23 H23 locs23 hp23 hP hS => ?_)
          obtain ⟨σ23, τ23⟩ := u23
          obtain ⟨hR, f23, fL23, hq23, hp23_0, hp23_1, gnWH⟩ : P_X7_readOne_d5 σ16 τ16 z22 b N mo _ (nn + 1) nm hc r23 σ23 τ23 := hp23
          have o1 := hp23_0
          have hP : va_P D vwCl (gw cA ad σ23 τ23) H23 := hP
          have hFL := hFL.step fL23 (by decide)
          have gWH := gWH.agL (AgrL.fr fL23 (by decide))
          have hF := hF.step f23 (by decide)
          have gWH := gWH.ag (Agr.fr f23 (by decide))
          have hr24 := rg_6_1 hR (k := 24) (by decide) (by decide)
          have hr25 := rg_6_2 hR (k := 24) (by decide) (by decide)
          refine r_if_eq (tgt := 208) hx hb dX7_readOne_187 (by decide) (fun c26 => ?_) (fun c26 => ?_)
          · clear hp23_1
            refine r_iconst hx hb dX7_readOne_208 (by decide) (fun z27 ez27 => ?_)
            exact r_zret hx hb hr hK hP hS hk (by omega) dX7_readOne_209 (show P_X7_readOne_d4 σ0 τ0 a1 b N mo q nn nm hc z27 σ23 τ23 from ⟨hR, hF, hFL, by omega, by first | exact RO.ofr ((one_l (by omega) (by omega) (by omega) (by omega)).trans (lea_n (by omega) (by omega))) (by omega) ⟨gCT, by omega, by omega⟩ | (exfalso; omega) | exact RO.ofk (one_x (by omega)) (by omega) (by omega) (by omega) | exact RO.ofk (one_4 (by omega) (by omega)) (by omega) (by omega) (by omega) | (obtain ⟨f, e1, x1, x2⟩ := o1.no (by omega); exact RO.ofl ((one_n (by omega) (by omega)).trans e1) (by omega) x1 x2) | exact RO.ofr ((one_n (by omega) (by omega)).trans e1) (by omega) ⟨gCT, by omega, by omega⟩ | (obtain ⟨f, e2, x1, x2⟩ := o2.no (by omega); exact RO.ofl (by rw [one_o (by omega) (by omega), e2, bnd_l]) (by omega) x1 x2) | (obtain ⟨f, e3, x1, x2⟩ := o3.no (by omega); exact RO.ofl (by rw [one_o (by omega) (by omega), e2, bnd_r, e3, bnd_l]) (by omega) x1 x2) | exact RO.ofr (by rw [one_o (by omega) (by omega), e2, bnd_r, e3, bnd_r]) (by omega) ⟨gCT, by omega, by omega⟩ | (rw [one_l (by omega) (by omega) (by omega) (by omega)]; exact o4.map (fun s es h => ⟨h.1, h.2.1, by have h2 := h.2.2; have hl := lea_up es; omega⟩)) | (rw [one_l (by omega) (by omega) (by omega) (by omega)]; exact o5.map (fun s es h => ⟨h.1, h.2.1, by have h2 := h.2.2; have hl := lea_up es; omega⟩)), by omega, gWH⟩)
          · replace hp23_1 := hp23_1.resolve_left (by omega)
            obtain ⟨s1, e1, gCT, hs1, hs2⟩ := o1.ye (by omega)
            have hu1 := one_up _ _ _ _ e1
            refine lv_aload_n hx hb dX7_readOne_190 rfl (lv_at hl 1 rfl) ?_
            refine fg_7_2 (k := 27) hx hb hts in_X7_readOne_7 hown hK hP (by decide) (by decide) (hts _ lk_X7_readOne_19) dX7_readOne_191 ?_
            refine r_bipush hx hb dX7_readOne_194 (by decide) (fun z28 ez28 => ?_)
            refine r_iconst hx hb dX7_readOne_196 (by decide) (fun z29 ez29 => ?_)
            refine r_iconst hx hb dX7_readOne_197 (by decide) (fun z30 ez30 => ?_)
            refine r_cVi (k := 24) (As := [.int z28, .int z29, .int z30]) (rest := []) ⟨hx, hb, hml, hown, hts⟩ hK hP hN hS (c_X6_add l D cA ad hI σ23 τ23 hR z28 z29 z30 (by omega)) (cwV 3 hts gX7_readOne_X6_add rfl rfl rfl (by decide +kernel) ⟨by decide, by decide⟩) (rv_Sent hK hP (by decide) (by decide)) rfl hl.1 rfl (Nat.le_of_ble_eq_true rfl) dX7_readOne_198 (Nat.zero_le _) (Nat.zero_le _) (fun r31 u31 H31 locs31 hp31 hP hS => ?_)
            obtain ⟨σ31, τ31⟩ := u31
            obtain ⟨hR, f31, fL31, hq31, hp31_0⟩ : P_X6_add σ23 τ23 z28 z29 z30 r31 σ31 τ31 := hp31
            have hP : va_P D vwCl (gw cA ad σ31 τ31) H31 := hP
            obtain rfl := FrL.nil fL31
            have hF := hF.step f31 (by decide)
            have gCT := gCT.ag (Agr.fr f31 (by decide))
            have gWH := gWH.ag (Agr.fr f31 (by decide))
            have t32 : (σ31 24 1).toInt = (σ23 24 1).toInt := congrArg Int32.toInt (f31.at 24 1 (by decide))
            have t33 : (σ31 1 13).toInt = (σ23 1 13).toInt := congrArg Int32.toInt (f31.at 1 13 (by decide))
            have hr34 := rg_6_2 hR (k := 24) (by decide) (by decide)
            refine r_if_eq (tgt := 208) hx hb dX7_readOne_201 (by decide) (fun c35 => ?_) (fun c35 => ?_)
            · refine r_iconst hx hb dX7_readOne_208 (by decide) (fun z36 ez36 => ?_)
              exact r_zret hx hb hr hK hP hS hk (by omega) dX7_readOne_209 (show P_X7_readOne_d4 σ0 τ0 a1 b N mo q nn nm hc z36 σ31 τ23 from ⟨hR, hF, hFL, by omega, by first | exact RO.ofr ((one_l (by omega) (by omega) (by omega) (by omega)).trans (lea_n (by omega) (by omega))) (by omega) ⟨gCT, by omega, by omega⟩ | (exfalso; omega) | exact RO.ofk (one_x (by omega)) (by omega) (by omega) (by omega) | exact RO.ofk (one_4 (by omega) (by omega)) (by omega) (by omega) (by omega) | (obtain ⟨f, e1, x1, x2⟩ := o1.no (by omega); exact RO.ofl ((one_n (by omega) (by omega)).trans e1) (by omega) x1 x2) | exact RO.ofr ((one_n (by omega) (by omega)).trans e1) (by omega) ⟨gCT, by omega, by omega⟩ | (obtain ⟨f, e2, x1, x2⟩ := o2.no (by omega); exact RO.ofl (by rw [one_o (by omega) (by omega), e2, bnd_l]) (by omega) x1 x2) | (obtain ⟨f, e3, x1, x2⟩ := o3.no (by omega); exact RO.ofl (by rw [one_o (by omega) (by omega), e2, bnd_r, e3, bnd_l]) (by omega) x1 x2) | exact RO.ofr (by rw [one_o (by omega) (by omega), e2, bnd_r, e3, bnd_r]) (by omega) ⟨gCT, by omega, by omega⟩ | (rw [one_l (by omega) (by omega) (by omega) (by omega)]; exact o4.map (fun s es h => ⟨h.1, h.2.1, by have h2 := h.2.2; have hl := lea_up es; omega⟩)) | (rw [one_l (by omega) (by omega) (by omega) (by omega)]; exact o5.map (fun s es h => ⟨h.1, h.2.1, by have h2 := h.2.2; have hl := lea_up es; omega⟩)), by omega, gWH⟩)
            · refine r_iconst hx hb dX7_readOne_204 (by decide) (fun z37 ez37 => ?_)
              refine lv_goto (tgt := 209) hx hb dX7_readOne_205 (by decide) ?_
              exact r_zret hx hb hr hK hP hS hk (by omega) dX7_readOne_209 (show P_X7_readOne_d4 σ0 τ0 a1 b N mo q nn nm hc z37 σ31 τ23 from ⟨hR, hF, hFL, by omega, by first | exact RO.ofr ((one_l (by omega) (by omega) (by omega) (by omega)).trans (lea_n (by omega) (by omega))) (by omega) ⟨gCT, by omega, by omega⟩ | (exfalso; omega) | exact RO.ofk (one_x (by omega)) (by omega) (by omega) (by omega) | exact RO.ofk (one_4 (by omega) (by omega)) (by omega) (by omega) (by omega) | (obtain ⟨f, e1, x1, x2⟩ := o1.no (by omega); exact RO.ofl ((one_n (by omega) (by omega)).trans e1) (by omega) x1 x2) | exact RO.ofr ((one_n (by omega) (by omega)).trans e1) (by omega) ⟨gCT, by omega, by omega⟩ | (obtain ⟨f, e2, x1, x2⟩ := o2.no (by omega); exact RO.ofl (by rw [one_o (by omega) (by omega), e2, bnd_l]) (by omega) x1 x2) | (obtain ⟨f, e3, x1, x2⟩ := o3.no (by omega); exact RO.ofl (by rw [one_o (by omega) (by omega), e2, bnd_r, e3, bnd_l]) (by omega) x1 x2) | exact RO.ofr (by rw [one_o (by omega) (by omega), e2, bnd_r, e3, bnd_r]) (by omega) ⟨gCT, by omega, by omega⟩ | (rw [one_l (by omega) (by omega) (by omega) (by omega)]; exact o4.map (fun s es h => ⟨h.1, h.2.1, by have h2 := h.2.2; have hl := lea_up es; omega⟩)) | (rw [one_l (by omega) (by omega) (by omega) (by omega)]; exact o5.map (fun s es h => ⟨h.1, h.2.1, by have h2 := h.2.2; have hl := lea_up es; omega⟩)), by omega, gWH⟩)
        by_cases c38 : (σ0 1 9).toInt = 23
        · refine lv_tableIn (off := 177) (tgt := 249) hx hb dX7_readOne_72 (by omega) (by omega) (by rw [c38]; rfl) (by decide) ?_
          refine lv_aload_n hx hb dX7_readOne_249 rfl (lv_at hl 1 rfl) ?_
          refine fg_7_2 (k := 27) hx hb hts in_X7_readOne_7 hown hK hP (by decide) (by decide) (hts _ lk_X7_readOne_19) dX7_readOne_250 ?_
          refine lv_iload_n hx hb dX7_readOne_253 rfl (lv_at hl 0 rfl) ?_
          refine r_bipush hx hb dX7_readOne_254 (by decide) (fun z39 ez39 => ?_)
          refine r_iconst hx hb dX7_readOne_256 (by decide) (fun z40 ez40 => ?_)
          refine r_cVi (k := 24) (As := [.int (σ0 1 9), .int z39, .int z40]) (rest := []) ⟨hx, hb, hml, hown, hts⟩ hK hP hN hS (c_X6_add l D cA ad hI σ16 τ16 hR (σ0 1 9) z39 z40 (by omega)) (cwV 3 hts gX7_readOne_X6_add rfl rfl rfl (by decide +kernel) ⟨by decide, by decide⟩) (rv_Sent hK hP (by decide) (by decide)) rfl hl.1 rfl (Nat.le_of_ble_eq_true rfl) dX7_readOne_257 (Nat.zero_le _) (Nat.zero_le _) (fun r41 u41 H41 locs41 hp41 hP hS => ?_)
          obtain ⟨σ41, τ41⟩ := u41
          obtain ⟨hR, f41, fL41, hq41, hp41_0⟩ : P_X6_add σ16 τ16 (σ0 1 9) z39 z40 r41 σ41 τ41 := hp41
          have hP : va_P D vwCl (gw cA ad σ41 τ41) H41 := hP
          obtain rfl := FrL.nil fL41
          have hF := hF.step f41 (by decide)
          have gCT := gCT.ag (Agr.fr f41 (by decide))
          have gWH := gWH.ag (Agr.fr f41 (by decide))
          have t42 : (σ41 1 13).toInt = (σ16 1 13).toInt := congrArg Int32.toInt (f41.at 1 13 (by decide))
          have t43 : (σ41 24 1).toInt = (σ16 24 1).toInt := congrArg Int32.toInt (f41.at 24 1 (by decide))
          have hr44 := rg_6_2 hR (k := 24) (by decide) (by decide)
          exact r_zret hx hb hr hK hP hS hk (by omega) dX7_readOne_260 (show P_X7_readOne_d4 σ0 τ0 a1 b N mo q nn nm hc r41 σ41 τ16 from ⟨hR, hF, hFL, by omega, by first | exact RO.ofr ((one_l (by omega) (by omega) (by omega) (by omega)).trans (lea_n (by omega) (by omega))) (by omega) ⟨gCT, by omega, by omega⟩ | (exfalso; omega) | exact RO.ofk (one_x (by omega)) (by omega) (by omega) (by omega) | exact RO.ofk (one_4 (by omega) (by omega)) (by omega) (by omega) (by omega) | (obtain ⟨f, e1, x1, x2⟩ := o1.no (by omega); exact RO.ofl ((one_n (by omega) (by omega)).trans e1) (by omega) x1 x2) | exact RO.ofr ((one_n (by omega) (by omega)).trans e1) (by omega) ⟨gCT, by omega, by omega⟩ | (obtain ⟨f, e2, x1, x2⟩ := o2.no (by omega); exact RO.ofl (by rw [one_o (by omega) (by omega), e2, bnd_l]) (by omega) x1 x2) | (obtain ⟨f, e3, x1, x2⟩ := o3.no (by omega); exact RO.ofl (by rw [one_o (by omega) (by omega), e2, bnd_r, e3, bnd_l]) (by omega) x1 x2) | exact RO.ofr (by rw [one_o (by omega) (by omega), e2, bnd_r, e3, bnd_r]) (by omega) ⟨gCT, by omega, by omega⟩ | (rw [one_l (by omega) (by omega) (by omega) (by omega)]; exact o4.map (fun s es h => ⟨h.1, h.2.1, by have h2 := h.2.2; have hl := lea_up es; omega⟩)) | (rw [one_l (by omega) (by omega) (by omega) (by omega)]; exact o5.map (fun s es h => ⟨h.1, h.2.1, by have h2 := h.2.2; have hl := lea_up es; omega⟩)), by omega, gWH⟩)
        by_cases c45 : (σ0 1 9).toInt = 24
        · refine lv_tableIn (off := 177) (tgt := 249) hx hb dX7_readOne_72 (by omega) (by omega) (by rw [c45]; rfl) (by decide) ?_
          refine lv_aload_n hx hb dX7_readOne_249 rfl (lv_at hl 1 rfl) ?_
          refine fg_7_2 (k := 27) hx hb hts in_X7_readOne_7 hown hK hP (by decide) (by decide) (hts _ lk_X7_readOne_19) dX7_readOne_250 ?_
          refine lv_iload_n hx hb dX7_readOne_253 rfl (lv_at hl 0 rfl) ?_
          refine r_bipush hx hb dX7_readOne_254 (by decide) (fun z46 ez46 => ?_)
          refine r_iconst hx hb dX7_readOne_256 (by decide) (fun z47 ez47 => ?_)
          refine r_cVi (k := 24) (As := [.int (σ0 1 9), .int z46, .int z47]) (rest := []) ⟨hx, hb, hml, hown, hts⟩ hK hP hN hS (c_X6_add l D cA ad hI σ16 τ16 hR (σ0 1 9) z46 z47 (by omega)) (cwV 3 hts gX7_readOne_X6_add rfl rfl rfl (by decide +kernel) ⟨by decide, by decide⟩) (rv_Sent hK hP (by decide) (by decide)) rfl hl.1 rfl (Nat.le_of_ble_eq_true rfl) dX7_readOne_257 (Nat.zero_le _) (Nat.zero_le _) (fun r48 u48 H48 locs48 hp48 hP hS => ?_)
          obtain ⟨σ48, τ48⟩ := u48
          obtain ⟨hR, f48, fL48, hq48, hp48_0⟩ : P_X6_add σ16 τ16 (σ0 1 9) z46 z47 r48 σ48 τ48 := hp48
          have hP : va_P D vwCl (gw cA ad σ48 τ48) H48 := hP
          obtain rfl := FrL.nil fL48
          have hF := hF.step f48 (by decide)
          have gCT := gCT.ag (Agr.fr f48 (by decide))
          have gWH := gWH.ag (Agr.fr f48 (by decide))
          have t49 : (σ48 1 13).toInt = (σ16 1 13).toInt := congrArg Int32.toInt (f48.at 1 13 (by decide))
          have t50 : (σ48 24 1).toInt = (σ16 24 1).toInt := congrArg Int32.toInt (f48.at 24 1 (by decide))
          have hr51 := rg_6_2 hR (k := 24) (by decide) (by decide)
          exact r_zret hx hb hr hK hP hS hk (by omega) dX7_readOne_260 (show P_X7_readOne_d4 σ0 τ0 a1 b N mo q nn nm hc r48 σ48 τ16 from ⟨hR, hF, hFL, by omega, by first | exact RO.ofr ((one_l (by omega) (by omega) (by omega) (by omega)).trans (lea_n (by omega) (by omega))) (by omega) ⟨gCT, by omega, by omega⟩ | (exfalso; omega) | exact RO.ofk (one_x (by omega)) (by omega) (by omega) (by omega) | exact RO.ofk (one_4 (by omega) (by omega)) (by omega) (by omega) (by omega) | (obtain ⟨f, e1, x1, x2⟩ := o1.no (by omega); exact RO.ofl ((one_n (by omega) (by omega)).trans e1) (by omega) x1 x2) | exact RO.ofr ((one_n (by omega) (by omega)).trans e1) (by omega) ⟨gCT, by omega, by omega⟩ | (obtain ⟨f, e2, x1, x2⟩ := o2.no (by omega); exact RO.ofl (by rw [one_o (by omega) (by omega), e2, bnd_l]) (by omega) x1 x2) | (obtain ⟨f, e3, x1, x2⟩ := o3.no (by omega); exact RO.ofl (by rw [one_o (by omega) (by omega), e2, bnd_r, e3, bnd_l]) (by omega) x1 x2) | exact RO.ofr (by rw [one_o (by omega) (by omega), e2, bnd_r, e3, bnd_r]) (by omega) ⟨gCT, by omega, by omega⟩ | (rw [one_l (by omega) (by omega) (by omega) (by omega)]; exact o4.map (fun s es h => ⟨h.1, h.2.1, by have h2 := h.2.2; have hl := lea_up es; omega⟩)) | (rw [one_l (by omega) (by omega) (by omega) (by omega)]; exact o5.map (fun s es h => ⟨h.1, h.2.1, by have h2 := h.2.2; have hl := lea_up es; omega⟩)), by omega, gWH⟩)
        by_cases c52 : (σ0 1 9).toInt = 25
        · refine lv_tableIn (off := 166) (tgt := 238) hx hb dX7_readOne_72 (by omega) (by omega) (by rw [c52]; rfl) (by decide) ?_
          refine lv_aload_n hx hb dX7_readOne_238 rfl (lv_at hl 1 rfl) ?_
          refine r_cVi (k := 27) (As := []) (rest := []) ⟨hx, hb, hml, hown, hts⟩ hK hP hN hS (c_X7_readOn l D cA ad hI σ16 τ16 hR b N mo _ (nn + 1) nm hc (tkq b N mo q) (by omega) (by omega) (by omega) gCT gWH) (cwV 0 hts gX7_readOne_X7_readOn rfl rfl rfl (by decide +kernel) ⟨by decide, by decide⟩) (rv_SText hK hP (by decide) (by decide)) rfl hl.1 rfl (Nat.le_of_ble_eq_true rfl) dX7_readOne_239 (Nat.zero_le _) (Nat.zero_le _) (fun r53 u53 H53 locs53 hp53 hP hS => ?_)
          obtain ⟨σ53, τ53⟩ := u53
          obtain ⟨hR, f53, fL53, hq53, hp53_0, hp53_1, gnWH⟩ : P_X7_readOn σ16 τ16 b N mo _ (nn + 1) nm hc (tkq b N mo q) r53 σ53 τ53 := hp53
          have o4 := hp53_0
          have hP : va_P D vwCl (gw cA ad σ53 τ53) H53 := hP
          have hFL := hFL.step fL53 (by decide)
          have gWH := gWH.agL (AgrL.fr fL53 (by decide))
          have hF := hF.step f53 (by decide)
          have gWH := gWH.ag (Agr.fr f53 (by decide))
          have t54 : (σ53 24 1).toInt = (σ16 24 1).toInt := congrArg Int32.toInt (f53.at 24 1 (by decide))
          have hr55 := rg_6_2 hR (k := 24) (by decide) (by decide)
          exact r_zret hx hb hr hK hP hS hk (by omega) dX7_readOne_242 (show P_X7_readOne_d4 σ0 τ0 a1 b N mo q nn nm hc r53 σ53 τ53 from ⟨hR, hF, hFL, by omega, by first | exact RO.ofr ((one_l (by omega) (by omega) (by omega) (by omega)).trans (lea_n (by omega) (by omega))) (by omega) ⟨gCT, by omega, by omega⟩ | (exfalso; omega) | exact RO.ofk (one_x (by omega)) (by omega) (by omega) (by omega) | exact RO.ofk (one_4 (by omega) (by omega)) (by omega) (by omega) (by omega) | (obtain ⟨f, e1, x1, x2⟩ := o1.no (by omega); exact RO.ofl ((one_n (by omega) (by omega)).trans e1) (by omega) x1 x2) | exact RO.ofr ((one_n (by omega) (by omega)).trans e1) (by omega) ⟨gCT, by omega, by omega⟩ | (obtain ⟨f, e2, x1, x2⟩ := o2.no (by omega); exact RO.ofl (by rw [one_o (by omega) (by omega), e2, bnd_l]) (by omega) x1 x2) | (obtain ⟨f, e3, x1, x2⟩ := o3.no (by omega); exact RO.ofl (by rw [one_o (by omega) (by omega), e2, bnd_r, e3, bnd_l]) (by omega) x1 x2) | exact RO.ofr (by rw [one_o (by omega) (by omega), e2, bnd_r, e3, bnd_r]) (by omega) ⟨gCT, by omega, by omega⟩ | (rw [one_l (by omega) (by omega) (by omega) (by omega)]; exact o4.map (fun s es h => ⟨h.1, h.2.1, by have h2 := h.2.2; have hl := lea_up es; omega⟩)) | (rw [one_l (by omega) (by omega) (by omega) (by omega)]; exact o5.map (fun s es h => ⟨h.1, h.2.1, by have h2 := h.2.2; have hl := lea_up es; omega⟩)), by omega, gWH⟩)
        by_cases c56 : (σ0 1 9).toInt = 26
        · refine lv_tableIn (off := 177) (tgt := 249) hx hb dX7_readOne_72 (by omega) (by omega) (by rw [c56]; rfl) (by decide) ?_
          refine lv_aload_n hx hb dX7_readOne_249 rfl (lv_at hl 1 rfl) ?_
          refine fg_7_2 (k := 27) hx hb hts in_X7_readOne_7 hown hK hP (by decide) (by decide) (hts _ lk_X7_readOne_19) dX7_readOne_250 ?_
          refine lv_iload_n hx hb dX7_readOne_253 rfl (lv_at hl 0 rfl) ?_
          refine r_bipush hx hb dX7_readOne_254 (by decide) (fun z57 ez57 => ?_)
          refine r_iconst hx hb dX7_readOne_256 (by decide) (fun z58 ez58 => ?_)
          refine r_cVi (k := 24) (As := [.int (σ0 1 9), .int z57, .int z58]) (rest := []) ⟨hx, hb, hml, hown, hts⟩ hK hP hN hS (c_X6_add l D cA ad hI σ16 τ16 hR (σ0 1 9) z57 z58 (by omega)) (cwV 3 hts gX7_readOne_X6_add rfl rfl rfl (by decide +kernel) ⟨by decide, by decide⟩) (rv_Sent hK hP (by decide) (by decide)) rfl hl.1 rfl (Nat.le_of_ble_eq_true rfl) dX7_readOne_257 (Nat.zero_le _) (Nat.zero_le _) (fun r59 u59 H59 locs59 hp59 hP hS => ?_)
          obtain ⟨σ59, τ59⟩ := u59
          obtain ⟨hR, f59, fL59, hq59, hp59_0⟩ : P_X6_add σ16 τ16 (σ0 1 9) z57 z58 r59 σ59 τ59 := hp59
          have hP : va_P D vwCl (gw cA ad σ59 τ59) H59 := hP
          obtain rfl := FrL.nil fL59
          have hF := hF.step f59 (by decide)
          have gCT := gCT.ag (Agr.fr f59 (by decide))
          have gWH := gWH.ag (Agr.fr f59 (by decide))
          have t60 : (σ59 1 13).toInt = (σ16 1 13).toInt := congrArg Int32.toInt (f59.at 1 13 (by decide))
          have t61 : (σ59 24 1).toInt = (σ16 24 1).toInt := congrArg Int32.toInt (f59.at 24 1 (by decide))
          have hr62 := rg_6_2 hR (k := 24) (by decide) (by decide)
          exact r_zret hx hb hr hK hP hS hk (by omega) dX7_readOne_260 (show P_X7_readOne_d4 σ0 τ0 a1 b N mo q nn nm hc r59 σ59 τ16 from ⟨hR, hF, hFL, by omega, by first | exact RO.ofr ((one_l (by omega) (by omega) (by omega) (by omega)).trans (lea_n (by omega) (by omega))) (by omega) ⟨gCT, by omega, by omega⟩ | (exfalso; omega) | exact RO.ofk (one_x (by omega)) (by omega) (by omega) (by omega) | exact RO.ofk (one_4 (by omega) (by omega)) (by omega) (by omega) (by omega) | (obtain ⟨f, e1, x1, x2⟩ := o1.no (by omega); exact RO.ofl ((one_n (by omega) (by omega)).trans e1) (by omega) x1 x2) | exact RO.ofr ((one_n (by omega) (by omega)).trans e1) (by omega) ⟨gCT, by omega, by omega⟩ | (obtain ⟨f, e2, x1, x2⟩ := o2.no (by omega); exact RO.ofl (by rw [one_o (by omega) (by omega), e2, bnd_l]) (by omega) x1 x2) | (obtain ⟨f, e3, x1, x2⟩ := o3.no (by omega); exact RO.ofl (by rw [one_o (by omega) (by omega), e2, bnd_r, e3, bnd_l]) (by omega) x1 x2) | exact RO.ofr (by rw [one_o (by omega) (by omega), e2, bnd_r, e3, bnd_r]) (by omega) ⟨gCT, by omega, by omega⟩ | (rw [one_l (by omega) (by omega) (by omega) (by omega)]; exact o4.map (fun s es h => ⟨h.1, h.2.1, by have h2 := h.2.2; have hl := lea_up es; omega⟩)) | (rw [one_l (by omega) (by omega) (by omega) (by omega)]; exact o5.map (fun s es h => ⟨h.1, h.2.1, by have h2 := h.2.2; have hl := lea_up es; omega⟩)), by omega, gWH⟩)
        by_cases c63 : (σ0 1 9).toInt = 27
        · refine lv_tableIn (off := 171) (tgt := 243) hx hb dX7_readOne_72 (by omega) (by omega) (by rw [c63]; rfl) (by decide) ?_
          refine lv_aload_n hx hb dX7_readOne_243 rfl (lv_at hl 1 rfl) ?_
          refine lv_iload_n hx hb dX7_readOne_244 rfl (lv_at hl 0 rfl) ?_
          refine r_cVi (k := 27) (As := [.int (σ0 1 9)]) (rest := []) ⟨hx, hb, hml, hown, hts⟩ hK hP hN hS (c_X7_readMeasure l D cA ad hI σ16 τ16 hR (σ0 1 9) b N mo _ (nn + 1) nm hc (tkq b N mo q) (by omega) (by omega) (by omega) (by omega) gCT gWH) (cwV 1 hts gX7_readOne_X7_readMeasure rfl rfl rfl (by decide +kernel) ⟨by decide, by decide⟩) (rv_SText hK hP (by decide) (by decide)) rfl hl.1 rfl (Nat.le_of_ble_eq_true rfl) dX7_readOne_245 (Nat.zero_le _) (Nat.zero_le _) (fun r64 u64 H64 locs64 hp64 hP hS => ?_)
          obtain ⟨σ64, τ64⟩ := u64
          obtain ⟨hR, f64, fL64, hq64, hp64_0, hp64_1, gnWH⟩ : P_X7_readMeasure σ16 τ16 (σ0 1 9) b N mo _ (nn + 1) nm hc (tkq b N mo q) r64 σ64 τ64 := hp64
          have o5 := hp64_0
          have hP : va_P D vwCl (gw cA ad σ64 τ64) H64 := hP
          have hFL := hFL.step fL64 (by decide)
          have gWH := gWH.agL (AgrL.fr fL64 (by decide))
          have hF := hF.step f64 (by decide)
          have gWH := gWH.ag (Agr.fr f64 (by decide))
          have t65 : (σ64 24 1).toInt = (σ16 24 1).toInt := congrArg Int32.toInt (f64.at 24 1 (by decide))
          have hr66 := rg_6_2 hR (k := 24) (by decide) (by decide)
          exact r_zret hx hb hr hK hP hS hk (by omega) dX7_readOne_248 (show P_X7_readOne_d4 σ0 τ0 a1 b N mo q nn nm hc r64 σ64 τ64 from ⟨hR, hF, hFL, by omega, by first | exact RO.ofr ((one_l (by omega) (by omega) (by omega) (by omega)).trans (lea_n (by omega) (by omega))) (by omega) ⟨gCT, by omega, by omega⟩ | (exfalso; omega) | exact RO.ofk (one_x (by omega)) (by omega) (by omega) (by omega) | exact RO.ofk (one_4 (by omega) (by omega)) (by omega) (by omega) (by omega) | (obtain ⟨f, e1, x1, x2⟩ := o1.no (by omega); exact RO.ofl ((one_n (by omega) (by omega)).trans e1) (by omega) x1 x2) | exact RO.ofr ((one_n (by omega) (by omega)).trans e1) (by omega) ⟨gCT, by omega, by omega⟩ | (obtain ⟨f, e2, x1, x2⟩ := o2.no (by omega); exact RO.ofl (by rw [one_o (by omega) (by omega), e2, bnd_l]) (by omega) x1 x2) | (obtain ⟨f, e3, x1, x2⟩ := o3.no (by omega); exact RO.ofl (by rw [one_o (by omega) (by omega), e2, bnd_r, e3, bnd_l]) (by omega) x1 x2) | exact RO.ofr (by rw [one_o (by omega) (by omega), e2, bnd_r, e3, bnd_r]) (by omega) ⟨gCT, by omega, by omega⟩ | (rw [one_l (by omega) (by omega) (by omega) (by omega)]; exact o4.map (fun s es h => ⟨h.1, h.2.1, by have h2 := h.2.2; have hl := lea_up es; omega⟩)) | (rw [one_l (by omega) (by omega) (by omega) (by omega)]; exact o5.map (fun s es h => ⟨h.1, h.2.1, by have h2 := h.2.2; have hl := lea_up es; omega⟩)), by omega, gWH⟩)
        by_cases c67 : (σ0 1 9).toInt = 28
        · refine lv_tableIn (off := 171) (tgt := 243) hx hb dX7_readOne_72 (by omega) (by omega) (by rw [c67]; rfl) (by decide) ?_
          refine lv_aload_n hx hb dX7_readOne_243 rfl (lv_at hl 1 rfl) ?_
          refine lv_iload_n hx hb dX7_readOne_244 rfl (lv_at hl 0 rfl) ?_
          refine r_cVi (k := 27) (As := [.int (σ0 1 9)]) (rest := []) ⟨hx, hb, hml, hown, hts⟩ hK hP hN hS (c_X7_readMeasure l D cA ad hI σ16 τ16 hR (σ0 1 9) b N mo _ (nn + 1) nm hc (tkq b N mo q) (by omega) (by omega) (by omega) (by omega) gCT gWH) (cwV 1 hts gX7_readOne_X7_readMeasure rfl rfl rfl (by decide +kernel) ⟨by decide, by decide⟩) (rv_SText hK hP (by decide) (by decide)) rfl hl.1 rfl (Nat.le_of_ble_eq_true rfl) dX7_readOne_245 (Nat.zero_le _) (Nat.zero_le _) (fun r68 u68 H68 locs68 hp68 hP hS => ?_)
          obtain ⟨σ68, τ68⟩ := u68
          obtain ⟨hR, f68, fL68, hq68, hp68_0, hp68_1, gnWH⟩ : P_X7_readMeasure σ16 τ16 (σ0 1 9) b N mo _ (nn + 1) nm hc (tkq b N mo q) r68 σ68 τ68 := hp68
          have o5 := hp68_0
          have hP : va_P D vwCl (gw cA ad σ68 τ68) H68 := hP
          have hFL := hFL.step fL68 (by decide)
          have gWH := gWH.agL (AgrL.fr fL68 (by decide))
          have hF := hF.step f68 (by decide)
          have gWH := gWH.ag (Agr.fr f68 (by decide))
          have t69 : (σ68 24 1).toInt = (σ16 24 1).toInt := congrArg Int32.toInt (f68.at 24 1 (by decide))
          have hr70 := rg_6_2 hR (k := 24) (by decide) (by decide)
          exact r_zret hx hb hr hK hP hS hk (by omega) dX7_readOne_248 (show P_X7_readOne_d4 σ0 τ0 a1 b N mo q nn nm hc r68 σ68 τ68 from ⟨hR, hF, hFL, by omega, by first | exact RO.ofr ((one_l (by omega) (by omega) (by omega) (by omega)).trans (lea_n (by omega) (by omega))) (by omega) ⟨gCT, by omega, by omega⟩ | (exfalso; omega) | exact RO.ofk (one_x (by omega)) (by omega) (by omega) (by omega) | exact RO.ofk (one_4 (by omega) (by omega)) (by omega) (by omega) (by omega) | (obtain ⟨f, e1, x1, x2⟩ := o1.no (by omega); exact RO.ofl ((one_n (by omega) (by omega)).trans e1) (by omega) x1 x2) | exact RO.ofr ((one_n (by omega) (by omega)).trans e1) (by omega) ⟨gCT, by omega, by omega⟩ | (obtain ⟨f, e2, x1, x2⟩ := o2.no (by omega); exact RO.ofl (by rw [one_o (by omega) (by omega), e2, bnd_l]) (by omega) x1 x2) | (obtain ⟨f, e3, x1, x2⟩ := o3.no (by omega); exact RO.ofl (by rw [one_o (by omega) (by omega), e2, bnd_r, e3, bnd_l]) (by omega) x1 x2) | exact RO.ofr (by rw [one_o (by omega) (by omega), e2, bnd_r, e3, bnd_r]) (by omega) ⟨gCT, by omega, by omega⟩ | (rw [one_l (by omega) (by omega) (by omega) (by omega)]; exact o4.map (fun s es h => ⟨h.1, h.2.1, by have h2 := h.2.2; have hl := lea_up es; omega⟩)) | (rw [one_l (by omega) (by omega) (by omega) (by omega)]; exact o5.map (fun s es h => ⟨h.1, h.2.1, by have h2 := h.2.2; have hl := lea_up es; omega⟩)), by omega, gWH⟩)
        by_cases c71 : (σ0 1 9).toInt = 29
        · refine lv_tableIn (off := 171) (tgt := 243) hx hb dX7_readOne_72 (by omega) (by omega) (by rw [c71]; rfl) (by decide) ?_
          refine lv_aload_n hx hb dX7_readOne_243 rfl (lv_at hl 1 rfl) ?_
          refine lv_iload_n hx hb dX7_readOne_244 rfl (lv_at hl 0 rfl) ?_
          refine r_cVi (k := 27) (As := [.int (σ0 1 9)]) (rest := []) ⟨hx, hb, hml, hown, hts⟩ hK hP hN hS (c_X7_readMeasure l D cA ad hI σ16 τ16 hR (σ0 1 9) b N mo _ (nn + 1) nm hc (tkq b N mo q) (by omega) (by omega) (by omega) (by omega) gCT gWH) (cwV 1 hts gX7_readOne_X7_readMeasure rfl rfl rfl (by decide +kernel) ⟨by decide, by decide⟩) (rv_SText hK hP (by decide) (by decide)) rfl hl.1 rfl (Nat.le_of_ble_eq_true rfl) dX7_readOne_245 (Nat.zero_le _) (Nat.zero_le _) (fun r72 u72 H72 locs72 hp72 hP hS => ?_)
          obtain ⟨σ72, τ72⟩ := u72
          obtain ⟨hR, f72, fL72, hq72, hp72_0, hp72_1, gnWH⟩ : P_X7_readMeasure σ16 τ16 (σ0 1 9) b N mo _ (nn + 1) nm hc (tkq b N mo q) r72 σ72 τ72 := hp72
          have o5 := hp72_0
          have hP : va_P D vwCl (gw cA ad σ72 τ72) H72 := hP
          have hFL := hFL.step fL72 (by decide)
          have gWH := gWH.agL (AgrL.fr fL72 (by decide))
          have hF := hF.step f72 (by decide)
          have gWH := gWH.ag (Agr.fr f72 (by decide))
          have t73 : (σ72 24 1).toInt = (σ16 24 1).toInt := congrArg Int32.toInt (f72.at 24 1 (by decide))
          have hr74 := rg_6_2 hR (k := 24) (by decide) (by decide)
          exact r_zret hx hb hr hK hP hS hk (by omega) dX7_readOne_248 (show P_X7_readOne_d4 σ0 τ0 a1 b N mo q nn nm hc r72 σ72 τ72 from ⟨hR, hF, hFL, by omega, by first | exact RO.ofr ((one_l (by omega) (by omega) (by omega) (by omega)).trans (lea_n (by omega) (by omega))) (by omega) ⟨gCT, by omega, by omega⟩ | (exfalso; omega) | exact RO.ofk (one_x (by omega)) (by omega) (by omega) (by omega) | exact RO.ofk (one_4 (by omega) (by omega)) (by omega) (by omega) (by omega) | (obtain ⟨f, e1, x1, x2⟩ := o1.no (by omega); exact RO.ofl ((one_n (by omega) (by omega)).trans e1) (by omega) x1 x2) | exact RO.ofr ((one_n (by omega) (by omega)).trans e1) (by omega) ⟨gCT, by omega, by omega⟩ | (obtain ⟨f, e2, x1, x2⟩ := o2.no (by omega); exact RO.ofl (by rw [one_o (by omega) (by omega), e2, bnd_l]) (by omega) x1 x2) | (obtain ⟨f, e3, x1, x2⟩ := o3.no (by omega); exact RO.ofl (by rw [one_o (by omega) (by omega), e2, bnd_r, e3, bnd_l]) (by omega) x1 x2) | exact RO.ofr (by rw [one_o (by omega) (by omega), e2, bnd_r, e3, bnd_r]) (by omega) ⟨gCT, by omega, by omega⟩ | (rw [one_l (by omega) (by omega) (by omega) (by omega)]; exact o4.map (fun s es h => ⟨h.1, h.2.1, by have h2 := h.2.2; have hl := lea_up es; omega⟩)) | (rw [one_l (by omega) (by omega) (by omega) (by omega)]; exact o5.map (fun s es h => ⟨h.1, h.2.1, by have h2 := h.2.2; have hl := lea_up es; omega⟩)), by omega, gWH⟩)
        by_cases c75 : (σ0 1 9).toInt = 30
        · refine lv_tableIn (off := 171) (tgt := 243) hx hb dX7_readOne_72 (by omega) (by omega) (by rw [c75]; rfl) (by decide) ?_
          refine lv_aload_n hx hb dX7_readOne_243 rfl (lv_at hl 1 rfl) ?_
          refine lv_iload_n hx hb dX7_readOne_244 rfl (lv_at hl 0 rfl) ?_
          refine r_cVi (k := 27) (As := [.int (σ0 1 9)]) (rest := []) ⟨hx, hb, hml, hown, hts⟩ hK hP hN hS (c_X7_readMeasure l D cA ad hI σ16 τ16 hR (σ0 1 9) b N mo _ (nn + 1) nm hc (tkq b N mo q) (by omega) (by omega) (by omega) (by omega) gCT gWH) (cwV 1 hts gX7_readOne_X7_readMeasure rfl rfl rfl (by decide +kernel) ⟨by decide, by decide⟩) (rv_SText hK hP (by decide) (by decide)) rfl hl.1 rfl (Nat.le_of_ble_eq_true rfl) dX7_readOne_245 (Nat.zero_le _) (Nat.zero_le _) (fun r76 u76 H76 locs76 hp76 hP hS => ?_)
          obtain ⟨σ76, τ76⟩ := u76
          obtain ⟨hR, f76, fL76, hq76, hp76_0, hp76_1, gnWH⟩ : P_X7_readMeasure σ16 τ16 (σ0 1 9) b N mo _ (nn + 1) nm hc (tkq b N mo q) r76 σ76 τ76 := hp76
          have o5 := hp76_0
          have hP : va_P D vwCl (gw cA ad σ76 τ76) H76 := hP
          have hFL := hFL.step fL76 (by decide)
          have gWH := gWH.agL (AgrL.fr fL76 (by decide))
          have hF := hF.step f76 (by decide)
          have gWH := gWH.ag (Agr.fr f76 (by decide))
          have t77 : (σ76 24 1).toInt = (σ16 24 1).toInt := congrArg Int32.toInt (f76.at 24 1 (by decide))
          have hr78 := rg_6_2 hR (k := 24) (by decide) (by decide)
          exact r_zret hx hb hr hK hP hS hk (by omega) dX7_readOne_248 (show P_X7_readOne_d4 σ0 τ0 a1 b N mo q nn nm hc r76 σ76 τ76 from ⟨hR, hF, hFL, by omega, by first | exact RO.ofr ((one_l (by omega) (by omega) (by omega) (by omega)).trans (lea_n (by omega) (by omega))) (by omega) ⟨gCT, by omega, by omega⟩ | (exfalso; omega) | exact RO.ofk (one_x (by omega)) (by omega) (by omega) (by omega) | exact RO.ofk (one_4 (by omega) (by omega)) (by omega) (by omega) (by omega) | (obtain ⟨f, e1, x1, x2⟩ := o1.no (by omega); exact RO.ofl ((one_n (by omega) (by omega)).trans e1) (by omega) x1 x2) | exact RO.ofr ((one_n (by omega) (by omega)).trans e1) (by omega) ⟨gCT, by omega, by omega⟩ | (obtain ⟨f, e2, x1, x2⟩ := o2.no (by omega); exact RO.ofl (by rw [one_o (by omega) (by omega), e2, bnd_l]) (by omega) x1 x2) | (obtain ⟨f, e3, x1, x2⟩ := o3.no (by omega); exact RO.ofl (by rw [one_o (by omega) (by omega), e2, bnd_r, e3, bnd_l]) (by omega) x1 x2) | exact RO.ofr (by rw [one_o (by omega) (by omega), e2, bnd_r, e3, bnd_r]) (by omega) ⟨gCT, by omega, by omega⟩ | (rw [one_l (by omega) (by omega) (by omega) (by omega)]; exact o4.map (fun s es h => ⟨h.1, h.2.1, by have h2 := h.2.2; have hl := lea_up es; omega⟩)) | (rw [one_l (by omega) (by omega) (by omega) (by omega)]; exact o5.map (fun s es h => ⟨h.1, h.2.1, by have h2 := h.2.2; have hl := lea_up es; omega⟩)), by omega, gWH⟩)
        by_cases c79 : (σ0 1 9).toInt = 31
        · refine lv_tableIn (off := 177) (tgt := 249) hx hb dX7_readOne_72 (by omega) (by omega) (by rw [c79]; rfl) (by decide) ?_
          refine lv_aload_n hx hb dX7_readOne_249 rfl (lv_at hl 1 rfl) ?_
          refine fg_7_2 (k := 27) hx hb hts in_X7_readOne_7 hown hK hP (by decide) (by decide) (hts _ lk_X7_readOne_19) dX7_readOne_250 ?_
          refine lv_iload_n hx hb dX7_readOne_253 rfl (lv_at hl 0 rfl) ?_
          refine r_bipush hx hb dX7_readOne_254 (by decide) (fun z80 ez80 => ?_)
          refine r_iconst hx hb dX7_readOne_256 (by decide) (fun z81 ez81 => ?_)
          refine r_cVi (k := 24) (As := [.int (σ0 1 9), .int z80, .int z81]) (rest := []) ⟨hx, hb, hml, hown, hts⟩ hK hP hN hS (c_X6_add l D cA ad hI σ16 τ16 hR (σ0 1 9) z80 z81 (by omega)) (cwV 3 hts gX7_readOne_X6_add rfl rfl rfl (by decide +kernel) ⟨by decide, by decide⟩) (rv_Sent hK hP (by decide) (by decide)) rfl hl.1 rfl (Nat.le_of_ble_eq_true rfl) dX7_readOne_257 (Nat.zero_le _) (Nat.zero_le _) (fun r82 u82 H82 locs82 hp82 hP hS => ?_)
          obtain ⟨σ82, τ82⟩ := u82
          obtain ⟨hR, f82, fL82, hq82, hp82_0⟩ : P_X6_add σ16 τ16 (σ0 1 9) z80 z81 r82 σ82 τ82 := hp82
          have hP : va_P D vwCl (gw cA ad σ82 τ82) H82 := hP
          obtain rfl := FrL.nil fL82
          have hF := hF.step f82 (by decide)
          have gCT := gCT.ag (Agr.fr f82 (by decide))
          have gWH := gWH.ag (Agr.fr f82 (by decide))
          have t83 : (σ82 1 13).toInt = (σ16 1 13).toInt := congrArg Int32.toInt (f82.at 1 13 (by decide))
          have t84 : (σ82 24 1).toInt = (σ16 24 1).toInt := congrArg Int32.toInt (f82.at 24 1 (by decide))
          have hr85 := rg_6_2 hR (k := 24) (by decide) (by decide)
          exact r_zret hx hb hr hK hP hS hk (by omega) dX7_readOne_260 (show P_X7_readOne_d4 σ0 τ0 a1 b N mo q nn nm hc r82 σ82 τ16 from ⟨hR, hF, hFL, by omega, by first | exact RO.ofr ((one_l (by omega) (by omega) (by omega) (by omega)).trans (lea_n (by omega) (by omega))) (by omega) ⟨gCT, by omega, by omega⟩ | (exfalso; omega) | exact RO.ofk (one_x (by omega)) (by omega) (by omega) (by omega) | exact RO.ofk (one_4 (by omega) (by omega)) (by omega) (by omega) (by omega) | (obtain ⟨f, e1, x1, x2⟩ := o1.no (by omega); exact RO.ofl ((one_n (by omega) (by omega)).trans e1) (by omega) x1 x2) | exact RO.ofr ((one_n (by omega) (by omega)).trans e1) (by omega) ⟨gCT, by omega, by omega⟩ | (obtain ⟨f, e2, x1, x2⟩ := o2.no (by omega); exact RO.ofl (by rw [one_o (by omega) (by omega), e2, bnd_l]) (by omega) x1 x2) | (obtain ⟨f, e3, x1, x2⟩ := o3.no (by omega); exact RO.ofl (by rw [one_o (by omega) (by omega), e2, bnd_r, e3, bnd_l]) (by omega) x1 x2) | exact RO.ofr (by rw [one_o (by omega) (by omega), e2, bnd_r, e3, bnd_r]) (by omega) ⟨gCT, by omega, by omega⟩ | (rw [one_l (by omega) (by omega) (by omega) (by omega)]; exact o4.map (fun s es h => ⟨h.1, h.2.1, by have h2 := h.2.2; have hl := lea_up es; omega⟩)) | (rw [one_l (by omega) (by omega) (by omega) (by omega)]; exact o5.map (fun s es h => ⟨h.1, h.2.1, by have h2 := h.2.2; have hl := lea_up es; omega⟩)), by omega, gWH⟩)
        by_cases c86 : (σ0 1 9).toInt = 32
        · refine lv_tableIn (off := 177) (tgt := 249) hx hb dX7_readOne_72 (by omega) (by omega) (by rw [c86]; rfl) (by decide) ?_
          refine lv_aload_n hx hb dX7_readOne_249 rfl (lv_at hl 1 rfl) ?_
          refine fg_7_2 (k := 27) hx hb hts in_X7_readOne_7 hown hK hP (by decide) (by decide) (hts _ lk_X7_readOne_19) dX7_readOne_250 ?_
          refine lv_iload_n hx hb dX7_readOne_253 rfl (lv_at hl 0 rfl) ?_
          refine r_bipush hx hb dX7_readOne_254 (by decide) (fun z87 ez87 => ?_)
          refine r_iconst hx hb dX7_readOne_256 (by decide) (fun z88 ez88 => ?_)
          refine r_cVi (k := 24) (As := [.int (σ0 1 9), .int z87, .int z88]) (rest := []) ⟨hx, hb, hml, hown, hts⟩ hK hP hN hS (c_X6_add l D cA ad hI σ16 τ16 hR (σ0 1 9) z87 z88 (by omega)) (cwV 3 hts gX7_readOne_X6_add rfl rfl rfl (by decide +kernel) ⟨by decide, by decide⟩) (rv_Sent hK hP (by decide) (by decide)) rfl hl.1 rfl (Nat.le_of_ble_eq_true rfl) dX7_readOne_257 (Nat.zero_le _) (Nat.zero_le _) (fun r89 u89 H89 locs89 hp89 hP hS => ?_)
          obtain ⟨σ89, τ89⟩ := u89
          obtain ⟨hR, f89, fL89, hq89, hp89_0⟩ : P_X6_add σ16 τ16 (σ0 1 9) z87 z88 r89 σ89 τ89 := hp89
          have hP : va_P D vwCl (gw cA ad σ89 τ89) H89 := hP
          obtain rfl := FrL.nil fL89
          have hF := hF.step f89 (by decide)
          have gCT := gCT.ag (Agr.fr f89 (by decide))
          have gWH := gWH.ag (Agr.fr f89 (by decide))
          have t90 : (σ89 1 13).toInt = (σ16 1 13).toInt := congrArg Int32.toInt (f89.at 1 13 (by decide))
          have t91 : (σ89 24 1).toInt = (σ16 24 1).toInt := congrArg Int32.toInt (f89.at 24 1 (by decide))
          have hr92 := rg_6_2 hR (k := 24) (by decide) (by decide)
          exact r_zret hx hb hr hK hP hS hk (by omega) dX7_readOne_260 (show P_X7_readOne_d4 σ0 τ0 a1 b N mo q nn nm hc r89 σ89 τ16 from ⟨hR, hF, hFL, by omega, by first | exact RO.ofr ((one_l (by omega) (by omega) (by omega) (by omega)).trans (lea_n (by omega) (by omega))) (by omega) ⟨gCT, by omega, by omega⟩ | (exfalso; omega) | exact RO.ofk (one_x (by omega)) (by omega) (by omega) (by omega) | exact RO.ofk (one_4 (by omega) (by omega)) (by omega) (by omega) (by omega) | (obtain ⟨f, e1, x1, x2⟩ := o1.no (by omega); exact RO.ofl ((one_n (by omega) (by omega)).trans e1) (by omega) x1 x2) | exact RO.ofr ((one_n (by omega) (by omega)).trans e1) (by omega) ⟨gCT, by omega, by omega⟩ | (obtain ⟨f, e2, x1, x2⟩ := o2.no (by omega); exact RO.ofl (by rw [one_o (by omega) (by omega), e2, bnd_l]) (by omega) x1 x2) | (obtain ⟨f, e3, x1, x2⟩ := o3.no (by omega); exact RO.ofl (by rw [one_o (by omega) (by omega), e2, bnd_r, e3, bnd_l]) (by omega) x1 x2) | exact RO.ofr (by rw [one_o (by omega) (by omega), e2, bnd_r, e3, bnd_r]) (by omega) ⟨gCT, by omega, by omega⟩ | (rw [one_l (by omega) (by omega) (by omega) (by omega)]; exact o4.map (fun s es h => ⟨h.1, h.2.1, by have h2 := h.2.2; have hl := lea_up es; omega⟩)) | (rw [one_l (by omega) (by omega) (by omega) (by omega)]; exact o5.map (fun s es h => ⟨h.1, h.2.1, by have h2 := h.2.2; have hl := lea_up es; omega⟩)), by omega, gWH⟩)
        by_cases c93 : (σ0 1 9).toInt = 33
        · refine lv_tableIn (off := 177) (tgt := 249) hx hb dX7_readOne_72 (by omega) (by omega) (by rw [c93]; rfl) (by decide) ?_
          refine lv_aload_n hx hb dX7_readOne_249 rfl (lv_at hl 1 rfl) ?_
          refine fg_7_2 (k := 27) hx hb hts in_X7_readOne_7 hown hK hP (by decide) (by decide) (hts _ lk_X7_readOne_19) dX7_readOne_250 ?_
          refine lv_iload_n hx hb dX7_readOne_253 rfl (lv_at hl 0 rfl) ?_
          refine r_bipush hx hb dX7_readOne_254 (by decide) (fun z94 ez94 => ?_)
          refine r_iconst hx hb dX7_readOne_256 (by decide) (fun z95 ez95 => ?_)
          refine r_cVi (k := 24) (As := [.int (σ0 1 9), .int z94, .int z95]) (rest := []) ⟨hx, hb, hml, hown, hts⟩ hK hP hN hS (c_X6_add l D cA ad hI σ16 τ16 hR (σ0 1 9) z94 z95 (by omega)) (cwV 3 hts gX7_readOne_X6_add rfl rfl rfl (by decide +kernel) ⟨by decide, by decide⟩) (rv_Sent hK hP (by decide) (by decide)) rfl hl.1 rfl (Nat.le_of_ble_eq_true rfl) dX7_readOne_257 (Nat.zero_le _) (Nat.zero_le _) (fun r96 u96 H96 locs96 hp96 hP hS => ?_)
          obtain ⟨σ96, τ96⟩ := u96
          obtain ⟨hR, f96, fL96, hq96, hp96_0⟩ : P_X6_add σ16 τ16 (σ0 1 9) z94 z95 r96 σ96 τ96 := hp96
          have hP : va_P D vwCl (gw cA ad σ96 τ96) H96 := hP
          obtain rfl := FrL.nil fL96
          have hF := hF.step f96 (by decide)
          have gCT := gCT.ag (Agr.fr f96 (by decide))
          have gWH := gWH.ag (Agr.fr f96 (by decide))
          have t97 : (σ96 1 13).toInt = (σ16 1 13).toInt := congrArg Int32.toInt (f96.at 1 13 (by decide))
          have t98 : (σ96 24 1).toInt = (σ16 24 1).toInt := congrArg Int32.toInt (f96.at 24 1 (by decide))
          have hr99 := rg_6_2 hR (k := 24) (by decide) (by decide)
          exact r_zret hx hb hr hK hP hS hk (by omega) dX7_readOne_260 (show P_X7_readOne_d4 σ0 τ0 a1 b N mo q nn nm hc r96 σ96 τ16 from ⟨hR, hF, hFL, by omega, by first | exact RO.ofr ((one_l (by omega) (by omega) (by omega) (by omega)).trans (lea_n (by omega) (by omega))) (by omega) ⟨gCT, by omega, by omega⟩ | (exfalso; omega) | exact RO.ofk (one_x (by omega)) (by omega) (by omega) (by omega) | exact RO.ofk (one_4 (by omega) (by omega)) (by omega) (by omega) (by omega) | (obtain ⟨f, e1, x1, x2⟩ := o1.no (by omega); exact RO.ofl ((one_n (by omega) (by omega)).trans e1) (by omega) x1 x2) | exact RO.ofr ((one_n (by omega) (by omega)).trans e1) (by omega) ⟨gCT, by omega, by omega⟩ | (obtain ⟨f, e2, x1, x2⟩ := o2.no (by omega); exact RO.ofl (by rw [one_o (by omega) (by omega), e2, bnd_l]) (by omega) x1 x2) | (obtain ⟨f, e3, x1, x2⟩ := o3.no (by omega); exact RO.ofl (by rw [one_o (by omega) (by omega), e2, bnd_r, e3, bnd_l]) (by omega) x1 x2) | exact RO.ofr (by rw [one_o (by omega) (by omega), e2, bnd_r, e3, bnd_r]) (by omega) ⟨gCT, by omega, by omega⟩ | (rw [one_l (by omega) (by omega) (by omega) (by omega)]; exact o4.map (fun s es h => ⟨h.1, h.2.1, by have h2 := h.2.2; have hl := lea_up es; omega⟩)) | (rw [one_l (by omega) (by omega) (by omega) (by omega)]; exact o5.map (fun s es h => ⟨h.1, h.2.1, by have h2 := h.2.2; have hl := lea_up es; omega⟩)), by omega, gWH⟩)
        by_cases c100 : (σ0 1 9).toInt = 34
        · refine lv_tableIn (off := 177) (tgt := 249) hx hb dX7_readOne_72 (by omega) (by omega) (by rw [c100]; rfl) (by decide) ?_
          refine lv_aload_n hx hb dX7_readOne_249 rfl (lv_at hl 1 rfl) ?_
          refine fg_7_2 (k := 27) hx hb hts in_X7_readOne_7 hown hK hP (by decide) (by decide) (hts _ lk_X7_readOne_19) dX7_readOne_250 ?_
          refine lv_iload_n hx hb dX7_readOne_253 rfl (lv_at hl 0 rfl) ?_
          refine r_bipush hx hb dX7_readOne_254 (by decide) (fun z101 ez101 => ?_)
          refine r_iconst hx hb dX7_readOne_256 (by decide) (fun z102 ez102 => ?_)
          refine r_cVi (k := 24) (As := [.int (σ0 1 9), .int z101, .int z102]) (rest := []) ⟨hx, hb, hml, hown, hts⟩ hK hP hN hS (c_X6_add l D cA ad hI σ16 τ16 hR (σ0 1 9) z101 z102 (by omega)) (cwV 3 hts gX7_readOne_X6_add rfl rfl rfl (by decide +kernel) ⟨by decide, by decide⟩) (rv_Sent hK hP (by decide) (by decide)) rfl hl.1 rfl (Nat.le_of_ble_eq_true rfl) dX7_readOne_257 (Nat.zero_le _) (Nat.zero_le _) (fun r103 u103 H103 locs103 hp103 hP hS => ?_)
          obtain ⟨σ103, τ103⟩ := u103
          obtain ⟨hR, f103, fL103, hq103, hp103_0⟩ : P_X6_add σ16 τ16 (σ0 1 9) z101 z102 r103 σ103 τ103 := hp103
          have hP : va_P D vwCl (gw cA ad σ103 τ103) H103 := hP
          obtain rfl := FrL.nil fL103
          have hF := hF.step f103 (by decide)
          have gCT := gCT.ag (Agr.fr f103 (by decide))
          have gWH := gWH.ag (Agr.fr f103 (by decide))
          have t104 : (σ103 1 13).toInt = (σ16 1 13).toInt := congrArg Int32.toInt (f103.at 1 13 (by decide))
          have t105 : (σ103 24 1).toInt = (σ16 24 1).toInt := congrArg Int32.toInt (f103.at 24 1 (by decide))
          have hr106 := rg_6_2 hR (k := 24) (by decide) (by decide)
          exact r_zret hx hb hr hK hP hS hk (by omega) dX7_readOne_260 (show P_X7_readOne_d4 σ0 τ0 a1 b N mo q nn nm hc r103 σ103 τ16 from ⟨hR, hF, hFL, by omega, by first | exact RO.ofr ((one_l (by omega) (by omega) (by omega) (by omega)).trans (lea_n (by omega) (by omega))) (by omega) ⟨gCT, by omega, by omega⟩ | (exfalso; omega) | exact RO.ofk (one_x (by omega)) (by omega) (by omega) (by omega) | exact RO.ofk (one_4 (by omega) (by omega)) (by omega) (by omega) (by omega) | (obtain ⟨f, e1, x1, x2⟩ := o1.no (by omega); exact RO.ofl ((one_n (by omega) (by omega)).trans e1) (by omega) x1 x2) | exact RO.ofr ((one_n (by omega) (by omega)).trans e1) (by omega) ⟨gCT, by omega, by omega⟩ | (obtain ⟨f, e2, x1, x2⟩ := o2.no (by omega); exact RO.ofl (by rw [one_o (by omega) (by omega), e2, bnd_l]) (by omega) x1 x2) | (obtain ⟨f, e3, x1, x2⟩ := o3.no (by omega); exact RO.ofl (by rw [one_o (by omega) (by omega), e2, bnd_r, e3, bnd_l]) (by omega) x1 x2) | exact RO.ofr (by rw [one_o (by omega) (by omega), e2, bnd_r, e3, bnd_r]) (by omega) ⟨gCT, by omega, by omega⟩ | (rw [one_l (by omega) (by omega) (by omega) (by omega)]; exact o4.map (fun s es h => ⟨h.1, h.2.1, by have h2 := h.2.2; have hl := lea_up es; omega⟩)) | (rw [one_l (by omega) (by omega) (by omega) (by omega)]; exact o5.map (fun s es h => ⟨h.1, h.2.1, by have h2 := h.2.2; have hl := lea_up es; omega⟩)), by omega, gWH⟩)
        by_cases c107 : (σ0 1 9).toInt = 35
        · refine lv_tableIn (off := 177) (tgt := 249) hx hb dX7_readOne_72 (by omega) (by omega) (by rw [c107]; rfl) (by decide) ?_
          refine lv_aload_n hx hb dX7_readOne_249 rfl (lv_at hl 1 rfl) ?_
          refine fg_7_2 (k := 27) hx hb hts in_X7_readOne_7 hown hK hP (by decide) (by decide) (hts _ lk_X7_readOne_19) dX7_readOne_250 ?_
          refine lv_iload_n hx hb dX7_readOne_253 rfl (lv_at hl 0 rfl) ?_
          refine r_bipush hx hb dX7_readOne_254 (by decide) (fun z108 ez108 => ?_)
          refine r_iconst hx hb dX7_readOne_256 (by decide) (fun z109 ez109 => ?_)
          refine r_cVi (k := 24) (As := [.int (σ0 1 9), .int z108, .int z109]) (rest := []) ⟨hx, hb, hml, hown, hts⟩ hK hP hN hS (c_X6_add l D cA ad hI σ16 τ16 hR (σ0 1 9) z108 z109 (by omega)) (cwV 3 hts gX7_readOne_X6_add rfl rfl rfl (by decide +kernel) ⟨by decide, by decide⟩) (rv_Sent hK hP (by decide) (by decide)) rfl hl.1 rfl (Nat.le_of_ble_eq_true rfl) dX7_readOne_257 (Nat.zero_le _) (Nat.zero_le _) (fun r110 u110 H110 locs110 hp110 hP hS => ?_)
          obtain ⟨σ110, τ110⟩ := u110
          obtain ⟨hR, f110, fL110, hq110, hp110_0⟩ : P_X6_add σ16 τ16 (σ0 1 9) z108 z109 r110 σ110 τ110 := hp110
          have hP : va_P D vwCl (gw cA ad σ110 τ110) H110 := hP
          obtain rfl := FrL.nil fL110
          have hF := hF.step f110 (by decide)
          have gCT := gCT.ag (Agr.fr f110 (by decide))
          have gWH := gWH.ag (Agr.fr f110 (by decide))
          have t111 : (σ110 1 13).toInt = (σ16 1 13).toInt := congrArg Int32.toInt (f110.at 1 13 (by decide))
          have t112 : (σ110 24 1).toInt = (σ16 24 1).toInt := congrArg Int32.toInt (f110.at 24 1 (by decide))
          have hr113 := rg_6_2 hR (k := 24) (by decide) (by decide)
          exact r_zret hx hb hr hK hP hS hk (by omega) dX7_readOne_260 (show P_X7_readOne_d4 σ0 τ0 a1 b N mo q nn nm hc r110 σ110 τ16 from ⟨hR, hF, hFL, by omega, by first | exact RO.ofr ((one_l (by omega) (by omega) (by omega) (by omega)).trans (lea_n (by omega) (by omega))) (by omega) ⟨gCT, by omega, by omega⟩ | (exfalso; omega) | exact RO.ofk (one_x (by omega)) (by omega) (by omega) (by omega) | exact RO.ofk (one_4 (by omega) (by omega)) (by omega) (by omega) (by omega) | (obtain ⟨f, e1, x1, x2⟩ := o1.no (by omega); exact RO.ofl ((one_n (by omega) (by omega)).trans e1) (by omega) x1 x2) | exact RO.ofr ((one_n (by omega) (by omega)).trans e1) (by omega) ⟨gCT, by omega, by omega⟩ | (obtain ⟨f, e2, x1, x2⟩ := o2.no (by omega); exact RO.ofl (by rw [one_o (by omega) (by omega), e2, bnd_l]) (by omega) x1 x2) | (obtain ⟨f, e3, x1, x2⟩ := o3.no (by omega); exact RO.ofl (by rw [one_o (by omega) (by omega), e2, bnd_r, e3, bnd_l]) (by omega) x1 x2) | exact RO.ofr (by rw [one_o (by omega) (by omega), e2, bnd_r, e3, bnd_r]) (by omega) ⟨gCT, by omega, by omega⟩ | (rw [one_l (by omega) (by omega) (by omega) (by omega)]; exact o4.map (fun s es h => ⟨h.1, h.2.1, by have h2 := h.2.2; have hl := lea_up es; omega⟩)) | (rw [one_l (by omega) (by omega) (by omega) (by omega)]; exact o5.map (fun s es h => ⟨h.1, h.2.1, by have h2 := h.2.2; have hl := lea_up es; omega⟩)), by omega, gWH⟩)
        by_cases c114 : (σ0 1 9).toInt = 36
        · refine lv_tableIn (off := 177) (tgt := 249) hx hb dX7_readOne_72 (by omega) (by omega) (by rw [c114]; rfl) (by decide) ?_
          refine lv_aload_n hx hb dX7_readOne_249 rfl (lv_at hl 1 rfl) ?_
          refine fg_7_2 (k := 27) hx hb hts in_X7_readOne_7 hown hK hP (by decide) (by decide) (hts _ lk_X7_readOne_19) dX7_readOne_250 ?_
          refine lv_iload_n hx hb dX7_readOne_253 rfl (lv_at hl 0 rfl) ?_
          refine r_bipush hx hb dX7_readOne_254 (by decide) (fun z115 ez115 => ?_)
          refine r_iconst hx hb dX7_readOne_256 (by decide) (fun z116 ez116 => ?_)
          refine r_cVi (k := 24) (As := [.int (σ0 1 9), .int z115, .int z116]) (rest := []) ⟨hx, hb, hml, hown, hts⟩ hK hP hN hS (c_X6_add l D cA ad hI σ16 τ16 hR (σ0 1 9) z115 z116 (by omega)) (cwV 3 hts gX7_readOne_X6_add rfl rfl rfl (by decide +kernel) ⟨by decide, by decide⟩) (rv_Sent hK hP (by decide) (by decide)) rfl hl.1 rfl (Nat.le_of_ble_eq_true rfl) dX7_readOne_257 (Nat.zero_le _) (Nat.zero_le _) (fun r117 u117 H117 locs117 hp117 hP hS => ?_)
          obtain ⟨σ117, τ117⟩ := u117
          obtain ⟨hR, f117, fL117, hq117, hp117_0⟩ : P_X6_add σ16 τ16 (σ0 1 9) z115 z116 r117 σ117 τ117 := hp117
          have hP : va_P D vwCl (gw cA ad σ117 τ117) H117 := hP
          obtain rfl := FrL.nil fL117
          have hF := hF.step f117 (by decide)
          have gCT := gCT.ag (Agr.fr f117 (by decide))
          have gWH := gWH.ag (Agr.fr f117 (by decide))
          have t118 : (σ117 1 13).toInt = (σ16 1 13).toInt := congrArg Int32.toInt (f117.at 1 13 (by decide))
          have t119 : (σ117 24 1).toInt = (σ16 24 1).toInt := congrArg Int32.toInt (f117.at 24 1 (by decide))
          have hr120 := rg_6_2 hR (k := 24) (by decide) (by decide)
          exact r_zret hx hb hr hK hP hS hk (by omega) dX7_readOne_260 (show P_X7_readOne_d4 σ0 τ0 a1 b N mo q nn nm hc r117 σ117 τ16 from ⟨hR, hF, hFL, by omega, by first | exact RO.ofr ((one_l (by omega) (by omega) (by omega) (by omega)).trans (lea_n (by omega) (by omega))) (by omega) ⟨gCT, by omega, by omega⟩ | (exfalso; omega) | exact RO.ofk (one_x (by omega)) (by omega) (by omega) (by omega) | exact RO.ofk (one_4 (by omega) (by omega)) (by omega) (by omega) (by omega) | (obtain ⟨f, e1, x1, x2⟩ := o1.no (by omega); exact RO.ofl ((one_n (by omega) (by omega)).trans e1) (by omega) x1 x2) | exact RO.ofr ((one_n (by omega) (by omega)).trans e1) (by omega) ⟨gCT, by omega, by omega⟩ | (obtain ⟨f, e2, x1, x2⟩ := o2.no (by omega); exact RO.ofl (by rw [one_o (by omega) (by omega), e2, bnd_l]) (by omega) x1 x2) | (obtain ⟨f, e3, x1, x2⟩ := o3.no (by omega); exact RO.ofl (by rw [one_o (by omega) (by omega), e2, bnd_r, e3, bnd_l]) (by omega) x1 x2) | exact RO.ofr (by rw [one_o (by omega) (by omega), e2, bnd_r, e3, bnd_r]) (by omega) ⟨gCT, by omega, by omega⟩ | (rw [one_l (by omega) (by omega) (by omega) (by omega)]; exact o4.map (fun s es h => ⟨h.1, h.2.1, by have h2 := h.2.2; have hl := lea_up es; omega⟩)) | (rw [one_l (by omega) (by omega) (by omega) (by omega)]; exact o5.map (fun s es h => ⟨h.1, h.2.1, by have h2 := h.2.2; have hl := lea_up es; omega⟩)), by omega, gWH⟩)
        by_cases c121 : (σ0 1 9).toInt = 37
        · refine lv_tableIn (off := 177) (tgt := 249) hx hb dX7_readOne_72 (by omega) (by omega) (by rw [c121]; rfl) (by decide) ?_
          refine lv_aload_n hx hb dX7_readOne_249 rfl (lv_at hl 1 rfl) ?_
          refine fg_7_2 (k := 27) hx hb hts in_X7_readOne_7 hown hK hP (by decide) (by decide) (hts _ lk_X7_readOne_19) dX7_readOne_250 ?_
          refine lv_iload_n hx hb dX7_readOne_253 rfl (lv_at hl 0 rfl) ?_
          refine r_bipush hx hb dX7_readOne_254 (by decide) (fun z122 ez122 => ?_)
          refine r_iconst hx hb dX7_readOne_256 (by decide) (fun z123 ez123 => ?_)
          refine r_cVi (k := 24) (As := [.int (σ0 1 9), .int z122, .int z123]) (rest := []) ⟨hx, hb, hml, hown, hts⟩ hK hP hN hS (c_X6_add l D cA ad hI σ16 τ16 hR (σ0 1 9) z122 z123 (by omega)) (cwV 3 hts gX7_readOne_X6_add rfl rfl rfl (by decide +kernel) ⟨by decide, by decide⟩) (rv_Sent hK hP (by decide) (by decide)) rfl hl.1 rfl (Nat.le_of_ble_eq_true rfl) dX7_readOne_257 (Nat.zero_le _) (Nat.zero_le _) (fun r124 u124 H124 locs124 hp124 hP hS => ?_)
          obtain ⟨σ124, τ124⟩ := u124
          obtain ⟨hR, f124, fL124, hq124, hp124_0⟩ : P_X6_add σ16 τ16 (σ0 1 9) z122 z123 r124 σ124 τ124 := hp124
          have hP : va_P D vwCl (gw cA ad σ124 τ124) H124 := hP
          obtain rfl := FrL.nil fL124
          have hF := hF.step f124 (by decide)
          have gCT := gCT.ag (Agr.fr f124 (by decide))
          have gWH := gWH.ag (Agr.fr f124 (by decide))
          have t125 : (σ124 1 13).toInt = (σ16 1 13).toInt := congrArg Int32.toInt (f124.at 1 13 (by decide))
          have t126 : (σ124 24 1).toInt = (σ16 24 1).toInt := congrArg Int32.toInt (f124.at 24 1 (by decide))
          have hr127 := rg_6_2 hR (k := 24) (by decide) (by decide)
          exact r_zret hx hb hr hK hP hS hk (by omega) dX7_readOne_260 (show P_X7_readOne_d4 σ0 τ0 a1 b N mo q nn nm hc r124 σ124 τ16 from ⟨hR, hF, hFL, by omega, by first | exact RO.ofr ((one_l (by omega) (by omega) (by omega) (by omega)).trans (lea_n (by omega) (by omega))) (by omega) ⟨gCT, by omega, by omega⟩ | (exfalso; omega) | exact RO.ofk (one_x (by omega)) (by omega) (by omega) (by omega) | exact RO.ofk (one_4 (by omega) (by omega)) (by omega) (by omega) (by omega) | (obtain ⟨f, e1, x1, x2⟩ := o1.no (by omega); exact RO.ofl ((one_n (by omega) (by omega)).trans e1) (by omega) x1 x2) | exact RO.ofr ((one_n (by omega) (by omega)).trans e1) (by omega) ⟨gCT, by omega, by omega⟩ | (obtain ⟨f, e2, x1, x2⟩ := o2.no (by omega); exact RO.ofl (by rw [one_o (by omega) (by omega), e2, bnd_l]) (by omega) x1 x2) | (obtain ⟨f, e3, x1, x2⟩ := o3.no (by omega); exact RO.ofl (by rw [one_o (by omega) (by omega), e2, bnd_r, e3, bnd_l]) (by omega) x1 x2) | exact RO.ofr (by rw [one_o (by omega) (by omega), e2, bnd_r, e3, bnd_r]) (by omega) ⟨gCT, by omega, by omega⟩ | (rw [one_l (by omega) (by omega) (by omega) (by omega)]; exact o4.map (fun s es h => ⟨h.1, h.2.1, by have h2 := h.2.2; have hl := lea_up es; omega⟩)) | (rw [one_l (by omega) (by omega) (by omega) (by omega)]; exact o5.map (fun s es h => ⟨h.1, h.2.1, by have h2 := h.2.2; have hl := lea_up es; omega⟩)), by omega, gWH⟩)
        by_cases c128 : (σ0 1 9).toInt = 38
        · refine lv_tableIn (off := 177) (tgt := 249) hx hb dX7_readOne_72 (by omega) (by omega) (by rw [c128]; rfl) (by decide) ?_
          refine lv_aload_n hx hb dX7_readOne_249 rfl (lv_at hl 1 rfl) ?_
          refine fg_7_2 (k := 27) hx hb hts in_X7_readOne_7 hown hK hP (by decide) (by decide) (hts _ lk_X7_readOne_19) dX7_readOne_250 ?_
          refine lv_iload_n hx hb dX7_readOne_253 rfl (lv_at hl 0 rfl) ?_
          refine r_bipush hx hb dX7_readOne_254 (by decide) (fun z129 ez129 => ?_)
          refine r_iconst hx hb dX7_readOne_256 (by decide) (fun z130 ez130 => ?_)
          refine r_cVi (k := 24) (As := [.int (σ0 1 9), .int z129, .int z130]) (rest := []) ⟨hx, hb, hml, hown, hts⟩ hK hP hN hS (c_X6_add l D cA ad hI σ16 τ16 hR (σ0 1 9) z129 z130 (by omega)) (cwV 3 hts gX7_readOne_X6_add rfl rfl rfl (by decide +kernel) ⟨by decide, by decide⟩) (rv_Sent hK hP (by decide) (by decide)) rfl hl.1 rfl (Nat.le_of_ble_eq_true rfl) dX7_readOne_257 (Nat.zero_le _) (Nat.zero_le _) (fun r131 u131 H131 locs131 hp131 hP hS => ?_)
          obtain ⟨σ131, τ131⟩ := u131
          obtain ⟨hR, f131, fL131, hq131, hp131_0⟩ : P_X6_add σ16 τ16 (σ0 1 9) z129 z130 r131 σ131 τ131 := hp131
          have hP : va_P D vwCl (gw cA ad σ131 τ131) H131 := hP
          obtain rfl := FrL.nil fL131
          have hF := hF.step f131 (by decide)
          have gCT := gCT.ag (Agr.fr f131 (by decide))
          have gWH := gWH.ag (Agr.fr f131 (by decide))
          have t132 : (σ131 1 13).toInt = (σ16 1 13).toInt := congrArg Int32.toInt (f131.at 1 13 (by decide))
          have t133 : (σ131 24 1).toInt = (σ16 24 1).toInt := congrArg Int32.toInt (f131.at 24 1 (by decide))
          have hr134 := rg_6_2 hR (k := 24) (by decide) (by decide)
          exact r_zret hx hb hr hK hP hS hk (by omega) dX7_readOne_260 (show P_X7_readOne_d4 σ0 τ0 a1 b N mo q nn nm hc r131 σ131 τ16 from ⟨hR, hF, hFL, by omega, by first | exact RO.ofr ((one_l (by omega) (by omega) (by omega) (by omega)).trans (lea_n (by omega) (by omega))) (by omega) ⟨gCT, by omega, by omega⟩ | (exfalso; omega) | exact RO.ofk (one_x (by omega)) (by omega) (by omega) (by omega) | exact RO.ofk (one_4 (by omega) (by omega)) (by omega) (by omega) (by omega) | (obtain ⟨f, e1, x1, x2⟩ := o1.no (by omega); exact RO.ofl ((one_n (by omega) (by omega)).trans e1) (by omega) x1 x2) | exact RO.ofr ((one_n (by omega) (by omega)).trans e1) (by omega) ⟨gCT, by omega, by omega⟩ | (obtain ⟨f, e2, x1, x2⟩ := o2.no (by omega); exact RO.ofl (by rw [one_o (by omega) (by omega), e2, bnd_l]) (by omega) x1 x2) | (obtain ⟨f, e3, x1, x2⟩ := o3.no (by omega); exact RO.ofl (by rw [one_o (by omega) (by omega), e2, bnd_r, e3, bnd_l]) (by omega) x1 x2) | exact RO.ofr (by rw [one_o (by omega) (by omega), e2, bnd_r, e3, bnd_r]) (by omega) ⟨gCT, by omega, by omega⟩ | (rw [one_l (by omega) (by omega) (by omega) (by omega)]; exact o4.map (fun s es h => ⟨h.1, h.2.1, by have h2 := h.2.2; have hl := lea_up es; omega⟩)) | (rw [one_l (by omega) (by omega) (by omega) (by omega)]; exact o5.map (fun s es h => ⟨h.1, h.2.1, by have h2 := h.2.2; have hl := lea_up es; omega⟩)), by omega, gWH⟩)
        by_cases c135 : (σ0 1 9).toInt = 39
        · refine lv_tableIn (off := 177) (tgt := 249) hx hb dX7_readOne_72 (by omega) (by omega) (by rw [c135]; rfl) (by decide) ?_
          refine lv_aload_n hx hb dX7_readOne_249 rfl (lv_at hl 1 rfl) ?_
          refine fg_7_2 (k := 27) hx hb hts in_X7_readOne_7 hown hK hP (by decide) (by decide) (hts _ lk_X7_readOne_19) dX7_readOne_250 ?_
          refine lv_iload_n hx hb dX7_readOne_253 rfl (lv_at hl 0 rfl) ?_
          refine r_bipush hx hb dX7_readOne_254 (by decide) (fun z136 ez136 => ?_)
          refine r_iconst hx hb dX7_readOne_256 (by decide) (fun z137 ez137 => ?_)
          refine r_cVi (k := 24) (As := [.int (σ0 1 9), .int z136, .int z137]) (rest := []) ⟨hx, hb, hml, hown, hts⟩ hK hP hN hS (c_X6_add l D cA ad hI σ16 τ16 hR (σ0 1 9) z136 z137 (by omega)) (cwV 3 hts gX7_readOne_X6_add rfl rfl rfl (by decide +kernel) ⟨by decide, by decide⟩) (rv_Sent hK hP (by decide) (by decide)) rfl hl.1 rfl (Nat.le_of_ble_eq_true rfl) dX7_readOne_257 (Nat.zero_le _) (Nat.zero_le _) (fun r138 u138 H138 locs138 hp138 hP hS => ?_)
          obtain ⟨σ138, τ138⟩ := u138
          obtain ⟨hR, f138, fL138, hq138, hp138_0⟩ : P_X6_add σ16 τ16 (σ0 1 9) z136 z137 r138 σ138 τ138 := hp138
          have hP : va_P D vwCl (gw cA ad σ138 τ138) H138 := hP
          obtain rfl := FrL.nil fL138
          have hF := hF.step f138 (by decide)
          have gCT := gCT.ag (Agr.fr f138 (by decide))
          have gWH := gWH.ag (Agr.fr f138 (by decide))
          have t139 : (σ138 1 13).toInt = (σ16 1 13).toInt := congrArg Int32.toInt (f138.at 1 13 (by decide))
          have t140 : (σ138 24 1).toInt = (σ16 24 1).toInt := congrArg Int32.toInt (f138.at 24 1 (by decide))
          have hr141 := rg_6_2 hR (k := 24) (by decide) (by decide)
          exact r_zret hx hb hr hK hP hS hk (by omega) dX7_readOne_260 (show P_X7_readOne_d4 σ0 τ0 a1 b N mo q nn nm hc r138 σ138 τ16 from ⟨hR, hF, hFL, by omega, by first | exact RO.ofr ((one_l (by omega) (by omega) (by omega) (by omega)).trans (lea_n (by omega) (by omega))) (by omega) ⟨gCT, by omega, by omega⟩ | (exfalso; omega) | exact RO.ofk (one_x (by omega)) (by omega) (by omega) (by omega) | exact RO.ofk (one_4 (by omega) (by omega)) (by omega) (by omega) (by omega) | (obtain ⟨f, e1, x1, x2⟩ := o1.no (by omega); exact RO.ofl ((one_n (by omega) (by omega)).trans e1) (by omega) x1 x2) | exact RO.ofr ((one_n (by omega) (by omega)).trans e1) (by omega) ⟨gCT, by omega, by omega⟩ | (obtain ⟨f, e2, x1, x2⟩ := o2.no (by omega); exact RO.ofl (by rw [one_o (by omega) (by omega), e2, bnd_l]) (by omega) x1 x2) | (obtain ⟨f, e3, x1, x2⟩ := o3.no (by omega); exact RO.ofl (by rw [one_o (by omega) (by omega), e2, bnd_r, e3, bnd_l]) (by omega) x1 x2) | exact RO.ofr (by rw [one_o (by omega) (by omega), e2, bnd_r, e3, bnd_r]) (by omega) ⟨gCT, by omega, by omega⟩ | (rw [one_l (by omega) (by omega) (by omega) (by omega)]; exact o4.map (fun s es h => ⟨h.1, h.2.1, by have h2 := h.2.2; have hl := lea_up es; omega⟩)) | (rw [one_l (by omega) (by omega) (by omega) (by omega)]; exact o5.map (fun s es h => ⟨h.1, h.2.1, by have h2 := h.2.2; have hl := lea_up es; omega⟩)), by omega, gWH⟩)
        by_cases c142 : (σ0 1 9).toInt = 40
        · refine lv_tableIn (off := 177) (tgt := 249) hx hb dX7_readOne_72 (by omega) (by omega) (by rw [c142]; rfl) (by decide) ?_
          refine lv_aload_n hx hb dX7_readOne_249 rfl (lv_at hl 1 rfl) ?_
          refine fg_7_2 (k := 27) hx hb hts in_X7_readOne_7 hown hK hP (by decide) (by decide) (hts _ lk_X7_readOne_19) dX7_readOne_250 ?_
          refine lv_iload_n hx hb dX7_readOne_253 rfl (lv_at hl 0 rfl) ?_
          refine r_bipush hx hb dX7_readOne_254 (by decide) (fun z143 ez143 => ?_)
          refine r_iconst hx hb dX7_readOne_256 (by decide) (fun z144 ez144 => ?_)
          refine r_cVi (k := 24) (As := [.int (σ0 1 9), .int z143, .int z144]) (rest := []) ⟨hx, hb, hml, hown, hts⟩ hK hP hN hS (c_X6_add l D cA ad hI σ16 τ16 hR (σ0 1 9) z143 z144 (by omega)) (cwV 3 hts gX7_readOne_X6_add rfl rfl rfl (by decide +kernel) ⟨by decide, by decide⟩) (rv_Sent hK hP (by decide) (by decide)) rfl hl.1 rfl (Nat.le_of_ble_eq_true rfl) dX7_readOne_257 (Nat.zero_le _) (Nat.zero_le _) (fun r145 u145 H145 locs145 hp145 hP hS => ?_)
          obtain ⟨σ145, τ145⟩ := u145
          obtain ⟨hR, f145, fL145, hq145, hp145_0⟩ : P_X6_add σ16 τ16 (σ0 1 9) z143 z144 r145 σ145 τ145 := hp145
          have hP : va_P D vwCl (gw cA ad σ145 τ145) H145 := hP
          obtain rfl := FrL.nil fL145
          have hF := hF.step f145 (by decide)
          have gCT := gCT.ag (Agr.fr f145 (by decide))
          have gWH := gWH.ag (Agr.fr f145 (by decide))
          have t146 : (σ145 1 13).toInt = (σ16 1 13).toInt := congrArg Int32.toInt (f145.at 1 13 (by decide))
          have t147 : (σ145 24 1).toInt = (σ16 24 1).toInt := congrArg Int32.toInt (f145.at 24 1 (by decide))
          have hr148 := rg_6_2 hR (k := 24) (by decide) (by decide)
          exact r_zret hx hb hr hK hP hS hk (by omega) dX7_readOne_260 (show P_X7_readOne_d4 σ0 τ0 a1 b N mo q nn nm hc r145 σ145 τ16 from ⟨hR, hF, hFL, by omega, by first | exact RO.ofr ((one_l (by omega) (by omega) (by omega) (by omega)).trans (lea_n (by omega) (by omega))) (by omega) ⟨gCT, by omega, by omega⟩ | (exfalso; omega) | exact RO.ofk (one_x (by omega)) (by omega) (by omega) (by omega) | exact RO.ofk (one_4 (by omega) (by omega)) (by omega) (by omega) (by omega) | (obtain ⟨f, e1, x1, x2⟩ := o1.no (by omega); exact RO.ofl ((one_n (by omega) (by omega)).trans e1) (by omega) x1 x2) | exact RO.ofr ((one_n (by omega) (by omega)).trans e1) (by omega) ⟨gCT, by omega, by omega⟩ | (obtain ⟨f, e2, x1, x2⟩ := o2.no (by omega); exact RO.ofl (by rw [one_o (by omega) (by omega), e2, bnd_l]) (by omega) x1 x2) | (obtain ⟨f, e3, x1, x2⟩ := o3.no (by omega); exact RO.ofl (by rw [one_o (by omega) (by omega), e2, bnd_r, e3, bnd_l]) (by omega) x1 x2) | exact RO.ofr (by rw [one_o (by omega) (by omega), e2, bnd_r, e3, bnd_r]) (by omega) ⟨gCT, by omega, by omega⟩ | (rw [one_l (by omega) (by omega) (by omega) (by omega)]; exact o4.map (fun s es h => ⟨h.1, h.2.1, by have h2 := h.2.2; have hl := lea_up es; omega⟩)) | (rw [one_l (by omega) (by omega) (by omega) (by omega)]; exact o5.map (fun s es h => ⟨h.1, h.2.1, by have h2 := h.2.2; have hl := lea_up es; omega⟩)), by omega, gWH⟩)
        by_cases c149 : (σ0 1 9).toInt = 41
        · refine lv_tableIn (off := 177) (tgt := 249) hx hb dX7_readOne_72 (by omega) (by omega) (by rw [c149]; rfl) (by decide) ?_
          refine lv_aload_n hx hb dX7_readOne_249 rfl (lv_at hl 1 rfl) ?_
          refine fg_7_2 (k := 27) hx hb hts in_X7_readOne_7 hown hK hP (by decide) (by decide) (hts _ lk_X7_readOne_19) dX7_readOne_250 ?_
          refine lv_iload_n hx hb dX7_readOne_253 rfl (lv_at hl 0 rfl) ?_
          refine r_bipush hx hb dX7_readOne_254 (by decide) (fun z150 ez150 => ?_)
          refine r_iconst hx hb dX7_readOne_256 (by decide) (fun z151 ez151 => ?_)
          refine r_cVi (k := 24) (As := [.int (σ0 1 9), .int z150, .int z151]) (rest := []) ⟨hx, hb, hml, hown, hts⟩ hK hP hN hS (c_X6_add l D cA ad hI σ16 τ16 hR (σ0 1 9) z150 z151 (by omega)) (cwV 3 hts gX7_readOne_X6_add rfl rfl rfl (by decide +kernel) ⟨by decide, by decide⟩) (rv_Sent hK hP (by decide) (by decide)) rfl hl.1 rfl (Nat.le_of_ble_eq_true rfl) dX7_readOne_257 (Nat.zero_le _) (Nat.zero_le _) (fun r152 u152 H152 locs152 hp152 hP hS => ?_)
          obtain ⟨σ152, τ152⟩ := u152
          obtain ⟨hR, f152, fL152, hq152, hp152_0⟩ : P_X6_add σ16 τ16 (σ0 1 9) z150 z151 r152 σ152 τ152 := hp152
          have hP : va_P D vwCl (gw cA ad σ152 τ152) H152 := hP
          obtain rfl := FrL.nil fL152
          have hF := hF.step f152 (by decide)
          have gCT := gCT.ag (Agr.fr f152 (by decide))
          have gWH := gWH.ag (Agr.fr f152 (by decide))
          have t153 : (σ152 1 13).toInt = (σ16 1 13).toInt := congrArg Int32.toInt (f152.at 1 13 (by decide))
          have t154 : (σ152 24 1).toInt = (σ16 24 1).toInt := congrArg Int32.toInt (f152.at 24 1 (by decide))
          have hr155 := rg_6_2 hR (k := 24) (by decide) (by decide)
          exact r_zret hx hb hr hK hP hS hk (by omega) dX7_readOne_260 (show P_X7_readOne_d4 σ0 τ0 a1 b N mo q nn nm hc r152 σ152 τ16 from ⟨hR, hF, hFL, by omega, by first | exact RO.ofr ((one_l (by omega) (by omega) (by omega) (by omega)).trans (lea_n (by omega) (by omega))) (by omega) ⟨gCT, by omega, by omega⟩ | (exfalso; omega) | exact RO.ofk (one_x (by omega)) (by omega) (by omega) (by omega) | exact RO.ofk (one_4 (by omega) (by omega)) (by omega) (by omega) (by omega) | (obtain ⟨f, e1, x1, x2⟩ := o1.no (by omega); exact RO.ofl ((one_n (by omega) (by omega)).trans e1) (by omega) x1 x2) | exact RO.ofr ((one_n (by omega) (by omega)).trans e1) (by omega) ⟨gCT, by omega, by omega⟩ | (obtain ⟨f, e2, x1, x2⟩ := o2.no (by omega); exact RO.ofl (by rw [one_o (by omega) (by omega), e2, bnd_l]) (by omega) x1 x2) | (obtain ⟨f, e3, x1, x2⟩ := o3.no (by omega); exact RO.ofl (by rw [one_o (by omega) (by omega), e2, bnd_r, e3, bnd_l]) (by omega) x1 x2) | exact RO.ofr (by rw [one_o (by omega) (by omega), e2, bnd_r, e3, bnd_r]) (by omega) ⟨gCT, by omega, by omega⟩ | (rw [one_l (by omega) (by omega) (by omega) (by omega)]; exact o4.map (fun s es h => ⟨h.1, h.2.1, by have h2 := h.2.2; have hl := lea_up es; omega⟩)) | (rw [one_l (by omega) (by omega) (by omega) (by omega)]; exact o5.map (fun s es h => ⟨h.1, h.2.1, by have h2 := h.2.2; have hl := lea_up es; omega⟩)), by omega, gWH⟩)
        by_cases c156 : (σ0 1 9).toInt = 42
        · refine lv_tableIn (off := 177) (tgt := 249) hx hb dX7_readOne_72 (by omega) (by omega) (by rw [c156]; rfl) (by decide) ?_
          refine lv_aload_n hx hb dX7_readOne_249 rfl (lv_at hl 1 rfl) ?_
          refine fg_7_2 (k := 27) hx hb hts in_X7_readOne_7 hown hK hP (by decide) (by decide) (hts _ lk_X7_readOne_19) dX7_readOne_250 ?_
          refine lv_iload_n hx hb dX7_readOne_253 rfl (lv_at hl 0 rfl) ?_
          refine r_bipush hx hb dX7_readOne_254 (by decide) (fun z157 ez157 => ?_)
          refine r_iconst hx hb dX7_readOne_256 (by decide) (fun z158 ez158 => ?_)
          refine r_cVi (k := 24) (As := [.int (σ0 1 9), .int z157, .int z158]) (rest := []) ⟨hx, hb, hml, hown, hts⟩ hK hP hN hS (c_X6_add l D cA ad hI σ16 τ16 hR (σ0 1 9) z157 z158 (by omega)) (cwV 3 hts gX7_readOne_X6_add rfl rfl rfl (by decide +kernel) ⟨by decide, by decide⟩) (rv_Sent hK hP (by decide) (by decide)) rfl hl.1 rfl (Nat.le_of_ble_eq_true rfl) dX7_readOne_257 (Nat.zero_le _) (Nat.zero_le _) (fun r159 u159 H159 locs159 hp159 hP hS => ?_)
          obtain ⟨σ159, τ159⟩ := u159
          obtain ⟨hR, f159, fL159, hq159, hp159_0⟩ : P_X6_add σ16 τ16 (σ0 1 9) z157 z158 r159 σ159 τ159 := hp159
          have hP : va_P D vwCl (gw cA ad σ159 τ159) H159 := hP
          obtain rfl := FrL.nil fL159
          have hF := hF.step f159 (by decide)
          have gCT := gCT.ag (Agr.fr f159 (by decide))
          have gWH := gWH.ag (Agr.fr f159 (by decide))
          have t160 : (σ159 1 13).toInt = (σ16 1 13).toInt := congrArg Int32.toInt (f159.at 1 13 (by decide))
          have t161 : (σ159 24 1).toInt = (σ16 24 1).toInt := congrArg Int32.toInt (f159.at 24 1 (by decide))
          have hr162 := rg_6_2 hR (k := 24) (by decide) (by decide)
          exact r_zret hx hb hr hK hP hS hk (by omega) dX7_readOne_260 (show P_X7_readOne_d4 σ0 τ0 a1 b N mo q nn nm hc r159 σ159 τ16 from ⟨hR, hF, hFL, by omega, by first | exact RO.ofr ((one_l (by omega) (by omega) (by omega) (by omega)).trans (lea_n (by omega) (by omega))) (by omega) ⟨gCT, by omega, by omega⟩ | (exfalso; omega) | exact RO.ofk (one_x (by omega)) (by omega) (by omega) (by omega) | exact RO.ofk (one_4 (by omega) (by omega)) (by omega) (by omega) (by omega) | (obtain ⟨f, e1, x1, x2⟩ := o1.no (by omega); exact RO.ofl ((one_n (by omega) (by omega)).trans e1) (by omega) x1 x2) | exact RO.ofr ((one_n (by omega) (by omega)).trans e1) (by omega) ⟨gCT, by omega, by omega⟩ | (obtain ⟨f, e2, x1, x2⟩ := o2.no (by omega); exact RO.ofl (by rw [one_o (by omega) (by omega), e2, bnd_l]) (by omega) x1 x2) | (obtain ⟨f, e3, x1, x2⟩ := o3.no (by omega); exact RO.ofl (by rw [one_o (by omega) (by omega), e2, bnd_r, e3, bnd_l]) (by omega) x1 x2) | exact RO.ofr (by rw [one_o (by omega) (by omega), e2, bnd_r, e3, bnd_r]) (by omega) ⟨gCT, by omega, by omega⟩ | (rw [one_l (by omega) (by omega) (by omega) (by omega)]; exact o4.map (fun s es h => ⟨h.1, h.2.1, by have h2 := h.2.2; have hl := lea_up es; omega⟩)) | (rw [one_l (by omega) (by omega) (by omega) (by omega)]; exact o5.map (fun s es h => ⟨h.1, h.2.1, by have h2 := h.2.2; have hl := lea_up es; omega⟩)), by omega, gWH⟩)
        by_cases c163 : (σ0 1 9).toInt = 43
        · refine lv_tableIn (off := 177) (tgt := 249) hx hb dX7_readOne_72 (by omega) (by omega) (by rw [c163]; rfl) (by decide) ?_
          refine lv_aload_n hx hb dX7_readOne_249 rfl (lv_at hl 1 rfl) ?_
          refine fg_7_2 (k := 27) hx hb hts in_X7_readOne_7 hown hK hP (by decide) (by decide) (hts _ lk_X7_readOne_19) dX7_readOne_250 ?_
          refine lv_iload_n hx hb dX7_readOne_253 rfl (lv_at hl 0 rfl) ?_
          refine r_bipush hx hb dX7_readOne_254 (by decide) (fun z164 ez164 => ?_)
          refine r_iconst hx hb dX7_readOne_256 (by decide) (fun z165 ez165 => ?_)
          refine r_cVi (k := 24) (As := [.int (σ0 1 9), .int z164, .int z165]) (rest := []) ⟨hx, hb, hml, hown, hts⟩ hK hP hN hS (c_X6_add l D cA ad hI σ16 τ16 hR (σ0 1 9) z164 z165 (by omega)) (cwV 3 hts gX7_readOne_X6_add rfl rfl rfl (by decide +kernel) ⟨by decide, by decide⟩) (rv_Sent hK hP (by decide) (by decide)) rfl hl.1 rfl (Nat.le_of_ble_eq_true rfl) dX7_readOne_257 (Nat.zero_le _) (Nat.zero_le _) (fun r166 u166 H166 locs166 hp166 hP hS => ?_)
          obtain ⟨σ166, τ166⟩ := u166
          obtain ⟨hR, f166, fL166, hq166, hp166_0⟩ : P_X6_add σ16 τ16 (σ0 1 9) z164 z165 r166 σ166 τ166 := hp166
          have hP : va_P D vwCl (gw cA ad σ166 τ166) H166 := hP
          obtain rfl := FrL.nil fL166
          have hF := hF.step f166 (by decide)
          have gCT := gCT.ag (Agr.fr f166 (by decide))
          have gWH := gWH.ag (Agr.fr f166 (by decide))
          have t167 : (σ166 1 13).toInt = (σ16 1 13).toInt := congrArg Int32.toInt (f166.at 1 13 (by decide))
          have t168 : (σ166 24 1).toInt = (σ16 24 1).toInt := congrArg Int32.toInt (f166.at 24 1 (by decide))
          have hr169 := rg_6_2 hR (k := 24) (by decide) (by decide)
          exact r_zret hx hb hr hK hP hS hk (by omega) dX7_readOne_260 (show P_X7_readOne_d4 σ0 τ0 a1 b N mo q nn nm hc r166 σ166 τ16 from ⟨hR, hF, hFL, by omega, by first | exact RO.ofr ((one_l (by omega) (by omega) (by omega) (by omega)).trans (lea_n (by omega) (by omega))) (by omega) ⟨gCT, by omega, by omega⟩ | (exfalso; omega) | exact RO.ofk (one_x (by omega)) (by omega) (by omega) (by omega) | exact RO.ofk (one_4 (by omega) (by omega)) (by omega) (by omega) (by omega) | (obtain ⟨f, e1, x1, x2⟩ := o1.no (by omega); exact RO.ofl ((one_n (by omega) (by omega)).trans e1) (by omega) x1 x2) | exact RO.ofr ((one_n (by omega) (by omega)).trans e1) (by omega) ⟨gCT, by omega, by omega⟩ | (obtain ⟨f, e2, x1, x2⟩ := o2.no (by omega); exact RO.ofl (by rw [one_o (by omega) (by omega), e2, bnd_l]) (by omega) x1 x2) | (obtain ⟨f, e3, x1, x2⟩ := o3.no (by omega); exact RO.ofl (by rw [one_o (by omega) (by omega), e2, bnd_r, e3, bnd_l]) (by omega) x1 x2) | exact RO.ofr (by rw [one_o (by omega) (by omega), e2, bnd_r, e3, bnd_r]) (by omega) ⟨gCT, by omega, by omega⟩ | (rw [one_l (by omega) (by omega) (by omega) (by omega)]; exact o4.map (fun s es h => ⟨h.1, h.2.1, by have h2 := h.2.2; have hl := lea_up es; omega⟩)) | (rw [one_l (by omega) (by omega) (by omega) (by omega)]; exact o5.map (fun s es h => ⟨h.1, h.2.1, by have h2 := h.2.2; have hl := lea_up es; omega⟩)), by omega, gWH⟩)
        by_cases c170 : (σ0 1 9).toInt = 44
        · refine lv_tableIn (off := 138) (tgt := 210) hx hb dX7_readOne_72 (by omega) (by omega) (by rw [c170]; rfl) (by decide) ?_
          refine lv_aload_n hx hb dX7_readOne_210 rfl (lv_at hl 1 rfl) ?_
          refine lv_iload_n hx hb dX7_readOne_211 rfl (lv_at hl 2 rfl) ?_
          refine r_iconst hx hb dX7_readOne_212 (by decide) (fun z171 ez171 => ?_)
          refine r_iadd hx hb dX7_readOne_213 (by omega) (fun z172 ez172 => ?_)
          refine r_cVi (k := 27) (As := [.int z172]) (rest := []) ⟨hx, hb, hml, hown, hts⟩ hK hP hN hS (c_X7_readCond_d5 l D cA ad hI σ16 τ16 hR z172 b N mo _ (nn + 1) nm hc (by omega) (by omega) (by omega) (by omega) gCT gWH) (cwV 1 hts gX7_readOne_X7_readCond rfl rfl rfl (by decide +kernel) ⟨by decide, by decide⟩) (rv_SText hK hP (by decide) (by decide)) rfl hl.1 rfl (Nat.le_of_ble_eq_true rfl) dX7_readOne_214 (Nat.zero_le _) (Nat.zero_le _) (fun r173 u173 H173 locs173 hp173 hP hS => ?_)
          obtain ⟨σ173, τ173⟩ := u173
          obtain ⟨hR, f173, fL173, hq173, hp173_0, hp173_1, gnWH⟩ : P_X7_readCond_d5 σ16 τ16 z172 b N mo _ (nn + 1) nm hc r173 σ173 τ173 := hp173
          have o2 := hp173_0
          have hP : va_P D vwCl (gw cA ad σ173 τ173) H173 := hP
          have hFL := hFL.step fL173 (by decide)
          have gWH := gWH.agL (AgrL.fr fL173 (by decide))
          have hF := hF.step f173 (by decide)
          have gWH := gWH.ag (Agr.fr f173 (by decide))
          have hr174 := rg_6_1 hR (k := 24) (by decide) (by decide)
          have hr175 := rg_6_2 hR (k := 24) (by decide) (by decide)
          refine r_if_eq (tgt := 236) hx hb dX7_readOne_217 (by decide) (fun c176 => ?_) (fun c176 => ?_)
          · clear hp173_1
            refine r_iconst hx hb dX7_readOne_236 (by decide) (fun z177 ez177 => ?_)
            exact r_zret hx hb hr hK hP hS hk (by omega) dX7_readOne_237 (show P_X7_readOne_d4 σ0 τ0 a1 b N mo q nn nm hc z177 σ173 τ173 from ⟨hR, hF, hFL, by omega, by first | exact RO.ofr ((one_l (by omega) (by omega) (by omega) (by omega)).trans (lea_n (by omega) (by omega))) (by omega) ⟨gCT, by omega, by omega⟩ | (exfalso; omega) | exact RO.ofk (one_x (by omega)) (by omega) (by omega) (by omega) | exact RO.ofk (one_4 (by omega) (by omega)) (by omega) (by omega) (by omega) | (obtain ⟨f, e1, x1, x2⟩ := o1.no (by omega); exact RO.ofl ((one_n (by omega) (by omega)).trans e1) (by omega) x1 x2) | exact RO.ofr ((one_n (by omega) (by omega)).trans e1) (by omega) ⟨gCT, by omega, by omega⟩ | (obtain ⟨f, e2, x1, x2⟩ := o2.no (by omega); exact RO.ofl (by rw [one_o (by omega) (by omega), e2, bnd_l]) (by omega) x1 x2) | (obtain ⟨f, e3, x1, x2⟩ := o3.no (by omega); exact RO.ofl (by rw [one_o (by omega) (by omega), e2, bnd_r, e3, bnd_l]) (by omega) x1 x2) | exact RO.ofr (by rw [one_o (by omega) (by omega), e2, bnd_r, e3, bnd_r]) (by omega) ⟨gCT, by omega, by omega⟩ | (rw [one_l (by omega) (by omega) (by omega) (by omega)]; exact o4.map (fun s es h => ⟨h.1, h.2.1, by have h2 := h.2.2; have hl := lea_up es; omega⟩)) | (rw [one_l (by omega) (by omega) (by omega) (by omega)]; exact o5.map (fun s es h => ⟨h.1, h.2.1, by have h2 := h.2.2; have hl := lea_up es; omega⟩)), by omega, gWH⟩)
          · replace hp173_1 := hp173_1.resolve_left (by omega)
            obtain ⟨s2, e2, gCT, hs1, hs2⟩ := o2.ye (by omega)
            have hu2 := con_up (one_up _) _ _ _ e2
            refine lv_aload_n hx hb dX7_readOne_220 rfl (lv_at hl 1 rfl) ?_
            refine fg_7_0 (k := 27) hx hb hts in_X7_readOne_7 hown hK hP (by decide) (by decide) (hts _ lk_X7_readOne_9) dX7_readOne_221 ?_
            refine r_bipush hx hb dX7_readOne_224 (by decide) (fun z178 ez178 => ?_)
            refine r_cVi (k := 1) (As := [.int z178]) (rest := []) ⟨hx, hb, hml, hown, hts⟩ hK hP hN hS (c_X8_take_v l D cA ad hI σ173 τ173 hR z178 b N mo _ 45 (by omega) (by omega) gCT) (cwV 1 hts gX7_readOne_X8_take rfl rfl rfl (by decide +kernel) ⟨by decide, by decide⟩) (rv_Tape hK hP (by decide) (by decide)) rfl hl.1 rfl (Nat.le_of_ble_eq_true rfl) dX7_readOne_226 (Nat.zero_le _) (Nat.zero_le _) (fun r179 u179 H179 locs179 hp179 hP hS => ?_)
            obtain ⟨σ179, τ179⟩ := u179
            obtain ⟨hR, f179, fL179, hq179, hp179_0, hp179_1⟩ : P_X8_take_v σ173 τ173 z178 b N mo _ 45 r179 σ179 τ179 := hp179
            have o3 := hp179_0
            have hP : va_P D vwCl (gw cA ad σ179 τ179) H179 := hP
            have hFL := hFL.step fL179 (by decide)
            have gWH := gWH.agL (AgrL.fr fL179 (by decide))
            have hF := hF.step f179 (by decide)
            have gWH := gWH.ag (Agr.fr f179 (by decide))
            have t180 : (σ179 24 1).toInt = (σ173 24 1).toInt := congrArg Int32.toInt (f179.at 24 1 (by decide))
            have t181 : (σ179 24 2).toInt = (σ173 24 2).toInt := congrArg Int32.toInt (f179.at 24 2 (by decide))
            refine r_if_eq (tgt := 236) hx hb dX7_readOne_229 (by decide) (fun c182 => ?_) (fun c182 => ?_)
            · clear hp179_1
              refine r_iconst hx hb dX7_readOne_236 (by decide) (fun z183 ez183 => ?_)
              exact r_zret hx hb hr hK hP hS hk (by omega) dX7_readOne_237 (show P_X7_readOne_d4 σ0 τ0 a1 b N mo q nn nm hc z183 σ179 τ179 from ⟨hR, hF, hFL, by omega, by first | exact RO.ofr ((one_l (by omega) (by omega) (by omega) (by omega)).trans (lea_n (by omega) (by omega))) (by omega) ⟨gCT, by omega, by omega⟩ | (exfalso; omega) | exact RO.ofk (one_x (by omega)) (by omega) (by omega) (by omega) | exact RO.ofk (one_4 (by omega) (by omega)) (by omega) (by omega) (by omega) | (obtain ⟨f, e1, x1, x2⟩ := o1.no (by omega); exact RO.ofl ((one_n (by omega) (by omega)).trans e1) (by omega) x1 x2) | exact RO.ofr ((one_n (by omega) (by omega)).trans e1) (by omega) ⟨gCT, by omega, by omega⟩ | (obtain ⟨f, e2, x1, x2⟩ := o2.no (by omega); exact RO.ofl (by rw [one_o (by omega) (by omega), e2, bnd_l]) (by omega) x1 x2) | (obtain ⟨f, e3, x1, x2⟩ := o3.no (by omega); exact RO.ofl (by rw [one_o (by omega) (by omega), e2, bnd_r, e3, bnd_l]) (by omega) x1 x2) | exact RO.ofr (by rw [one_o (by omega) (by omega), e2, bnd_r, e3, bnd_r]) (by omega) ⟨gCT, by omega, by omega⟩ | (rw [one_l (by omega) (by omega) (by omega) (by omega)]; exact o4.map (fun s es h => ⟨h.1, h.2.1, by have h2 := h.2.2; have hl := lea_up es; omega⟩)) | (rw [one_l (by omega) (by omega) (by omega) (by omega)]; exact o5.map (fun s es h => ⟨h.1, h.2.1, by have h2 := h.2.2; have hl := lea_up es; omega⟩)), by omega, gWH⟩)
            · replace hp179_1 := hp179_1.resolve_left (by omega)
              obtain ⟨q3, e3, gCT⟩ := o3.ye (by omega)
              refine r_iconst hx hb dX7_readOne_232 (by decide) (fun z184 ez184 => ?_)
              refine lv_goto (tgt := 237) hx hb dX7_readOne_233 (by decide) ?_
              exact r_zret hx hb hr hK hP hS hk (by omega) dX7_readOne_237 (show P_X7_readOne_d4 σ0 τ0 a1 b N mo q nn nm hc z184 σ179 τ179 from ⟨hR, hF, hFL, by omega, by first | exact RO.ofr ((one_l (by omega) (by omega) (by omega) (by omega)).trans (lea_n (by omega) (by omega))) (by omega) ⟨gCT, by omega, by omega⟩ | (exfalso; omega) | exact RO.ofk (one_x (by omega)) (by omega) (by omega) (by omega) | exact RO.ofk (one_4 (by omega) (by omega)) (by omega) (by omega) (by omega) | (obtain ⟨f, e1, x1, x2⟩ := o1.no (by omega); exact RO.ofl ((one_n (by omega) (by omega)).trans e1) (by omega) x1 x2) | exact RO.ofr ((one_n (by omega) (by omega)).trans e1) (by omega) ⟨gCT, by omega, by omega⟩ | (obtain ⟨f, e2, x1, x2⟩ := o2.no (by omega); exact RO.ofl (by rw [one_o (by omega) (by omega), e2, bnd_l]) (by omega) x1 x2) | (obtain ⟨f, e3, x1, x2⟩ := o3.no (by omega); exact RO.ofl (by rw [one_o (by omega) (by omega), e2, bnd_r, e3, bnd_l]) (by omega) x1 x2) | exact RO.ofr (by rw [one_o (by omega) (by omega), e2, bnd_r, e3, bnd_r]) (by omega) ⟨gCT, by omega, by omega⟩ | (rw [one_l (by omega) (by omega) (by omega) (by omega)]; exact o4.map (fun s es h => ⟨h.1, h.2.1, by have h2 := h.2.2; have hl := lea_up es; omega⟩)) | (rw [one_l (by omega) (by omega) (by omega) (by omega)]; exact o5.map (fun s es h => ⟨h.1, h.2.1, by have h2 := h.2.2; have hl := lea_up es; omega⟩)), by omega, gWH⟩)
        refine lv_tableOut (tgt := 249) hx hb dX7_readOne_72 (by omega) (by decide) ?_
        refine lv_aload_n hx hb dX7_readOne_249 rfl (lv_at hl 1 rfl) ?_
        refine fg_7_2 (k := 27) hx hb hts in_X7_readOne_7 hown hK hP (by decide) (by decide) (hts _ lk_X7_readOne_19) dX7_readOne_250 ?_
        refine lv_iload_n hx hb dX7_readOne_253 rfl (lv_at hl 0 rfl) ?_
        refine r_bipush hx hb dX7_readOne_254 (by decide) (fun z185 ez185 => ?_)
        refine r_iconst hx hb dX7_readOne_256 (by decide) (fun z186 ez186 => ?_)
        refine r_cVi (k := 24) (As := [.int (σ0 1 9), .int z185, .int z186]) (rest := []) ⟨hx, hb, hml, hown, hts⟩ hK hP hN hS (c_X6_add l D cA ad hI σ16 τ16 hR (σ0 1 9) z185 z186 (by omega)) (cwV 3 hts gX7_readOne_X6_add rfl rfl rfl (by decide +kernel) ⟨by decide, by decide⟩) (rv_Sent hK hP (by decide) (by decide)) rfl hl.1 rfl (Nat.le_of_ble_eq_true rfl) dX7_readOne_257 (Nat.zero_le _) (Nat.zero_le _) (fun r187 u187 H187 locs187 hp187 hP hS => ?_)
        obtain ⟨σ187, τ187⟩ := u187
        obtain ⟨hR, f187, fL187, hq187, hp187_0⟩ : P_X6_add σ16 τ16 (σ0 1 9) z185 z186 r187 σ187 τ187 := hp187
        have hP : va_P D vwCl (gw cA ad σ187 τ187) H187 := hP
        obtain rfl := FrL.nil fL187
        have hF := hF.step f187 (by decide)
        have gCT := gCT.ag (Agr.fr f187 (by decide))
        have gWH := gWH.ag (Agr.fr f187 (by decide))
        have t188 : (σ187 1 13).toInt = (σ16 1 13).toInt := congrArg Int32.toInt (f187.at 1 13 (by decide))
        have t189 : (σ187 24 1).toInt = (σ16 24 1).toInt := congrArg Int32.toInt (f187.at 24 1 (by decide))
        have hr190 := rg_6_2 hR (k := 24) (by decide) (by decide)
        exact r_zret hx hb hr hK hP hS hk (by omega) dX7_readOne_260 (show P_X7_readOne_d4 σ0 τ0 a1 b N mo q nn nm hc r187 σ187 τ16 from ⟨hR, hF, hFL, by omega, by first | exact RO.ofr ((one_l (by omega) (by omega) (by omega) (by omega)).trans (lea_n (by omega) (by omega))) (by omega) ⟨gCT, by omega, by omega⟩ | (exfalso; omega) | exact RO.ofk (one_x (by omega)) (by omega) (by omega) (by omega) | exact RO.ofk (one_4 (by omega) (by omega)) (by omega) (by omega) (by omega) | (obtain ⟨f, e1, x1, x2⟩ := o1.no (by omega); exact RO.ofl ((one_n (by omega) (by omega)).trans e1) (by omega) x1 x2) | exact RO.ofr ((one_n (by omega) (by omega)).trans e1) (by omega) ⟨gCT, by omega, by omega⟩ | (obtain ⟨f, e2, x1, x2⟩ := o2.no (by omega); exact RO.ofl (by rw [one_o (by omega) (by omega), e2, bnd_l]) (by omega) x1 x2) | (obtain ⟨f, e3, x1, x2⟩ := o3.no (by omega); exact RO.ofl (by rw [one_o (by omega) (by omega), e2, bnd_r, e3, bnd_l]) (by omega) x1 x2) | exact RO.ofr (by rw [one_o (by omega) (by omega), e2, bnd_r, e3, bnd_r]) (by omega) ⟨gCT, by omega, by omega⟩ | (rw [one_l (by omega) (by omega) (by omega) (by omega)]; exact o4.map (fun s es h => ⟨h.1, h.2.1, by have h2 := h.2.2; have hl := lea_up es; omega⟩)) | (rw [one_l (by omega) (by omega) (by omega) (by omega)]; exact o5.map (fun s es h => ⟨h.1, h.2.1, by have h2 := h.2.2; have hl := lea_up es; omega⟩)), by omega, gWH⟩)
      · exfalso; omega
  · refine lv_aload_n hx hb dX7_readOne_15 rfl (lv_at hl 1 rfl) ?_
    refine fg_7_0 (k := 27) hx hb hts in_X7_readOne_7 hown hK hP (by decide) (by decide) (hts _ lk_X7_readOne_9) dX7_readOne_16 ?_
    refine r_iconst hx hb dX7_readOne_19 (by decide) (fun z191 ez191 => ?_)
    refine r_cVi (k := 1) (As := [.int z191]) (rest := []) ⟨hx, hb, hml, hown, hts⟩ hK hP hN hS (c_X8_blame_v l D cA ad hI σ0 τ0 hR z191 _ _ _ _ (by omega) gCT) (cwV 1 hts gX7_readOne_X8_blame rfl rfl rfl (by decide +kernel) ⟨by decide, by decide⟩) (rv_Tape hK hP (by decide) (by decide)) rfl hl.1 rfl (Nat.le_of_ble_eq_true rfl) dX7_readOne_20 (Nat.zero_le _) (Nat.zero_le _) (fun r192 u192 H192 locs192 hp192 hP hS => ?_)
    obtain ⟨σ192, τ192⟩ := u192
    obtain ⟨hR, f192, fL192, hq192, hp192_0, hp192_1, hp192_2, gnCT⟩ : P_X8_blame_v σ0 τ0 z191 _ _ _ _ r192 σ192 τ192 := hp192
    have hP : va_P D vwCl (gw cA ad σ192 τ192) H192 := hP
    obtain rfl := FrL.nil fL192
    have hF := hF.step f192 (by decide)
    have gCT := gCT.ag (Agr.fr f192 (by decide))
    have gWH := gWH.ag (Agr.fr f192 (by decide))
    have t193 : (σ192 24 1).toInt = (σ0 24 1).toInt := congrArg Int32.toInt (f192.at 24 1 (by decide))
    have t194 : (σ192 24 2).toInt = (σ0 24 2).toInt := congrArg Int32.toInt (f192.at 24 2 (by decide))
    exact r_zret hx hb hr hK hP hS hk (by omega) dX7_readOne_23 (show P_X7_readOne_d4 σ0 τ0 a1 b N mo q nn nm hc r192 σ192 τ0 from ⟨hR, hF, hFL, by omega, by first | exact RO.ofr ((one_l (by omega) (by omega) (by omega) (by omega)).trans (lea_n (by omega) (by omega))) (by omega) ⟨gCT, by omega, by omega⟩ | (exfalso; omega) | exact RO.ofk (one_x (by omega)) (by omega) (by omega) (by omega) | exact RO.ofk (one_4 (by omega) (by omega)) (by omega) (by omega) (by omega) | (obtain ⟨f, e1, x1, x2⟩ := o1.no (by omega); exact RO.ofl ((one_n (by omega) (by omega)).trans e1) (by omega) x1 x2) | exact RO.ofr ((one_n (by omega) (by omega)).trans e1) (by omega) ⟨gCT, by omega, by omega⟩ | (obtain ⟨f, e2, x1, x2⟩ := o2.no (by omega); exact RO.ofl (by rw [one_o (by omega) (by omega), e2, bnd_l]) (by omega) x1 x2) | (obtain ⟨f, e3, x1, x2⟩ := o3.no (by omega); exact RO.ofl (by rw [one_o (by omega) (by omega), e2, bnd_r, e3, bnd_l]) (by omega) x1 x2) | exact RO.ofr (by rw [one_o (by omega) (by omega), e2, bnd_r, e3, bnd_r]) (by omega) ⟨gCT, by omega, by omega⟩ | (rw [one_l (by omega) (by omega) (by omega) (by omega)]; exact o4.map (fun s es h => ⟨h.1, h.2.1, by have h2 := h.2.2; have hl := lea_up es; omega⟩)) | (rw [one_l (by omega) (by omega) (by omega) (by omega)]; exact o5.map (fun s es h => ⟨h.1, h.2.1, by have h2 := h.2.2; have hl := lea_up es; omega⟩)), by omega, gWH⟩)
abbrev L_X7_readAll_d4 : List Rc := [(1, 1, 7, 10), (372, 372, 0, 39), (376, 376, 0, 39), (380, 380, 0, 39), (24, 24, 1, 2), (1, 1, 12, 14)]
abbrev LL_X7_readAll_d4 : List Rc := [(1, 1, 11, 11)]
def P_X7_readAll_d4 (σ0 : Nat → Nat → Int32) (τ0 : Nat → Nat → Int64) (a1 : Int32) (b : Nat → Int) (N : Nat) (mo : Nat) (q : Nat) (nn : Nat) (nm : Nat → Int) (hc : Nat) (r : Int32) (σ : Nat → Nat → Int32) (τ : Nat → Nat → Int64) : Prop := Rg σ ∧ Fr L_X7_readAll_d4 σ0 σ ∧ FrL LL_X7_readAll_d4 τ0 τ ∧ (0 ≤ r.toInt ∧ r.toInt ≤ 1) ∧ (RO r σ (allP b N mo (fun q nn => oneP b N mo nm hc 5 q nn) q nn) (fun s => CT σ τ b N mo s.1 ∧ (σ 24 1).toInt = (s.2 : Int) ∧ (σ 24 2).toInt + 2 * (nn : Int) + 1 ≤ (σ0 24 2).toInt + 2 * (s.2 : Int))) ∧ (r.toInt = 0 ∨ (σ 1 13).toInt = (σ0 1 13).toInt) ∧ WH σ τ nm hc
def J_X7_readAll_d4_12 (p : Program) (l : Launch) (e : Env) (s : State) (m : MethodId) (args : Array Value) (below : List Frame) (meth : Method) (c : Code) (D : va_G) (cA : Nat → ClassId) (ad : Nat → Nat) (σ0 : Nat → Nat → Int32) (τ0 : Nat → Nat → Int64) (a1 : Int32) (b : Nat → Int) (N : Nat) (mo : Nat) (q : Nat) (nn : Nat) (nm : Nat → Int) (hc : Nat) (n : Nat) : Prop := ∀ (σ : Nat → Nat → Int32) (τ : Nat → Nat → Int64) (H : Heap) (locs : List Loc) (x2 : Int32) (fu : Nat) (q1 : Nat) (n1 : Nat) (ls : Array Slot), Rg σ → Fr L_X7_readAll_d4 σ0 σ → FrL LL_X7_readAll_d4 τ0 τ → va_P D vwCl (gw cA ad σ τ) H → va_S (AA ad) s.heap H locs → (0 ≤ x2.toInt ∧ x2.toInt ≤ 200) → (0 ≤ (σ 24 1).toInt ∧ (σ 24 1).toInt ≤ 20) → (0 ≤ (σ 24 2).toInt ∧ (σ 24 2).toInt ≤ 40) → (allP b N mo (fun q nn => oneP b N mo nm hc 5 q nn) q nn = lopP b N mo 21 (fun q nn => oneP b N mo nm hc 5 q nn) fu q1 n1) → ((σ 24 1).toInt = (n1 : Int)) → (0 ≤ (σ 24 2).toInt ∧ (σ 24 2).toInt + 2 * (nn : Int) + 1 ≤ (σ0 24 2).toInt + 2 * (n1 : Int)) → ((fu : Int) + x2.toInt = 200) → (n1 ≤ 20) → ((σ 1 13).toInt = (σ0 1 13).toInt) → (CT σ τ b N mo q1) → (WH σ τ nm hc) → (CT σ τ b N mo q1) → lv_has ls 3 [(0, .ref (ad 27)), (1, .int a1), (2, .int x2)] → 2 * (200 - x2.toInt) + 1 < (n : Int) → W p l e ({ frames := 17, cells := 0, slots := 0, locals := 373 } : Room) s m args below meth c H locs 0 0 (MQ below (va_Qi (fun (r : Int32) (u : SS) => P_X7_readAll_d4 σ0 τ0 a1 b N mo q nn nm hc r u.1 u.2) (WB D cA ad) (AA ad)) args s 0 0 (AA ad)) (F0 m 12 ls [])
set_option maxHeartbeats 4000000 in
theorem B_X7_readAll_d4_12 (p : Program) (l : Launch) (e : Env) (s : State) (m : MethodId) (args : Array Value) (below : List Frame) (meth : Method) (c : Code) (D : va_G) (cA : Nat → ClassId) (ad : Nat → Nat) (σ0 : Nat → Nat → Int32) (τ0 : Nat → Nat → Int64) (a1 : Int32) (b : Nat → Int) (N : Nat) (mo : Nat) (q : Nat) (nn : Nat) (nm : Nat → Int) (hc : Nat) (n : Nat) (C : Cy p s m args meth c cX7_readAll 3 wsX7_readAll RX7 D cA ad (some .boolean)) (ha1 : 4 ≤ a1.toInt ∧ a1.toInt ≤ 4) (hpre0 : (σ0 24 1).toInt = (nn : Int)) (hpre1 : 0 ≤ (σ0 24 2).toInt ∧ (σ0 24 2).toInt ≤ 2 * (nn : Int)) (hpre2 : nn ≤ 20) (gCT0 : CT σ0 τ0 b N mo q) (gWH0 : WH σ0 τ0 nm hc) (K12 : J_X7_readAll_d4_12 p l e s m args below meth c D cA ad σ0 τ0 a1 b N mo q nn nm hc n) : J_X7_readAll_d4_12 p l e s m args below meth c D cA ad σ0 τ0 a1 b N mo q nn nm hc (n + 1) := by
  obtain ⟨hx, hb, hml, hown, hts, hK, hk, hr, hI, hN⟩ := C
  intro σ τ H locs x2 fu q1 n1 ls hR hF hFL hP hS hc0 hc1 hc2 iv ib2 ib3 ifu in20 ik13 gCT gWH gCT hl hm
  refine lv_iload_n hx hb dX7_readAll_12 rfl (lv_at hl 2 rfl) ?_
  refine r_sipush hx hb dX7_readAll_13 (by decide) (fun z1 ez1 => ?_)
  refine r_icmp_ge (tgt := 68) hx hb dX7_readAll_16 (by decide) (fun c2 => ?_) (fun c2 => ?_)
  · refine r_iconst hx hb dX7_readAll_68 (by decide) (fun z3 ez3 => ?_)
    exact r_zret hx hb hr hK hP hS hk (by omega) dX7_readAll_69 (show P_X7_readAll_d4 σ0 τ0 a1 b N mo q nn nm hc z3 σ τ from ⟨hR, hF, hFL, by omega, by first | (exfalso; omega) | (obtain ⟨f, e1, x1, x2⟩ := o1.no (by omega); exact RO.ofl (all_f e1) (by omega) x1 x2) | exact RO.ofr (by rw [iv, lop_e (by omega)]) (by omega) ⟨gCT, by omega, by omega⟩ | (obtain ⟨f, e2, x1, x2⟩ := o2.no (by omega); exact RO.ofl (by rw [iv, lop_f (f := (fun q nn => oneP b N mo nm hc 5 q nn)) (by omega) (by omega) e2]) (by omega) x1 x2) | (exfalso; omega), by omega, gWH⟩)
  · have htk := gCT.tk
    refine lv_aload_n hx hb dX7_readAll_19 rfl (lv_at hl 0 rfl) ?_
    refine fg_7_0 (k := 27) hx hb hts in_X7_readAll_7 hown hK hP (by decide) (by decide) (hts _ lk_X7_readAll_9) dX7_readAll_20 ?_
    refine fgN_8_9 (k := 1) hx hb hts in_X7_readAll_8 hown hK hP (by decide) (by decide) (hN.use nw_7_32) dX7_readAll_23 ?_
    refine r_bipush hx hb dX7_readAll_26 (by decide) (fun z4 ez4 => ?_)
    refine r_icmp_ne (tgt := 68) hx hb dX7_readAll_28 (by decide) (fun c5 => ?_) (fun c5 => ?_)
    · refine r_iconst hx hb dX7_readAll_68 (by decide) (fun z6 ez6 => ?_)
      exact r_zret hx hb hr hK hP hS hk (by omega) dX7_readAll_69 (show P_X7_readAll_d4 σ0 τ0 a1 b N mo q nn nm hc z6 σ τ from ⟨hR, hF, hFL, by omega, by first | (exfalso; omega) | (obtain ⟨f, e1, x1, x2⟩ := o1.no (by omega); exact RO.ofl (all_f e1) (by omega) x1 x2) | exact RO.ofr (by rw [iv, lop_e (by omega)]) (by omega) ⟨gCT, by omega, by omega⟩ | (obtain ⟨f, e2, x1, x2⟩ := o2.no (by omega); exact RO.ofl (by rw [iv, lop_f (f := (fun q nn => oneP b N mo nm hc 5 q nn)) (by omega) (by omega) e2]) (by omega) x1 x2) | (exfalso; omega), by omega, gWH⟩)
    · refine lv_aload_n hx hb dX7_readAll_31 rfl (lv_at hl 0 rfl) ?_
      refine fg_7_0 (k := 27) hx hb hts in_X7_readAll_7 hown hK hP (by decide) (by decide) (hts _ lk_X7_readAll_9) dX7_readAll_32 ?_
      refine r_cVv (k := 1) (As := []) (rest := []) ⟨hx, hb, hml, hown, hts⟩ hK hP hN hS (c_X8_next_v l D cA ad hI σ τ hR _ _ _ _ gCT) (cwV 0 hts gX7_readAll_X8_next rfl rfl rfl (by decide +kernel) ⟨by decide, by decide⟩) (rv_Tape hK hP (by decide) (by decide)) rfl hl.1 rfl (Nat.le_of_ble_eq_true rfl) dX7_readAll_35 (Nat.zero_le _) (Nat.zero_le _) (fun u7 H7 locs7 hp7 hP hS => ?_)
      obtain ⟨σ7, τ7⟩ := u7
      obtain ⟨hR, f7, fL7, hp7_0⟩ : P_X8_next_v σ τ _ _ _ _ σ7 τ7 := hp7
      have hP : va_P D vwCl (gw cA ad σ7 τ7) H7 := hP
      have hFL := hFL.step fL7 (by decide)
      have gWH := gWH.agL (AgrL.fr fL7 (by decide))
      have hF := hF.step f7 (by decide)
      have gWH := gWH.ag (Agr.fr f7 (by decide))
      have t8 : (σ7 24 1).toInt = (σ 24 1).toInt := congrArg Int32.toInt (f7.at 24 1 (by decide))
      have t9 : (σ7 24 2).toInt = (σ 24 2).toInt := congrArg Int32.toInt (f7.at 24 2 (by decide))
      have t10 : (σ7 1 13).toInt = (σ 1 13).toInt := congrArg Int32.toInt (f7.at 1 13 (by decide))
      have gCT := hp7_0
      refine lv_aload_n hx hb dX7_readAll_38 rfl (lv_at hl 0 rfl) ?_
      refine lv_iload_n hx hb dX7_readAll_39 rfl (lv_at hl 1 rfl) ?_
      refine r_cVi (k := 27) (As := [.int a1]) (rest := []) ⟨hx, hb, hml, hown, hts⟩ hK hP hN hS (c_X7_readOne_d4 l D cA ad hI σ7 τ7 hR a1 b N mo _ n1 nm hc (by omega) (by omega) (by omega) (by omega) gCT gWH) (cwV 1 hts gX7_readAll_X7_readOne rfl rfl rfl (by decide +kernel) ⟨by decide, by decide⟩) (rv_SText hK hP (by decide) (by decide)) rfl hl.1 rfl (Nat.le_of_ble_eq_true rfl) dX7_readAll_40 (Nat.zero_le _) (Nat.zero_le _) (fun r11 u11 H11 locs11 hp11 hP hS => ?_)
      obtain ⟨σ11, τ11⟩ := u11
      obtain ⟨hR, f11, fL11, hq11, hp11_0, hp11_1, gnWH⟩ : P_X7_readOne_d4 σ7 τ7 a1 b N mo _ n1 nm hc r11 σ11 τ11 := hp11
      have o2 := hp11_0
      have hP : va_P D vwCl (gw cA ad σ11 τ11) H11 := hP
      have hFL := hFL.step fL11 (by decide)
      have gWH := gWH.agL (AgrL.fr fL11 (by decide))
      have hF := hF.step f11 (by decide)
      have gWH := gWH.ag (Agr.fr f11 (by decide))
      have hr12 := rg_6_1 hR (k := 24) (by decide) (by decide)
      have hr13 := rg_6_2 hR (k := 24) (by decide) (by decide)
      refine r_if_eq (tgt := 60) hx hb dX7_readAll_43 (by decide) (fun c14 => ?_) (fun c14 => ?_)
      · clear hp11_1
        refine r_iconst hx hb dX7_readAll_60 (by decide) (fun z15 ez15 => ?_)
        exact r_zret hx hb hr hK hP hS hk (by omega) dX7_readAll_61 (show P_X7_readAll_d4 σ0 τ0 a1 b N mo q nn nm hc z15 σ11 τ11 from ⟨hR, hF, hFL, by omega, by first | (exfalso; omega) | (obtain ⟨f, e1, x1, x2⟩ := o1.no (by omega); exact RO.ofl (all_f e1) (by omega) x1 x2) | exact RO.ofr (by rw [iv, lop_e (by omega)]) (by omega) ⟨gCT, by omega, by omega⟩ | (obtain ⟨f, e2, x1, x2⟩ := o2.no (by omega); exact RO.ofl (by rw [iv, lop_f (f := (fun q nn => oneP b N mo nm hc 5 q nn)) (by omega) (by omega) e2]) (by omega) x1 x2) | (exfalso; omega), by omega, gWH⟩)
      · replace hp11_1 := hp11_1.resolve_left (by omega)
        obtain ⟨s2, e2, gCT, hs3, hs4⟩ := o2.ye (by omega)
        have hu2 := one_up _ _ _ _ e2
        refine lv_aload_n hx hb dX7_readAll_46 rfl (lv_at hl 0 rfl) ?_
        refine fg_7_2 (k := 27) hx hb hts in_X7_readAll_7 hown hK hP (by decide) (by decide) (hts _ lk_X7_readAll_19) dX7_readAll_47 ?_
        refine r_bipush hx hb dX7_readAll_50 (by decide) (fun z16 ez16 => ?_)
        refine r_iconst hx hb dX7_readAll_52 (by decide) (fun z17 ez17 => ?_)
        refine r_iconst hx hb dX7_readAll_53 (by decide) (fun z18 ez18 => ?_)
        refine r_cVi (k := 24) (As := [.int z16, .int z17, .int z18]) (rest := []) ⟨hx, hb, hml, hown, hts⟩ hK hP hN hS (c_X6_add l D cA ad hI σ11 τ11 hR z16 z17 z18 (by omega)) (cwV 3 hts gX7_readAll_X6_add rfl rfl rfl (by decide +kernel) ⟨by decide, by decide⟩) (rv_Sent hK hP (by decide) (by decide)) rfl hl.1 rfl (Nat.le_of_ble_eq_true rfl) dX7_readAll_54 (Nat.zero_le _) (Nat.zero_le _) (fun r19 u19 H19 locs19 hp19 hP hS => ?_)
        obtain ⟨σ19, τ19⟩ := u19
        obtain ⟨hR, f19, fL19, hq19, hp19_0⟩ : P_X6_add σ11 τ11 z16 z17 z18 r19 σ19 τ19 := hp19
        have hP : va_P D vwCl (gw cA ad σ19 τ19) H19 := hP
        obtain rfl := FrL.nil fL19
        have hF := hF.step f19 (by decide)
        have gCT := gCT.ag (Agr.fr f19 (by decide))
        have gWH := gWH.ag (Agr.fr f19 (by decide))
        have t20 : (σ19 24 1).toInt = (σ11 24 1).toInt := congrArg Int32.toInt (f19.at 24 1 (by decide))
        have t21 : (σ19 1 13).toInt = (σ11 1 13).toInt := congrArg Int32.toInt (f19.at 1 13 (by decide))
        have hr22 := rg_6_2 hR (k := 24) (by decide) (by decide)
        refine r_if_ne (tgt := 62) hx hb dX7_readAll_57 (by decide) (fun c23 => ?_) (fun c23 => ?_)
        · refine r_iinc (k := 2) (lv1 := fun z24 => [(2, .int z24), (0, .ref (ad 27)), (1, .int a1)]) hx hb dX7_readAll_62 hl rfl (by decide) (fun _ => rfl) (by decide) (by omega) (fun z24 ls ez24 hl => ?_)
          refine lv_goto (tgt := 12) hx hb dX7_readAll_65 (by decide) ?_
          exact K12 σ19 τ11 H19 locs19 z24 (fu - 1) _ _ ls hR hF hFL hP hS (by omega) (by omega) (by omega) (by first | exact all_s e1 | rw [iv, lop_s (f := (fun q nn => oneP b N mo nm hc 5 q nn)) (by omega) (by omega) e2]) (by omega) (by omega) (by omega) (by omega) (by omega) gCT gWH gCT (lv_sub hl [1, 2, 0] rfl) (by omega)
        · refine r_iconst hx hb dX7_readAll_60 (by decide) (fun z25 ez25 => ?_)
          exact r_zret hx hb hr hK hP hS hk (by omega) dX7_readAll_61 (show P_X7_readAll_d4 σ0 τ0 a1 b N mo q nn nm hc z25 σ19 τ11 from ⟨hR, hF, hFL, by omega, by first | (exfalso; omega) | (obtain ⟨f, e1, x1, x2⟩ := o1.no (by omega); exact RO.ofl (all_f e1) (by omega) x1 x2) | exact RO.ofr (by rw [iv, lop_e (by omega)]) (by omega) ⟨gCT, by omega, by omega⟩ | (obtain ⟨f, e2, x1, x2⟩ := o2.no (by omega); exact RO.ofl (by rw [iv, lop_f (f := (fun q nn => oneP b N mo nm hc 5 q nn)) (by omega) (by omega) e2]) (by omega) x1 x2) | (exfalso; omega), by omega, gWH⟩)
theorem A_X7_readAll_d4 (p : Program) (l : Launch) (e : Env) (s : State) (m : MethodId) (args : Array Value) (below : List Frame) (meth : Method) (c : Code) (D : va_G) (cA : Nat → ClassId) (ad : Nat → Nat) (σ0 : Nat → Nat → Int32) (τ0 : Nat → Nat → Int64) (a1 : Int32) (b : Nat → Int) (N : Nat) (mo : Nat) (q : Nat) (nn : Nat) (nm : Nat → Int) (hc : Nat) (C : Cy p s m args meth c cX7_readAll 3 wsX7_readAll RX7 D cA ad (some .boolean)) (ha1 : 4 ≤ a1.toInt ∧ a1.toInt ≤ 4) (hpre0 : (σ0 24 1).toInt = (nn : Int)) (hpre1 : 0 ≤ (σ0 24 2).toInt ∧ (σ0 24 2).toInt ≤ 2 * (nn : Int)) (hpre2 : nn ≤ 20) (gCT0 : CT σ0 τ0 b N mo q) (gWH0 : WH σ0 τ0 nm hc) : ∀ n : Nat, J_X7_readAll_d4_12 p l e s m args below meth c D cA ad σ0 τ0 a1 b N mo q nn nm hc n := by
  intro n
  induction n with
  | zero =>
    exact (by intro σ τ H locs x2 fu q1 n1 ls hR hF hFL hP hS hc0 hc1 hc2 iv ib2 ib3 ifu in20 ik13 gCT gWH gCT hl hm; exfalso; omega)
  | succ n ih =>
    exact B_X7_readAll_d4_12 p l e s m args below meth c D cA ad σ0 τ0 a1 b N mo q nn nm hc n C ha1 hpre0 hpre1 hpre2 gCT0 gWH0 ih
set_option maxHeartbeats 4000000 in
theorem c_X7_readAll_d4 (l : Launch) (D : va_G) (cA : Nat → ClassId) (ad : Nat → Nat) (hI : Inj ad) (σ0 : Nat → Nat → Int32) (τ0 : Nat → Nat → Int64) (hR : Rg σ0) (a1 : Int32) (b : Nat → Int) (N : Nat) (mo : Nat) (q : Nat) (nn : Nat) (nm : Nat → Int) (hc : Nat) (ha1 : 4 ≤ a1.toInt ∧ a1.toInt ≤ 4) (hpre0 : (σ0 24 1).toInt = (nn : Int)) (hpre1 : 0 ≤ (σ0 24 2).toInt ∧ (σ0 24 2).toInt ≤ 2 * (nn : Int)) (hpre2 : nn ≤ 20) (gCT0 : CT σ0 τ0 b N mo q) (gWH0 : WH σ0 τ0 nm hc) : Met l yX7_readAll wsX7_readAll ({ frames := 17, cells := 0, slots := 0, locals := 373 } : Room) (WQc D cA ad [.ref (ad 27), .int a1] σ0 τ0) (va_Qi (fun (r : Int32) (u : SS) => P_X7_readAll_d4 σ0 τ0 a1 b N mo q nn nm hc r u.1 u.2) (WB D cA ad) (AA ad)) 0 0 (AA ad) := by
  refine Met.ofW (cc := cX7_readAll) (maxL := 3) (ret := (some .boolean)) (by decide) rfl ?_
  intro p e s m args below meth c s₁ B hml hv
  obtain ⟨rfl, hP, hK, hN⟩ := hv
  have C : Cy p s m _ meth c cX7_readAll 3 wsX7_readAll RX7 D cA ad (some .boolean) := ⟨B.exec, B.bytes, hml, findClass_of_methodNamed B.named, atoms_spec (ws := wsX7_readAll) B.pre, hK, B.notSynchronized, B.returns, hI, hN⟩
  have hl := lv_entry ([.ref (ad 27), .int a1]) (n := 3) (Nat.le_of_ble_eq_true rfl)
  rw [lg_entry_eq]
  generalize (lg_sl ([.ref (ad 27), .int a1]) ++ List.replicate (3 - (lg_sl ([.ref (ad 27), .int a1])).length) Slot.unset).toArray = ls at hl ⊢
  have hl : lv_has ls 3 [(0, .ref (ad 27)), (1, .int a1)] := hl
  have hS : va_S (AA ad) s.heap s.heap [] := va_S.rf
  have hF : Fr L_X7_readAll_d4 σ0 σ0 := Fr.rf
  have hFL : FrL LL_X7_readAll_d4 τ0 τ0 := FrL.rf
  have gCT := gCT0
  have gWH := gWH0
  have hA := A_X7_readAll_d4 p l e s m _ below meth c D cA ad σ0 τ0 a1 b N mo q nn nm hc C ha1 hpre0 hpre1 hpre2 gCT0 gWH0 810
  have K12 := hA
  clear hA
  obtain ⟨hx, hb, _, hown, hts, _, hk, hr, _, _⟩ := C
  refine lv_aload_n hx hb dX7_readAll_0 rfl (lv_at hl 0 rfl) ?_
  refine lv_iload_n hx hb dX7_readAll_1 rfl (lv_at hl 1 rfl) ?_
  refine r_cVi (k := 27) (As := [.int a1]) (rest := []) ⟨hx, hb, hml, hown, hts⟩ hK hP hN hS (c_X7_readOne_d4 l D cA ad hI σ0 τ0 hR a1 b N mo q nn nm hc (by omega) (by omega) (by omega) (by omega) gCT gWH) (cwV 1 hts gX7_readAll_X7_readOne rfl rfl rfl (by decide +kernel) ⟨by decide, by decide⟩) (rv_SText hK hP (by decide) (by decide)) rfl hl.1 rfl (Nat.le_of_ble_eq_true rfl) dX7_readAll_2 (Nat.zero_le _) (Nat.zero_le _) (fun r1 u1 H1 locs1 hp1 hP hS => ?_)
  obtain ⟨σ1, τ1⟩ := u1
  obtain ⟨hR, f1, fL1, hq1, hp1_0, hp1_1, gnWH⟩ : P_X7_readOne_d4 σ0 τ0 a1 b N mo q nn nm hc r1 σ1 τ1 := hp1
  have o1 := hp1_0
  have hP : va_P D vwCl (gw cA ad σ1 τ1) H1 := hP
  have hFL := hFL.step fL1 (by decide)
  have gWH := gWH.agL (AgrL.fr fL1 (by decide))
  have hF := hF.step f1 (by decide)
  have gWH := gWH.ag (Agr.fr f1 (by decide))
  have hr2 := rg_6_1 hR (k := 24) (by decide) (by decide)
  have hr3 := rg_6_2 hR (k := 24) (by decide) (by decide)
  refine r_if_ne (tgt := 10) hx hb dX7_readAll_5 (by decide) (fun c4 => ?_) (fun c4 => ?_)
  · replace hp1_1 := hp1_1.resolve_left (by omega)
    obtain ⟨s1, e1, gCT, hs1, hs2⟩ := o1.ye (by omega)
    have hu1 := one_up _ _ _ _ e1
    refine r_iconst hx hb dX7_readAll_10 (by decide) (fun z5 ez5 => ?_)
    refine lv_istore_n (lv' := [(2, .int z5), (0, .ref (ad 27)), (1, .int a1)]) hx hb dX7_readAll_11 rfl hl (by decide) rfl (fun ls hl => ?_)
    exact K12 σ1 τ1 H1 locs1 z5 200 _ _ ls hR hF hFL hP hS (by omega) (by omega) (by omega) (by first | exact all_s e1 | rw [iv, lop_s (f := (fun q nn => oneP b N mo nm hc 5 q nn)) (by omega) (by omega) e2]) (by omega) (by omega) (by omega) (by omega) (by omega) gCT gWH gCT (lv_sub hl [1, 2, 0] rfl) (by omega)
  · clear hp1_1
    refine r_iconst hx hb dX7_readAll_8 (by decide) (fun z6 ez6 => ?_)
    exact r_zret hx hb hr hK hP hS hk (by omega) dX7_readAll_9 (show P_X7_readAll_d4 σ0 τ0 a1 b N mo q nn nm hc z6 σ1 τ1 from ⟨hR, hF, hFL, by omega, by first | (exfalso; omega) | (obtain ⟨f, e1, x1, x2⟩ := o1.no (by omega); exact RO.ofl (all_f e1) (by omega) x1 x2) | exact RO.ofr (by rw [iv, lop_e (by omega)]) (by omega) ⟨gCT, by omega, by omega⟩ | (obtain ⟨f, e2, x1, x2⟩ := o2.no (by omega); exact RO.ofl (by rw [iv, lop_f (f := (fun q nn => oneP b N mo nm hc 5 q nn)) (by omega) (by omega) e2]) (by omega) x1 x2) | (exfalso; omega), by omega, gWH⟩)
abbrev L_X7_readCond_d4 : List Rc := [(1, 1, 7, 10), (372, 372, 0, 39), (376, 376, 0, 39), (380, 380, 0, 39), (24, 24, 1, 2), (1, 1, 12, 14)]
abbrev LL_X7_readCond_d4 : List Rc := [(1, 1, 11, 11)]
def P_X7_readCond_d4 (σ0 : Nat → Nat → Int32) (τ0 : Nat → Nat → Int64) (a1 : Int32) (b : Nat → Int) (N : Nat) (mo : Nat) (q : Nat) (nn : Nat) (nm : Nat → Int) (hc : Nat) (r : Int32) (σ : Nat → Nat → Int32) (τ : Nat → Nat → Int64) : Prop := Rg σ ∧ Fr L_X7_readCond_d4 σ0 σ ∧ FrL LL_X7_readCond_d4 τ0 τ ∧ (0 ≤ r.toInt ∧ r.toInt ≤ 1) ∧ (RO r σ (conP b N mo (fun q nn => oneP b N mo nm hc 5 q nn) q nn) (fun s => CT σ τ b N mo s.1 ∧ (σ 24 1).toInt = (s.2 : Int) ∧ (σ 24 2).toInt + 2 * (nn : Int) + 1 ≤ (σ0 24 2).toInt + 2 * (s.2 : Int))) ∧ (r.toInt = 0 ∨ (σ 1 13).toInt = (σ0 1 13).toInt) ∧ WH σ τ nm hc
def J_X7_readCond_d4_12 (p : Program) (l : Launch) (e : Env) (s : State) (m : MethodId) (args : Array Value) (below : List Frame) (meth : Method) (c : Code) (D : va_G) (cA : Nat → ClassId) (ad : Nat → Nat) (σ0 : Nat → Nat → Int32) (τ0 : Nat → Nat → Int64) (a1 : Int32) (b : Nat → Int) (N : Nat) (mo : Nat) (q : Nat) (nn : Nat) (nm : Nat → Int) (hc : Nat) (n : Nat) : Prop := ∀ (σ : Nat → Nat → Int32) (τ : Nat → Nat → Int64) (H : Heap) (locs : List Loc) (x2 : Int32) (fu : Nat) (q1 : Nat) (n1 : Nat) (ls : Array Slot), Rg σ → Fr L_X7_readCond_d4 σ0 σ → FrL LL_X7_readCond_d4 τ0 τ → va_P D vwCl (gw cA ad σ τ) H → va_S (AA ad) s.heap H locs → (0 ≤ x2.toInt ∧ x2.toInt ≤ 200) → (0 ≤ (σ 24 1).toInt ∧ (σ 24 1).toInt ≤ 20) → (0 ≤ (σ 24 2).toInt ∧ (σ 24 2).toInt ≤ 40) → (conP b N mo (fun q nn => oneP b N mo nm hc 5 q nn) q nn = lopP b N mo 20 (allP b N mo (fun q nn => oneP b N mo nm hc 5 q nn)) fu q1 n1) → ((σ 24 1).toInt = (n1 : Int)) → (0 ≤ (σ 24 2).toInt ∧ (σ 24 2).toInt + 2 * (nn : Int) + 1 ≤ (σ0 24 2).toInt + 2 * (n1 : Int)) → ((fu : Int) + x2.toInt = 200) → (n1 ≤ 20) → ((σ 1 13).toInt = (σ0 1 13).toInt) → (CT σ τ b N mo q1) → (WH σ τ nm hc) → (CT σ τ b N mo q1) → lv_has ls 3 [(0, .ref (ad 27)), (1, .int a1), (2, .int x2)] → 2 * (200 - x2.toInt) + 1 < (n : Int) → W p l e ({ frames := 18, cells := 0, slots := 0, locals := 395 } : Room) s m args below meth c H locs 0 0 (MQ below (va_Qi (fun (r : Int32) (u : SS) => P_X7_readCond_d4 σ0 τ0 a1 b N mo q nn nm hc r u.1 u.2) (WB D cA ad) (AA ad)) args s 0 0 (AA ad)) (F0 m 12 ls [])
set_option maxHeartbeats 4000000 in
theorem B_X7_readCond_d4_12 (p : Program) (l : Launch) (e : Env) (s : State) (m : MethodId) (args : Array Value) (below : List Frame) (meth : Method) (c : Code) (D : va_G) (cA : Nat → ClassId) (ad : Nat → Nat) (σ0 : Nat → Nat → Int32) (τ0 : Nat → Nat → Int64) (a1 : Int32) (b : Nat → Int) (N : Nat) (mo : Nat) (q : Nat) (nn : Nat) (nm : Nat → Int) (hc : Nat) (n : Nat) (C : Cy p s m args meth c cX7_readCond 3 wsX7_readCond RX7 D cA ad (some .boolean)) (ha1 : 4 ≤ a1.toInt ∧ a1.toInt ≤ 4) (hpre0 : (σ0 24 1).toInt = (nn : Int)) (hpre1 : 0 ≤ (σ0 24 2).toInt ∧ (σ0 24 2).toInt ≤ 2 * (nn : Int)) (hpre2 : nn ≤ 20) (gCT0 : CT σ0 τ0 b N mo q) (gWH0 : WH σ0 τ0 nm hc) (K12 : J_X7_readCond_d4_12 p l e s m args below meth c D cA ad σ0 τ0 a1 b N mo q nn nm hc n) : J_X7_readCond_d4_12 p l e s m args below meth c D cA ad σ0 τ0 a1 b N mo q nn nm hc (n + 1) := by
  obtain ⟨hx, hb, hml, hown, hts, hK, hk, hr, hI, hN⟩ := C
  intro σ τ H locs x2 fu q1 n1 ls hR hF hFL hP hS hc0 hc1 hc2 iv ib2 ib3 ifu in20 ik13 gCT gWH gCT hl hm
  refine lv_iload_n hx hb dX7_readCond_12 rfl (lv_at hl 2 rfl) ?_
  refine r_sipush hx hb dX7_readCond_13 (by decide) (fun z1 ez1 => ?_)
  refine r_icmp_ge (tgt := 68) hx hb dX7_readCond_16 (by decide) (fun c2 => ?_) (fun c2 => ?_)
  · refine r_iconst hx hb dX7_readCond_68 (by decide) (fun z3 ez3 => ?_)
    exact r_zret hx hb hr hK hP hS hk (by omega) dX7_readCond_69 (show P_X7_readCond_d4 σ0 τ0 a1 b N mo q nn nm hc z3 σ τ from ⟨hR, hF, hFL, by omega, by first | (exfalso; omega) | (obtain ⟨f, e1, x1, x2⟩ := o1.no (by omega); exact RO.ofl (con_f e1) (by omega) x1 x2) | exact RO.ofr (by rw [iv, lop_e (by omega)]) (by omega) ⟨gCT, by omega, by omega⟩ | (obtain ⟨f, e2, x1, x2⟩ := o2.no (by omega); exact RO.ofl (by rw [iv, lop_f (f := (allP b N mo (fun q nn => oneP b N mo nm hc 5 q nn))) (by omega) (by omega) e2]) (by omega) x1 x2) | (exfalso; omega), by omega, gWH⟩)
  · have htk := gCT.tk
    refine lv_aload_n hx hb dX7_readCond_19 rfl (lv_at hl 0 rfl) ?_
    refine fg_7_0 (k := 27) hx hb hts in_X7_readCond_7 hown hK hP (by decide) (by decide) (hts _ lk_X7_readCond_9) dX7_readCond_20 ?_
    refine fgN_8_9 (k := 1) hx hb hts in_X7_readCond_8 hown hK hP (by decide) (by decide) (hN.use nw_7_32) dX7_readCond_23 ?_
    refine r_bipush hx hb dX7_readCond_26 (by decide) (fun z4 ez4 => ?_)
    refine r_icmp_ne (tgt := 68) hx hb dX7_readCond_28 (by decide) (fun c5 => ?_) (fun c5 => ?_)
    · refine r_iconst hx hb dX7_readCond_68 (by decide) (fun z6 ez6 => ?_)
      exact r_zret hx hb hr hK hP hS hk (by omega) dX7_readCond_69 (show P_X7_readCond_d4 σ0 τ0 a1 b N mo q nn nm hc z6 σ τ from ⟨hR, hF, hFL, by omega, by first | (exfalso; omega) | (obtain ⟨f, e1, x1, x2⟩ := o1.no (by omega); exact RO.ofl (con_f e1) (by omega) x1 x2) | exact RO.ofr (by rw [iv, lop_e (by omega)]) (by omega) ⟨gCT, by omega, by omega⟩ | (obtain ⟨f, e2, x1, x2⟩ := o2.no (by omega); exact RO.ofl (by rw [iv, lop_f (f := (allP b N mo (fun q nn => oneP b N mo nm hc 5 q nn))) (by omega) (by omega) e2]) (by omega) x1 x2) | (exfalso; omega), by omega, gWH⟩)
    · refine lv_aload_n hx hb dX7_readCond_31 rfl (lv_at hl 0 rfl) ?_
      refine fg_7_0 (k := 27) hx hb hts in_X7_readCond_7 hown hK hP (by decide) (by decide) (hts _ lk_X7_readCond_9) dX7_readCond_32 ?_
      refine r_cVv (k := 1) (As := []) (rest := []) ⟨hx, hb, hml, hown, hts⟩ hK hP hN hS (c_X8_next_v l D cA ad hI σ τ hR _ _ _ _ gCT) (cwV 0 hts gX7_readCond_X8_next rfl rfl rfl (by decide +kernel) ⟨by decide, by decide⟩) (rv_Tape hK hP (by decide) (by decide)) rfl hl.1 rfl (Nat.le_of_ble_eq_true rfl) dX7_readCond_35 (Nat.zero_le _) (Nat.zero_le _) (fun u7 H7 locs7 hp7 hP hS => ?_)
      obtain ⟨σ7, τ7⟩ := u7
      obtain ⟨hR, f7, fL7, hp7_0⟩ : P_X8_next_v σ τ _ _ _ _ σ7 τ7 := hp7
      have hP : va_P D vwCl (gw cA ad σ7 τ7) H7 := hP
      have hFL := hFL.step fL7 (by decide)
      have gWH := gWH.agL (AgrL.fr fL7 (by decide))
      have hF := hF.step f7 (by decide)
      have gWH := gWH.ag (Agr.fr f7 (by decide))
      have t8 : (σ7 24 1).toInt = (σ 24 1).toInt := congrArg Int32.toInt (f7.at 24 1 (by decide))
      have t9 : (σ7 24 2).toInt = (σ 24 2).toInt := congrArg Int32.toInt (f7.at 24 2 (by decide))
      have t10 : (σ7 1 13).toInt = (σ 1 13).toInt := congrArg Int32.toInt (f7.at 1 13 (by decide))
      have gCT := hp7_0
      refine lv_aload_n hx hb dX7_readCond_38 rfl (lv_at hl 0 rfl) ?_
      refine lv_iload_n hx hb dX7_readCond_39 rfl (lv_at hl 1 rfl) ?_
      refine r_cVi (k := 27) (As := [.int a1]) (rest := []) ⟨hx, hb, hml, hown, hts⟩ hK hP hN hS (c_X7_readAll_d4 l D cA ad hI σ7 τ7 hR a1 b N mo _ n1 nm hc (by omega) (by omega) (by omega) (by omega) gCT gWH) (cwV 1 hts gX7_readCond_X7_readAll rfl rfl rfl (by decide +kernel) ⟨by decide, by decide⟩) (rv_SText hK hP (by decide) (by decide)) rfl hl.1 rfl (Nat.le_of_ble_eq_true rfl) dX7_readCond_40 (Nat.zero_le _) (Nat.zero_le _) (fun r11 u11 H11 locs11 hp11 hP hS => ?_)
      obtain ⟨σ11, τ11⟩ := u11
      obtain ⟨hR, f11, fL11, hq11, hp11_0, hp11_1, gnWH⟩ : P_X7_readAll_d4 σ7 τ7 a1 b N mo _ n1 nm hc r11 σ11 τ11 := hp11
      have o2 := hp11_0
      have hP : va_P D vwCl (gw cA ad σ11 τ11) H11 := hP
      have hFL := hFL.step fL11 (by decide)
      have gWH := gWH.agL (AgrL.fr fL11 (by decide))
      have hF := hF.step f11 (by decide)
      have gWH := gWH.ag (Agr.fr f11 (by decide))
      have hr12 := rg_6_1 hR (k := 24) (by decide) (by decide)
      have hr13 := rg_6_2 hR (k := 24) (by decide) (by decide)
      refine r_if_eq (tgt := 60) hx hb dX7_readCond_43 (by decide) (fun c14 => ?_) (fun c14 => ?_)
      · clear hp11_1
        refine r_iconst hx hb dX7_readCond_60 (by decide) (fun z15 ez15 => ?_)
        exact r_zret hx hb hr hK hP hS hk (by omega) dX7_readCond_61 (show P_X7_readCond_d4 σ0 τ0 a1 b N mo q nn nm hc z15 σ11 τ11 from ⟨hR, hF, hFL, by omega, by first | (exfalso; omega) | (obtain ⟨f, e1, x1, x2⟩ := o1.no (by omega); exact RO.ofl (con_f e1) (by omega) x1 x2) | exact RO.ofr (by rw [iv, lop_e (by omega)]) (by omega) ⟨gCT, by omega, by omega⟩ | (obtain ⟨f, e2, x1, x2⟩ := o2.no (by omega); exact RO.ofl (by rw [iv, lop_f (f := (allP b N mo (fun q nn => oneP b N mo nm hc 5 q nn))) (by omega) (by omega) e2]) (by omega) x1 x2) | (exfalso; omega), by omega, gWH⟩)
      · replace hp11_1 := hp11_1.resolve_left (by omega)
        obtain ⟨s2, e2, gCT, hs3, hs4⟩ := o2.ye (by omega)
        have hu2 := all_up (one_up _) _ _ _ e2
        refine lv_aload_n hx hb dX7_readCond_46 rfl (lv_at hl 0 rfl) ?_
        refine fg_7_2 (k := 27) hx hb hts in_X7_readCond_7 hown hK hP (by decide) (by decide) (hts _ lk_X7_readCond_19) dX7_readCond_47 ?_
        refine r_bipush hx hb dX7_readCond_50 (by decide) (fun z16 ez16 => ?_)
        refine r_iconst hx hb dX7_readCond_52 (by decide) (fun z17 ez17 => ?_)
        refine r_iconst hx hb dX7_readCond_53 (by decide) (fun z18 ez18 => ?_)
        refine r_cVi (k := 24) (As := [.int z16, .int z17, .int z18]) (rest := []) ⟨hx, hb, hml, hown, hts⟩ hK hP hN hS (c_X6_add l D cA ad hI σ11 τ11 hR z16 z17 z18 (by omega)) (cwV 3 hts gX7_readCond_X6_add rfl rfl rfl (by decide +kernel) ⟨by decide, by decide⟩) (rv_Sent hK hP (by decide) (by decide)) rfl hl.1 rfl (Nat.le_of_ble_eq_true rfl) dX7_readCond_54 (Nat.zero_le _) (Nat.zero_le _) (fun r19 u19 H19 locs19 hp19 hP hS => ?_)
        obtain ⟨σ19, τ19⟩ := u19
        obtain ⟨hR, f19, fL19, hq19, hp19_0⟩ : P_X6_add σ11 τ11 z16 z17 z18 r19 σ19 τ19 := hp19
        have hP : va_P D vwCl (gw cA ad σ19 τ19) H19 := hP
        obtain rfl := FrL.nil fL19
        have hF := hF.step f19 (by decide)
        have gCT := gCT.ag (Agr.fr f19 (by decide))
        have gWH := gWH.ag (Agr.fr f19 (by decide))
        have t20 : (σ19 24 1).toInt = (σ11 24 1).toInt := congrArg Int32.toInt (f19.at 24 1 (by decide))
        have t21 : (σ19 1 13).toInt = (σ11 1 13).toInt := congrArg Int32.toInt (f19.at 1 13 (by decide))
        have hr22 := rg_6_2 hR (k := 24) (by decide) (by decide)
        refine r_if_ne (tgt := 62) hx hb dX7_readCond_57 (by decide) (fun c23 => ?_) (fun c23 => ?_)
        · refine r_iinc (k := 2) (lv1 := fun z24 => [(2, .int z24), (0, .ref (ad 27)), (1, .int a1)]) hx hb dX7_readCond_62 hl rfl (by decide) (fun _ => rfl) (by decide) (by omega) (fun z24 ls ez24 hl => ?_)
          refine lv_goto (tgt := 12) hx hb dX7_readCond_65 (by decide) ?_
          exact K12 σ19 τ11 H19 locs19 z24 (fu - 1) _ _ ls hR hF hFL hP hS (by omega) (by omega) (by omega) (by first | exact con_s e1 | rw [iv, lop_s (f := (allP b N mo (fun q nn => oneP b N mo nm hc 5 q nn))) (by omega) (by omega) e2]) (by omega) (by omega) (by omega) (by omega) (by omega) gCT gWH gCT (lv_sub hl [1, 2, 0] rfl) (by omega)
        · refine r_iconst hx hb dX7_readCond_60 (by decide) (fun z25 ez25 => ?_)
          exact r_zret hx hb hr hK hP hS hk (by omega) dX7_readCond_61 (show P_X7_readCond_d4 σ0 τ0 a1 b N mo q nn nm hc z25 σ19 τ11 from ⟨hR, hF, hFL, by omega, by first | (exfalso; omega) | (obtain ⟨f, e1, x1, x2⟩ := o1.no (by omega); exact RO.ofl (con_f e1) (by omega) x1 x2) | exact RO.ofr (by rw [iv, lop_e (by omega)]) (by omega) ⟨gCT, by omega, by omega⟩ | (obtain ⟨f, e2, x1, x2⟩ := o2.no (by omega); exact RO.ofl (by rw [iv, lop_f (f := (allP b N mo (fun q nn => oneP b N mo nm hc 5 q nn))) (by omega) (by omega) e2]) (by omega) x1 x2) | (exfalso; omega), by omega, gWH⟩)
theorem A_X7_readCond_d4 (p : Program) (l : Launch) (e : Env) (s : State) (m : MethodId) (args : Array Value) (below : List Frame) (meth : Method) (c : Code) (D : va_G) (cA : Nat → ClassId) (ad : Nat → Nat) (σ0 : Nat → Nat → Int32) (τ0 : Nat → Nat → Int64) (a1 : Int32) (b : Nat → Int) (N : Nat) (mo : Nat) (q : Nat) (nn : Nat) (nm : Nat → Int) (hc : Nat) (C : Cy p s m args meth c cX7_readCond 3 wsX7_readCond RX7 D cA ad (some .boolean)) (ha1 : 4 ≤ a1.toInt ∧ a1.toInt ≤ 4) (hpre0 : (σ0 24 1).toInt = (nn : Int)) (hpre1 : 0 ≤ (σ0 24 2).toInt ∧ (σ0 24 2).toInt ≤ 2 * (nn : Int)) (hpre2 : nn ≤ 20) (gCT0 : CT σ0 τ0 b N mo q) (gWH0 : WH σ0 τ0 nm hc) : ∀ n : Nat, J_X7_readCond_d4_12 p l e s m args below meth c D cA ad σ0 τ0 a1 b N mo q nn nm hc n := by
  intro n
  induction n with
  | zero =>
    exact (by intro σ τ H locs x2 fu q1 n1 ls hR hF hFL hP hS hc0 hc1 hc2 iv ib2 ib3 ifu in20 ik13 gCT gWH gCT hl hm; exfalso; omega)
  | succ n ih =>
    exact B_X7_readCond_d4_12 p l e s m args below meth c D cA ad σ0 τ0 a1 b N mo q nn nm hc n C ha1 hpre0 hpre1 hpre2 gCT0 gWH0 ih
set_option maxHeartbeats 4000000 in
theorem c_X7_readCond_d4 (l : Launch) (D : va_G) (cA : Nat → ClassId) (ad : Nat → Nat) (hI : Inj ad) (σ0 : Nat → Nat → Int32) (τ0 : Nat → Nat → Int64) (hR : Rg σ0) (a1 : Int32) (b : Nat → Int) (N : Nat) (mo : Nat) (q : Nat) (nn : Nat) (nm : Nat → Int) (hc : Nat) (ha1 : 4 ≤ a1.toInt ∧ a1.toInt ≤ 4) (hpre0 : (σ0 24 1).toInt = (nn : Int)) (hpre1 : 0 ≤ (σ0 24 2).toInt ∧ (σ0 24 2).toInt ≤ 2 * (nn : Int)) (hpre2 : nn ≤ 20) (gCT0 : CT σ0 τ0 b N mo q) (gWH0 : WH σ0 τ0 nm hc) : Met l yX7_readCond wsX7_readCond ({ frames := 18, cells := 0, slots := 0, locals := 395 } : Room) (WQc D cA ad [.ref (ad 27), .int a1] σ0 τ0) (va_Qi (fun (r : Int32) (u : SS) => P_X7_readCond_d4 σ0 τ0 a1 b N mo q nn nm hc r u.1 u.2) (WB D cA ad) (AA ad)) 0 0 (AA ad) := by
  refine Met.ofW (cc := cX7_readCond) (maxL := 3) (ret := (some .boolean)) (by decide) rfl ?_
  intro p e s m args below meth c s₁ B hml hv
  obtain ⟨rfl, hP, hK, hN⟩ := hv
  have C : Cy p s m _ meth c cX7_readCond 3 wsX7_readCond RX7 D cA ad (some .boolean) := ⟨B.exec, B.bytes, hml, findClass_of_methodNamed B.named, atoms_spec (ws := wsX7_readCond) B.pre, hK, B.notSynchronized, B.returns, hI, hN⟩
  have hl := lv_entry ([.ref (ad 27), .int a1]) (n := 3) (Nat.le_of_ble_eq_true rfl)
  rw [lg_entry_eq]
  generalize (lg_sl ([.ref (ad 27), .int a1]) ++ List.replicate (3 - (lg_sl ([.ref (ad 27), .int a1])).length) Slot.unset).toArray = ls at hl ⊢
  have hl : lv_has ls 3 [(0, .ref (ad 27)), (1, .int a1)] := hl
  have hS : va_S (AA ad) s.heap s.heap [] := va_S.rf
  have hF : Fr L_X7_readCond_d4 σ0 σ0 := Fr.rf
  have hFL : FrL LL_X7_readCond_d4 τ0 τ0 := FrL.rf
  have gCT := gCT0
  have gWH := gWH0
  have hA := A_X7_readCond_d4 p l e s m _ below meth c D cA ad σ0 τ0 a1 b N mo q nn nm hc C ha1 hpre0 hpre1 hpre2 gCT0 gWH0 810
  have K12 := hA
  clear hA
  obtain ⟨hx, hb, _, hown, hts, _, hk, hr, _, _⟩ := C
  refine lv_aload_n hx hb dX7_readCond_0 rfl (lv_at hl 0 rfl) ?_
  refine lv_iload_n hx hb dX7_readCond_1 rfl (lv_at hl 1 rfl) ?_
  refine r_cVi (k := 27) (As := [.int a1]) (rest := []) ⟨hx, hb, hml, hown, hts⟩ hK hP hN hS (c_X7_readAll_d4 l D cA ad hI σ0 τ0 hR a1 b N mo q nn nm hc (by omega) (by omega) (by omega) (by omega) gCT gWH) (cwV 1 hts gX7_readCond_X7_readAll rfl rfl rfl (by decide +kernel) ⟨by decide, by decide⟩) (rv_SText hK hP (by decide) (by decide)) rfl hl.1 rfl (Nat.le_of_ble_eq_true rfl) dX7_readCond_2 (Nat.zero_le _) (Nat.zero_le _) (fun r1 u1 H1 locs1 hp1 hP hS => ?_)
  obtain ⟨σ1, τ1⟩ := u1
  obtain ⟨hR, f1, fL1, hq1, hp1_0, hp1_1, gnWH⟩ : P_X7_readAll_d4 σ0 τ0 a1 b N mo q nn nm hc r1 σ1 τ1 := hp1
  have o1 := hp1_0
  have hP : va_P D vwCl (gw cA ad σ1 τ1) H1 := hP
  have hFL := hFL.step fL1 (by decide)
  have gWH := gWH.agL (AgrL.fr fL1 (by decide))
  have hF := hF.step f1 (by decide)
  have gWH := gWH.ag (Agr.fr f1 (by decide))
  have hr2 := rg_6_1 hR (k := 24) (by decide) (by decide)
  have hr3 := rg_6_2 hR (k := 24) (by decide) (by decide)
  refine r_if_ne (tgt := 10) hx hb dX7_readCond_5 (by decide) (fun c4 => ?_) (fun c4 => ?_)
  · replace hp1_1 := hp1_1.resolve_left (by omega)
    obtain ⟨s1, e1, gCT, hs1, hs2⟩ := o1.ye (by omega)
    have hu1 := all_up (one_up _) _ _ _ e1
    refine r_iconst hx hb dX7_readCond_10 (by decide) (fun z5 ez5 => ?_)
    refine lv_istore_n (lv' := [(2, .int z5), (0, .ref (ad 27)), (1, .int a1)]) hx hb dX7_readCond_11 rfl hl (by decide) rfl (fun ls hl => ?_)
    exact K12 σ1 τ1 H1 locs1 z5 200 _ _ ls hR hF hFL hP hS (by omega) (by omega) (by omega) (by first | exact con_s e1 | rw [iv, lop_s (f := (allP b N mo (fun q nn => oneP b N mo nm hc 5 q nn))) (by omega) (by omega) e2]) (by omega) (by omega) (by omega) (by omega) (by omega) gCT gWH gCT (lv_sub hl [1, 2, 0] rfl) (by omega)
  · clear hp1_1
    refine r_iconst hx hb dX7_readCond_8 (by decide) (fun z6 ez6 => ?_)
    exact r_zret hx hb hr hK hP hS hk (by omega) dX7_readCond_9 (show P_X7_readCond_d4 σ0 τ0 a1 b N mo q nn nm hc z6 σ1 τ1 from ⟨hR, hF, hFL, by omega, by first | (exfalso; omega) | (obtain ⟨f, e1, x1, x2⟩ := o1.no (by omega); exact RO.ofl (con_f e1) (by omega) x1 x2) | exact RO.ofr (by rw [iv, lop_e (by omega)]) (by omega) ⟨gCT, by omega, by omega⟩ | (obtain ⟨f, e2, x1, x2⟩ := o2.no (by omega); exact RO.ofl (by rw [iv, lop_f (f := (allP b N mo (fun q nn => oneP b N mo nm hc 5 q nn))) (by omega) (by omega) e2]) (by omega) x1 x2) | (exfalso; omega), by omega, gWH⟩)
abbrev L_X7_readOne_d3 : List Rc := [(1, 1, 7, 10), (372, 372, 0, 39), (376, 376, 0, 39), (380, 380, 0, 39), (24, 24, 1, 2), (1, 1, 12, 14)]
abbrev LL_X7_readOne_d3 : List Rc := [(1, 1, 11, 11)]
def P_X7_readOne_d3 (σ0 : Nat → Nat → Int32) (τ0 : Nat → Nat → Int64) (a1 : Int32) (b : Nat → Int) (N : Nat) (mo : Nat) (q : Nat) (nn : Nat) (nm : Nat → Int) (hc : Nat) (r : Int32) (σ : Nat → Nat → Int32) (τ : Nat → Nat → Int64) : Prop := Rg σ ∧ Fr L_X7_readOne_d3 σ0 σ ∧ FrL LL_X7_readOne_d3 τ0 τ ∧ (0 ≤ r.toInt ∧ r.toInt ≤ 1) ∧ (RO r σ (oneP b N mo nm hc 6 q nn) (fun s => CT σ τ b N mo s.1 ∧ (σ 24 1).toInt = (s.2 : Int) ∧ (σ 24 2).toInt + 2 * (nn : Int) + 1 ≤ (σ0 24 2).toInt + 2 * (s.2 : Int))) ∧ (r.toInt = 0 ∨ (σ 1 13).toInt = (σ0 1 13).toInt) ∧ WH σ τ nm hc
set_option maxHeartbeats 4000000 in
theorem c_X7_readOne_d3 (l : Launch) (D : va_G) (cA : Nat → ClassId) (ad : Nat → Nat) (hI : Inj ad) (σ0 : Nat → Nat → Int32) (τ0 : Nat → Nat → Int64) (hR : Rg σ0) (a1 : Int32) (b : Nat → Int) (N : Nat) (mo : Nat) (q : Nat) (nn : Nat) (nm : Nat → Int) (hc : Nat) (ha1 : 3 ≤ a1.toInt ∧ a1.toInt ≤ 3) (hpre0 : (σ0 24 1).toInt = (nn : Int)) (hpre1 : 0 ≤ (σ0 24 2).toInt ∧ (σ0 24 2).toInt ≤ 2 * (nn : Int)) (hpre2 : nn ≤ 20) (gCT0 : CT σ0 τ0 b N mo q) (gWH0 : WH σ0 τ0 nm hc) : Met l yX7_readOne wsX7_readOne ({ frames := 19, cells := 0, slots := 0, locals := 417 } : Room) (WQc D cA ad [.ref (ad 27), .int a1] σ0 τ0) (va_Qi (fun (r : Int32) (u : SS) => P_X7_readOne_d3 σ0 τ0 a1 b N mo q nn nm hc r u.1 u.2) (WB D cA ad) (AA ad)) 0 0 (AA ad) := by
  refine Met.ofW (cc := cX7_readOne) (maxL := 3) (ret := (some .boolean)) (by decide) rfl ?_
  intro p e s m args below meth c s₁ B hml hv
  obtain ⟨rfl, hP, hK, hN⟩ := hv
  have C : Cy p s m _ meth c cX7_readOne 3 wsX7_readOne RX7 D cA ad (some .boolean) := ⟨B.exec, B.bytes, hml, findClass_of_methodNamed B.named, atoms_spec (ws := wsX7_readOne) B.pre, hK, B.notSynchronized, B.returns, hI, hN⟩
  have hl := lv_entry ([.ref (ad 27), .int a1]) (n := 3) (Nat.le_of_ble_eq_true rfl)
  rw [lg_entry_eq]
  generalize (lg_sl ([.ref (ad 27), .int a1]) ++ List.replicate (3 - (lg_sl ([.ref (ad 27), .int a1])).length) Slot.unset).toArray = ls at hl ⊢
  have hl : lv_has ls 3 [(0, .ref (ad 27)), (1, .int a1)] := hl
  have hS : va_S (AA ad) s.heap s.heap [] := va_S.rf
  have hF : Fr L_X7_readOne_d3 σ0 σ0 := Fr.rf
  have hFL : FrL LL_X7_readOne_d3 τ0 τ0 := FrL.rf
  have gCT := gCT0
  have gWH := gWH0
  obtain ⟨hx, hb, _, hown, hts, _, hk, hr, _, _⟩ := C
  have htk := gCT.tk
  refine lv_aload_n hx hb dX7_readOne_0 rfl (lv_at hl 0 rfl) ?_
  refine fg_7_0 (k := 27) hx hb hts in_X7_readOne_7 hown hK hP (by decide) (by decide) (hts _ lk_X7_readOne_9) dX7_readOne_1 ?_
  refine fgN_8_9 (k := 1) hx hb hts in_X7_readOne_8 hown hK hP (by decide) (by decide) (hN.use nw_7_32) dX7_readOne_4 ?_
  refine lv_istore_n (lv' := [(2, .int (σ0 1 9)), (0, .ref (ad 27)), (1, .int a1)]) hx hb dX7_readOne_7 rfl hl (by decide) rfl (fun ls hl => ?_)
  refine lv_iload_n hx hb dX7_readOne_8 rfl (lv_at hl 0 rfl) ?_
  refine r_cSi (As := [.int (σ0 1 9)]) (rest := []) ⟨hx, hb, hml, hown, hts⟩ hK hP hN hS (c_X7_beginsOne l D cA ad hI σ0 τ0 hR (σ0 1 9)) (va_cwS 1 hts gX7_readOne_X7_beginsOne rfl rfl rfl (by decide +kernel) ⟨by decide, by decide⟩) rfl hl.1 rfl (Nat.le_of_ble_eq_true rfl) dX7_readOne_9 (Nat.zero_le _) (Nat.zero_le _) (fun r1 u1 H1 locs1 hp1 hP hS => ?_)
  obtain ⟨σ1, τ1⟩ := u1
  obtain ⟨hR, f1, fL1, hq1, hp1_0⟩ : P_X7_beginsOne σ0 τ0 (σ0 1 9) r1 σ1 τ1 := hp1
  have hP : va_P D vwCl (gw cA ad σ1 τ1) H1 := hP
  obtain rfl := FrL.nil fL1
  obtain rfl := Fr.nil f1
  refine r_if_ne (tgt := 24) hx hb dX7_readOne_12 (by decide) (fun c2 => ?_) (fun c2 => ?_)
  · refine lv_aload_n hx hb dX7_readOne_24 rfl (lv_at hl 1 rfl) ?_
    refine fg_7_2 (k := 27) hx hb hts in_X7_readOne_7 hown hK hP (by decide) (by decide) (hts _ lk_X7_readOne_19) dX7_readOne_25 ?_
    refine fgN_6_1 (k := 24) hx hb hts in_X7_readOne_6 hown hK hP (by decide) (by decide) (hN.use nw_7_61) dX7_readOne_28 ?_
    refine r_bipush hx hb dX7_readOne_31 (by decide) (fun z3 ez3 => ?_)
    refine r_icmp_ge (tgt := 42) hx hb dX7_readOne_33 (by decide) (fun c4 => ?_) (fun c4 => ?_)
    · refine lv_aload_n hx hb dX7_readOne_42 rfl (lv_at hl 1 rfl) ?_
      refine fg_7_0 (k := 27) hx hb hts in_X7_readOne_7 hown hK hP (by decide) (by decide) (hts _ lk_X7_readOne_9) dX7_readOne_43 ?_
      refine r_iconst hx hb dX7_readOne_46 (by decide) (fun z5 ez5 => ?_)
      refine r_cVi (k := 1) (As := [.int z5]) (rest := []) ⟨hx, hb, hml, hown, hts⟩ hK hP hN hS (c_X8_blame_v l D cA ad hI σ0 τ0 hR z5 _ _ _ _ (by omega) gCT) (cwV 1 hts gX7_readOne_X8_blame rfl rfl rfl (by decide +kernel) ⟨by decide, by decide⟩) (rv_Tape hK hP (by decide) (by decide)) rfl hl.1 rfl (Nat.le_of_ble_eq_true rfl) dX7_readOne_47 (Nat.zero_le _) (Nat.zero_le _) (fun r6 u6 H6 locs6 hp6 hP hS => ?_)
      obtain ⟨σ6, τ6⟩ := u6
      obtain ⟨hR, f6, fL6, hq6, hp6_0, hp6_1, hp6_2, gnCT⟩ : P_X8_blame_v σ0 τ0 z5 _ _ _ _ r6 σ6 τ6 := hp6
      have hP : va_P D vwCl (gw cA ad σ6 τ6) H6 := hP
      obtain rfl := FrL.nil fL6
      have hF := hF.step f6 (by decide)
      have gCT := gCT.ag (Agr.fr f6 (by decide))
      have gWH := gWH.ag (Agr.fr f6 (by decide))
      have t7 : (σ6 24 1).toInt = (σ0 24 1).toInt := congrArg Int32.toInt (f6.at 24 1 (by decide))
      have t8 : (σ6 24 2).toInt = (σ0 24 2).toInt := congrArg Int32.toInt (f6.at 24 2 (by decide))
      exact r_zret hx hb hr hK hP hS hk (by omega) dX7_readOne_50 (show P_X7_readOne_d3 σ0 τ0 a1 b N mo q nn nm hc r6 σ6 τ0 from ⟨hR, hF, hFL, by omega, by first | exact RO.ofr ((one_l (by omega) (by omega) (by omega) (by omega)).trans (lea_n (by omega) (by omega))) (by omega) ⟨gCT, by omega, by omega⟩ | (exfalso; omega) | exact RO.ofk (one_x (by omega)) (by omega) (by omega) (by omega) | exact RO.ofk (one_4 (by omega) (by omega)) (by omega) (by omega) (by omega) | (obtain ⟨f, e1, x1, x2⟩ := o1.no (by omega); exact RO.ofl ((one_n (by omega) (by omega)).trans e1) (by omega) x1 x2) | exact RO.ofr ((one_n (by omega) (by omega)).trans e1) (by omega) ⟨gCT, by omega, by omega⟩ | (obtain ⟨f, e2, x1, x2⟩ := o2.no (by omega); exact RO.ofl (by rw [one_o (by omega) (by omega), e2, bnd_l]) (by omega) x1 x2) | (obtain ⟨f, e3, x1, x2⟩ := o3.no (by omega); exact RO.ofl (by rw [one_o (by omega) (by omega), e2, bnd_r, e3, bnd_l]) (by omega) x1 x2) | exact RO.ofr (by rw [one_o (by omega) (by omega), e2, bnd_r, e3, bnd_r]) (by omega) ⟨gCT, by omega, by omega⟩ | (rw [one_l (by omega) (by omega) (by omega) (by omega)]; exact o4.map (fun s es h => ⟨h.1, h.2.1, by have h2 := h.2.2; have hl := lea_up es; omega⟩)) | (rw [one_l (by omega) (by omega) (by omega) (by omega)]; exact o5.map (fun s es h => ⟨h.1, h.2.1, by have h2 := h.2.2; have hl := lea_up es; omega⟩)), by omega, gWH⟩)
    · refine lv_iload_n hx hb dX7_readOne_36 rfl (lv_at hl 2 rfl) ?_
      refine r_bipush hx hb dX7_readOne_37 (by decide) (fun z9 ez9 => ?_)
      refine r_icmp_le (tgt := 51) hx hb dX7_readOne_39 (by decide) (fun c10 => ?_) (fun c10 => ?_)
      · refine lv_aload_n hx hb dX7_readOne_51 rfl (lv_at hl 1 rfl) ?_
        refine fg_7_2 (k := 27) hx hb hts in_X7_readOne_7 hown hK hP (by decide) (by decide) (hts _ lk_X7_readOne_19) dX7_readOne_52 ?_
        refine lv_dup hx hb dX7_readOne_55 rfl ?_
        refine fgN_6_1 (k := 24) hx hb hts in_X7_readOne_6 hown hK hP (by decide) (by decide) (hN.use nw_7_61) dX7_readOne_56 ?_
        refine r_iconst hx hb dX7_readOne_59 (by decide) (fun z11 ez11 => ?_)
        refine r_iadd hx hb dX7_readOne_60 (by omega) (fun z12 ez12 => ?_)
        refine fpN_6_1 (k := 24) hx hb hts in_X7_readOne_6 hown hK hP (by decide) (by decide) (hN.use nw_7_61) hI hR hS (by omega) dX7_readOne_61 (fun σ13 H13 locs13 u13 v13 hR hP hS => ?_)
        have hF := hF.puts u13 4 rfl (by decide) (by decide) (by decide) (by decide)
        have gCT := gCT.ag (Agr.put u13 (by decide))
        have gWH := gWH.ag (Agr.put u13 (by decide))
        have t14 : (σ13 24 2).toInt = (σ0 24 2).toInt := congrArg Int32.toInt (u13 24 2 (by omega))
        have t15 : (σ13 1 13).toInt = (σ0 1 13).toInt := congrArg Int32.toInt (u13 1 13 (by omega))
        refine lv_aload_n hx hb dX7_readOne_64 rfl (lv_at hl 1 rfl) ?_
        refine fg_7_0 (k := 27) hx hb hts in_X7_readOne_7 hown hK hP (by decide) (by decide) (hts _ lk_X7_readOne_9) dX7_readOne_65 ?_
        refine r_cVv (k := 1) (As := []) (rest := []) ⟨hx, hb, hml, hown, hts⟩ hK hP hN hS (c_X8_next_v l D cA ad hI σ13 τ0 hR _ _ _ _ gCT) (cwV 0 hts gX7_readOne_X8_next rfl rfl rfl (by decide +kernel) ⟨by decide, by decide⟩) (rv_Tape hK hP (by decide) (by decide)) rfl hl.1 rfl (Nat.le_of_ble_eq_true rfl) dX7_readOne_68 (Nat.zero_le _) (Nat.zero_le _) (fun u16 H16 locs16 hp16 hP hS => ?_)
        obtain ⟨σ16, τ16⟩ := u16
        obtain ⟨hR, f16, fL16, hp16_0⟩ : P_X8_next_v σ13 τ0 _ _ _ _ σ16 τ16 := hp16
        have hP : va_P D vwCl (gw cA ad σ16 τ16) H16 := hP
        have hFL := hFL.step fL16 (by decide)
        have gWH := gWH.agL (AgrL.fr fL16 (by decide))
        have hF := hF.step f16 (by decide)
        have gWH := gWH.ag (Agr.fr f16 (by decide))
        have t17 : (σ16 24 2).toInt = (σ13 24 2).toInt := congrArg Int32.toInt (f16.at 24 2 (by decide))
        have t18 : (σ16 1 13).toInt = (σ13 1 13).toInt := congrArg Int32.toInt (f16.at 1 13 (by decide))
        have t19 : (σ16 24 1).toInt = (σ13 24 1).toInt := congrArg Int32.toInt (f16.at 24 1 (by decide))
        have gCT := hp16_0
        refine lv_iload_n hx hb dX7_readOne_71 rfl (lv_at hl 0 rfl) ?_
        by_cases c20 : (σ0 1 9).toInt = 22
        · refine lv_tableIn (off := 108) (tgt := 180) hx hb dX7_readOne_72 (by omega) (by omega) (by rw [c20]; rfl) (by decide) ?_
          refine lv_aload_n hx hb dX7_readOne_180 rfl (lv_at hl 1 rfl) ?_
          refine lv_iload_n hx hb dX7_readOne_181 rfl (lv_at hl 2 rfl) ?_
          refine r_iconst hx hb dX7_readOne_182 (by decide) (fun z21 ez21 => ?_)
          refine r_iadd hx hb dX7_readOne_183 (by omega) (fun z22 ez22 => ?_)
          refine r_cVi (k := 27) (As := [.int z22]) (rest := []) ⟨hx, hb, hml, hown, hts⟩ hK hP hN hS (c_X7_readOne_d4 l D cA ad hI σ16 τ16 hR z22 b N mo _ (nn + 1) nm hc (by omega) (by omega) (by omega) (by omega) gCT gWH) (cwV 1 hts gX7_readOne_X7_readOne rfl rfl rfl (by decide +kernel) ⟨by decide, by decide⟩) (rv_SText hK hP (by decide) (by decide)) rfl hl.1 rfl (Nat.le_of_ble_eq_true rfl) dX7_readOne_184 (Nat.zero_le _) (Nat.zero_le _) (fun r23 u23 H23 locs23 hp23 hP hS => ?_)
          obtain ⟨σ23, τ23⟩ := u23
          obtain ⟨hR, f23, fL23, hq23, hp23_0, hp23_1, gnWH⟩ : P_X7_readOne_d4 σ16 τ16 z22 b N mo _ (nn + 1) nm hc r23 σ23 τ23 := hp23
          have o1 := hp23_0
          have hP : va_P D vwCl (gw cA ad σ23 τ23) H23 := hP
          have hFL := hFL.step fL23 (by decide)
          have gWH := gWH.agL (AgrL.fr fL23 (by decide))
          have hF := hF.step f23 (by decide)
          have gWH := gWH.ag (Agr.fr f23 (by decide))
          have hr24 := rg_6_1 hR (k := 24) (by decide) (by decide)
          have hr25 := rg_6_2 hR (k := 24) (by decide) (by decide)
          refine r_if_eq (tgt := 208) hx hb dX7_readOne_187 (by decide) (fun c26 => ?_) (fun c26 => ?_)
          · clear hp23_1
            refine r_iconst hx hb dX7_readOne_208 (by decide) (fun z27 ez27 => ?_)
            exact r_zret hx hb hr hK hP hS hk (by omega) dX7_readOne_209 (show P_X7_readOne_d3 σ0 τ0 a1 b N mo q nn nm hc z27 σ23 τ23 from ⟨hR, hF, hFL, by omega, by first | exact RO.ofr ((one_l (by omega) (by omega) (by omega) (by omega)).trans (lea_n (by omega) (by omega))) (by omega) ⟨gCT, by omega, by omega⟩ | (exfalso; omega) | exact RO.ofk (one_x (by omega)) (by omega) (by omega) (by omega) | exact RO.ofk (one_4 (by omega) (by omega)) (by omega) (by omega) (by omega) | (obtain ⟨f, e1, x1, x2⟩ := o1.no (by omega); exact RO.ofl ((one_n (by omega) (by omega)).trans e1) (by omega) x1 x2) | exact RO.ofr ((one_n (by omega) (by omega)).trans e1) (by omega) ⟨gCT, by omega, by omega⟩ | (obtain ⟨f, e2, x1, x2⟩ := o2.no (by omega); exact RO.ofl (by rw [one_o (by omega) (by omega), e2, bnd_l]) (by omega) x1 x2) | (obtain ⟨f, e3, x1, x2⟩ := o3.no (by omega); exact RO.ofl (by rw [one_o (by omega) (by omega), e2, bnd_r, e3, bnd_l]) (by omega) x1 x2) | exact RO.ofr (by rw [one_o (by omega) (by omega), e2, bnd_r, e3, bnd_r]) (by omega) ⟨gCT, by omega, by omega⟩ | (rw [one_l (by omega) (by omega) (by omega) (by omega)]; exact o4.map (fun s es h => ⟨h.1, h.2.1, by have h2 := h.2.2; have hl := lea_up es; omega⟩)) | (rw [one_l (by omega) (by omega) (by omega) (by omega)]; exact o5.map (fun s es h => ⟨h.1, h.2.1, by have h2 := h.2.2; have hl := lea_up es; omega⟩)), by omega, gWH⟩)
          · replace hp23_1 := hp23_1.resolve_left (by omega)
            obtain ⟨s1, e1, gCT, hs1, hs2⟩ := o1.ye (by omega)
            have hu1 := one_up _ _ _ _ e1
            refine lv_aload_n hx hb dX7_readOne_190 rfl (lv_at hl 1 rfl) ?_
            refine fg_7_2 (k := 27) hx hb hts in_X7_readOne_7 hown hK hP (by decide) (by decide) (hts _ lk_X7_readOne_19) dX7_readOne_191 ?_
            refine r_bipush hx hb dX7_readOne_194 (by decide) (fun z28 ez28 => ?_)
            refine r_iconst hx hb dX7_readOne_196 (by decide) (fun z29 ez29 => ?_)
            refine r_iconst hx hb dX7_readOne_197 (by decide) (fun z30 ez30 => ?_)
            refine r_cVi (k := 24) (As := [.int z28, .int z29, .int z30]) (rest := []) ⟨hx, hb, hml, hown, hts⟩ hK hP hN hS (c_X6_add l D cA ad hI σ23 τ23 hR z28 z29 z30 (by omega)) (cwV 3 hts gX7_readOne_X6_add rfl rfl rfl (by decide +kernel) ⟨by decide, by decide⟩) (rv_Sent hK hP (by decide) (by decide)) rfl hl.1 rfl (Nat.le_of_ble_eq_true rfl) dX7_readOne_198 (Nat.zero_le _) (Nat.zero_le _) (fun r31 u31 H31 locs31 hp31 hP hS => ?_)
            obtain ⟨σ31, τ31⟩ := u31
            obtain ⟨hR, f31, fL31, hq31, hp31_0⟩ : P_X6_add σ23 τ23 z28 z29 z30 r31 σ31 τ31 := hp31
            have hP : va_P D vwCl (gw cA ad σ31 τ31) H31 := hP
            obtain rfl := FrL.nil fL31
            have hF := hF.step f31 (by decide)
            have gCT := gCT.ag (Agr.fr f31 (by decide))
            have gWH := gWH.ag (Agr.fr f31 (by decide))
            have t32 : (σ31 24 1).toInt = (σ23 24 1).toInt := congrArg Int32.toInt (f31.at 24 1 (by decide))
            have t33 : (σ31 1 13).toInt = (σ23 1 13).toInt := congrArg Int32.toInt (f31.at 1 13 (by decide))
            have hr34 := rg_6_2 hR (k := 24) (by decide) (by decide)
            refine r_if_eq (tgt := 208) hx hb dX7_readOne_201 (by decide) (fun c35 => ?_) (fun c35 => ?_)
            · refine r_iconst hx hb dX7_readOne_208 (by decide) (fun z36 ez36 => ?_)
              exact r_zret hx hb hr hK hP hS hk (by omega) dX7_readOne_209 (show P_X7_readOne_d3 σ0 τ0 a1 b N mo q nn nm hc z36 σ31 τ23 from ⟨hR, hF, hFL, by omega, by first | exact RO.ofr ((one_l (by omega) (by omega) (by omega) (by omega)).trans (lea_n (by omega) (by omega))) (by omega) ⟨gCT, by omega, by omega⟩ | (exfalso; omega) | exact RO.ofk (one_x (by omega)) (by omega) (by omega) (by omega) | exact RO.ofk (one_4 (by omega) (by omega)) (by omega) (by omega) (by omega) | (obtain ⟨f, e1, x1, x2⟩ := o1.no (by omega); exact RO.ofl ((one_n (by omega) (by omega)).trans e1) (by omega) x1 x2) | exact RO.ofr ((one_n (by omega) (by omega)).trans e1) (by omega) ⟨gCT, by omega, by omega⟩ | (obtain ⟨f, e2, x1, x2⟩ := o2.no (by omega); exact RO.ofl (by rw [one_o (by omega) (by omega), e2, bnd_l]) (by omega) x1 x2) | (obtain ⟨f, e3, x1, x2⟩ := o3.no (by omega); exact RO.ofl (by rw [one_o (by omega) (by omega), e2, bnd_r, e3, bnd_l]) (by omega) x1 x2) | exact RO.ofr (by rw [one_o (by omega) (by omega), e2, bnd_r, e3, bnd_r]) (by omega) ⟨gCT, by omega, by omega⟩ | (rw [one_l (by omega) (by omega) (by omega) (by omega)]; exact o4.map (fun s es h => ⟨h.1, h.2.1, by have h2 := h.2.2; have hl := lea_up es; omega⟩)) | (rw [one_l (by omega) (by omega) (by omega) (by omega)]; exact o5.map (fun s es h => ⟨h.1, h.2.1, by have h2 := h.2.2; have hl := lea_up es; omega⟩)), by omega, gWH⟩)
            · refine r_iconst hx hb dX7_readOne_204 (by decide) (fun z37 ez37 => ?_)
              refine lv_goto (tgt := 209) hx hb dX7_readOne_205 (by decide) ?_
              exact r_zret hx hb hr hK hP hS hk (by omega) dX7_readOne_209 (show P_X7_readOne_d3 σ0 τ0 a1 b N mo q nn nm hc z37 σ31 τ23 from ⟨hR, hF, hFL, by omega, by first | exact RO.ofr ((one_l (by omega) (by omega) (by omega) (by omega)).trans (lea_n (by omega) (by omega))) (by omega) ⟨gCT, by omega, by omega⟩ | (exfalso; omega) | exact RO.ofk (one_x (by omega)) (by omega) (by omega) (by omega) | exact RO.ofk (one_4 (by omega) (by omega)) (by omega) (by omega) (by omega) | (obtain ⟨f, e1, x1, x2⟩ := o1.no (by omega); exact RO.ofl ((one_n (by omega) (by omega)).trans e1) (by omega) x1 x2) | exact RO.ofr ((one_n (by omega) (by omega)).trans e1) (by omega) ⟨gCT, by omega, by omega⟩ | (obtain ⟨f, e2, x1, x2⟩ := o2.no (by omega); exact RO.ofl (by rw [one_o (by omega) (by omega), e2, bnd_l]) (by omega) x1 x2) | (obtain ⟨f, e3, x1, x2⟩ := o3.no (by omega); exact RO.ofl (by rw [one_o (by omega) (by omega), e2, bnd_r, e3, bnd_l]) (by omega) x1 x2) | exact RO.ofr (by rw [one_o (by omega) (by omega), e2, bnd_r, e3, bnd_r]) (by omega) ⟨gCT, by omega, by omega⟩ | (rw [one_l (by omega) (by omega) (by omega) (by omega)]; exact o4.map (fun s es h => ⟨h.1, h.2.1, by have h2 := h.2.2; have hl := lea_up es; omega⟩)) | (rw [one_l (by omega) (by omega) (by omega) (by omega)]; exact o5.map (fun s es h => ⟨h.1, h.2.1, by have h2 := h.2.2; have hl := lea_up es; omega⟩)), by omega, gWH⟩)
        by_cases c38 : (σ0 1 9).toInt = 23
        · refine lv_tableIn (off := 177) (tgt := 249) hx hb dX7_readOne_72 (by omega) (by omega) (by rw [c38]; rfl) (by decide) ?_
          refine lv_aload_n hx hb dX7_readOne_249 rfl (lv_at hl 1 rfl) ?_
          refine fg_7_2 (k := 27) hx hb hts in_X7_readOne_7 hown hK hP (by decide) (by decide) (hts _ lk_X7_readOne_19) dX7_readOne_250 ?_
          refine lv_iload_n hx hb dX7_readOne_253 rfl (lv_at hl 0 rfl) ?_
          refine r_bipush hx hb dX7_readOne_254 (by decide) (fun z39 ez39 => ?_)
          refine r_iconst hx hb dX7_readOne_256 (by decide) (fun z40 ez40 => ?_)
          refine r_cVi (k := 24) (As := [.int (σ0 1 9), .int z39, .int z40]) (rest := []) ⟨hx, hb, hml, hown, hts⟩ hK hP hN hS (c_X6_add l D cA ad hI σ16 τ16 hR (σ0 1 9) z39 z40 (by omega)) (cwV 3 hts gX7_readOne_X6_add rfl rfl rfl (by decide +kernel) ⟨by decide, by decide⟩) (rv_Sent hK hP (by decide) (by decide)) rfl hl.1 rfl (Nat.le_of_ble_eq_true rfl) dX7_readOne_257 (Nat.zero_le _) (Nat.zero_le _) (fun r41 u41 H41 locs41 hp41 hP hS => ?_)
          obtain ⟨σ41, τ41⟩ := u41
          obtain ⟨hR, f41, fL41, hq41, hp41_0⟩ : P_X6_add σ16 τ16 (σ0 1 9) z39 z40 r41 σ41 τ41 := hp41
          have hP : va_P D vwCl (gw cA ad σ41 τ41) H41 := hP
          obtain rfl := FrL.nil fL41
          have hF := hF.step f41 (by decide)
          have gCT := gCT.ag (Agr.fr f41 (by decide))
          have gWH := gWH.ag (Agr.fr f41 (by decide))
          have t42 : (σ41 1 13).toInt = (σ16 1 13).toInt := congrArg Int32.toInt (f41.at 1 13 (by decide))
          have t43 : (σ41 24 1).toInt = (σ16 24 1).toInt := congrArg Int32.toInt (f41.at 24 1 (by decide))
          have hr44 := rg_6_2 hR (k := 24) (by decide) (by decide)
          exact r_zret hx hb hr hK hP hS hk (by omega) dX7_readOne_260 (show P_X7_readOne_d3 σ0 τ0 a1 b N mo q nn nm hc r41 σ41 τ16 from ⟨hR, hF, hFL, by omega, by first | exact RO.ofr ((one_l (by omega) (by omega) (by omega) (by omega)).trans (lea_n (by omega) (by omega))) (by omega) ⟨gCT, by omega, by omega⟩ | (exfalso; omega) | exact RO.ofk (one_x (by omega)) (by omega) (by omega) (by omega) | exact RO.ofk (one_4 (by omega) (by omega)) (by omega) (by omega) (by omega) | (obtain ⟨f, e1, x1, x2⟩ := o1.no (by omega); exact RO.ofl ((one_n (by omega) (by omega)).trans e1) (by omega) x1 x2) | exact RO.ofr ((one_n (by omega) (by omega)).trans e1) (by omega) ⟨gCT, by omega, by omega⟩ | (obtain ⟨f, e2, x1, x2⟩ := o2.no (by omega); exact RO.ofl (by rw [one_o (by omega) (by omega), e2, bnd_l]) (by omega) x1 x2) | (obtain ⟨f, e3, x1, x2⟩ := o3.no (by omega); exact RO.ofl (by rw [one_o (by omega) (by omega), e2, bnd_r, e3, bnd_l]) (by omega) x1 x2) | exact RO.ofr (by rw [one_o (by omega) (by omega), e2, bnd_r, e3, bnd_r]) (by omega) ⟨gCT, by omega, by omega⟩ | (rw [one_l (by omega) (by omega) (by omega) (by omega)]; exact o4.map (fun s es h => ⟨h.1, h.2.1, by have h2 := h.2.2; have hl := lea_up es; omega⟩)) | (rw [one_l (by omega) (by omega) (by omega) (by omega)]; exact o5.map (fun s es h => ⟨h.1, h.2.1, by have h2 := h.2.2; have hl := lea_up es; omega⟩)), by omega, gWH⟩)
        by_cases c45 : (σ0 1 9).toInt = 24
        · refine lv_tableIn (off := 177) (tgt := 249) hx hb dX7_readOne_72 (by omega) (by omega) (by rw [c45]; rfl) (by decide) ?_
          refine lv_aload_n hx hb dX7_readOne_249 rfl (lv_at hl 1 rfl) ?_
          refine fg_7_2 (k := 27) hx hb hts in_X7_readOne_7 hown hK hP (by decide) (by decide) (hts _ lk_X7_readOne_19) dX7_readOne_250 ?_
          refine lv_iload_n hx hb dX7_readOne_253 rfl (lv_at hl 0 rfl) ?_
          refine r_bipush hx hb dX7_readOne_254 (by decide) (fun z46 ez46 => ?_)
          refine r_iconst hx hb dX7_readOne_256 (by decide) (fun z47 ez47 => ?_)
          refine r_cVi (k := 24) (As := [.int (σ0 1 9), .int z46, .int z47]) (rest := []) ⟨hx, hb, hml, hown, hts⟩ hK hP hN hS (c_X6_add l D cA ad hI σ16 τ16 hR (σ0 1 9) z46 z47 (by omega)) (cwV 3 hts gX7_readOne_X6_add rfl rfl rfl (by decide +kernel) ⟨by decide, by decide⟩) (rv_Sent hK hP (by decide) (by decide)) rfl hl.1 rfl (Nat.le_of_ble_eq_true rfl) dX7_readOne_257 (Nat.zero_le _) (Nat.zero_le _) (fun r48 u48 H48 locs48 hp48 hP hS => ?_)
          obtain ⟨σ48, τ48⟩ := u48
          obtain ⟨hR, f48, fL48, hq48, hp48_0⟩ : P_X6_add σ16 τ16 (σ0 1 9) z46 z47 r48 σ48 τ48 := hp48
          have hP : va_P D vwCl (gw cA ad σ48 τ48) H48 := hP
          obtain rfl := FrL.nil fL48
          have hF := hF.step f48 (by decide)
          have gCT := gCT.ag (Agr.fr f48 (by decide))
          have gWH := gWH.ag (Agr.fr f48 (by decide))
          have t49 : (σ48 1 13).toInt = (σ16 1 13).toInt := congrArg Int32.toInt (f48.at 1 13 (by decide))
          have t50 : (σ48 24 1).toInt = (σ16 24 1).toInt := congrArg Int32.toInt (f48.at 24 1 (by decide))
          have hr51 := rg_6_2 hR (k := 24) (by decide) (by decide)
          exact r_zret hx hb hr hK hP hS hk (by omega) dX7_readOne_260 (show P_X7_readOne_d3 σ0 τ0 a1 b N mo q nn nm hc r48 σ48 τ16 from ⟨hR, hF, hFL, by omega, by first | exact RO.ofr ((one_l (by omega) (by omega) (by omega) (by omega)).trans (lea_n (by omega) (by omega))) (by omega) ⟨gCT, by omega, by omega⟩ | (exfalso; omega) | exact RO.ofk (one_x (by omega)) (by omega) (by omega) (by omega) | exact RO.ofk (one_4 (by omega) (by omega)) (by omega) (by omega) (by omega) | (obtain ⟨f, e1, x1, x2⟩ := o1.no (by omega); exact RO.ofl ((one_n (by omega) (by omega)).trans e1) (by omega) x1 x2) | exact RO.ofr ((one_n (by omega) (by omega)).trans e1) (by omega) ⟨gCT, by omega, by omega⟩ | (obtain ⟨f, e2, x1, x2⟩ := o2.no (by omega); exact RO.ofl (by rw [one_o (by omega) (by omega), e2, bnd_l]) (by omega) x1 x2) | (obtain ⟨f, e3, x1, x2⟩ := o3.no (by omega); exact RO.ofl (by rw [one_o (by omega) (by omega), e2, bnd_r, e3, bnd_l]) (by omega) x1 x2) | exact RO.ofr (by rw [one_o (by omega) (by omega), e2, bnd_r, e3, bnd_r]) (by omega) ⟨gCT, by omega, by omega⟩ | (rw [one_l (by omega) (by omega) (by omega) (by omega)]; exact o4.map (fun s es h => ⟨h.1, h.2.1, by have h2 := h.2.2; have hl := lea_up es; omega⟩)) | (rw [one_l (by omega) (by omega) (by omega) (by omega)]; exact o5.map (fun s es h => ⟨h.1, h.2.1, by have h2 := h.2.2; have hl := lea_up es; omega⟩)), by omega, gWH⟩)
        by_cases c52 : (σ0 1 9).toInt = 25
        · refine lv_tableIn (off := 166) (tgt := 238) hx hb dX7_readOne_72 (by omega) (by omega) (by rw [c52]; rfl) (by decide) ?_
          refine lv_aload_n hx hb dX7_readOne_238 rfl (lv_at hl 1 rfl) ?_
          refine r_cVi (k := 27) (As := []) (rest := []) ⟨hx, hb, hml, hown, hts⟩ hK hP hN hS (c_X7_readOn l D cA ad hI σ16 τ16 hR b N mo _ (nn + 1) nm hc (tkq b N mo q) (by omega) (by omega) (by omega) gCT gWH) (cwV 0 hts gX7_readOne_X7_readOn rfl rfl rfl (by decide +kernel) ⟨by decide, by decide⟩) (rv_SText hK hP (by decide) (by decide)) rfl hl.1 rfl (Nat.le_of_ble_eq_true rfl) dX7_readOne_239 (Nat.zero_le _) (Nat.zero_le _) (fun r53 u53 H53 locs53 hp53 hP hS => ?_)
          obtain ⟨σ53, τ53⟩ := u53
          obtain ⟨hR, f53, fL53, hq53, hp53_0, hp53_1, gnWH⟩ : P_X7_readOn σ16 τ16 b N mo _ (nn + 1) nm hc (tkq b N mo q) r53 σ53 τ53 := hp53
          have o4 := hp53_0
          have hP : va_P D vwCl (gw cA ad σ53 τ53) H53 := hP
          have hFL := hFL.step fL53 (by decide)
          have gWH := gWH.agL (AgrL.fr fL53 (by decide))
          have hF := hF.step f53 (by decide)
          have gWH := gWH.ag (Agr.fr f53 (by decide))
          have t54 : (σ53 24 1).toInt = (σ16 24 1).toInt := congrArg Int32.toInt (f53.at 24 1 (by decide))
          have hr55 := rg_6_2 hR (k := 24) (by decide) (by decide)
          exact r_zret hx hb hr hK hP hS hk (by omega) dX7_readOne_242 (show P_X7_readOne_d3 σ0 τ0 a1 b N mo q nn nm hc r53 σ53 τ53 from ⟨hR, hF, hFL, by omega, by first | exact RO.ofr ((one_l (by omega) (by omega) (by omega) (by omega)).trans (lea_n (by omega) (by omega))) (by omega) ⟨gCT, by omega, by omega⟩ | (exfalso; omega) | exact RO.ofk (one_x (by omega)) (by omega) (by omega) (by omega) | exact RO.ofk (one_4 (by omega) (by omega)) (by omega) (by omega) (by omega) | (obtain ⟨f, e1, x1, x2⟩ := o1.no (by omega); exact RO.ofl ((one_n (by omega) (by omega)).trans e1) (by omega) x1 x2) | exact RO.ofr ((one_n (by omega) (by omega)).trans e1) (by omega) ⟨gCT, by omega, by omega⟩ | (obtain ⟨f, e2, x1, x2⟩ := o2.no (by omega); exact RO.ofl (by rw [one_o (by omega) (by omega), e2, bnd_l]) (by omega) x1 x2) | (obtain ⟨f, e3, x1, x2⟩ := o3.no (by omega); exact RO.ofl (by rw [one_o (by omega) (by omega), e2, bnd_r, e3, bnd_l]) (by omega) x1 x2) | exact RO.ofr (by rw [one_o (by omega) (by omega), e2, bnd_r, e3, bnd_r]) (by omega) ⟨gCT, by omega, by omega⟩ | (rw [one_l (by omega) (by omega) (by omega) (by omega)]; exact o4.map (fun s es h => ⟨h.1, h.2.1, by have h2 := h.2.2; have hl := lea_up es; omega⟩)) | (rw [one_l (by omega) (by omega) (by omega) (by omega)]; exact o5.map (fun s es h => ⟨h.1, h.2.1, by have h2 := h.2.2; have hl := lea_up es; omega⟩)), by omega, gWH⟩)
        by_cases c56 : (σ0 1 9).toInt = 26
        · refine lv_tableIn (off := 177) (tgt := 249) hx hb dX7_readOne_72 (by omega) (by omega) (by rw [c56]; rfl) (by decide) ?_
          refine lv_aload_n hx hb dX7_readOne_249 rfl (lv_at hl 1 rfl) ?_
          refine fg_7_2 (k := 27) hx hb hts in_X7_readOne_7 hown hK hP (by decide) (by decide) (hts _ lk_X7_readOne_19) dX7_readOne_250 ?_
          refine lv_iload_n hx hb dX7_readOne_253 rfl (lv_at hl 0 rfl) ?_
          refine r_bipush hx hb dX7_readOne_254 (by decide) (fun z57 ez57 => ?_)
          refine r_iconst hx hb dX7_readOne_256 (by decide) (fun z58 ez58 => ?_)
          refine r_cVi (k := 24) (As := [.int (σ0 1 9), .int z57, .int z58]) (rest := []) ⟨hx, hb, hml, hown, hts⟩ hK hP hN hS (c_X6_add l D cA ad hI σ16 τ16 hR (σ0 1 9) z57 z58 (by omega)) (cwV 3 hts gX7_readOne_X6_add rfl rfl rfl (by decide +kernel) ⟨by decide, by decide⟩) (rv_Sent hK hP (by decide) (by decide)) rfl hl.1 rfl (Nat.le_of_ble_eq_true rfl) dX7_readOne_257 (Nat.zero_le _) (Nat.zero_le _) (fun r59 u59 H59 locs59 hp59 hP hS => ?_)
          obtain ⟨σ59, τ59⟩ := u59
          obtain ⟨hR, f59, fL59, hq59, hp59_0⟩ : P_X6_add σ16 τ16 (σ0 1 9) z57 z58 r59 σ59 τ59 := hp59
          have hP : va_P D vwCl (gw cA ad σ59 τ59) H59 := hP
          obtain rfl := FrL.nil fL59
          have hF := hF.step f59 (by decide)
          have gCT := gCT.ag (Agr.fr f59 (by decide))
          have gWH := gWH.ag (Agr.fr f59 (by decide))
          have t60 : (σ59 1 13).toInt = (σ16 1 13).toInt := congrArg Int32.toInt (f59.at 1 13 (by decide))
          have t61 : (σ59 24 1).toInt = (σ16 24 1).toInt := congrArg Int32.toInt (f59.at 24 1 (by decide))
          have hr62 := rg_6_2 hR (k := 24) (by decide) (by decide)
          exact r_zret hx hb hr hK hP hS hk (by omega) dX7_readOne_260 (show P_X7_readOne_d3 σ0 τ0 a1 b N mo q nn nm hc r59 σ59 τ16 from ⟨hR, hF, hFL, by omega, by first | exact RO.ofr ((one_l (by omega) (by omega) (by omega) (by omega)).trans (lea_n (by omega) (by omega))) (by omega) ⟨gCT, by omega, by omega⟩ | (exfalso; omega) | exact RO.ofk (one_x (by omega)) (by omega) (by omega) (by omega) | exact RO.ofk (one_4 (by omega) (by omega)) (by omega) (by omega) (by omega) | (obtain ⟨f, e1, x1, x2⟩ := o1.no (by omega); exact RO.ofl ((one_n (by omega) (by omega)).trans e1) (by omega) x1 x2) | exact RO.ofr ((one_n (by omega) (by omega)).trans e1) (by omega) ⟨gCT, by omega, by omega⟩ | (obtain ⟨f, e2, x1, x2⟩ := o2.no (by omega); exact RO.ofl (by rw [one_o (by omega) (by omega), e2, bnd_l]) (by omega) x1 x2) | (obtain ⟨f, e3, x1, x2⟩ := o3.no (by omega); exact RO.ofl (by rw [one_o (by omega) (by omega), e2, bnd_r, e3, bnd_l]) (by omega) x1 x2) | exact RO.ofr (by rw [one_o (by omega) (by omega), e2, bnd_r, e3, bnd_r]) (by omega) ⟨gCT, by omega, by omega⟩ | (rw [one_l (by omega) (by omega) (by omega) (by omega)]; exact o4.map (fun s es h => ⟨h.1, h.2.1, by have h2 := h.2.2; have hl := lea_up es; omega⟩)) | (rw [one_l (by omega) (by omega) (by omega) (by omega)]; exact o5.map (fun s es h => ⟨h.1, h.2.1, by have h2 := h.2.2; have hl := lea_up es; omega⟩)), by omega, gWH⟩)
        by_cases c63 : (σ0 1 9).toInt = 27
        · refine lv_tableIn (off := 171) (tgt := 243) hx hb dX7_readOne_72 (by omega) (by omega) (by rw [c63]; rfl) (by decide) ?_
          refine lv_aload_n hx hb dX7_readOne_243 rfl (lv_at hl 1 rfl) ?_
          refine lv_iload_n hx hb dX7_readOne_244 rfl (lv_at hl 0 rfl) ?_
          refine r_cVi (k := 27) (As := [.int (σ0 1 9)]) (rest := []) ⟨hx, hb, hml, hown, hts⟩ hK hP hN hS (c_X7_readMeasure l D cA ad hI σ16 τ16 hR (σ0 1 9) b N mo _ (nn + 1) nm hc (tkq b N mo q) (by omega) (by omega) (by omega) (by omega) gCT gWH) (cwV 1 hts gX7_readOne_X7_readMeasure rfl rfl rfl (by decide +kernel) ⟨by decide, by decide⟩) (rv_SText hK hP (by decide) (by decide)) rfl hl.1 rfl (Nat.le_of_ble_eq_true rfl) dX7_readOne_245 (Nat.zero_le _) (Nat.zero_le _) (fun r64 u64 H64 locs64 hp64 hP hS => ?_)
          obtain ⟨σ64, τ64⟩ := u64
          obtain ⟨hR, f64, fL64, hq64, hp64_0, hp64_1, gnWH⟩ : P_X7_readMeasure σ16 τ16 (σ0 1 9) b N mo _ (nn + 1) nm hc (tkq b N mo q) r64 σ64 τ64 := hp64
          have o5 := hp64_0
          have hP : va_P D vwCl (gw cA ad σ64 τ64) H64 := hP
          have hFL := hFL.step fL64 (by decide)
          have gWH := gWH.agL (AgrL.fr fL64 (by decide))
          have hF := hF.step f64 (by decide)
          have gWH := gWH.ag (Agr.fr f64 (by decide))
          have t65 : (σ64 24 1).toInt = (σ16 24 1).toInt := congrArg Int32.toInt (f64.at 24 1 (by decide))
          have hr66 := rg_6_2 hR (k := 24) (by decide) (by decide)
          exact r_zret hx hb hr hK hP hS hk (by omega) dX7_readOne_248 (show P_X7_readOne_d3 σ0 τ0 a1 b N mo q nn nm hc r64 σ64 τ64 from ⟨hR, hF, hFL, by omega, by first | exact RO.ofr ((one_l (by omega) (by omega) (by omega) (by omega)).trans (lea_n (by omega) (by omega))) (by omega) ⟨gCT, by omega, by omega⟩ | (exfalso; omega) | exact RO.ofk (one_x (by omega)) (by omega) (by omega) (by omega) | exact RO.ofk (one_4 (by omega) (by omega)) (by omega) (by omega) (by omega) | (obtain ⟨f, e1, x1, x2⟩ := o1.no (by omega); exact RO.ofl ((one_n (by omega) (by omega)).trans e1) (by omega) x1 x2) | exact RO.ofr ((one_n (by omega) (by omega)).trans e1) (by omega) ⟨gCT, by omega, by omega⟩ | (obtain ⟨f, e2, x1, x2⟩ := o2.no (by omega); exact RO.ofl (by rw [one_o (by omega) (by omega), e2, bnd_l]) (by omega) x1 x2) | (obtain ⟨f, e3, x1, x2⟩ := o3.no (by omega); exact RO.ofl (by rw [one_o (by omega) (by omega), e2, bnd_r, e3, bnd_l]) (by omega) x1 x2) | exact RO.ofr (by rw [one_o (by omega) (by omega), e2, bnd_r, e3, bnd_r]) (by omega) ⟨gCT, by omega, by omega⟩ | (rw [one_l (by omega) (by omega) (by omega) (by omega)]; exact o4.map (fun s es h => ⟨h.1, h.2.1, by have h2 := h.2.2; have hl := lea_up es; omega⟩)) | (rw [one_l (by omega) (by omega) (by omega) (by omega)]; exact o5.map (fun s es h => ⟨h.1, h.2.1, by have h2 := h.2.2; have hl := lea_up es; omega⟩)), by omega, gWH⟩)
        by_cases c67 : (σ0 1 9).toInt = 28
        · refine lv_tableIn (off := 171) (tgt := 243) hx hb dX7_readOne_72 (by omega) (by omega) (by rw [c67]; rfl) (by decide) ?_
          refine lv_aload_n hx hb dX7_readOne_243 rfl (lv_at hl 1 rfl) ?_
          refine lv_iload_n hx hb dX7_readOne_244 rfl (lv_at hl 0 rfl) ?_
          refine r_cVi (k := 27) (As := [.int (σ0 1 9)]) (rest := []) ⟨hx, hb, hml, hown, hts⟩ hK hP hN hS (c_X7_readMeasure l D cA ad hI σ16 τ16 hR (σ0 1 9) b N mo _ (nn + 1) nm hc (tkq b N mo q) (by omega) (by omega) (by omega) (by omega) gCT gWH) (cwV 1 hts gX7_readOne_X7_readMeasure rfl rfl rfl (by decide +kernel) ⟨by decide, by decide⟩) (rv_SText hK hP (by decide) (by decide)) rfl hl.1 rfl (Nat.le_of_ble_eq_true rfl) dX7_readOne_245 (Nat.zero_le _) (Nat.zero_le _) (fun r68 u68 H68 locs68 hp68 hP hS => ?_)
          obtain ⟨σ68, τ68⟩ := u68
          obtain ⟨hR, f68, fL68, hq68, hp68_0, hp68_1, gnWH⟩ : P_X7_readMeasure σ16 τ16 (σ0 1 9) b N mo _ (nn + 1) nm hc (tkq b N mo q) r68 σ68 τ68 := hp68
          have o5 := hp68_0
          have hP : va_P D vwCl (gw cA ad σ68 τ68) H68 := hP
          have hFL := hFL.step fL68 (by decide)
          have gWH := gWH.agL (AgrL.fr fL68 (by decide))
          have hF := hF.step f68 (by decide)
          have gWH := gWH.ag (Agr.fr f68 (by decide))
          have t69 : (σ68 24 1).toInt = (σ16 24 1).toInt := congrArg Int32.toInt (f68.at 24 1 (by decide))
          have hr70 := rg_6_2 hR (k := 24) (by decide) (by decide)
          exact r_zret hx hb hr hK hP hS hk (by omega) dX7_readOne_248 (show P_X7_readOne_d3 σ0 τ0 a1 b N mo q nn nm hc r68 σ68 τ68 from ⟨hR, hF, hFL, by omega, by first | exact RO.ofr ((one_l (by omega) (by omega) (by omega) (by omega)).trans (lea_n (by omega) (by omega))) (by omega) ⟨gCT, by omega, by omega⟩ | (exfalso; omega) | exact RO.ofk (one_x (by omega)) (by omega) (by omega) (by omega) | exact RO.ofk (one_4 (by omega) (by omega)) (by omega) (by omega) (by omega) | (obtain ⟨f, e1, x1, x2⟩ := o1.no (by omega); exact RO.ofl ((one_n (by omega) (by omega)).trans e1) (by omega) x1 x2) | exact RO.ofr ((one_n (by omega) (by omega)).trans e1) (by omega) ⟨gCT, by omega, by omega⟩ | (obtain ⟨f, e2, x1, x2⟩ := o2.no (by omega); exact RO.ofl (by rw [one_o (by omega) (by omega), e2, bnd_l]) (by omega) x1 x2) | (obtain ⟨f, e3, x1, x2⟩ := o3.no (by omega); exact RO.ofl (by rw [one_o (by omega) (by omega), e2, bnd_r, e3, bnd_l]) (by omega) x1 x2) | exact RO.ofr (by rw [one_o (by omega) (by omega), e2, bnd_r, e3, bnd_r]) (by omega) ⟨gCT, by omega, by omega⟩ | (rw [one_l (by omega) (by omega) (by omega) (by omega)]; exact o4.map (fun s es h => ⟨h.1, h.2.1, by have h2 := h.2.2; have hl := lea_up es; omega⟩)) | (rw [one_l (by omega) (by omega) (by omega) (by omega)]; exact o5.map (fun s es h => ⟨h.1, h.2.1, by have h2 := h.2.2; have hl := lea_up es; omega⟩)), by omega, gWH⟩)
        by_cases c71 : (σ0 1 9).toInt = 29
        · refine lv_tableIn (off := 171) (tgt := 243) hx hb dX7_readOne_72 (by omega) (by omega) (by rw [c71]; rfl) (by decide) ?_
          refine lv_aload_n hx hb dX7_readOne_243 rfl (lv_at hl 1 rfl) ?_
          refine lv_iload_n hx hb dX7_readOne_244 rfl (lv_at hl 0 rfl) ?_
          refine r_cVi (k := 27) (As := [.int (σ0 1 9)]) (rest := []) ⟨hx, hb, hml, hown, hts⟩ hK hP hN hS (c_X7_readMeasure l D cA ad hI σ16 τ16 hR (σ0 1 9) b N mo _ (nn + 1) nm hc (tkq b N mo q) (by omega) (by omega) (by omega) (by omega) gCT gWH) (cwV 1 hts gX7_readOne_X7_readMeasure rfl rfl rfl (by decide +kernel) ⟨by decide, by decide⟩) (rv_SText hK hP (by decide) (by decide)) rfl hl.1 rfl (Nat.le_of_ble_eq_true rfl) dX7_readOne_245 (Nat.zero_le _) (Nat.zero_le _) (fun r72 u72 H72 locs72 hp72 hP hS => ?_)
          obtain ⟨σ72, τ72⟩ := u72
          obtain ⟨hR, f72, fL72, hq72, hp72_0, hp72_1, gnWH⟩ : P_X7_readMeasure σ16 τ16 (σ0 1 9) b N mo _ (nn + 1) nm hc (tkq b N mo q) r72 σ72 τ72 := hp72
          have o5 := hp72_0
          have hP : va_P D vwCl (gw cA ad σ72 τ72) H72 := hP
          have hFL := hFL.step fL72 (by decide)
          have gWH := gWH.agL (AgrL.fr fL72 (by decide))
          have hF := hF.step f72 (by decide)
          have gWH := gWH.ag (Agr.fr f72 (by decide))
          have t73 : (σ72 24 1).toInt = (σ16 24 1).toInt := congrArg Int32.toInt (f72.at 24 1 (by decide))
          have hr74 := rg_6_2 hR (k := 24) (by decide) (by decide)
          exact r_zret hx hb hr hK hP hS hk (by omega) dX7_readOne_248 (show P_X7_readOne_d3 σ0 τ0 a1 b N mo q nn nm hc r72 σ72 τ72 from ⟨hR, hF, hFL, by omega, by first | exact RO.ofr ((one_l (by omega) (by omega) (by omega) (by omega)).trans (lea_n (by omega) (by omega))) (by omega) ⟨gCT, by omega, by omega⟩ | (exfalso; omega) | exact RO.ofk (one_x (by omega)) (by omega) (by omega) (by omega) | exact RO.ofk (one_4 (by omega) (by omega)) (by omega) (by omega) (by omega) | (obtain ⟨f, e1, x1, x2⟩ := o1.no (by omega); exact RO.ofl ((one_n (by omega) (by omega)).trans e1) (by omega) x1 x2) | exact RO.ofr ((one_n (by omega) (by omega)).trans e1) (by omega) ⟨gCT, by omega, by omega⟩ | (obtain ⟨f, e2, x1, x2⟩ := o2.no (by omega); exact RO.ofl (by rw [one_o (by omega) (by omega), e2, bnd_l]) (by omega) x1 x2) | (obtain ⟨f, e3, x1, x2⟩ := o3.no (by omega); exact RO.ofl (by rw [one_o (by omega) (by omega), e2, bnd_r, e3, bnd_l]) (by omega) x1 x2) | exact RO.ofr (by rw [one_o (by omega) (by omega), e2, bnd_r, e3, bnd_r]) (by omega) ⟨gCT, by omega, by omega⟩ | (rw [one_l (by omega) (by omega) (by omega) (by omega)]; exact o4.map (fun s es h => ⟨h.1, h.2.1, by have h2 := h.2.2; have hl := lea_up es; omega⟩)) | (rw [one_l (by omega) (by omega) (by omega) (by omega)]; exact o5.map (fun s es h => ⟨h.1, h.2.1, by have h2 := h.2.2; have hl := lea_up es; omega⟩)), by omega, gWH⟩)
        by_cases c75 : (σ0 1 9).toInt = 30
        · refine lv_tableIn (off := 171) (tgt := 243) hx hb dX7_readOne_72 (by omega) (by omega) (by rw [c75]; rfl) (by decide) ?_
          refine lv_aload_n hx hb dX7_readOne_243 rfl (lv_at hl 1 rfl) ?_
          refine lv_iload_n hx hb dX7_readOne_244 rfl (lv_at hl 0 rfl) ?_
          refine r_cVi (k := 27) (As := [.int (σ0 1 9)]) (rest := []) ⟨hx, hb, hml, hown, hts⟩ hK hP hN hS (c_X7_readMeasure l D cA ad hI σ16 τ16 hR (σ0 1 9) b N mo _ (nn + 1) nm hc (tkq b N mo q) (by omega) (by omega) (by omega) (by omega) gCT gWH) (cwV 1 hts gX7_readOne_X7_readMeasure rfl rfl rfl (by decide +kernel) ⟨by decide, by decide⟩) (rv_SText hK hP (by decide) (by decide)) rfl hl.1 rfl (Nat.le_of_ble_eq_true rfl) dX7_readOne_245 (Nat.zero_le _) (Nat.zero_le _) (fun r76 u76 H76 locs76 hp76 hP hS => ?_)
          obtain ⟨σ76, τ76⟩ := u76
          obtain ⟨hR, f76, fL76, hq76, hp76_0, hp76_1, gnWH⟩ : P_X7_readMeasure σ16 τ16 (σ0 1 9) b N mo _ (nn + 1) nm hc (tkq b N mo q) r76 σ76 τ76 := hp76
          have o5 := hp76_0
          have hP : va_P D vwCl (gw cA ad σ76 τ76) H76 := hP
          have hFL := hFL.step fL76 (by decide)
          have gWH := gWH.agL (AgrL.fr fL76 (by decide))
          have hF := hF.step f76 (by decide)
          have gWH := gWH.ag (Agr.fr f76 (by decide))
          have t77 : (σ76 24 1).toInt = (σ16 24 1).toInt := congrArg Int32.toInt (f76.at 24 1 (by decide))
          have hr78 := rg_6_2 hR (k := 24) (by decide) (by decide)
          exact r_zret hx hb hr hK hP hS hk (by omega) dX7_readOne_248 (show P_X7_readOne_d3 σ0 τ0 a1 b N mo q nn nm hc r76 σ76 τ76 from ⟨hR, hF, hFL, by omega, by first | exact RO.ofr ((one_l (by omega) (by omega) (by omega) (by omega)).trans (lea_n (by omega) (by omega))) (by omega) ⟨gCT, by omega, by omega⟩ | (exfalso; omega) | exact RO.ofk (one_x (by omega)) (by omega) (by omega) (by omega) | exact RO.ofk (one_4 (by omega) (by omega)) (by omega) (by omega) (by omega) | (obtain ⟨f, e1, x1, x2⟩ := o1.no (by omega); exact RO.ofl ((one_n (by omega) (by omega)).trans e1) (by omega) x1 x2) | exact RO.ofr ((one_n (by omega) (by omega)).trans e1) (by omega) ⟨gCT, by omega, by omega⟩ | (obtain ⟨f, e2, x1, x2⟩ := o2.no (by omega); exact RO.ofl (by rw [one_o (by omega) (by omega), e2, bnd_l]) (by omega) x1 x2) | (obtain ⟨f, e3, x1, x2⟩ := o3.no (by omega); exact RO.ofl (by rw [one_o (by omega) (by omega), e2, bnd_r, e3, bnd_l]) (by omega) x1 x2) | exact RO.ofr (by rw [one_o (by omega) (by omega), e2, bnd_r, e3, bnd_r]) (by omega) ⟨gCT, by omega, by omega⟩ | (rw [one_l (by omega) (by omega) (by omega) (by omega)]; exact o4.map (fun s es h => ⟨h.1, h.2.1, by have h2 := h.2.2; have hl := lea_up es; omega⟩)) | (rw [one_l (by omega) (by omega) (by omega) (by omega)]; exact o5.map (fun s es h => ⟨h.1, h.2.1, by have h2 := h.2.2; have hl := lea_up es; omega⟩)), by omega, gWH⟩)
        by_cases c79 : (σ0 1 9).toInt = 31
        · refine lv_tableIn (off := 177) (tgt := 249) hx hb dX7_readOne_72 (by omega) (by omega) (by rw [c79]; rfl) (by decide) ?_
          refine lv_aload_n hx hb dX7_readOne_249 rfl (lv_at hl 1 rfl) ?_
          refine fg_7_2 (k := 27) hx hb hts in_X7_readOne_7 hown hK hP (by decide) (by decide) (hts _ lk_X7_readOne_19) dX7_readOne_250 ?_
          refine lv_iload_n hx hb dX7_readOne_253 rfl (lv_at hl 0 rfl) ?_
          refine r_bipush hx hb dX7_readOne_254 (by decide) (fun z80 ez80 => ?_)
          refine r_iconst hx hb dX7_readOne_256 (by decide) (fun z81 ez81 => ?_)
          refine r_cVi (k := 24) (As := [.int (σ0 1 9), .int z80, .int z81]) (rest := []) ⟨hx, hb, hml, hown, hts⟩ hK hP hN hS (c_X6_add l D cA ad hI σ16 τ16 hR (σ0 1 9) z80 z81 (by omega)) (cwV 3 hts gX7_readOne_X6_add rfl rfl rfl (by decide +kernel) ⟨by decide, by decide⟩) (rv_Sent hK hP (by decide) (by decide)) rfl hl.1 rfl (Nat.le_of_ble_eq_true rfl) dX7_readOne_257 (Nat.zero_le _) (Nat.zero_le _) (fun r82 u82 H82 locs82 hp82 hP hS => ?_)
          obtain ⟨σ82, τ82⟩ := u82
          obtain ⟨hR, f82, fL82, hq82, hp82_0⟩ : P_X6_add σ16 τ16 (σ0 1 9) z80 z81 r82 σ82 τ82 := hp82
          have hP : va_P D vwCl (gw cA ad σ82 τ82) H82 := hP
          obtain rfl := FrL.nil fL82
          have hF := hF.step f82 (by decide)
          have gCT := gCT.ag (Agr.fr f82 (by decide))
          have gWH := gWH.ag (Agr.fr f82 (by decide))
          have t83 : (σ82 1 13).toInt = (σ16 1 13).toInt := congrArg Int32.toInt (f82.at 1 13 (by decide))
          have t84 : (σ82 24 1).toInt = (σ16 24 1).toInt := congrArg Int32.toInt (f82.at 24 1 (by decide))
          have hr85 := rg_6_2 hR (k := 24) (by decide) (by decide)
          exact r_zret hx hb hr hK hP hS hk (by omega) dX7_readOne_260 (show P_X7_readOne_d3 σ0 τ0 a1 b N mo q nn nm hc r82 σ82 τ16 from ⟨hR, hF, hFL, by omega, by first | exact RO.ofr ((one_l (by omega) (by omega) (by omega) (by omega)).trans (lea_n (by omega) (by omega))) (by omega) ⟨gCT, by omega, by omega⟩ | (exfalso; omega) | exact RO.ofk (one_x (by omega)) (by omega) (by omega) (by omega) | exact RO.ofk (one_4 (by omega) (by omega)) (by omega) (by omega) (by omega) | (obtain ⟨f, e1, x1, x2⟩ := o1.no (by omega); exact RO.ofl ((one_n (by omega) (by omega)).trans e1) (by omega) x1 x2) | exact RO.ofr ((one_n (by omega) (by omega)).trans e1) (by omega) ⟨gCT, by omega, by omega⟩ | (obtain ⟨f, e2, x1, x2⟩ := o2.no (by omega); exact RO.ofl (by rw [one_o (by omega) (by omega), e2, bnd_l]) (by omega) x1 x2) | (obtain ⟨f, e3, x1, x2⟩ := o3.no (by omega); exact RO.ofl (by rw [one_o (by omega) (by omega), e2, bnd_r, e3, bnd_l]) (by omega) x1 x2) | exact RO.ofr (by rw [one_o (by omega) (by omega), e2, bnd_r, e3, bnd_r]) (by omega) ⟨gCT, by omega, by omega⟩ | (rw [one_l (by omega) (by omega) (by omega) (by omega)]; exact o4.map (fun s es h => ⟨h.1, h.2.1, by have h2 := h.2.2; have hl := lea_up es; omega⟩)) | (rw [one_l (by omega) (by omega) (by omega) (by omega)]; exact o5.map (fun s es h => ⟨h.1, h.2.1, by have h2 := h.2.2; have hl := lea_up es; omega⟩)), by omega, gWH⟩)
        by_cases c86 : (σ0 1 9).toInt = 32
        · refine lv_tableIn (off := 177) (tgt := 249) hx hb dX7_readOne_72 (by omega) (by omega) (by rw [c86]; rfl) (by decide) ?_
          refine lv_aload_n hx hb dX7_readOne_249 rfl (lv_at hl 1 rfl) ?_
          refine fg_7_2 (k := 27) hx hb hts in_X7_readOne_7 hown hK hP (by decide) (by decide) (hts _ lk_X7_readOne_19) dX7_readOne_250 ?_
          refine lv_iload_n hx hb dX7_readOne_253 rfl (lv_at hl 0 rfl) ?_
          refine r_bipush hx hb dX7_readOne_254 (by decide) (fun z87 ez87 => ?_)
          refine r_iconst hx hb dX7_readOne_256 (by decide) (fun z88 ez88 => ?_)
          refine r_cVi (k := 24) (As := [.int (σ0 1 9), .int z87, .int z88]) (rest := []) ⟨hx, hb, hml, hown, hts⟩ hK hP hN hS (c_X6_add l D cA ad hI σ16 τ16 hR (σ0 1 9) z87 z88 (by omega)) (cwV 3 hts gX7_readOne_X6_add rfl rfl rfl (by decide +kernel) ⟨by decide, by decide⟩) (rv_Sent hK hP (by decide) (by decide)) rfl hl.1 rfl (Nat.le_of_ble_eq_true rfl) dX7_readOne_257 (Nat.zero_le _) (Nat.zero_le _) (fun r89 u89 H89 locs89 hp89 hP hS => ?_)
          obtain ⟨σ89, τ89⟩ := u89
          obtain ⟨hR, f89, fL89, hq89, hp89_0⟩ : P_X6_add σ16 τ16 (σ0 1 9) z87 z88 r89 σ89 τ89 := hp89
          have hP : va_P D vwCl (gw cA ad σ89 τ89) H89 := hP
          obtain rfl := FrL.nil fL89
          have hF := hF.step f89 (by decide)
          have gCT := gCT.ag (Agr.fr f89 (by decide))
          have gWH := gWH.ag (Agr.fr f89 (by decide))
          have t90 : (σ89 1 13).toInt = (σ16 1 13).toInt := congrArg Int32.toInt (f89.at 1 13 (by decide))
          have t91 : (σ89 24 1).toInt = (σ16 24 1).toInt := congrArg Int32.toInt (f89.at 24 1 (by decide))
          have hr92 := rg_6_2 hR (k := 24) (by decide) (by decide)
          exact r_zret hx hb hr hK hP hS hk (by omega) dX7_readOne_260 (show P_X7_readOne_d3 σ0 τ0 a1 b N mo q nn nm hc r89 σ89 τ16 from ⟨hR, hF, hFL, by omega, by first | exact RO.ofr ((one_l (by omega) (by omega) (by omega) (by omega)).trans (lea_n (by omega) (by omega))) (by omega) ⟨gCT, by omega, by omega⟩ | (exfalso; omega) | exact RO.ofk (one_x (by omega)) (by omega) (by omega) (by omega) | exact RO.ofk (one_4 (by omega) (by omega)) (by omega) (by omega) (by omega) | (obtain ⟨f, e1, x1, x2⟩ := o1.no (by omega); exact RO.ofl ((one_n (by omega) (by omega)).trans e1) (by omega) x1 x2) | exact RO.ofr ((one_n (by omega) (by omega)).trans e1) (by omega) ⟨gCT, by omega, by omega⟩ | (obtain ⟨f, e2, x1, x2⟩ := o2.no (by omega); exact RO.ofl (by rw [one_o (by omega) (by omega), e2, bnd_l]) (by omega) x1 x2) | (obtain ⟨f, e3, x1, x2⟩ := o3.no (by omega); exact RO.ofl (by rw [one_o (by omega) (by omega), e2, bnd_r, e3, bnd_l]) (by omega) x1 x2) | exact RO.ofr (by rw [one_o (by omega) (by omega), e2, bnd_r, e3, bnd_r]) (by omega) ⟨gCT, by omega, by omega⟩ | (rw [one_l (by omega) (by omega) (by omega) (by omega)]; exact o4.map (fun s es h => ⟨h.1, h.2.1, by have h2 := h.2.2; have hl := lea_up es; omega⟩)) | (rw [one_l (by omega) (by omega) (by omega) (by omega)]; exact o5.map (fun s es h => ⟨h.1, h.2.1, by have h2 := h.2.2; have hl := lea_up es; omega⟩)), by omega, gWH⟩)
        by_cases c93 : (σ0 1 9).toInt = 33
        · refine lv_tableIn (off := 177) (tgt := 249) hx hb dX7_readOne_72 (by omega) (by omega) (by rw [c93]; rfl) (by decide) ?_
          refine lv_aload_n hx hb dX7_readOne_249 rfl (lv_at hl 1 rfl) ?_
          refine fg_7_2 (k := 27) hx hb hts in_X7_readOne_7 hown hK hP (by decide) (by decide) (hts _ lk_X7_readOne_19) dX7_readOne_250 ?_
          refine lv_iload_n hx hb dX7_readOne_253 rfl (lv_at hl 0 rfl) ?_
          refine r_bipush hx hb dX7_readOne_254 (by decide) (fun z94 ez94 => ?_)
          refine r_iconst hx hb dX7_readOne_256 (by decide) (fun z95 ez95 => ?_)
          refine r_cVi (k := 24) (As := [.int (σ0 1 9), .int z94, .int z95]) (rest := []) ⟨hx, hb, hml, hown, hts⟩ hK hP hN hS (c_X6_add l D cA ad hI σ16 τ16 hR (σ0 1 9) z94 z95 (by omega)) (cwV 3 hts gX7_readOne_X6_add rfl rfl rfl (by decide +kernel) ⟨by decide, by decide⟩) (rv_Sent hK hP (by decide) (by decide)) rfl hl.1 rfl (Nat.le_of_ble_eq_true rfl) dX7_readOne_257 (Nat.zero_le _) (Nat.zero_le _) (fun r96 u96 H96 locs96 hp96 hP hS => ?_)
          obtain ⟨σ96, τ96⟩ := u96
          obtain ⟨hR, f96, fL96, hq96, hp96_0⟩ : P_X6_add σ16 τ16 (σ0 1 9) z94 z95 r96 σ96 τ96 := hp96
          have hP : va_P D vwCl (gw cA ad σ96 τ96) H96 := hP
          obtain rfl := FrL.nil fL96
          have hF := hF.step f96 (by decide)
          have gCT := gCT.ag (Agr.fr f96 (by decide))
          have gWH := gWH.ag (Agr.fr f96 (by decide))
          have t97 : (σ96 1 13).toInt = (σ16 1 13).toInt := congrArg Int32.toInt (f96.at 1 13 (by decide))
          have t98 : (σ96 24 1).toInt = (σ16 24 1).toInt := congrArg Int32.toInt (f96.at 24 1 (by decide))
          have hr99 := rg_6_2 hR (k := 24) (by decide) (by decide)
          exact r_zret hx hb hr hK hP hS hk (by omega) dX7_readOne_260 (show P_X7_readOne_d3 σ0 τ0 a1 b N mo q nn nm hc r96 σ96 τ16 from ⟨hR, hF, hFL, by omega, by first | exact RO.ofr ((one_l (by omega) (by omega) (by omega) (by omega)).trans (lea_n (by omega) (by omega))) (by omega) ⟨gCT, by omega, by omega⟩ | (exfalso; omega) | exact RO.ofk (one_x (by omega)) (by omega) (by omega) (by omega) | exact RO.ofk (one_4 (by omega) (by omega)) (by omega) (by omega) (by omega) | (obtain ⟨f, e1, x1, x2⟩ := o1.no (by omega); exact RO.ofl ((one_n (by omega) (by omega)).trans e1) (by omega) x1 x2) | exact RO.ofr ((one_n (by omega) (by omega)).trans e1) (by omega) ⟨gCT, by omega, by omega⟩ | (obtain ⟨f, e2, x1, x2⟩ := o2.no (by omega); exact RO.ofl (by rw [one_o (by omega) (by omega), e2, bnd_l]) (by omega) x1 x2) | (obtain ⟨f, e3, x1, x2⟩ := o3.no (by omega); exact RO.ofl (by rw [one_o (by omega) (by omega), e2, bnd_r, e3, bnd_l]) (by omega) x1 x2) | exact RO.ofr (by rw [one_o (by omega) (by omega), e2, bnd_r, e3, bnd_r]) (by omega) ⟨gCT, by omega, by omega⟩ | (rw [one_l (by omega) (by omega) (by omega) (by omega)]; exact o4.map (fun s es h => ⟨h.1, h.2.1, by have h2 := h.2.2; have hl := lea_up es; omega⟩)) | (rw [one_l (by omega) (by omega) (by omega) (by omega)]; exact o5.map (fun s es h => ⟨h.1, h.2.1, by have h2 := h.2.2; have hl := lea_up es; omega⟩)), by omega, gWH⟩)
        by_cases c100 : (σ0 1 9).toInt = 34
        · refine lv_tableIn (off := 177) (tgt := 249) hx hb dX7_readOne_72 (by omega) (by omega) (by rw [c100]; rfl) (by decide) ?_
          refine lv_aload_n hx hb dX7_readOne_249 rfl (lv_at hl 1 rfl) ?_
          refine fg_7_2 (k := 27) hx hb hts in_X7_readOne_7 hown hK hP (by decide) (by decide) (hts _ lk_X7_readOne_19) dX7_readOne_250 ?_
          refine lv_iload_n hx hb dX7_readOne_253 rfl (lv_at hl 0 rfl) ?_
          refine r_bipush hx hb dX7_readOne_254 (by decide) (fun z101 ez101 => ?_)
          refine r_iconst hx hb dX7_readOne_256 (by decide) (fun z102 ez102 => ?_)
          refine r_cVi (k := 24) (As := [.int (σ0 1 9), .int z101, .int z102]) (rest := []) ⟨hx, hb, hml, hown, hts⟩ hK hP hN hS (c_X6_add l D cA ad hI σ16 τ16 hR (σ0 1 9) z101 z102 (by omega)) (cwV 3 hts gX7_readOne_X6_add rfl rfl rfl (by decide +kernel) ⟨by decide, by decide⟩) (rv_Sent hK hP (by decide) (by decide)) rfl hl.1 rfl (Nat.le_of_ble_eq_true rfl) dX7_readOne_257 (Nat.zero_le _) (Nat.zero_le _) (fun r103 u103 H103 locs103 hp103 hP hS => ?_)
          obtain ⟨σ103, τ103⟩ := u103
          obtain ⟨hR, f103, fL103, hq103, hp103_0⟩ : P_X6_add σ16 τ16 (σ0 1 9) z101 z102 r103 σ103 τ103 := hp103
          have hP : va_P D vwCl (gw cA ad σ103 τ103) H103 := hP
          obtain rfl := FrL.nil fL103
          have hF := hF.step f103 (by decide)
          have gCT := gCT.ag (Agr.fr f103 (by decide))
          have gWH := gWH.ag (Agr.fr f103 (by decide))
          have t104 : (σ103 1 13).toInt = (σ16 1 13).toInt := congrArg Int32.toInt (f103.at 1 13 (by decide))
          have t105 : (σ103 24 1).toInt = (σ16 24 1).toInt := congrArg Int32.toInt (f103.at 24 1 (by decide))
          have hr106 := rg_6_2 hR (k := 24) (by decide) (by decide)
          exact r_zret hx hb hr hK hP hS hk (by omega) dX7_readOne_260 (show P_X7_readOne_d3 σ0 τ0 a1 b N mo q nn nm hc r103 σ103 τ16 from ⟨hR, hF, hFL, by omega, by first | exact RO.ofr ((one_l (by omega) (by omega) (by omega) (by omega)).trans (lea_n (by omega) (by omega))) (by omega) ⟨gCT, by omega, by omega⟩ | (exfalso; omega) | exact RO.ofk (one_x (by omega)) (by omega) (by omega) (by omega) | exact RO.ofk (one_4 (by omega) (by omega)) (by omega) (by omega) (by omega) | (obtain ⟨f, e1, x1, x2⟩ := o1.no (by omega); exact RO.ofl ((one_n (by omega) (by omega)).trans e1) (by omega) x1 x2) | exact RO.ofr ((one_n (by omega) (by omega)).trans e1) (by omega) ⟨gCT, by omega, by omega⟩ | (obtain ⟨f, e2, x1, x2⟩ := o2.no (by omega); exact RO.ofl (by rw [one_o (by omega) (by omega), e2, bnd_l]) (by omega) x1 x2) | (obtain ⟨f, e3, x1, x2⟩ := o3.no (by omega); exact RO.ofl (by rw [one_o (by omega) (by omega), e2, bnd_r, e3, bnd_l]) (by omega) x1 x2) | exact RO.ofr (by rw [one_o (by omega) (by omega), e2, bnd_r, e3, bnd_r]) (by omega) ⟨gCT, by omega, by omega⟩ | (rw [one_l (by omega) (by omega) (by omega) (by omega)]; exact o4.map (fun s es h => ⟨h.1, h.2.1, by have h2 := h.2.2; have hl := lea_up es; omega⟩)) | (rw [one_l (by omega) (by omega) (by omega) (by omega)]; exact o5.map (fun s es h => ⟨h.1, h.2.1, by have h2 := h.2.2; have hl := lea_up es; omega⟩)), by omega, gWH⟩)
        by_cases c107 : (σ0 1 9).toInt = 35
        · refine lv_tableIn (off := 177) (tgt := 249) hx hb dX7_readOne_72 (by omega) (by omega) (by rw [c107]; rfl) (by decide) ?_
          refine lv_aload_n hx hb dX7_readOne_249 rfl (lv_at hl 1 rfl) ?_
          refine fg_7_2 (k := 27) hx hb hts in_X7_readOne_7 hown hK hP (by decide) (by decide) (hts _ lk_X7_readOne_19) dX7_readOne_250 ?_
          refine lv_iload_n hx hb dX7_readOne_253 rfl (lv_at hl 0 rfl) ?_
          refine r_bipush hx hb dX7_readOne_254 (by decide) (fun z108 ez108 => ?_)
          refine r_iconst hx hb dX7_readOne_256 (by decide) (fun z109 ez109 => ?_)
          refine r_cVi (k := 24) (As := [.int (σ0 1 9), .int z108, .int z109]) (rest := []) ⟨hx, hb, hml, hown, hts⟩ hK hP hN hS (c_X6_add l D cA ad hI σ16 τ16 hR (σ0 1 9) z108 z109 (by omega)) (cwV 3 hts gX7_readOne_X6_add rfl rfl rfl (by decide +kernel) ⟨by decide, by decide⟩) (rv_Sent hK hP (by decide) (by decide)) rfl hl.1 rfl (Nat.le_of_ble_eq_true rfl) dX7_readOne_257 (Nat.zero_le _) (Nat.zero_le _) (fun r110 u110 H110 locs110 hp110 hP hS => ?_)
          obtain ⟨σ110, τ110⟩ := u110
          obtain ⟨hR, f110, fL110, hq110, hp110_0⟩ : P_X6_add σ16 τ16 (σ0 1 9) z108 z109 r110 σ110 τ110 := hp110
          have hP : va_P D vwCl (gw cA ad σ110 τ110) H110 := hP
          obtain rfl := FrL.nil fL110
          have hF := hF.step f110 (by decide)
          have gCT := gCT.ag (Agr.fr f110 (by decide))
          have gWH := gWH.ag (Agr.fr f110 (by decide))
          have t111 : (σ110 1 13).toInt = (σ16 1 13).toInt := congrArg Int32.toInt (f110.at 1 13 (by decide))
          have t112 : (σ110 24 1).toInt = (σ16 24 1).toInt := congrArg Int32.toInt (f110.at 24 1 (by decide))
          have hr113 := rg_6_2 hR (k := 24) (by decide) (by decide)
          exact r_zret hx hb hr hK hP hS hk (by omega) dX7_readOne_260 (show P_X7_readOne_d3 σ0 τ0 a1 b N mo q nn nm hc r110 σ110 τ16 from ⟨hR, hF, hFL, by omega, by first | exact RO.ofr ((one_l (by omega) (by omega) (by omega) (by omega)).trans (lea_n (by omega) (by omega))) (by omega) ⟨gCT, by omega, by omega⟩ | (exfalso; omega) | exact RO.ofk (one_x (by omega)) (by omega) (by omega) (by omega) | exact RO.ofk (one_4 (by omega) (by omega)) (by omega) (by omega) (by omega) | (obtain ⟨f, e1, x1, x2⟩ := o1.no (by omega); exact RO.ofl ((one_n (by omega) (by omega)).trans e1) (by omega) x1 x2) | exact RO.ofr ((one_n (by omega) (by omega)).trans e1) (by omega) ⟨gCT, by omega, by omega⟩ | (obtain ⟨f, e2, x1, x2⟩ := o2.no (by omega); exact RO.ofl (by rw [one_o (by omega) (by omega), e2, bnd_l]) (by omega) x1 x2) | (obtain ⟨f, e3, x1, x2⟩ := o3.no (by omega); exact RO.ofl (by rw [one_o (by omega) (by omega), e2, bnd_r, e3, bnd_l]) (by omega) x1 x2) | exact RO.ofr (by rw [one_o (by omega) (by omega), e2, bnd_r, e3, bnd_r]) (by omega) ⟨gCT, by omega, by omega⟩ | (rw [one_l (by omega) (by omega) (by omega) (by omega)]; exact o4.map (fun s es h => ⟨h.1, h.2.1, by have h2 := h.2.2; have hl := lea_up es; omega⟩)) | (rw [one_l (by omega) (by omega) (by omega) (by omega)]; exact o5.map (fun s es h => ⟨h.1, h.2.1, by have h2 := h.2.2; have hl := lea_up es; omega⟩)), by omega, gWH⟩)
        by_cases c114 : (σ0 1 9).toInt = 36
        · refine lv_tableIn (off := 177) (tgt := 249) hx hb dX7_readOne_72 (by omega) (by omega) (by rw [c114]; rfl) (by decide) ?_
          refine lv_aload_n hx hb dX7_readOne_249 rfl (lv_at hl 1 rfl) ?_
          refine fg_7_2 (k := 27) hx hb hts in_X7_readOne_7 hown hK hP (by decide) (by decide) (hts _ lk_X7_readOne_19) dX7_readOne_250 ?_
          refine lv_iload_n hx hb dX7_readOne_253 rfl (lv_at hl 0 rfl) ?_
          refine r_bipush hx hb dX7_readOne_254 (by decide) (fun z115 ez115 => ?_)
          refine r_iconst hx hb dX7_readOne_256 (by decide) (fun z116 ez116 => ?_)
          refine r_cVi (k := 24) (As := [.int (σ0 1 9), .int z115, .int z116]) (rest := []) ⟨hx, hb, hml, hown, hts⟩ hK hP hN hS (c_X6_add l D cA ad hI σ16 τ16 hR (σ0 1 9) z115 z116 (by omega)) (cwV 3 hts gX7_readOne_X6_add rfl rfl rfl (by decide +kernel) ⟨by decide, by decide⟩) (rv_Sent hK hP (by decide) (by decide)) rfl hl.1 rfl (Nat.le_of_ble_eq_true rfl) dX7_readOne_257 (Nat.zero_le _) (Nat.zero_le _) (fun r117 u117 H117 locs117 hp117 hP hS => ?_)
          obtain ⟨σ117, τ117⟩ := u117
          obtain ⟨hR, f117, fL117, hq117, hp117_0⟩ : P_X6_add σ16 τ16 (σ0 1 9) z115 z116 r117 σ117 τ117 := hp117
          have hP : va_P D vwCl (gw cA ad σ117 τ117) H117 := hP
          obtain rfl := FrL.nil fL117
          have hF := hF.step f117 (by decide)
          have gCT := gCT.ag (Agr.fr f117 (by decide))
          have gWH := gWH.ag (Agr.fr f117 (by decide))
          have t118 : (σ117 1 13).toInt = (σ16 1 13).toInt := congrArg Int32.toInt (f117.at 1 13 (by decide))
          have t119 : (σ117 24 1).toInt = (σ16 24 1).toInt := congrArg Int32.toInt (f117.at 24 1 (by decide))
          have hr120 := rg_6_2 hR (k := 24) (by decide) (by decide)
          exact r_zret hx hb hr hK hP hS hk (by omega) dX7_readOne_260 (show P_X7_readOne_d3 σ0 τ0 a1 b N mo q nn nm hc r117 σ117 τ16 from ⟨hR, hF, hFL, by omega, by first | exact RO.ofr ((one_l (by omega) (by omega) (by omega) (by omega)).trans (lea_n (by omega) (by omega))) (by omega) ⟨gCT, by omega, by omega⟩ | (exfalso; omega) | exact RO.ofk (one_x (by omega)) (by omega) (by omega) (by omega) | exact RO.ofk (one_4 (by omega) (by omega)) (by omega) (by omega) (by omega) | (obtain ⟨f, e1, x1, x2⟩ := o1.no (by omega); exact RO.ofl ((one_n (by omega) (by omega)).trans e1) (by omega) x1 x2) | exact RO.ofr ((one_n (by omega) (by omega)).trans e1) (by omega) ⟨gCT, by omega, by omega⟩ | (obtain ⟨f, e2, x1, x2⟩ := o2.no (by omega); exact RO.ofl (by rw [one_o (by omega) (by omega), e2, bnd_l]) (by omega) x1 x2) | (obtain ⟨f, e3, x1, x2⟩ := o3.no (by omega); exact RO.ofl (by rw [one_o (by omega) (by omega), e2, bnd_r, e3, bnd_l]) (by omega) x1 x2) | exact RO.ofr (by rw [one_o (by omega) (by omega), e2, bnd_r, e3, bnd_r]) (by omega) ⟨gCT, by omega, by omega⟩ | (rw [one_l (by omega) (by omega) (by omega) (by omega)]; exact o4.map (fun s es h => ⟨h.1, h.2.1, by have h2 := h.2.2; have hl := lea_up es; omega⟩)) | (rw [one_l (by omega) (by omega) (by omega) (by omega)]; exact o5.map (fun s es h => ⟨h.1, h.2.1, by have h2 := h.2.2; have hl := lea_up es; omega⟩)), by omega, gWH⟩)
        by_cases c121 : (σ0 1 9).toInt = 37
        · refine lv_tableIn (off := 177) (tgt := 249) hx hb dX7_readOne_72 (by omega) (by omega) (by rw [c121]; rfl) (by decide) ?_
          refine lv_aload_n hx hb dX7_readOne_249 rfl (lv_at hl 1 rfl) ?_
          refine fg_7_2 (k := 27) hx hb hts in_X7_readOne_7 hown hK hP (by decide) (by decide) (hts _ lk_X7_readOne_19) dX7_readOne_250 ?_
          refine lv_iload_n hx hb dX7_readOne_253 rfl (lv_at hl 0 rfl) ?_
          refine r_bipush hx hb dX7_readOne_254 (by decide) (fun z122 ez122 => ?_)
          refine r_iconst hx hb dX7_readOne_256 (by decide) (fun z123 ez123 => ?_)
          refine r_cVi (k := 24) (As := [.int (σ0 1 9), .int z122, .int z123]) (rest := []) ⟨hx, hb, hml, hown, hts⟩ hK hP hN hS (c_X6_add l D cA ad hI σ16 τ16 hR (σ0 1 9) z122 z123 (by omega)) (cwV 3 hts gX7_readOne_X6_add rfl rfl rfl (by decide +kernel) ⟨by decide, by decide⟩) (rv_Sent hK hP (by decide) (by decide)) rfl hl.1 rfl (Nat.le_of_ble_eq_true rfl) dX7_readOne_257 (Nat.zero_le _) (Nat.zero_le _) (fun r124 u124 H124 locs124 hp124 hP hS => ?_)
          obtain ⟨σ124, τ124⟩ := u124
          obtain ⟨hR, f124, fL124, hq124, hp124_0⟩ : P_X6_add σ16 τ16 (σ0 1 9) z122 z123 r124 σ124 τ124 := hp124
          have hP : va_P D vwCl (gw cA ad σ124 τ124) H124 := hP
          obtain rfl := FrL.nil fL124
          have hF := hF.step f124 (by decide)
          have gCT := gCT.ag (Agr.fr f124 (by decide))
          have gWH := gWH.ag (Agr.fr f124 (by decide))
          have t125 : (σ124 1 13).toInt = (σ16 1 13).toInt := congrArg Int32.toInt (f124.at 1 13 (by decide))
          have t126 : (σ124 24 1).toInt = (σ16 24 1).toInt := congrArg Int32.toInt (f124.at 24 1 (by decide))
          have hr127 := rg_6_2 hR (k := 24) (by decide) (by decide)
          exact r_zret hx hb hr hK hP hS hk (by omega) dX7_readOne_260 (show P_X7_readOne_d3 σ0 τ0 a1 b N mo q nn nm hc r124 σ124 τ16 from ⟨hR, hF, hFL, by omega, by first | exact RO.ofr ((one_l (by omega) (by omega) (by omega) (by omega)).trans (lea_n (by omega) (by omega))) (by omega) ⟨gCT, by omega, by omega⟩ | (exfalso; omega) | exact RO.ofk (one_x (by omega)) (by omega) (by omega) (by omega) | exact RO.ofk (one_4 (by omega) (by omega)) (by omega) (by omega) (by omega) | (obtain ⟨f, e1, x1, x2⟩ := o1.no (by omega); exact RO.ofl ((one_n (by omega) (by omega)).trans e1) (by omega) x1 x2) | exact RO.ofr ((one_n (by omega) (by omega)).trans e1) (by omega) ⟨gCT, by omega, by omega⟩ | (obtain ⟨f, e2, x1, x2⟩ := o2.no (by omega); exact RO.ofl (by rw [one_o (by omega) (by omega), e2, bnd_l]) (by omega) x1 x2) | (obtain ⟨f, e3, x1, x2⟩ := o3.no (by omega); exact RO.ofl (by rw [one_o (by omega) (by omega), e2, bnd_r, e3, bnd_l]) (by omega) x1 x2) | exact RO.ofr (by rw [one_o (by omega) (by omega), e2, bnd_r, e3, bnd_r]) (by omega) ⟨gCT, by omega, by omega⟩ | (rw [one_l (by omega) (by omega) (by omega) (by omega)]; exact o4.map (fun s es h => ⟨h.1, h.2.1, by have h2 := h.2.2; have hl := lea_up es; omega⟩)) | (rw [one_l (by omega) (by omega) (by omega) (by omega)]; exact o5.map (fun s es h => ⟨h.1, h.2.1, by have h2 := h.2.2; have hl := lea_up es; omega⟩)), by omega, gWH⟩)
        by_cases c128 : (σ0 1 9).toInt = 38
        · refine lv_tableIn (off := 177) (tgt := 249) hx hb dX7_readOne_72 (by omega) (by omega) (by rw [c128]; rfl) (by decide) ?_
          refine lv_aload_n hx hb dX7_readOne_249 rfl (lv_at hl 1 rfl) ?_
          refine fg_7_2 (k := 27) hx hb hts in_X7_readOne_7 hown hK hP (by decide) (by decide) (hts _ lk_X7_readOne_19) dX7_readOne_250 ?_
          refine lv_iload_n hx hb dX7_readOne_253 rfl (lv_at hl 0 rfl) ?_
          refine r_bipush hx hb dX7_readOne_254 (by decide) (fun z129 ez129 => ?_)
          refine r_iconst hx hb dX7_readOne_256 (by decide) (fun z130 ez130 => ?_)
          refine r_cVi (k := 24) (As := [.int (σ0 1 9), .int z129, .int z130]) (rest := []) ⟨hx, hb, hml, hown, hts⟩ hK hP hN hS (c_X6_add l D cA ad hI σ16 τ16 hR (σ0 1 9) z129 z130 (by omega)) (cwV 3 hts gX7_readOne_X6_add rfl rfl rfl (by decide +kernel) ⟨by decide, by decide⟩) (rv_Sent hK hP (by decide) (by decide)) rfl hl.1 rfl (Nat.le_of_ble_eq_true rfl) dX7_readOne_257 (Nat.zero_le _) (Nat.zero_le _) (fun r131 u131 H131 locs131 hp131 hP hS => ?_)
          obtain ⟨σ131, τ131⟩ := u131
          obtain ⟨hR, f131, fL131, hq131, hp131_0⟩ : P_X6_add σ16 τ16 (σ0 1 9) z129 z130 r131 σ131 τ131 := hp131
          have hP : va_P D vwCl (gw cA ad σ131 τ131) H131 := hP
          obtain rfl := FrL.nil fL131
          have hF := hF.step f131 (by decide)
          have gCT := gCT.ag (Agr.fr f131 (by decide))
          have gWH := gWH.ag (Agr.fr f131 (by decide))
          have t132 : (σ131 1 13).toInt = (σ16 1 13).toInt := congrArg Int32.toInt (f131.at 1 13 (by decide))
          have t133 : (σ131 24 1).toInt = (σ16 24 1).toInt := congrArg Int32.toInt (f131.at 24 1 (by decide))
          have hr134 := rg_6_2 hR (k := 24) (by decide) (by decide)
          exact r_zret hx hb hr hK hP hS hk (by omega) dX7_readOne_260 (show P_X7_readOne_d3 σ0 τ0 a1 b N mo q nn nm hc r131 σ131 τ16 from ⟨hR, hF, hFL, by omega, by first | exact RO.ofr ((one_l (by omega) (by omega) (by omega) (by omega)).trans (lea_n (by omega) (by omega))) (by omega) ⟨gCT, by omega, by omega⟩ | (exfalso; omega) | exact RO.ofk (one_x (by omega)) (by omega) (by omega) (by omega) | exact RO.ofk (one_4 (by omega) (by omega)) (by omega) (by omega) (by omega) | (obtain ⟨f, e1, x1, x2⟩ := o1.no (by omega); exact RO.ofl ((one_n (by omega) (by omega)).trans e1) (by omega) x1 x2) | exact RO.ofr ((one_n (by omega) (by omega)).trans e1) (by omega) ⟨gCT, by omega, by omega⟩ | (obtain ⟨f, e2, x1, x2⟩ := o2.no (by omega); exact RO.ofl (by rw [one_o (by omega) (by omega), e2, bnd_l]) (by omega) x1 x2) | (obtain ⟨f, e3, x1, x2⟩ := o3.no (by omega); exact RO.ofl (by rw [one_o (by omega) (by omega), e2, bnd_r, e3, bnd_l]) (by omega) x1 x2) | exact RO.ofr (by rw [one_o (by omega) (by omega), e2, bnd_r, e3, bnd_r]) (by omega) ⟨gCT, by omega, by omega⟩ | (rw [one_l (by omega) (by omega) (by omega) (by omega)]; exact o4.map (fun s es h => ⟨h.1, h.2.1, by have h2 := h.2.2; have hl := lea_up es; omega⟩)) | (rw [one_l (by omega) (by omega) (by omega) (by omega)]; exact o5.map (fun s es h => ⟨h.1, h.2.1, by have h2 := h.2.2; have hl := lea_up es; omega⟩)), by omega, gWH⟩)
        by_cases c135 : (σ0 1 9).toInt = 39
        · refine lv_tableIn (off := 177) (tgt := 249) hx hb dX7_readOne_72 (by omega) (by omega) (by rw [c135]; rfl) (by decide) ?_
          refine lv_aload_n hx hb dX7_readOne_249 rfl (lv_at hl 1 rfl) ?_
          refine fg_7_2 (k := 27) hx hb hts in_X7_readOne_7 hown hK hP (by decide) (by decide) (hts _ lk_X7_readOne_19) dX7_readOne_250 ?_
          refine lv_iload_n hx hb dX7_readOne_253 rfl (lv_at hl 0 rfl) ?_
          refine r_bipush hx hb dX7_readOne_254 (by decide) (fun z136 ez136 => ?_)
          refine r_iconst hx hb dX7_readOne_256 (by decide) (fun z137 ez137 => ?_)
          refine r_cVi (k := 24) (As := [.int (σ0 1 9), .int z136, .int z137]) (rest := []) ⟨hx, hb, hml, hown, hts⟩ hK hP hN hS (c_X6_add l D cA ad hI σ16 τ16 hR (σ0 1 9) z136 z137 (by omega)) (cwV 3 hts gX7_readOne_X6_add rfl rfl rfl (by decide +kernel) ⟨by decide, by decide⟩) (rv_Sent hK hP (by decide) (by decide)) rfl hl.1 rfl (Nat.le_of_ble_eq_true rfl) dX7_readOne_257 (Nat.zero_le _) (Nat.zero_le _) (fun r138 u138 H138 locs138 hp138 hP hS => ?_)
          obtain ⟨σ138, τ138⟩ := u138
          obtain ⟨hR, f138, fL138, hq138, hp138_0⟩ : P_X6_add σ16 τ16 (σ0 1 9) z136 z137 r138 σ138 τ138 := hp138
          have hP : va_P D vwCl (gw cA ad σ138 τ138) H138 := hP
          obtain rfl := FrL.nil fL138
          have hF := hF.step f138 (by decide)
          have gCT := gCT.ag (Agr.fr f138 (by decide))
          have gWH := gWH.ag (Agr.fr f138 (by decide))
          have t139 : (σ138 1 13).toInt = (σ16 1 13).toInt := congrArg Int32.toInt (f138.at 1 13 (by decide))
          have t140 : (σ138 24 1).toInt = (σ16 24 1).toInt := congrArg Int32.toInt (f138.at 24 1 (by decide))
          have hr141 := rg_6_2 hR (k := 24) (by decide) (by decide)
          exact r_zret hx hb hr hK hP hS hk (by omega) dX7_readOne_260 (show P_X7_readOne_d3 σ0 τ0 a1 b N mo q nn nm hc r138 σ138 τ16 from ⟨hR, hF, hFL, by omega, by first | exact RO.ofr ((one_l (by omega) (by omega) (by omega) (by omega)).trans (lea_n (by omega) (by omega))) (by omega) ⟨gCT, by omega, by omega⟩ | (exfalso; omega) | exact RO.ofk (one_x (by omega)) (by omega) (by omega) (by omega) | exact RO.ofk (one_4 (by omega) (by omega)) (by omega) (by omega) (by omega) | (obtain ⟨f, e1, x1, x2⟩ := o1.no (by omega); exact RO.ofl ((one_n (by omega) (by omega)).trans e1) (by omega) x1 x2) | exact RO.ofr ((one_n (by omega) (by omega)).trans e1) (by omega) ⟨gCT, by omega, by omega⟩ | (obtain ⟨f, e2, x1, x2⟩ := o2.no (by omega); exact RO.ofl (by rw [one_o (by omega) (by omega), e2, bnd_l]) (by omega) x1 x2) | (obtain ⟨f, e3, x1, x2⟩ := o3.no (by omega); exact RO.ofl (by rw [one_o (by omega) (by omega), e2, bnd_r, e3, bnd_l]) (by omega) x1 x2) | exact RO.ofr (by rw [one_o (by omega) (by omega), e2, bnd_r, e3, bnd_r]) (by omega) ⟨gCT, by omega, by omega⟩ | (rw [one_l (by omega) (by omega) (by omega) (by omega)]; exact o4.map (fun s es h => ⟨h.1, h.2.1, by have h2 := h.2.2; have hl := lea_up es; omega⟩)) | (rw [one_l (by omega) (by omega) (by omega) (by omega)]; exact o5.map (fun s es h => ⟨h.1, h.2.1, by have h2 := h.2.2; have hl := lea_up es; omega⟩)), by omega, gWH⟩)
        by_cases c142 : (σ0 1 9).toInt = 40
        · refine lv_tableIn (off := 177) (tgt := 249) hx hb dX7_readOne_72 (by omega) (by omega) (by rw [c142]; rfl) (by decide) ?_
          refine lv_aload_n hx hb dX7_readOne_249 rfl (lv_at hl 1 rfl) ?_
          refine fg_7_2 (k := 27) hx hb hts in_X7_readOne_7 hown hK hP (by decide) (by decide) (hts _ lk_X7_readOne_19) dX7_readOne_250 ?_
          refine lv_iload_n hx hb dX7_readOne_253 rfl (lv_at hl 0 rfl) ?_
          refine r_bipush hx hb dX7_readOne_254 (by decide) (fun z143 ez143 => ?_)
          refine r_iconst hx hb dX7_readOne_256 (by decide) (fun z144 ez144 => ?_)
          refine r_cVi (k := 24) (As := [.int (σ0 1 9), .int z143, .int z144]) (rest := []) ⟨hx, hb, hml, hown, hts⟩ hK hP hN hS (c_X6_add l D cA ad hI σ16 τ16 hR (σ0 1 9) z143 z144 (by omega)) (cwV 3 hts gX7_readOne_X6_add rfl rfl rfl (by decide +kernel) ⟨by decide, by decide⟩) (rv_Sent hK hP (by decide) (by decide)) rfl hl.1 rfl (Nat.le_of_ble_eq_true rfl) dX7_readOne_257 (Nat.zero_le _) (Nat.zero_le _) (fun r145 u145 H145 locs145 hp145 hP hS => ?_)
          obtain ⟨σ145, τ145⟩ := u145
          obtain ⟨hR, f145, fL145, hq145, hp145_0⟩ : P_X6_add σ16 τ16 (σ0 1 9) z143 z144 r145 σ145 τ145 := hp145
          have hP : va_P D vwCl (gw cA ad σ145 τ145) H145 := hP
          obtain rfl := FrL.nil fL145
          have hF := hF.step f145 (by decide)
          have gCT := gCT.ag (Agr.fr f145 (by decide))
          have gWH := gWH.ag (Agr.fr f145 (by decide))
          have t146 : (σ145 1 13).toInt = (σ16 1 13).toInt := congrArg Int32.toInt (f145.at 1 13 (by decide))
          have t147 : (σ145 24 1).toInt = (σ16 24 1).toInt := congrArg Int32.toInt (f145.at 24 1 (by decide))
          have hr148 := rg_6_2 hR (k := 24) (by decide) (by decide)
          exact r_zret hx hb hr hK hP hS hk (by omega) dX7_readOne_260 (show P_X7_readOne_d3 σ0 τ0 a1 b N mo q nn nm hc r145 σ145 τ16 from ⟨hR, hF, hFL, by omega, by first | exact RO.ofr ((one_l (by omega) (by omega) (by omega) (by omega)).trans (lea_n (by omega) (by omega))) (by omega) ⟨gCT, by omega, by omega⟩ | (exfalso; omega) | exact RO.ofk (one_x (by omega)) (by omega) (by omega) (by omega) | exact RO.ofk (one_4 (by omega) (by omega)) (by omega) (by omega) (by omega) | (obtain ⟨f, e1, x1, x2⟩ := o1.no (by omega); exact RO.ofl ((one_n (by omega) (by omega)).trans e1) (by omega) x1 x2) | exact RO.ofr ((one_n (by omega) (by omega)).trans e1) (by omega) ⟨gCT, by omega, by omega⟩ | (obtain ⟨f, e2, x1, x2⟩ := o2.no (by omega); exact RO.ofl (by rw [one_o (by omega) (by omega), e2, bnd_l]) (by omega) x1 x2) | (obtain ⟨f, e3, x1, x2⟩ := o3.no (by omega); exact RO.ofl (by rw [one_o (by omega) (by omega), e2, bnd_r, e3, bnd_l]) (by omega) x1 x2) | exact RO.ofr (by rw [one_o (by omega) (by omega), e2, bnd_r, e3, bnd_r]) (by omega) ⟨gCT, by omega, by omega⟩ | (rw [one_l (by omega) (by omega) (by omega) (by omega)]; exact o4.map (fun s es h => ⟨h.1, h.2.1, by have h2 := h.2.2; have hl := lea_up es; omega⟩)) | (rw [one_l (by omega) (by omega) (by omega) (by omega)]; exact o5.map (fun s es h => ⟨h.1, h.2.1, by have h2 := h.2.2; have hl := lea_up es; omega⟩)), by omega, gWH⟩)
        by_cases c149 : (σ0 1 9).toInt = 41
        · refine lv_tableIn (off := 177) (tgt := 249) hx hb dX7_readOne_72 (by omega) (by omega) (by rw [c149]; rfl) (by decide) ?_
          refine lv_aload_n hx hb dX7_readOne_249 rfl (lv_at hl 1 rfl) ?_
          refine fg_7_2 (k := 27) hx hb hts in_X7_readOne_7 hown hK hP (by decide) (by decide) (hts _ lk_X7_readOne_19) dX7_readOne_250 ?_
          refine lv_iload_n hx hb dX7_readOne_253 rfl (lv_at hl 0 rfl) ?_
          refine r_bipush hx hb dX7_readOne_254 (by decide) (fun z150 ez150 => ?_)
          refine r_iconst hx hb dX7_readOne_256 (by decide) (fun z151 ez151 => ?_)
          refine r_cVi (k := 24) (As := [.int (σ0 1 9), .int z150, .int z151]) (rest := []) ⟨hx, hb, hml, hown, hts⟩ hK hP hN hS (c_X6_add l D cA ad hI σ16 τ16 hR (σ0 1 9) z150 z151 (by omega)) (cwV 3 hts gX7_readOne_X6_add rfl rfl rfl (by decide +kernel) ⟨by decide, by decide⟩) (rv_Sent hK hP (by decide) (by decide)) rfl hl.1 rfl (Nat.le_of_ble_eq_true rfl) dX7_readOne_257 (Nat.zero_le _) (Nat.zero_le _) (fun r152 u152 H152 locs152 hp152 hP hS => ?_)
          obtain ⟨σ152, τ152⟩ := u152
          obtain ⟨hR, f152, fL152, hq152, hp152_0⟩ : P_X6_add σ16 τ16 (σ0 1 9) z150 z151 r152 σ152 τ152 := hp152
          have hP : va_P D vwCl (gw cA ad σ152 τ152) H152 := hP
          obtain rfl := FrL.nil fL152
          have hF := hF.step f152 (by decide)
          have gCT := gCT.ag (Agr.fr f152 (by decide))
          have gWH := gWH.ag (Agr.fr f152 (by decide))
          have t153 : (σ152 1 13).toInt = (σ16 1 13).toInt := congrArg Int32.toInt (f152.at 1 13 (by decide))
          have t154 : (σ152 24 1).toInt = (σ16 24 1).toInt := congrArg Int32.toInt (f152.at 24 1 (by decide))
          have hr155 := rg_6_2 hR (k := 24) (by decide) (by decide)
          exact r_zret hx hb hr hK hP hS hk (by omega) dX7_readOne_260 (show P_X7_readOne_d3 σ0 τ0 a1 b N mo q nn nm hc r152 σ152 τ16 from ⟨hR, hF, hFL, by omega, by first | exact RO.ofr ((one_l (by omega) (by omega) (by omega) (by omega)).trans (lea_n (by omega) (by omega))) (by omega) ⟨gCT, by omega, by omega⟩ | (exfalso; omega) | exact RO.ofk (one_x (by omega)) (by omega) (by omega) (by omega) | exact RO.ofk (one_4 (by omega) (by omega)) (by omega) (by omega) (by omega) | (obtain ⟨f, e1, x1, x2⟩ := o1.no (by omega); exact RO.ofl ((one_n (by omega) (by omega)).trans e1) (by omega) x1 x2) | exact RO.ofr ((one_n (by omega) (by omega)).trans e1) (by omega) ⟨gCT, by omega, by omega⟩ | (obtain ⟨f, e2, x1, x2⟩ := o2.no (by omega); exact RO.ofl (by rw [one_o (by omega) (by omega), e2, bnd_l]) (by omega) x1 x2) | (obtain ⟨f, e3, x1, x2⟩ := o3.no (by omega); exact RO.ofl (by rw [one_o (by omega) (by omega), e2, bnd_r, e3, bnd_l]) (by omega) x1 x2) | exact RO.ofr (by rw [one_o (by omega) (by omega), e2, bnd_r, e3, bnd_r]) (by omega) ⟨gCT, by omega, by omega⟩ | (rw [one_l (by omega) (by omega) (by omega) (by omega)]; exact o4.map (fun s es h => ⟨h.1, h.2.1, by have h2 := h.2.2; have hl := lea_up es; omega⟩)) | (rw [one_l (by omega) (by omega) (by omega) (by omega)]; exact o5.map (fun s es h => ⟨h.1, h.2.1, by have h2 := h.2.2; have hl := lea_up es; omega⟩)), by omega, gWH⟩)
        by_cases c156 : (σ0 1 9).toInt = 42
        · refine lv_tableIn (off := 177) (tgt := 249) hx hb dX7_readOne_72 (by omega) (by omega) (by rw [c156]; rfl) (by decide) ?_
          refine lv_aload_n hx hb dX7_readOne_249 rfl (lv_at hl 1 rfl) ?_
          refine fg_7_2 (k := 27) hx hb hts in_X7_readOne_7 hown hK hP (by decide) (by decide) (hts _ lk_X7_readOne_19) dX7_readOne_250 ?_
          refine lv_iload_n hx hb dX7_readOne_253 rfl (lv_at hl 0 rfl) ?_
          refine r_bipush hx hb dX7_readOne_254 (by decide) (fun z157 ez157 => ?_)
          refine r_iconst hx hb dX7_readOne_256 (by decide) (fun z158 ez158 => ?_)
          refine r_cVi (k := 24) (As := [.int (σ0 1 9), .int z157, .int z158]) (rest := []) ⟨hx, hb, hml, hown, hts⟩ hK hP hN hS (c_X6_add l D cA ad hI σ16 τ16 hR (σ0 1 9) z157 z158 (by omega)) (cwV 3 hts gX7_readOne_X6_add rfl rfl rfl (by decide +kernel) ⟨by decide, by decide⟩) (rv_Sent hK hP (by decide) (by decide)) rfl hl.1 rfl (Nat.le_of_ble_eq_true rfl) dX7_readOne_257 (Nat.zero_le _) (Nat.zero_le _) (fun r159 u159 H159 locs159 hp159 hP hS => ?_)
          obtain ⟨σ159, τ159⟩ := u159
          obtain ⟨hR, f159, fL159, hq159, hp159_0⟩ : P_X6_add σ16 τ16 (σ0 1 9) z157 z158 r159 σ159 τ159 := hp159
          have hP : va_P D vwCl (gw cA ad σ159 τ159) H159 := hP
          obtain rfl := FrL.nil fL159
          have hF := hF.step f159 (by decide)
          have gCT := gCT.ag (Agr.fr f159 (by decide))
          have gWH := gWH.ag (Agr.fr f159 (by decide))
          have t160 : (σ159 1 13).toInt = (σ16 1 13).toInt := congrArg Int32.toInt (f159.at 1 13 (by decide))
          have t161 : (σ159 24 1).toInt = (σ16 24 1).toInt := congrArg Int32.toInt (f159.at 24 1 (by decide))
          have hr162 := rg_6_2 hR (k := 24) (by decide) (by decide)
          exact r_zret hx hb hr hK hP hS hk (by omega) dX7_readOne_260 (show P_X7_readOne_d3 σ0 τ0 a1 b N mo q nn nm hc r159 σ159 τ16 from ⟨hR, hF, hFL, by omega, by first | exact RO.ofr ((one_l (by omega) (by omega) (by omega) (by omega)).trans (lea_n (by omega) (by omega))) (by omega) ⟨gCT, by omega, by omega⟩ | (exfalso; omega) | exact RO.ofk (one_x (by omega)) (by omega) (by omega) (by omega) | exact RO.ofk (one_4 (by omega) (by omega)) (by omega) (by omega) (by omega) | (obtain ⟨f, e1, x1, x2⟩ := o1.no (by omega); exact RO.ofl ((one_n (by omega) (by omega)).trans e1) (by omega) x1 x2) | exact RO.ofr ((one_n (by omega) (by omega)).trans e1) (by omega) ⟨gCT, by omega, by omega⟩ | (obtain ⟨f, e2, x1, x2⟩ := o2.no (by omega); exact RO.ofl (by rw [one_o (by omega) (by omega), e2, bnd_l]) (by omega) x1 x2) | (obtain ⟨f, e3, x1, x2⟩ := o3.no (by omega); exact RO.ofl (by rw [one_o (by omega) (by omega), e2, bnd_r, e3, bnd_l]) (by omega) x1 x2) | exact RO.ofr (by rw [one_o (by omega) (by omega), e2, bnd_r, e3, bnd_r]) (by omega) ⟨gCT, by omega, by omega⟩ | (rw [one_l (by omega) (by omega) (by omega) (by omega)]; exact o4.map (fun s es h => ⟨h.1, h.2.1, by have h2 := h.2.2; have hl := lea_up es; omega⟩)) | (rw [one_l (by omega) (by omega) (by omega) (by omega)]; exact o5.map (fun s es h => ⟨h.1, h.2.1, by have h2 := h.2.2; have hl := lea_up es; omega⟩)), by omega, gWH⟩)
        by_cases c163 : (σ0 1 9).toInt = 43
        · refine lv_tableIn (off := 177) (tgt := 249) hx hb dX7_readOne_72 (by omega) (by omega) (by rw [c163]; rfl) (by decide) ?_
          refine lv_aload_n hx hb dX7_readOne_249 rfl (lv_at hl 1 rfl) ?_
          refine fg_7_2 (k := 27) hx hb hts in_X7_readOne_7 hown hK hP (by decide) (by decide) (hts _ lk_X7_readOne_19) dX7_readOne_250 ?_
          refine lv_iload_n hx hb dX7_readOne_253 rfl (lv_at hl 0 rfl) ?_
          refine r_bipush hx hb dX7_readOne_254 (by decide) (fun z164 ez164 => ?_)
          refine r_iconst hx hb dX7_readOne_256 (by decide) (fun z165 ez165 => ?_)
          refine r_cVi (k := 24) (As := [.int (σ0 1 9), .int z164, .int z165]) (rest := []) ⟨hx, hb, hml, hown, hts⟩ hK hP hN hS (c_X6_add l D cA ad hI σ16 τ16 hR (σ0 1 9) z164 z165 (by omega)) (cwV 3 hts gX7_readOne_X6_add rfl rfl rfl (by decide +kernel) ⟨by decide, by decide⟩) (rv_Sent hK hP (by decide) (by decide)) rfl hl.1 rfl (Nat.le_of_ble_eq_true rfl) dX7_readOne_257 (Nat.zero_le _) (Nat.zero_le _) (fun r166 u166 H166 locs166 hp166 hP hS => ?_)
          obtain ⟨σ166, τ166⟩ := u166
          obtain ⟨hR, f166, fL166, hq166, hp166_0⟩ : P_X6_add σ16 τ16 (σ0 1 9) z164 z165 r166 σ166 τ166 := hp166
          have hP : va_P D vwCl (gw cA ad σ166 τ166) H166 := hP
          obtain rfl := FrL.nil fL166
          have hF := hF.step f166 (by decide)
          have gCT := gCT.ag (Agr.fr f166 (by decide))
          have gWH := gWH.ag (Agr.fr f166 (by decide))
          have t167 : (σ166 1 13).toInt = (σ16 1 13).toInt := congrArg Int32.toInt (f166.at 1 13 (by decide))
          have t168 : (σ166 24 1).toInt = (σ16 24 1).toInt := congrArg Int32.toInt (f166.at 24 1 (by decide))
          have hr169 := rg_6_2 hR (k := 24) (by decide) (by decide)
          exact r_zret hx hb hr hK hP hS hk (by omega) dX7_readOne_260 (show P_X7_readOne_d3 σ0 τ0 a1 b N mo q nn nm hc r166 σ166 τ16 from ⟨hR, hF, hFL, by omega, by first | exact RO.ofr ((one_l (by omega) (by omega) (by omega) (by omega)).trans (lea_n (by omega) (by omega))) (by omega) ⟨gCT, by omega, by omega⟩ | (exfalso; omega) | exact RO.ofk (one_x (by omega)) (by omega) (by omega) (by omega) | exact RO.ofk (one_4 (by omega) (by omega)) (by omega) (by omega) (by omega) | (obtain ⟨f, e1, x1, x2⟩ := o1.no (by omega); exact RO.ofl ((one_n (by omega) (by omega)).trans e1) (by omega) x1 x2) | exact RO.ofr ((one_n (by omega) (by omega)).trans e1) (by omega) ⟨gCT, by omega, by omega⟩ | (obtain ⟨f, e2, x1, x2⟩ := o2.no (by omega); exact RO.ofl (by rw [one_o (by omega) (by omega), e2, bnd_l]) (by omega) x1 x2) | (obtain ⟨f, e3, x1, x2⟩ := o3.no (by omega); exact RO.ofl (by rw [one_o (by omega) (by omega), e2, bnd_r, e3, bnd_l]) (by omega) x1 x2) | exact RO.ofr (by rw [one_o (by omega) (by omega), e2, bnd_r, e3, bnd_r]) (by omega) ⟨gCT, by omega, by omega⟩ | (rw [one_l (by omega) (by omega) (by omega) (by omega)]; exact o4.map (fun s es h => ⟨h.1, h.2.1, by have h2 := h.2.2; have hl := lea_up es; omega⟩)) | (rw [one_l (by omega) (by omega) (by omega) (by omega)]; exact o5.map (fun s es h => ⟨h.1, h.2.1, by have h2 := h.2.2; have hl := lea_up es; omega⟩)), by omega, gWH⟩)
        by_cases c170 : (σ0 1 9).toInt = 44
        · refine lv_tableIn (off := 138) (tgt := 210) hx hb dX7_readOne_72 (by omega) (by omega) (by rw [c170]; rfl) (by decide) ?_
          refine lv_aload_n hx hb dX7_readOne_210 rfl (lv_at hl 1 rfl) ?_
          refine lv_iload_n hx hb dX7_readOne_211 rfl (lv_at hl 2 rfl) ?_
          refine r_iconst hx hb dX7_readOne_212 (by decide) (fun z171 ez171 => ?_)
          refine r_iadd hx hb dX7_readOne_213 (by omega) (fun z172 ez172 => ?_)
          refine r_cVi (k := 27) (As := [.int z172]) (rest := []) ⟨hx, hb, hml, hown, hts⟩ hK hP hN hS (c_X7_readCond_d4 l D cA ad hI σ16 τ16 hR z172 b N mo _ (nn + 1) nm hc (by omega) (by omega) (by omega) (by omega) gCT gWH) (cwV 1 hts gX7_readOne_X7_readCond rfl rfl rfl (by decide +kernel) ⟨by decide, by decide⟩) (rv_SText hK hP (by decide) (by decide)) rfl hl.1 rfl (Nat.le_of_ble_eq_true rfl) dX7_readOne_214 (Nat.zero_le _) (Nat.zero_le _) (fun r173 u173 H173 locs173 hp173 hP hS => ?_)
          obtain ⟨σ173, τ173⟩ := u173
          obtain ⟨hR, f173, fL173, hq173, hp173_0, hp173_1, gnWH⟩ : P_X7_readCond_d4 σ16 τ16 z172 b N mo _ (nn + 1) nm hc r173 σ173 τ173 := hp173
          have o2 := hp173_0
          have hP : va_P D vwCl (gw cA ad σ173 τ173) H173 := hP
          have hFL := hFL.step fL173 (by decide)
          have gWH := gWH.agL (AgrL.fr fL173 (by decide))
          have hF := hF.step f173 (by decide)
          have gWH := gWH.ag (Agr.fr f173 (by decide))
          have hr174 := rg_6_1 hR (k := 24) (by decide) (by decide)
          have hr175 := rg_6_2 hR (k := 24) (by decide) (by decide)
          refine r_if_eq (tgt := 236) hx hb dX7_readOne_217 (by decide) (fun c176 => ?_) (fun c176 => ?_)
          · clear hp173_1
            refine r_iconst hx hb dX7_readOne_236 (by decide) (fun z177 ez177 => ?_)
            exact r_zret hx hb hr hK hP hS hk (by omega) dX7_readOne_237 (show P_X7_readOne_d3 σ0 τ0 a1 b N mo q nn nm hc z177 σ173 τ173 from ⟨hR, hF, hFL, by omega, by first | exact RO.ofr ((one_l (by omega) (by omega) (by omega) (by omega)).trans (lea_n (by omega) (by omega))) (by omega) ⟨gCT, by omega, by omega⟩ | (exfalso; omega) | exact RO.ofk (one_x (by omega)) (by omega) (by omega) (by omega) | exact RO.ofk (one_4 (by omega) (by omega)) (by omega) (by omega) (by omega) | (obtain ⟨f, e1, x1, x2⟩ := o1.no (by omega); exact RO.ofl ((one_n (by omega) (by omega)).trans e1) (by omega) x1 x2) | exact RO.ofr ((one_n (by omega) (by omega)).trans e1) (by omega) ⟨gCT, by omega, by omega⟩ | (obtain ⟨f, e2, x1, x2⟩ := o2.no (by omega); exact RO.ofl (by rw [one_o (by omega) (by omega), e2, bnd_l]) (by omega) x1 x2) | (obtain ⟨f, e3, x1, x2⟩ := o3.no (by omega); exact RO.ofl (by rw [one_o (by omega) (by omega), e2, bnd_r, e3, bnd_l]) (by omega) x1 x2) | exact RO.ofr (by rw [one_o (by omega) (by omega), e2, bnd_r, e3, bnd_r]) (by omega) ⟨gCT, by omega, by omega⟩ | (rw [one_l (by omega) (by omega) (by omega) (by omega)]; exact o4.map (fun s es h => ⟨h.1, h.2.1, by have h2 := h.2.2; have hl := lea_up es; omega⟩)) | (rw [one_l (by omega) (by omega) (by omega) (by omega)]; exact o5.map (fun s es h => ⟨h.1, h.2.1, by have h2 := h.2.2; have hl := lea_up es; omega⟩)), by omega, gWH⟩)
          · replace hp173_1 := hp173_1.resolve_left (by omega)
            obtain ⟨s2, e2, gCT, hs1, hs2⟩ := o2.ye (by omega)
            have hu2 := con_up (one_up _) _ _ _ e2
            refine lv_aload_n hx hb dX7_readOne_220 rfl (lv_at hl 1 rfl) ?_
            refine fg_7_0 (k := 27) hx hb hts in_X7_readOne_7 hown hK hP (by decide) (by decide) (hts _ lk_X7_readOne_9) dX7_readOne_221 ?_
            refine r_bipush hx hb dX7_readOne_224 (by decide) (fun z178 ez178 => ?_)
            refine r_cVi (k := 1) (As := [.int z178]) (rest := []) ⟨hx, hb, hml, hown, hts⟩ hK hP hN hS (c_X8_take_v l D cA ad hI σ173 τ173 hR z178 b N mo _ 45 (by omega) (by omega) gCT) (cwV 1 hts gX7_readOne_X8_take rfl rfl rfl (by decide +kernel) ⟨by decide, by decide⟩) (rv_Tape hK hP (by decide) (by decide)) rfl hl.1 rfl (Nat.le_of_ble_eq_true rfl) dX7_readOne_226 (Nat.zero_le _) (Nat.zero_le _) (fun r179 u179 H179 locs179 hp179 hP hS => ?_)
            obtain ⟨σ179, τ179⟩ := u179
            obtain ⟨hR, f179, fL179, hq179, hp179_0, hp179_1⟩ : P_X8_take_v σ173 τ173 z178 b N mo _ 45 r179 σ179 τ179 := hp179
            have o3 := hp179_0
            have hP : va_P D vwCl (gw cA ad σ179 τ179) H179 := hP
            have hFL := hFL.step fL179 (by decide)
            have gWH := gWH.agL (AgrL.fr fL179 (by decide))
            have hF := hF.step f179 (by decide)
            have gWH := gWH.ag (Agr.fr f179 (by decide))
            have t180 : (σ179 24 1).toInt = (σ173 24 1).toInt := congrArg Int32.toInt (f179.at 24 1 (by decide))
            have t181 : (σ179 24 2).toInt = (σ173 24 2).toInt := congrArg Int32.toInt (f179.at 24 2 (by decide))
            refine r_if_eq (tgt := 236) hx hb dX7_readOne_229 (by decide) (fun c182 => ?_) (fun c182 => ?_)
            · clear hp179_1
              refine r_iconst hx hb dX7_readOne_236 (by decide) (fun z183 ez183 => ?_)
              exact r_zret hx hb hr hK hP hS hk (by omega) dX7_readOne_237 (show P_X7_readOne_d3 σ0 τ0 a1 b N mo q nn nm hc z183 σ179 τ179 from ⟨hR, hF, hFL, by omega, by first | exact RO.ofr ((one_l (by omega) (by omega) (by omega) (by omega)).trans (lea_n (by omega) (by omega))) (by omega) ⟨gCT, by omega, by omega⟩ | (exfalso; omega) | exact RO.ofk (one_x (by omega)) (by omega) (by omega) (by omega) | exact RO.ofk (one_4 (by omega) (by omega)) (by omega) (by omega) (by omega) | (obtain ⟨f, e1, x1, x2⟩ := o1.no (by omega); exact RO.ofl ((one_n (by omega) (by omega)).trans e1) (by omega) x1 x2) | exact RO.ofr ((one_n (by omega) (by omega)).trans e1) (by omega) ⟨gCT, by omega, by omega⟩ | (obtain ⟨f, e2, x1, x2⟩ := o2.no (by omega); exact RO.ofl (by rw [one_o (by omega) (by omega), e2, bnd_l]) (by omega) x1 x2) | (obtain ⟨f, e3, x1, x2⟩ := o3.no (by omega); exact RO.ofl (by rw [one_o (by omega) (by omega), e2, bnd_r, e3, bnd_l]) (by omega) x1 x2) | exact RO.ofr (by rw [one_o (by omega) (by omega), e2, bnd_r, e3, bnd_r]) (by omega) ⟨gCT, by omega, by omega⟩ | (rw [one_l (by omega) (by omega) (by omega) (by omega)]; exact o4.map (fun s es h => ⟨h.1, h.2.1, by have h2 := h.2.2; have hl := lea_up es; omega⟩)) | (rw [one_l (by omega) (by omega) (by omega) (by omega)]; exact o5.map (fun s es h => ⟨h.1, h.2.1, by have h2 := h.2.2; have hl := lea_up es; omega⟩)), by omega, gWH⟩)
            · replace hp179_1 := hp179_1.resolve_left (by omega)
              obtain ⟨q3, e3, gCT⟩ := o3.ye (by omega)
              refine r_iconst hx hb dX7_readOne_232 (by decide) (fun z184 ez184 => ?_)
              refine lv_goto (tgt := 237) hx hb dX7_readOne_233 (by decide) ?_
              exact r_zret hx hb hr hK hP hS hk (by omega) dX7_readOne_237 (show P_X7_readOne_d3 σ0 τ0 a1 b N mo q nn nm hc z184 σ179 τ179 from ⟨hR, hF, hFL, by omega, by first | exact RO.ofr ((one_l (by omega) (by omega) (by omega) (by omega)).trans (lea_n (by omega) (by omega))) (by omega) ⟨gCT, by omega, by omega⟩ | (exfalso; omega) | exact RO.ofk (one_x (by omega)) (by omega) (by omega) (by omega) | exact RO.ofk (one_4 (by omega) (by omega)) (by omega) (by omega) (by omega) | (obtain ⟨f, e1, x1, x2⟩ := o1.no (by omega); exact RO.ofl ((one_n (by omega) (by omega)).trans e1) (by omega) x1 x2) | exact RO.ofr ((one_n (by omega) (by omega)).trans e1) (by omega) ⟨gCT, by omega, by omega⟩ | (obtain ⟨f, e2, x1, x2⟩ := o2.no (by omega); exact RO.ofl (by rw [one_o (by omega) (by omega), e2, bnd_l]) (by omega) x1 x2) | (obtain ⟨f, e3, x1, x2⟩ := o3.no (by omega); exact RO.ofl (by rw [one_o (by omega) (by omega), e2, bnd_r, e3, bnd_l]) (by omega) x1 x2) | exact RO.ofr (by rw [one_o (by omega) (by omega), e2, bnd_r, e3, bnd_r]) (by omega) ⟨gCT, by omega, by omega⟩ | (rw [one_l (by omega) (by omega) (by omega) (by omega)]; exact o4.map (fun s es h => ⟨h.1, h.2.1, by have h2 := h.2.2; have hl := lea_up es; omega⟩)) | (rw [one_l (by omega) (by omega) (by omega) (by omega)]; exact o5.map (fun s es h => ⟨h.1, h.2.1, by have h2 := h.2.2; have hl := lea_up es; omega⟩)), by omega, gWH⟩)
        refine lv_tableOut (tgt := 249) hx hb dX7_readOne_72 (by omega) (by decide) ?_
        refine lv_aload_n hx hb dX7_readOne_249 rfl (lv_at hl 1 rfl) ?_
        refine fg_7_2 (k := 27) hx hb hts in_X7_readOne_7 hown hK hP (by decide) (by decide) (hts _ lk_X7_readOne_19) dX7_readOne_250 ?_
        refine lv_iload_n hx hb dX7_readOne_253 rfl (lv_at hl 0 rfl) ?_
        refine r_bipush hx hb dX7_readOne_254 (by decide) (fun z185 ez185 => ?_)
        refine r_iconst hx hb dX7_readOne_256 (by decide) (fun z186 ez186 => ?_)
        refine r_cVi (k := 24) (As := [.int (σ0 1 9), .int z185, .int z186]) (rest := []) ⟨hx, hb, hml, hown, hts⟩ hK hP hN hS (c_X6_add l D cA ad hI σ16 τ16 hR (σ0 1 9) z185 z186 (by omega)) (cwV 3 hts gX7_readOne_X6_add rfl rfl rfl (by decide +kernel) ⟨by decide, by decide⟩) (rv_Sent hK hP (by decide) (by decide)) rfl hl.1 rfl (Nat.le_of_ble_eq_true rfl) dX7_readOne_257 (Nat.zero_le _) (Nat.zero_le _) (fun r187 u187 H187 locs187 hp187 hP hS => ?_)
        obtain ⟨σ187, τ187⟩ := u187
        obtain ⟨hR, f187, fL187, hq187, hp187_0⟩ : P_X6_add σ16 τ16 (σ0 1 9) z185 z186 r187 σ187 τ187 := hp187
        have hP : va_P D vwCl (gw cA ad σ187 τ187) H187 := hP
        obtain rfl := FrL.nil fL187
        have hF := hF.step f187 (by decide)
        have gCT := gCT.ag (Agr.fr f187 (by decide))
        have gWH := gWH.ag (Agr.fr f187 (by decide))
        have t188 : (σ187 1 13).toInt = (σ16 1 13).toInt := congrArg Int32.toInt (f187.at 1 13 (by decide))
        have t189 : (σ187 24 1).toInt = (σ16 24 1).toInt := congrArg Int32.toInt (f187.at 24 1 (by decide))
        have hr190 := rg_6_2 hR (k := 24) (by decide) (by decide)
        exact r_zret hx hb hr hK hP hS hk (by omega) dX7_readOne_260 (show P_X7_readOne_d3 σ0 τ0 a1 b N mo q nn nm hc r187 σ187 τ16 from ⟨hR, hF, hFL, by omega, by first | exact RO.ofr ((one_l (by omega) (by omega) (by omega) (by omega)).trans (lea_n (by omega) (by omega))) (by omega) ⟨gCT, by omega, by omega⟩ | (exfalso; omega) | exact RO.ofk (one_x (by omega)) (by omega) (by omega) (by omega) | exact RO.ofk (one_4 (by omega) (by omega)) (by omega) (by omega) (by omega) | (obtain ⟨f, e1, x1, x2⟩ := o1.no (by omega); exact RO.ofl ((one_n (by omega) (by omega)).trans e1) (by omega) x1 x2) | exact RO.ofr ((one_n (by omega) (by omega)).trans e1) (by omega) ⟨gCT, by omega, by omega⟩ | (obtain ⟨f, e2, x1, x2⟩ := o2.no (by omega); exact RO.ofl (by rw [one_o (by omega) (by omega), e2, bnd_l]) (by omega) x1 x2) | (obtain ⟨f, e3, x1, x2⟩ := o3.no (by omega); exact RO.ofl (by rw [one_o (by omega) (by omega), e2, bnd_r, e3, bnd_l]) (by omega) x1 x2) | exact RO.ofr (by rw [one_o (by omega) (by omega), e2, bnd_r, e3, bnd_r]) (by omega) ⟨gCT, by omega, by omega⟩ | (rw [one_l (by omega) (by omega) (by omega) (by omega)]; exact o4.map (fun s es h => ⟨h.1, h.2.1, by have h2 := h.2.2; have hl := lea_up es; omega⟩)) | (rw [one_l (by omega) (by omega) (by omega) (by omega)]; exact o5.map (fun s es h => ⟨h.1, h.2.1, by have h2 := h.2.2; have hl := lea_up es; omega⟩)), by omega, gWH⟩)
      · exfalso; omega
  · refine lv_aload_n hx hb dX7_readOne_15 rfl (lv_at hl 1 rfl) ?_
    refine fg_7_0 (k := 27) hx hb hts in_X7_readOne_7 hown hK hP (by decide) (by decide) (hts _ lk_X7_readOne_9) dX7_readOne_16 ?_
    refine r_iconst hx hb dX7_readOne_19 (by decide) (fun z191 ez191 => ?_)
    refine r_cVi (k := 1) (As := [.int z191]) (rest := []) ⟨hx, hb, hml, hown, hts⟩ hK hP hN hS (c_X8_blame_v l D cA ad hI σ0 τ0 hR z191 _ _ _ _ (by omega) gCT) (cwV 1 hts gX7_readOne_X8_blame rfl rfl rfl (by decide +kernel) ⟨by decide, by decide⟩) (rv_Tape hK hP (by decide) (by decide)) rfl hl.1 rfl (Nat.le_of_ble_eq_true rfl) dX7_readOne_20 (Nat.zero_le _) (Nat.zero_le _) (fun r192 u192 H192 locs192 hp192 hP hS => ?_)
    obtain ⟨σ192, τ192⟩ := u192
    obtain ⟨hR, f192, fL192, hq192, hp192_0, hp192_1, hp192_2, gnCT⟩ : P_X8_blame_v σ0 τ0 z191 _ _ _ _ r192 σ192 τ192 := hp192
    have hP : va_P D vwCl (gw cA ad σ192 τ192) H192 := hP
    obtain rfl := FrL.nil fL192
    have hF := hF.step f192 (by decide)
    have gCT := gCT.ag (Agr.fr f192 (by decide))
    have gWH := gWH.ag (Agr.fr f192 (by decide))
    have t193 : (σ192 24 1).toInt = (σ0 24 1).toInt := congrArg Int32.toInt (f192.at 24 1 (by decide))
    have t194 : (σ192 24 2).toInt = (σ0 24 2).toInt := congrArg Int32.toInt (f192.at 24 2 (by decide))
    exact r_zret hx hb hr hK hP hS hk (by omega) dX7_readOne_23 (show P_X7_readOne_d3 σ0 τ0 a1 b N mo q nn nm hc r192 σ192 τ0 from ⟨hR, hF, hFL, by omega, by first | exact RO.ofr ((one_l (by omega) (by omega) (by omega) (by omega)).trans (lea_n (by omega) (by omega))) (by omega) ⟨gCT, by omega, by omega⟩ | (exfalso; omega) | exact RO.ofk (one_x (by omega)) (by omega) (by omega) (by omega) | exact RO.ofk (one_4 (by omega) (by omega)) (by omega) (by omega) (by omega) | (obtain ⟨f, e1, x1, x2⟩ := o1.no (by omega); exact RO.ofl ((one_n (by omega) (by omega)).trans e1) (by omega) x1 x2) | exact RO.ofr ((one_n (by omega) (by omega)).trans e1) (by omega) ⟨gCT, by omega, by omega⟩ | (obtain ⟨f, e2, x1, x2⟩ := o2.no (by omega); exact RO.ofl (by rw [one_o (by omega) (by omega), e2, bnd_l]) (by omega) x1 x2) | (obtain ⟨f, e3, x1, x2⟩ := o3.no (by omega); exact RO.ofl (by rw [one_o (by omega) (by omega), e2, bnd_r, e3, bnd_l]) (by omega) x1 x2) | exact RO.ofr (by rw [one_o (by omega) (by omega), e2, bnd_r, e3, bnd_r]) (by omega) ⟨gCT, by omega, by omega⟩ | (rw [one_l (by omega) (by omega) (by omega) (by omega)]; exact o4.map (fun s es h => ⟨h.1, h.2.1, by have h2 := h.2.2; have hl := lea_up es; omega⟩)) | (rw [one_l (by omega) (by omega) (by omega) (by omega)]; exact o5.map (fun s es h => ⟨h.1, h.2.1, by have h2 := h.2.2; have hl := lea_up es; omega⟩)), by omega, gWH⟩)
abbrev L_X7_readAll_d3 : List Rc := [(1, 1, 7, 10), (372, 372, 0, 39), (376, 376, 0, 39), (380, 380, 0, 39), (24, 24, 1, 2), (1, 1, 12, 14)]
abbrev LL_X7_readAll_d3 : List Rc := [(1, 1, 11, 11)]
def P_X7_readAll_d3 (σ0 : Nat → Nat → Int32) (τ0 : Nat → Nat → Int64) (a1 : Int32) (b : Nat → Int) (N : Nat) (mo : Nat) (q : Nat) (nn : Nat) (nm : Nat → Int) (hc : Nat) (r : Int32) (σ : Nat → Nat → Int32) (τ : Nat → Nat → Int64) : Prop := Rg σ ∧ Fr L_X7_readAll_d3 σ0 σ ∧ FrL LL_X7_readAll_d3 τ0 τ ∧ (0 ≤ r.toInt ∧ r.toInt ≤ 1) ∧ (RO r σ (allP b N mo (fun q nn => oneP b N mo nm hc 6 q nn) q nn) (fun s => CT σ τ b N mo s.1 ∧ (σ 24 1).toInt = (s.2 : Int) ∧ (σ 24 2).toInt + 2 * (nn : Int) + 1 ≤ (σ0 24 2).toInt + 2 * (s.2 : Int))) ∧ (r.toInt = 0 ∨ (σ 1 13).toInt = (σ0 1 13).toInt) ∧ WH σ τ nm hc
def J_X7_readAll_d3_12 (p : Program) (l : Launch) (e : Env) (s : State) (m : MethodId) (args : Array Value) (below : List Frame) (meth : Method) (c : Code) (D : va_G) (cA : Nat → ClassId) (ad : Nat → Nat) (σ0 : Nat → Nat → Int32) (τ0 : Nat → Nat → Int64) (a1 : Int32) (b : Nat → Int) (N : Nat) (mo : Nat) (q : Nat) (nn : Nat) (nm : Nat → Int) (hc : Nat) (n : Nat) : Prop := ∀ (σ : Nat → Nat → Int32) (τ : Nat → Nat → Int64) (H : Heap) (locs : List Loc) (x2 : Int32) (fu : Nat) (q1 : Nat) (n1 : Nat) (ls : Array Slot), Rg σ → Fr L_X7_readAll_d3 σ0 σ → FrL LL_X7_readAll_d3 τ0 τ → va_P D vwCl (gw cA ad σ τ) H → va_S (AA ad) s.heap H locs → (0 ≤ x2.toInt ∧ x2.toInt ≤ 200) → (0 ≤ (σ 24 1).toInt ∧ (σ 24 1).toInt ≤ 20) → (0 ≤ (σ 24 2).toInt ∧ (σ 24 2).toInt ≤ 40) → (allP b N mo (fun q nn => oneP b N mo nm hc 6 q nn) q nn = lopP b N mo 21 (fun q nn => oneP b N mo nm hc 6 q nn) fu q1 n1) → ((σ 24 1).toInt = (n1 : Int)) → (0 ≤ (σ 24 2).toInt ∧ (σ 24 2).toInt + 2 * (nn : Int) + 1 ≤ (σ0 24 2).toInt + 2 * (n1 : Int)) → ((fu : Int) + x2.toInt = 200) → (n1 ≤ 20) → ((σ 1 13).toInt = (σ0 1 13).toInt) → (CT σ τ b N mo q1) → (WH σ τ nm hc) → (CT σ τ b N mo q1) → lv_has ls 3 [(0, .ref (ad 27)), (1, .int a1), (2, .int x2)] → 2 * (200 - x2.toInt) + 1 < (n : Int) → W p l e ({ frames := 20, cells := 0, slots := 0, locals := 439 } : Room) s m args below meth c H locs 0 0 (MQ below (va_Qi (fun (r : Int32) (u : SS) => P_X7_readAll_d3 σ0 τ0 a1 b N mo q nn nm hc r u.1 u.2) (WB D cA ad) (AA ad)) args s 0 0 (AA ad)) (F0 m 12 ls [])
set_option maxHeartbeats 4000000 in
theorem B_X7_readAll_d3_12 (p : Program) (l : Launch) (e : Env) (s : State) (m : MethodId) (args : Array Value) (below : List Frame) (meth : Method) (c : Code) (D : va_G) (cA : Nat → ClassId) (ad : Nat → Nat) (σ0 : Nat → Nat → Int32) (τ0 : Nat → Nat → Int64) (a1 : Int32) (b : Nat → Int) (N : Nat) (mo : Nat) (q : Nat) (nn : Nat) (nm : Nat → Int) (hc : Nat) (n : Nat) (C : Cy p s m args meth c cX7_readAll 3 wsX7_readAll RX7 D cA ad (some .boolean)) (ha1 : 3 ≤ a1.toInt ∧ a1.toInt ≤ 3) (hpre0 : (σ0 24 1).toInt = (nn : Int)) (hpre1 : 0 ≤ (σ0 24 2).toInt ∧ (σ0 24 2).toInt ≤ 2 * (nn : Int)) (hpre2 : nn ≤ 20) (gCT0 : CT σ0 τ0 b N mo q) (gWH0 : WH σ0 τ0 nm hc) (K12 : J_X7_readAll_d3_12 p l e s m args below meth c D cA ad σ0 τ0 a1 b N mo q nn nm hc n) : J_X7_readAll_d3_12 p l e s m args below meth c D cA ad σ0 τ0 a1 b N mo q nn nm hc (n + 1) := by
  obtain ⟨hx, hb, hml, hown, hts, hK, hk, hr, hI, hN⟩ := C
  intro σ τ H locs x2 fu q1 n1 ls hR hF hFL hP hS hc0 hc1 hc2 iv ib2 ib3 ifu in20 ik13 gCT gWH gCT hl hm
  refine lv_iload_n hx hb dX7_readAll_12 rfl (lv_at hl 2 rfl) ?_
  refine r_sipush hx hb dX7_readAll_13 (by decide) (fun z1 ez1 => ?_)
  refine r_icmp_ge (tgt := 68) hx hb dX7_readAll_16 (by decide) (fun c2 => ?_) (fun c2 => ?_)
  · refine r_iconst hx hb dX7_readAll_68 (by decide) (fun z3 ez3 => ?_)
    exact r_zret hx hb hr hK hP hS hk (by omega) dX7_readAll_69 (show P_X7_readAll_d3 σ0 τ0 a1 b N mo q nn nm hc z3 σ τ from ⟨hR, hF, hFL, by omega, by first | (exfalso; omega) | (obtain ⟨f, e1, x1, x2⟩ := o1.no (by omega); exact RO.ofl (all_f e1) (by omega) x1 x2) | exact RO.ofr (by rw [iv, lop_e (by omega)]) (by omega) ⟨gCT, by omega, by omega⟩ | (obtain ⟨f, e2, x1, x2⟩ := o2.no (by omega); exact RO.ofl (by rw [iv, lop_f (f := (fun q nn => oneP b N mo nm hc 6 q nn)) (by omega) (by omega) e2]) (by omega) x1 x2) | (exfalso; omega), by omega, gWH⟩)
  · have htk := gCT.tk
    refine lv_aload_n hx hb dX7_readAll_19 rfl (lv_at hl 0 rfl) ?_
    refine fg_7_0 (k := 27) hx hb hts in_X7_readAll_7 hown hK hP (by decide) (by decide) (hts _ lk_X7_readAll_9) dX7_readAll_20 ?_
    refine fgN_8_9 (k := 1) hx hb hts in_X7_readAll_8 hown hK hP (by decide) (by decide) (hN.use nw_7_32) dX7_readAll_23 ?_
    refine r_bipush hx hb dX7_readAll_26 (by decide) (fun z4 ez4 => ?_)
    refine r_icmp_ne (tgt := 68) hx hb dX7_readAll_28 (by decide) (fun c5 => ?_) (fun c5 => ?_)
    · refine r_iconst hx hb dX7_readAll_68 (by decide) (fun z6 ez6 => ?_)
      exact r_zret hx hb hr hK hP hS hk (by omega) dX7_readAll_69 (show P_X7_readAll_d3 σ0 τ0 a1 b N mo q nn nm hc z6 σ τ from ⟨hR, hF, hFL, by omega, by first | (exfalso; omega) | (obtain ⟨f, e1, x1, x2⟩ := o1.no (by omega); exact RO.ofl (all_f e1) (by omega) x1 x2) | exact RO.ofr (by rw [iv, lop_e (by omega)]) (by omega) ⟨gCT, by omega, by omega⟩ | (obtain ⟨f, e2, x1, x2⟩ := o2.no (by omega); exact RO.ofl (by rw [iv, lop_f (f := (fun q nn => oneP b N mo nm hc 6 q nn)) (by omega) (by omega) e2]) (by omega) x1 x2) | (exfalso; omega), by omega, gWH⟩)
    · refine lv_aload_n hx hb dX7_readAll_31 rfl (lv_at hl 0 rfl) ?_
      refine fg_7_0 (k := 27) hx hb hts in_X7_readAll_7 hown hK hP (by decide) (by decide) (hts _ lk_X7_readAll_9) dX7_readAll_32 ?_
      refine r_cVv (k := 1) (As := []) (rest := []) ⟨hx, hb, hml, hown, hts⟩ hK hP hN hS (c_X8_next_v l D cA ad hI σ τ hR _ _ _ _ gCT) (cwV 0 hts gX7_readAll_X8_next rfl rfl rfl (by decide +kernel) ⟨by decide, by decide⟩) (rv_Tape hK hP (by decide) (by decide)) rfl hl.1 rfl (Nat.le_of_ble_eq_true rfl) dX7_readAll_35 (Nat.zero_le _) (Nat.zero_le _) (fun u7 H7 locs7 hp7 hP hS => ?_)
      obtain ⟨σ7, τ7⟩ := u7
      obtain ⟨hR, f7, fL7, hp7_0⟩ : P_X8_next_v σ τ _ _ _ _ σ7 τ7 := hp7
      have hP : va_P D vwCl (gw cA ad σ7 τ7) H7 := hP
      have hFL := hFL.step fL7 (by decide)
      have gWH := gWH.agL (AgrL.fr fL7 (by decide))
      have hF := hF.step f7 (by decide)
      have gWH := gWH.ag (Agr.fr f7 (by decide))
      have t8 : (σ7 24 1).toInt = (σ 24 1).toInt := congrArg Int32.toInt (f7.at 24 1 (by decide))
      have t9 : (σ7 24 2).toInt = (σ 24 2).toInt := congrArg Int32.toInt (f7.at 24 2 (by decide))
      have t10 : (σ7 1 13).toInt = (σ 1 13).toInt := congrArg Int32.toInt (f7.at 1 13 (by decide))
      have gCT := hp7_0
      refine lv_aload_n hx hb dX7_readAll_38 rfl (lv_at hl 0 rfl) ?_
      refine lv_iload_n hx hb dX7_readAll_39 rfl (lv_at hl 1 rfl) ?_
      refine r_cVi (k := 27) (As := [.int a1]) (rest := []) ⟨hx, hb, hml, hown, hts⟩ hK hP hN hS (c_X7_readOne_d3 l D cA ad hI σ7 τ7 hR a1 b N mo _ n1 nm hc (by omega) (by omega) (by omega) (by omega) gCT gWH) (cwV 1 hts gX7_readAll_X7_readOne rfl rfl rfl (by decide +kernel) ⟨by decide, by decide⟩) (rv_SText hK hP (by decide) (by decide)) rfl hl.1 rfl (Nat.le_of_ble_eq_true rfl) dX7_readAll_40 (Nat.zero_le _) (Nat.zero_le _) (fun r11 u11 H11 locs11 hp11 hP hS => ?_)
      obtain ⟨σ11, τ11⟩ := u11
      obtain ⟨hR, f11, fL11, hq11, hp11_0, hp11_1, gnWH⟩ : P_X7_readOne_d3 σ7 τ7 a1 b N mo _ n1 nm hc r11 σ11 τ11 := hp11
      have o2 := hp11_0
      have hP : va_P D vwCl (gw cA ad σ11 τ11) H11 := hP
      have hFL := hFL.step fL11 (by decide)
      have gWH := gWH.agL (AgrL.fr fL11 (by decide))
      have hF := hF.step f11 (by decide)
      have gWH := gWH.ag (Agr.fr f11 (by decide))
      have hr12 := rg_6_1 hR (k := 24) (by decide) (by decide)
      have hr13 := rg_6_2 hR (k := 24) (by decide) (by decide)
      refine r_if_eq (tgt := 60) hx hb dX7_readAll_43 (by decide) (fun c14 => ?_) (fun c14 => ?_)
      · clear hp11_1
        refine r_iconst hx hb dX7_readAll_60 (by decide) (fun z15 ez15 => ?_)
        exact r_zret hx hb hr hK hP hS hk (by omega) dX7_readAll_61 (show P_X7_readAll_d3 σ0 τ0 a1 b N mo q nn nm hc z15 σ11 τ11 from ⟨hR, hF, hFL, by omega, by first | (exfalso; omega) | (obtain ⟨f, e1, x1, x2⟩ := o1.no (by omega); exact RO.ofl (all_f e1) (by omega) x1 x2) | exact RO.ofr (by rw [iv, lop_e (by omega)]) (by omega) ⟨gCT, by omega, by omega⟩ | (obtain ⟨f, e2, x1, x2⟩ := o2.no (by omega); exact RO.ofl (by rw [iv, lop_f (f := (fun q nn => oneP b N mo nm hc 6 q nn)) (by omega) (by omega) e2]) (by omega) x1 x2) | (exfalso; omega), by omega, gWH⟩)
      · replace hp11_1 := hp11_1.resolve_left (by omega)
        obtain ⟨s2, e2, gCT, hs3, hs4⟩ := o2.ye (by omega)
        have hu2 := one_up _ _ _ _ e2
        refine lv_aload_n hx hb dX7_readAll_46 rfl (lv_at hl 0 rfl) ?_
        refine fg_7_2 (k := 27) hx hb hts in_X7_readAll_7 hown hK hP (by decide) (by decide) (hts _ lk_X7_readAll_19) dX7_readAll_47 ?_
        refine r_bipush hx hb dX7_readAll_50 (by decide) (fun z16 ez16 => ?_)
        refine r_iconst hx hb dX7_readAll_52 (by decide) (fun z17 ez17 => ?_)
        refine r_iconst hx hb dX7_readAll_53 (by decide) (fun z18 ez18 => ?_)
        refine r_cVi (k := 24) (As := [.int z16, .int z17, .int z18]) (rest := []) ⟨hx, hb, hml, hown, hts⟩ hK hP hN hS (c_X6_add l D cA ad hI σ11 τ11 hR z16 z17 z18 (by omega)) (cwV 3 hts gX7_readAll_X6_add rfl rfl rfl (by decide +kernel) ⟨by decide, by decide⟩) (rv_Sent hK hP (by decide) (by decide)) rfl hl.1 rfl (Nat.le_of_ble_eq_true rfl) dX7_readAll_54 (Nat.zero_le _) (Nat.zero_le _) (fun r19 u19 H19 locs19 hp19 hP hS => ?_)
        obtain ⟨σ19, τ19⟩ := u19
        obtain ⟨hR, f19, fL19, hq19, hp19_0⟩ : P_X6_add σ11 τ11 z16 z17 z18 r19 σ19 τ19 := hp19
        have hP : va_P D vwCl (gw cA ad σ19 τ19) H19 := hP
        obtain rfl := FrL.nil fL19
        have hF := hF.step f19 (by decide)
        have gCT := gCT.ag (Agr.fr f19 (by decide))
        have gWH := gWH.ag (Agr.fr f19 (by decide))
        have t20 : (σ19 24 1).toInt = (σ11 24 1).toInt := congrArg Int32.toInt (f19.at 24 1 (by decide))
        have t21 : (σ19 1 13).toInt = (σ11 1 13).toInt := congrArg Int32.toInt (f19.at 1 13 (by decide))
        have hr22 := rg_6_2 hR (k := 24) (by decide) (by decide)
        refine r_if_ne (tgt := 62) hx hb dX7_readAll_57 (by decide) (fun c23 => ?_) (fun c23 => ?_)
        · refine r_iinc (k := 2) (lv1 := fun z24 => [(2, .int z24), (0, .ref (ad 27)), (1, .int a1)]) hx hb dX7_readAll_62 hl rfl (by decide) (fun _ => rfl) (by decide) (by omega) (fun z24 ls ez24 hl => ?_)
          refine lv_goto (tgt := 12) hx hb dX7_readAll_65 (by decide) ?_
          exact K12 σ19 τ11 H19 locs19 z24 (fu - 1) _ _ ls hR hF hFL hP hS (by omega) (by omega) (by omega) (by first | exact all_s e1 | rw [iv, lop_s (f := (fun q nn => oneP b N mo nm hc 6 q nn)) (by omega) (by omega) e2]) (by omega) (by omega) (by omega) (by omega) (by omega) gCT gWH gCT (lv_sub hl [1, 2, 0] rfl) (by omega)
        · refine r_iconst hx hb dX7_readAll_60 (by decide) (fun z25 ez25 => ?_)
          exact r_zret hx hb hr hK hP hS hk (by omega) dX7_readAll_61 (show P_X7_readAll_d3 σ0 τ0 a1 b N mo q nn nm hc z25 σ19 τ11 from ⟨hR, hF, hFL, by omega, by first | (exfalso; omega) | (obtain ⟨f, e1, x1, x2⟩ := o1.no (by omega); exact RO.ofl (all_f e1) (by omega) x1 x2) | exact RO.ofr (by rw [iv, lop_e (by omega)]) (by omega) ⟨gCT, by omega, by omega⟩ | (obtain ⟨f, e2, x1, x2⟩ := o2.no (by omega); exact RO.ofl (by rw [iv, lop_f (f := (fun q nn => oneP b N mo nm hc 6 q nn)) (by omega) (by omega) e2]) (by omega) x1 x2) | (exfalso; omega), by omega, gWH⟩)
theorem A_X7_readAll_d3 (p : Program) (l : Launch) (e : Env) (s : State) (m : MethodId) (args : Array Value) (below : List Frame) (meth : Method) (c : Code) (D : va_G) (cA : Nat → ClassId) (ad : Nat → Nat) (σ0 : Nat → Nat → Int32) (τ0 : Nat → Nat → Int64) (a1 : Int32) (b : Nat → Int) (N : Nat) (mo : Nat) (q : Nat) (nn : Nat) (nm : Nat → Int) (hc : Nat) (C : Cy p s m args meth c cX7_readAll 3 wsX7_readAll RX7 D cA ad (some .boolean)) (ha1 : 3 ≤ a1.toInt ∧ a1.toInt ≤ 3) (hpre0 : (σ0 24 1).toInt = (nn : Int)) (hpre1 : 0 ≤ (σ0 24 2).toInt ∧ (σ0 24 2).toInt ≤ 2 * (nn : Int)) (hpre2 : nn ≤ 20) (gCT0 : CT σ0 τ0 b N mo q) (gWH0 : WH σ0 τ0 nm hc) : ∀ n : Nat, J_X7_readAll_d3_12 p l e s m args below meth c D cA ad σ0 τ0 a1 b N mo q nn nm hc n := by
  intro n
  induction n with
  | zero =>
    exact (by intro σ τ H locs x2 fu q1 n1 ls hR hF hFL hP hS hc0 hc1 hc2 iv ib2 ib3 ifu in20 ik13 gCT gWH gCT hl hm; exfalso; omega)
  | succ n ih =>
    exact B_X7_readAll_d3_12 p l e s m args below meth c D cA ad σ0 τ0 a1 b N mo q nn nm hc n C ha1 hpre0 hpre1 hpre2 gCT0 gWH0 ih
set_option maxHeartbeats 4000000 in
theorem c_X7_readAll_d3 (l : Launch) (D : va_G) (cA : Nat → ClassId) (ad : Nat → Nat) (hI : Inj ad) (σ0 : Nat → Nat → Int32) (τ0 : Nat → Nat → Int64) (hR : Rg σ0) (a1 : Int32) (b : Nat → Int) (N : Nat) (mo : Nat) (q : Nat) (nn : Nat) (nm : Nat → Int) (hc : Nat) (ha1 : 3 ≤ a1.toInt ∧ a1.toInt ≤ 3) (hpre0 : (σ0 24 1).toInt = (nn : Int)) (hpre1 : 0 ≤ (σ0 24 2).toInt ∧ (σ0 24 2).toInt ≤ 2 * (nn : Int)) (hpre2 : nn ≤ 20) (gCT0 : CT σ0 τ0 b N mo q) (gWH0 : WH σ0 τ0 nm hc) : Met l yX7_readAll wsX7_readAll ({ frames := 20, cells := 0, slots := 0, locals := 439 } : Room) (WQc D cA ad [.ref (ad 27), .int a1] σ0 τ0) (va_Qi (fun (r : Int32) (u : SS) => P_X7_readAll_d3 σ0 τ0 a1 b N mo q nn nm hc r u.1 u.2) (WB D cA ad) (AA ad)) 0 0 (AA ad) := by
  refine Met.ofW (cc := cX7_readAll) (maxL := 3) (ret := (some .boolean)) (by decide) rfl ?_
  intro p e s m args below meth c s₁ B hml hv
  obtain ⟨rfl, hP, hK, hN⟩ := hv
  have C : Cy p s m _ meth c cX7_readAll 3 wsX7_readAll RX7 D cA ad (some .boolean) := ⟨B.exec, B.bytes, hml, findClass_of_methodNamed B.named, atoms_spec (ws := wsX7_readAll) B.pre, hK, B.notSynchronized, B.returns, hI, hN⟩
  have hl := lv_entry ([.ref (ad 27), .int a1]) (n := 3) (Nat.le_of_ble_eq_true rfl)
  rw [lg_entry_eq]
  generalize (lg_sl ([.ref (ad 27), .int a1]) ++ List.replicate (3 - (lg_sl ([.ref (ad 27), .int a1])).length) Slot.unset).toArray = ls at hl ⊢
  have hl : lv_has ls 3 [(0, .ref (ad 27)), (1, .int a1)] := hl
  have hS : va_S (AA ad) s.heap s.heap [] := va_S.rf
  have hF : Fr L_X7_readAll_d3 σ0 σ0 := Fr.rf
  have hFL : FrL LL_X7_readAll_d3 τ0 τ0 := FrL.rf
  have gCT := gCT0
  have gWH := gWH0
  have hA := A_X7_readAll_d3 p l e s m _ below meth c D cA ad σ0 τ0 a1 b N mo q nn nm hc C ha1 hpre0 hpre1 hpre2 gCT0 gWH0 810
  have K12 := hA
  clear hA
  obtain ⟨hx, hb, _, hown, hts, _, hk, hr, _, _⟩ := C
  refine lv_aload_n hx hb dX7_readAll_0 rfl (lv_at hl 0 rfl) ?_
  refine lv_iload_n hx hb dX7_readAll_1 rfl (lv_at hl 1 rfl) ?_
  refine r_cVi (k := 27) (As := [.int a1]) (rest := []) ⟨hx, hb, hml, hown, hts⟩ hK hP hN hS (c_X7_readOne_d3 l D cA ad hI σ0 τ0 hR a1 b N mo q nn nm hc (by omega) (by omega) (by omega) (by omega) gCT gWH) (cwV 1 hts gX7_readAll_X7_readOne rfl rfl rfl (by decide +kernel) ⟨by decide, by decide⟩) (rv_SText hK hP (by decide) (by decide)) rfl hl.1 rfl (Nat.le_of_ble_eq_true rfl) dX7_readAll_2 (Nat.zero_le _) (Nat.zero_le _) (fun r1 u1 H1 locs1 hp1 hP hS => ?_)
  obtain ⟨σ1, τ1⟩ := u1
  obtain ⟨hR, f1, fL1, hq1, hp1_0, hp1_1, gnWH⟩ : P_X7_readOne_d3 σ0 τ0 a1 b N mo q nn nm hc r1 σ1 τ1 := hp1
  have o1 := hp1_0
  have hP : va_P D vwCl (gw cA ad σ1 τ1) H1 := hP
  have hFL := hFL.step fL1 (by decide)
  have gWH := gWH.agL (AgrL.fr fL1 (by decide))
  have hF := hF.step f1 (by decide)
  have gWH := gWH.ag (Agr.fr f1 (by decide))
  have hr2 := rg_6_1 hR (k := 24) (by decide) (by decide)
  have hr3 := rg_6_2 hR (k := 24) (by decide) (by decide)
  refine r_if_ne (tgt := 10) hx hb dX7_readAll_5 (by decide) (fun c4 => ?_) (fun c4 => ?_)
  · replace hp1_1 := hp1_1.resolve_left (by omega)
    obtain ⟨s1, e1, gCT, hs1, hs2⟩ := o1.ye (by omega)
    have hu1 := one_up _ _ _ _ e1
    refine r_iconst hx hb dX7_readAll_10 (by decide) (fun z5 ez5 => ?_)
    refine lv_istore_n (lv' := [(2, .int z5), (0, .ref (ad 27)), (1, .int a1)]) hx hb dX7_readAll_11 rfl hl (by decide) rfl (fun ls hl => ?_)
    exact K12 σ1 τ1 H1 locs1 z5 200 _ _ ls hR hF hFL hP hS (by omega) (by omega) (by omega) (by first | exact all_s e1 | rw [iv, lop_s (f := (fun q nn => oneP b N mo nm hc 6 q nn)) (by omega) (by omega) e2]) (by omega) (by omega) (by omega) (by omega) (by omega) gCT gWH gCT (lv_sub hl [1, 2, 0] rfl) (by omega)
  · clear hp1_1
    refine r_iconst hx hb dX7_readAll_8 (by decide) (fun z6 ez6 => ?_)
    exact r_zret hx hb hr hK hP hS hk (by omega) dX7_readAll_9 (show P_X7_readAll_d3 σ0 τ0 a1 b N mo q nn nm hc z6 σ1 τ1 from ⟨hR, hF, hFL, by omega, by first | (exfalso; omega) | (obtain ⟨f, e1, x1, x2⟩ := o1.no (by omega); exact RO.ofl (all_f e1) (by omega) x1 x2) | exact RO.ofr (by rw [iv, lop_e (by omega)]) (by omega) ⟨gCT, by omega, by omega⟩ | (obtain ⟨f, e2, x1, x2⟩ := o2.no (by omega); exact RO.ofl (by rw [iv, lop_f (f := (fun q nn => oneP b N mo nm hc 6 q nn)) (by omega) (by omega) e2]) (by omega) x1 x2) | (exfalso; omega), by omega, gWH⟩)
abbrev L_X7_readCond_d3 : List Rc := [(1, 1, 7, 10), (372, 372, 0, 39), (376, 376, 0, 39), (380, 380, 0, 39), (24, 24, 1, 2), (1, 1, 12, 14)]
abbrev LL_X7_readCond_d3 : List Rc := [(1, 1, 11, 11)]
def P_X7_readCond_d3 (σ0 : Nat → Nat → Int32) (τ0 : Nat → Nat → Int64) (a1 : Int32) (b : Nat → Int) (N : Nat) (mo : Nat) (q : Nat) (nn : Nat) (nm : Nat → Int) (hc : Nat) (r : Int32) (σ : Nat → Nat → Int32) (τ : Nat → Nat → Int64) : Prop := Rg σ ∧ Fr L_X7_readCond_d3 σ0 σ ∧ FrL LL_X7_readCond_d3 τ0 τ ∧ (0 ≤ r.toInt ∧ r.toInt ≤ 1) ∧ (RO r σ (conP b N mo (fun q nn => oneP b N mo nm hc 6 q nn) q nn) (fun s => CT σ τ b N mo s.1 ∧ (σ 24 1).toInt = (s.2 : Int) ∧ (σ 24 2).toInt + 2 * (nn : Int) + 1 ≤ (σ0 24 2).toInt + 2 * (s.2 : Int))) ∧ (r.toInt = 0 ∨ (σ 1 13).toInt = (σ0 1 13).toInt) ∧ WH σ τ nm hc
def J_X7_readCond_d3_12 (p : Program) (l : Launch) (e : Env) (s : State) (m : MethodId) (args : Array Value) (below : List Frame) (meth : Method) (c : Code) (D : va_G) (cA : Nat → ClassId) (ad : Nat → Nat) (σ0 : Nat → Nat → Int32) (τ0 : Nat → Nat → Int64) (a1 : Int32) (b : Nat → Int) (N : Nat) (mo : Nat) (q : Nat) (nn : Nat) (nm : Nat → Int) (hc : Nat) (n : Nat) : Prop := ∀ (σ : Nat → Nat → Int32) (τ : Nat → Nat → Int64) (H : Heap) (locs : List Loc) (x2 : Int32) (fu : Nat) (q1 : Nat) (n1 : Nat) (ls : Array Slot), Rg σ → Fr L_X7_readCond_d3 σ0 σ → FrL LL_X7_readCond_d3 τ0 τ → va_P D vwCl (gw cA ad σ τ) H → va_S (AA ad) s.heap H locs → (0 ≤ x2.toInt ∧ x2.toInt ≤ 200) → (0 ≤ (σ 24 1).toInt ∧ (σ 24 1).toInt ≤ 20) → (0 ≤ (σ 24 2).toInt ∧ (σ 24 2).toInt ≤ 40) → (conP b N mo (fun q nn => oneP b N mo nm hc 6 q nn) q nn = lopP b N mo 20 (allP b N mo (fun q nn => oneP b N mo nm hc 6 q nn)) fu q1 n1) → ((σ 24 1).toInt = (n1 : Int)) → (0 ≤ (σ 24 2).toInt ∧ (σ 24 2).toInt + 2 * (nn : Int) + 1 ≤ (σ0 24 2).toInt + 2 * (n1 : Int)) → ((fu : Int) + x2.toInt = 200) → (n1 ≤ 20) → ((σ 1 13).toInt = (σ0 1 13).toInt) → (CT σ τ b N mo q1) → (WH σ τ nm hc) → (CT σ τ b N mo q1) → lv_has ls 3 [(0, .ref (ad 27)), (1, .int a1), (2, .int x2)] → 2 * (200 - x2.toInt) + 1 < (n : Int) → W p l e ({ frames := 21, cells := 0, slots := 0, locals := 461 } : Room) s m args below meth c H locs 0 0 (MQ below (va_Qi (fun (r : Int32) (u : SS) => P_X7_readCond_d3 σ0 τ0 a1 b N mo q nn nm hc r u.1 u.2) (WB D cA ad) (AA ad)) args s 0 0 (AA ad)) (F0 m 12 ls [])
set_option maxHeartbeats 4000000 in
theorem B_X7_readCond_d3_12 (p : Program) (l : Launch) (e : Env) (s : State) (m : MethodId) (args : Array Value) (below : List Frame) (meth : Method) (c : Code) (D : va_G) (cA : Nat → ClassId) (ad : Nat → Nat) (σ0 : Nat → Nat → Int32) (τ0 : Nat → Nat → Int64) (a1 : Int32) (b : Nat → Int) (N : Nat) (mo : Nat) (q : Nat) (nn : Nat) (nm : Nat → Int) (hc : Nat) (n : Nat) (C : Cy p s m args meth c cX7_readCond 3 wsX7_readCond RX7 D cA ad (some .boolean)) (ha1 : 3 ≤ a1.toInt ∧ a1.toInt ≤ 3) (hpre0 : (σ0 24 1).toInt = (nn : Int)) (hpre1 : 0 ≤ (σ0 24 2).toInt ∧ (σ0 24 2).toInt ≤ 2 * (nn : Int)) (hpre2 : nn ≤ 20) (gCT0 : CT σ0 τ0 b N mo q) (gWH0 : WH σ0 τ0 nm hc) (K12 : J_X7_readCond_d3_12 p l e s m args below meth c D cA ad σ0 τ0 a1 b N mo q nn nm hc n) : J_X7_readCond_d3_12 p l e s m args below meth c D cA ad σ0 τ0 a1 b N mo q nn nm hc (n + 1) := by
  obtain ⟨hx, hb, hml, hown, hts, hK, hk, hr, hI, hN⟩ := C
  intro σ τ H locs x2 fu q1 n1 ls hR hF hFL hP hS hc0 hc1 hc2 iv ib2 ib3 ifu in20 ik13 gCT gWH gCT hl hm
  refine lv_iload_n hx hb dX7_readCond_12 rfl (lv_at hl 2 rfl) ?_
  refine r_sipush hx hb dX7_readCond_13 (by decide) (fun z1 ez1 => ?_)
  refine r_icmp_ge (tgt := 68) hx hb dX7_readCond_16 (by decide) (fun c2 => ?_) (fun c2 => ?_)
  · refine r_iconst hx hb dX7_readCond_68 (by decide) (fun z3 ez3 => ?_)
    exact r_zret hx hb hr hK hP hS hk (by omega) dX7_readCond_69 (show P_X7_readCond_d3 σ0 τ0 a1 b N mo q nn nm hc z3 σ τ from ⟨hR, hF, hFL, by omega, by first | (exfalso; omega) | (obtain ⟨f, e1, x1, x2⟩ := o1.no (by omega); exact RO.ofl (con_f e1) (by omega) x1 x2) | exact RO.ofr (by rw [iv, lop_e (by omega)]) (by omega) ⟨gCT, by omega, by omega⟩ | (obtain ⟨f, e2, x1, x2⟩ := o2.no (by omega); exact RO.ofl (by rw [iv, lop_f (f := (allP b N mo (fun q nn => oneP b N mo nm hc 6 q nn))) (by omega) (by omega) e2]) (by omega) x1 x2) | (exfalso; omega), by omega, gWH⟩)
  · have htk := gCT.tk
    refine lv_aload_n hx hb dX7_readCond_19 rfl (lv_at hl 0 rfl) ?_
    refine fg_7_0 (k := 27) hx hb hts in_X7_readCond_7 hown hK hP (by decide) (by decide) (hts _ lk_X7_readCond_9) dX7_readCond_20 ?_
    refine fgN_8_9 (k := 1) hx hb hts in_X7_readCond_8 hown hK hP (by decide) (by decide) (hN.use nw_7_32) dX7_readCond_23 ?_
    refine r_bipush hx hb dX7_readCond_26 (by decide) (fun z4 ez4 => ?_)
    refine r_icmp_ne (tgt := 68) hx hb dX7_readCond_28 (by decide) (fun c5 => ?_) (fun c5 => ?_)
    · refine r_iconst hx hb dX7_readCond_68 (by decide) (fun z6 ez6 => ?_)
      exact r_zret hx hb hr hK hP hS hk (by omega) dX7_readCond_69 (show P_X7_readCond_d3 σ0 τ0 a1 b N mo q nn nm hc z6 σ τ from ⟨hR, hF, hFL, by omega, by first | (exfalso; omega) | (obtain ⟨f, e1, x1, x2⟩ := o1.no (by omega); exact RO.ofl (con_f e1) (by omega) x1 x2) | exact RO.ofr (by rw [iv, lop_e (by omega)]) (by omega) ⟨gCT, by omega, by omega⟩ | (obtain ⟨f, e2, x1, x2⟩ := o2.no (by omega); exact RO.ofl (by rw [iv, lop_f (f := (allP b N mo (fun q nn => oneP b N mo nm hc 6 q nn))) (by omega) (by omega) e2]) (by omega) x1 x2) | (exfalso; omega), by omega, gWH⟩)
    · refine lv_aload_n hx hb dX7_readCond_31 rfl (lv_at hl 0 rfl) ?_
      refine fg_7_0 (k := 27) hx hb hts in_X7_readCond_7 hown hK hP (by decide) (by decide) (hts _ lk_X7_readCond_9) dX7_readCond_32 ?_
      refine r_cVv (k := 1) (As := []) (rest := []) ⟨hx, hb, hml, hown, hts⟩ hK hP hN hS (c_X8_next_v l D cA ad hI σ τ hR _ _ _ _ gCT) (cwV 0 hts gX7_readCond_X8_next rfl rfl rfl (by decide +kernel) ⟨by decide, by decide⟩) (rv_Tape hK hP (by decide) (by decide)) rfl hl.1 rfl (Nat.le_of_ble_eq_true rfl) dX7_readCond_35 (Nat.zero_le _) (Nat.zero_le _) (fun u7 H7 locs7 hp7 hP hS => ?_)
      obtain ⟨σ7, τ7⟩ := u7
      obtain ⟨hR, f7, fL7, hp7_0⟩ : P_X8_next_v σ τ _ _ _ _ σ7 τ7 := hp7
      have hP : va_P D vwCl (gw cA ad σ7 τ7) H7 := hP
      have hFL := hFL.step fL7 (by decide)
      have gWH := gWH.agL (AgrL.fr fL7 (by decide))
      have hF := hF.step f7 (by decide)
      have gWH := gWH.ag (Agr.fr f7 (by decide))
      have t8 : (σ7 24 1).toInt = (σ 24 1).toInt := congrArg Int32.toInt (f7.at 24 1 (by decide))
      have t9 : (σ7 24 2).toInt = (σ 24 2).toInt := congrArg Int32.toInt (f7.at 24 2 (by decide))
      have t10 : (σ7 1 13).toInt = (σ 1 13).toInt := congrArg Int32.toInt (f7.at 1 13 (by decide))
      have gCT := hp7_0
      refine lv_aload_n hx hb dX7_readCond_38 rfl (lv_at hl 0 rfl) ?_
      refine lv_iload_n hx hb dX7_readCond_39 rfl (lv_at hl 1 rfl) ?_
      refine r_cVi (k := 27) (As := [.int a1]) (rest := []) ⟨hx, hb, hml, hown, hts⟩ hK hP hN hS (c_X7_readAll_d3 l D cA ad hI σ7 τ7 hR a1 b N mo _ n1 nm hc (by omega) (by omega) (by omega) (by omega) gCT gWH) (cwV 1 hts gX7_readCond_X7_readAll rfl rfl rfl (by decide +kernel) ⟨by decide, by decide⟩) (rv_SText hK hP (by decide) (by decide)) rfl hl.1 rfl (Nat.le_of_ble_eq_true rfl) dX7_readCond_40 (Nat.zero_le _) (Nat.zero_le _) (fun r11 u11 H11 locs11 hp11 hP hS => ?_)
      obtain ⟨σ11, τ11⟩ := u11
      obtain ⟨hR, f11, fL11, hq11, hp11_0, hp11_1, gnWH⟩ : P_X7_readAll_d3 σ7 τ7 a1 b N mo _ n1 nm hc r11 σ11 τ11 := hp11
      have o2 := hp11_0
      have hP : va_P D vwCl (gw cA ad σ11 τ11) H11 := hP
      have hFL := hFL.step fL11 (by decide)
      have gWH := gWH.agL (AgrL.fr fL11 (by decide))
      have hF := hF.step f11 (by decide)
      have gWH := gWH.ag (Agr.fr f11 (by decide))
      have hr12 := rg_6_1 hR (k := 24) (by decide) (by decide)
      have hr13 := rg_6_2 hR (k := 24) (by decide) (by decide)
      refine r_if_eq (tgt := 60) hx hb dX7_readCond_43 (by decide) (fun c14 => ?_) (fun c14 => ?_)
      · clear hp11_1
        refine r_iconst hx hb dX7_readCond_60 (by decide) (fun z15 ez15 => ?_)
        exact r_zret hx hb hr hK hP hS hk (by omega) dX7_readCond_61 (show P_X7_readCond_d3 σ0 τ0 a1 b N mo q nn nm hc z15 σ11 τ11 from ⟨hR, hF, hFL, by omega, by first | (exfalso; omega) | (obtain ⟨f, e1, x1, x2⟩ := o1.no (by omega); exact RO.ofl (con_f e1) (by omega) x1 x2) | exact RO.ofr (by rw [iv, lop_e (by omega)]) (by omega) ⟨gCT, by omega, by omega⟩ | (obtain ⟨f, e2, x1, x2⟩ := o2.no (by omega); exact RO.ofl (by rw [iv, lop_f (f := (allP b N mo (fun q nn => oneP b N mo nm hc 6 q nn))) (by omega) (by omega) e2]) (by omega) x1 x2) | (exfalso; omega), by omega, gWH⟩)
      · replace hp11_1 := hp11_1.resolve_left (by omega)
        obtain ⟨s2, e2, gCT, hs3, hs4⟩ := o2.ye (by omega)
        have hu2 := all_up (one_up _) _ _ _ e2
        refine lv_aload_n hx hb dX7_readCond_46 rfl (lv_at hl 0 rfl) ?_
        refine fg_7_2 (k := 27) hx hb hts in_X7_readCond_7 hown hK hP (by decide) (by decide) (hts _ lk_X7_readCond_19) dX7_readCond_47 ?_
        refine r_bipush hx hb dX7_readCond_50 (by decide) (fun z16 ez16 => ?_)
        refine r_iconst hx hb dX7_readCond_52 (by decide) (fun z17 ez17 => ?_)
        refine r_iconst hx hb dX7_readCond_53 (by decide) (fun z18 ez18 => ?_)
        refine r_cVi (k := 24) (As := [.int z16, .int z17, .int z18]) (rest := []) ⟨hx, hb, hml, hown, hts⟩ hK hP hN hS (c_X6_add l D cA ad hI σ11 τ11 hR z16 z17 z18 (by omega)) (cwV 3 hts gX7_readCond_X6_add rfl rfl rfl (by decide +kernel) ⟨by decide, by decide⟩) (rv_Sent hK hP (by decide) (by decide)) rfl hl.1 rfl (Nat.le_of_ble_eq_true rfl) dX7_readCond_54 (Nat.zero_le _) (Nat.zero_le _) (fun r19 u19 H19 locs19 hp19 hP hS => ?_)
        obtain ⟨σ19, τ19⟩ := u19
        obtain ⟨hR, f19, fL19, hq19, hp19_0⟩ : P_X6_add σ11 τ11 z16 z17 z18 r19 σ19 τ19 := hp19
        have hP : va_P D vwCl (gw cA ad σ19 τ19) H19 := hP
        obtain rfl := FrL.nil fL19
        have hF := hF.step f19 (by decide)
        have gCT := gCT.ag (Agr.fr f19 (by decide))
        have gWH := gWH.ag (Agr.fr f19 (by decide))
        have t20 : (σ19 24 1).toInt = (σ11 24 1).toInt := congrArg Int32.toInt (f19.at 24 1 (by decide))
        have t21 : (σ19 1 13).toInt = (σ11 1 13).toInt := congrArg Int32.toInt (f19.at 1 13 (by decide))
        have hr22 := rg_6_2 hR (k := 24) (by decide) (by decide)
        refine r_if_ne (tgt := 62) hx hb dX7_readCond_57 (by decide) (fun c23 => ?_) (fun c23 => ?_)
        · refine r_iinc (k := 2) (lv1 := fun z24 => [(2, .int z24), (0, .ref (ad 27)), (1, .int a1)]) hx hb dX7_readCond_62 hl rfl (by decide) (fun _ => rfl) (by decide) (by omega) (fun z24 ls ez24 hl => ?_)
          refine lv_goto (tgt := 12) hx hb dX7_readCond_65 (by decide) ?_
          exact K12 σ19 τ11 H19 locs19 z24 (fu - 1) _ _ ls hR hF hFL hP hS (by omega) (by omega) (by omega) (by first | exact con_s e1 | rw [iv, lop_s (f := (allP b N mo (fun q nn => oneP b N mo nm hc 6 q nn))) (by omega) (by omega) e2]) (by omega) (by omega) (by omega) (by omega) (by omega) gCT gWH gCT (lv_sub hl [1, 2, 0] rfl) (by omega)
        · refine r_iconst hx hb dX7_readCond_60 (by decide) (fun z25 ez25 => ?_)
          exact r_zret hx hb hr hK hP hS hk (by omega) dX7_readCond_61 (show P_X7_readCond_d3 σ0 τ0 a1 b N mo q nn nm hc z25 σ19 τ11 from ⟨hR, hF, hFL, by omega, by first | (exfalso; omega) | (obtain ⟨f, e1, x1, x2⟩ := o1.no (by omega); exact RO.ofl (con_f e1) (by omega) x1 x2) | exact RO.ofr (by rw [iv, lop_e (by omega)]) (by omega) ⟨gCT, by omega, by omega⟩ | (obtain ⟨f, e2, x1, x2⟩ := o2.no (by omega); exact RO.ofl (by rw [iv, lop_f (f := (allP b N mo (fun q nn => oneP b N mo nm hc 6 q nn))) (by omega) (by omega) e2]) (by omega) x1 x2) | (exfalso; omega), by omega, gWH⟩)
theorem A_X7_readCond_d3 (p : Program) (l : Launch) (e : Env) (s : State) (m : MethodId) (args : Array Value) (below : List Frame) (meth : Method) (c : Code) (D : va_G) (cA : Nat → ClassId) (ad : Nat → Nat) (σ0 : Nat → Nat → Int32) (τ0 : Nat → Nat → Int64) (a1 : Int32) (b : Nat → Int) (N : Nat) (mo : Nat) (q : Nat) (nn : Nat) (nm : Nat → Int) (hc : Nat) (C : Cy p s m args meth c cX7_readCond 3 wsX7_readCond RX7 D cA ad (some .boolean)) (ha1 : 3 ≤ a1.toInt ∧ a1.toInt ≤ 3) (hpre0 : (σ0 24 1).toInt = (nn : Int)) (hpre1 : 0 ≤ (σ0 24 2).toInt ∧ (σ0 24 2).toInt ≤ 2 * (nn : Int)) (hpre2 : nn ≤ 20) (gCT0 : CT σ0 τ0 b N mo q) (gWH0 : WH σ0 τ0 nm hc) : ∀ n : Nat, J_X7_readCond_d3_12 p l e s m args below meth c D cA ad σ0 τ0 a1 b N mo q nn nm hc n := by
  intro n
  induction n with
  | zero =>
    exact (by intro σ τ H locs x2 fu q1 n1 ls hR hF hFL hP hS hc0 hc1 hc2 iv ib2 ib3 ifu in20 ik13 gCT gWH gCT hl hm; exfalso; omega)
  | succ n ih =>
    exact B_X7_readCond_d3_12 p l e s m args below meth c D cA ad σ0 τ0 a1 b N mo q nn nm hc n C ha1 hpre0 hpre1 hpre2 gCT0 gWH0 ih
set_option maxHeartbeats 4000000 in
theorem c_X7_readCond_d3 (l : Launch) (D : va_G) (cA : Nat → ClassId) (ad : Nat → Nat) (hI : Inj ad) (σ0 : Nat → Nat → Int32) (τ0 : Nat → Nat → Int64) (hR : Rg σ0) (a1 : Int32) (b : Nat → Int) (N : Nat) (mo : Nat) (q : Nat) (nn : Nat) (nm : Nat → Int) (hc : Nat) (ha1 : 3 ≤ a1.toInt ∧ a1.toInt ≤ 3) (hpre0 : (σ0 24 1).toInt = (nn : Int)) (hpre1 : 0 ≤ (σ0 24 2).toInt ∧ (σ0 24 2).toInt ≤ 2 * (nn : Int)) (hpre2 : nn ≤ 20) (gCT0 : CT σ0 τ0 b N mo q) (gWH0 : WH σ0 τ0 nm hc) : Met l yX7_readCond wsX7_readCond ({ frames := 21, cells := 0, slots := 0, locals := 461 } : Room) (WQc D cA ad [.ref (ad 27), .int a1] σ0 τ0) (va_Qi (fun (r : Int32) (u : SS) => P_X7_readCond_d3 σ0 τ0 a1 b N mo q nn nm hc r u.1 u.2) (WB D cA ad) (AA ad)) 0 0 (AA ad) := by
  refine Met.ofW (cc := cX7_readCond) (maxL := 3) (ret := (some .boolean)) (by decide) rfl ?_
  intro p e s m args below meth c s₁ B hml hv
  obtain ⟨rfl, hP, hK, hN⟩ := hv
  have C : Cy p s m _ meth c cX7_readCond 3 wsX7_readCond RX7 D cA ad (some .boolean) := ⟨B.exec, B.bytes, hml, findClass_of_methodNamed B.named, atoms_spec (ws := wsX7_readCond) B.pre, hK, B.notSynchronized, B.returns, hI, hN⟩
  have hl := lv_entry ([.ref (ad 27), .int a1]) (n := 3) (Nat.le_of_ble_eq_true rfl)
  rw [lg_entry_eq]
  generalize (lg_sl ([.ref (ad 27), .int a1]) ++ List.replicate (3 - (lg_sl ([.ref (ad 27), .int a1])).length) Slot.unset).toArray = ls at hl ⊢
  have hl : lv_has ls 3 [(0, .ref (ad 27)), (1, .int a1)] := hl
  have hS : va_S (AA ad) s.heap s.heap [] := va_S.rf
  have hF : Fr L_X7_readCond_d3 σ0 σ0 := Fr.rf
  have hFL : FrL LL_X7_readCond_d3 τ0 τ0 := FrL.rf
  have gCT := gCT0
  have gWH := gWH0
  have hA := A_X7_readCond_d3 p l e s m _ below meth c D cA ad σ0 τ0 a1 b N mo q nn nm hc C ha1 hpre0 hpre1 hpre2 gCT0 gWH0 810
  have K12 := hA
  clear hA
  obtain ⟨hx, hb, _, hown, hts, _, hk, hr, _, _⟩ := C
  refine lv_aload_n hx hb dX7_readCond_0 rfl (lv_at hl 0 rfl) ?_
  refine lv_iload_n hx hb dX7_readCond_1 rfl (lv_at hl 1 rfl) ?_
  refine r_cVi (k := 27) (As := [.int a1]) (rest := []) ⟨hx, hb, hml, hown, hts⟩ hK hP hN hS (c_X7_readAll_d3 l D cA ad hI σ0 τ0 hR a1 b N mo q nn nm hc (by omega) (by omega) (by omega) (by omega) gCT gWH) (cwV 1 hts gX7_readCond_X7_readAll rfl rfl rfl (by decide +kernel) ⟨by decide, by decide⟩) (rv_SText hK hP (by decide) (by decide)) rfl hl.1 rfl (Nat.le_of_ble_eq_true rfl) dX7_readCond_2 (Nat.zero_le _) (Nat.zero_le _) (fun r1 u1 H1 locs1 hp1 hP hS => ?_)
  obtain ⟨σ1, τ1⟩ := u1
  obtain ⟨hR, f1, fL1, hq1, hp1_0, hp1_1, gnWH⟩ : P_X7_readAll_d3 σ0 τ0 a1 b N mo q nn nm hc r1 σ1 τ1 := hp1
  have o1 := hp1_0
  have hP : va_P D vwCl (gw cA ad σ1 τ1) H1 := hP
  have hFL := hFL.step fL1 (by decide)
  have gWH := gWH.agL (AgrL.fr fL1 (by decide))
  have hF := hF.step f1 (by decide)
  have gWH := gWH.ag (Agr.fr f1 (by decide))
  have hr2 := rg_6_1 hR (k := 24) (by decide) (by decide)
  have hr3 := rg_6_2 hR (k := 24) (by decide) (by decide)
  refine r_if_ne (tgt := 10) hx hb dX7_readCond_5 (by decide) (fun c4 => ?_) (fun c4 => ?_)
  · replace hp1_1 := hp1_1.resolve_left (by omega)
    obtain ⟨s1, e1, gCT, hs1, hs2⟩ := o1.ye (by omega)
    have hu1 := all_up (one_up _) _ _ _ e1
    refine r_iconst hx hb dX7_readCond_10 (by decide) (fun z5 ez5 => ?_)
    refine lv_istore_n (lv' := [(2, .int z5), (0, .ref (ad 27)), (1, .int a1)]) hx hb dX7_readCond_11 rfl hl (by decide) rfl (fun ls hl => ?_)
    exact K12 σ1 τ1 H1 locs1 z5 200 _ _ ls hR hF hFL hP hS (by omega) (by omega) (by omega) (by first | exact con_s e1 | rw [iv, lop_s (f := (allP b N mo (fun q nn => oneP b N mo nm hc 6 q nn))) (by omega) (by omega) e2]) (by omega) (by omega) (by omega) (by omega) (by omega) gCT gWH gCT (lv_sub hl [1, 2, 0] rfl) (by omega)
  · clear hp1_1
    refine r_iconst hx hb dX7_readCond_8 (by decide) (fun z6 ez6 => ?_)
    exact r_zret hx hb hr hK hP hS hk (by omega) dX7_readCond_9 (show P_X7_readCond_d3 σ0 τ0 a1 b N mo q nn nm hc z6 σ1 τ1 from ⟨hR, hF, hFL, by omega, by first | (exfalso; omega) | (obtain ⟨f, e1, x1, x2⟩ := o1.no (by omega); exact RO.ofl (con_f e1) (by omega) x1 x2) | exact RO.ofr (by rw [iv, lop_e (by omega)]) (by omega) ⟨gCT, by omega, by omega⟩ | (obtain ⟨f, e2, x1, x2⟩ := o2.no (by omega); exact RO.ofl (by rw [iv, lop_f (f := (allP b N mo (fun q nn => oneP b N mo nm hc 6 q nn))) (by omega) (by omega) e2]) (by omega) x1 x2) | (exfalso; omega), by omega, gWH⟩)
abbrev L_X7_readOne_d2 : List Rc := [(1, 1, 7, 10), (372, 372, 0, 39), (376, 376, 0, 39), (380, 380, 0, 39), (24, 24, 1, 2), (1, 1, 12, 14)]
abbrev LL_X7_readOne_d2 : List Rc := [(1, 1, 11, 11)]
def P_X7_readOne_d2 (σ0 : Nat → Nat → Int32) (τ0 : Nat → Nat → Int64) (a1 : Int32) (b : Nat → Int) (N : Nat) (mo : Nat) (q : Nat) (nn : Nat) (nm : Nat → Int) (hc : Nat) (r : Int32) (σ : Nat → Nat → Int32) (τ : Nat → Nat → Int64) : Prop := Rg σ ∧ Fr L_X7_readOne_d2 σ0 σ ∧ FrL LL_X7_readOne_d2 τ0 τ ∧ (0 ≤ r.toInt ∧ r.toInt ≤ 1) ∧ (RO r σ (oneP b N mo nm hc 7 q nn) (fun s => CT σ τ b N mo s.1 ∧ (σ 24 1).toInt = (s.2 : Int) ∧ (σ 24 2).toInt + 2 * (nn : Int) + 1 ≤ (σ0 24 2).toInt + 2 * (s.2 : Int))) ∧ (r.toInt = 0 ∨ (σ 1 13).toInt = (σ0 1 13).toInt) ∧ WH σ τ nm hc
set_option maxHeartbeats 4000000 in
theorem c_X7_readOne_d2 (l : Launch) (D : va_G) (cA : Nat → ClassId) (ad : Nat → Nat) (hI : Inj ad) (σ0 : Nat → Nat → Int32) (τ0 : Nat → Nat → Int64) (hR : Rg σ0) (a1 : Int32) (b : Nat → Int) (N : Nat) (mo : Nat) (q : Nat) (nn : Nat) (nm : Nat → Int) (hc : Nat) (ha1 : 2 ≤ a1.toInt ∧ a1.toInt ≤ 2) (hpre0 : (σ0 24 1).toInt = (nn : Int)) (hpre1 : 0 ≤ (σ0 24 2).toInt ∧ (σ0 24 2).toInt ≤ 2 * (nn : Int)) (hpre2 : nn ≤ 20) (gCT0 : CT σ0 τ0 b N mo q) (gWH0 : WH σ0 τ0 nm hc) : Met l yX7_readOne wsX7_readOne ({ frames := 22, cells := 0, slots := 0, locals := 483 } : Room) (WQc D cA ad [.ref (ad 27), .int a1] σ0 τ0) (va_Qi (fun (r : Int32) (u : SS) => P_X7_readOne_d2 σ0 τ0 a1 b N mo q nn nm hc r u.1 u.2) (WB D cA ad) (AA ad)) 0 0 (AA ad) := by
  refine Met.ofW (cc := cX7_readOne) (maxL := 3) (ret := (some .boolean)) (by decide) rfl ?_
  intro p e s m args below meth c s₁ B hml hv
  obtain ⟨rfl, hP, hK, hN⟩ := hv
  have C : Cy p s m _ meth c cX7_readOne 3 wsX7_readOne RX7 D cA ad (some .boolean) := ⟨B.exec, B.bytes, hml, findClass_of_methodNamed B.named, atoms_spec (ws := wsX7_readOne) B.pre, hK, B.notSynchronized, B.returns, hI, hN⟩
  have hl := lv_entry ([.ref (ad 27), .int a1]) (n := 3) (Nat.le_of_ble_eq_true rfl)
  rw [lg_entry_eq]
  generalize (lg_sl ([.ref (ad 27), .int a1]) ++ List.replicate (3 - (lg_sl ([.ref (ad 27), .int a1])).length) Slot.unset).toArray = ls at hl ⊢
  have hl : lv_has ls 3 [(0, .ref (ad 27)), (1, .int a1)] := hl
  have hS : va_S (AA ad) s.heap s.heap [] := va_S.rf
  have hF : Fr L_X7_readOne_d2 σ0 σ0 := Fr.rf
  have hFL : FrL LL_X7_readOne_d2 τ0 τ0 := FrL.rf
  have gCT := gCT0
  have gWH := gWH0
  obtain ⟨hx, hb, _, hown, hts, _, hk, hr, _, _⟩ := C
  have htk := gCT.tk
  refine lv_aload_n hx hb dX7_readOne_0 rfl (lv_at hl 0 rfl) ?_
  refine fg_7_0 (k := 27) hx hb hts in_X7_readOne_7 hown hK hP (by decide) (by decide) (hts _ lk_X7_readOne_9) dX7_readOne_1 ?_
  refine fgN_8_9 (k := 1) hx hb hts in_X7_readOne_8 hown hK hP (by decide) (by decide) (hN.use nw_7_32) dX7_readOne_4 ?_
  refine lv_istore_n (lv' := [(2, .int (σ0 1 9)), (0, .ref (ad 27)), (1, .int a1)]) hx hb dX7_readOne_7 rfl hl (by decide) rfl (fun ls hl => ?_)
  refine lv_iload_n hx hb dX7_readOne_8 rfl (lv_at hl 0 rfl) ?_
  refine r_cSi (As := [.int (σ0 1 9)]) (rest := []) ⟨hx, hb, hml, hown, hts⟩ hK hP hN hS (c_X7_beginsOne l D cA ad hI σ0 τ0 hR (σ0 1 9)) (va_cwS 1 hts gX7_readOne_X7_beginsOne rfl rfl rfl (by decide +kernel) ⟨by decide, by decide⟩) rfl hl.1 rfl (Nat.le_of_ble_eq_true rfl) dX7_readOne_9 (Nat.zero_le _) (Nat.zero_le _) (fun r1 u1 H1 locs1 hp1 hP hS => ?_)
  obtain ⟨σ1, τ1⟩ := u1
  obtain ⟨hR, f1, fL1, hq1, hp1_0⟩ : P_X7_beginsOne σ0 τ0 (σ0 1 9) r1 σ1 τ1 := hp1
  have hP : va_P D vwCl (gw cA ad σ1 τ1) H1 := hP
  obtain rfl := FrL.nil fL1
  obtain rfl := Fr.nil f1
  refine r_if_ne (tgt := 24) hx hb dX7_readOne_12 (by decide) (fun c2 => ?_) (fun c2 => ?_)
  · refine lv_aload_n hx hb dX7_readOne_24 rfl (lv_at hl 1 rfl) ?_
    refine fg_7_2 (k := 27) hx hb hts in_X7_readOne_7 hown hK hP (by decide) (by decide) (hts _ lk_X7_readOne_19) dX7_readOne_25 ?_
    refine fgN_6_1 (k := 24) hx hb hts in_X7_readOne_6 hown hK hP (by decide) (by decide) (hN.use nw_7_61) dX7_readOne_28 ?_
    refine r_bipush hx hb dX7_readOne_31 (by decide) (fun z3 ez3 => ?_)
    refine r_icmp_ge (tgt := 42) hx hb dX7_readOne_33 (by decide) (fun c4 => ?_) (fun c4 => ?_)
    · refine lv_aload_n hx hb dX7_readOne_42 rfl (lv_at hl 1 rfl) ?_
      refine fg_7_0 (k := 27) hx hb hts in_X7_readOne_7 hown hK hP (by decide) (by decide) (hts _ lk_X7_readOne_9) dX7_readOne_43 ?_
      refine r_iconst hx hb dX7_readOne_46 (by decide) (fun z5 ez5 => ?_)
      refine r_cVi (k := 1) (As := [.int z5]) (rest := []) ⟨hx, hb, hml, hown, hts⟩ hK hP hN hS (c_X8_blame_v l D cA ad hI σ0 τ0 hR z5 _ _ _ _ (by omega) gCT) (cwV 1 hts gX7_readOne_X8_blame rfl rfl rfl (by decide +kernel) ⟨by decide, by decide⟩) (rv_Tape hK hP (by decide) (by decide)) rfl hl.1 rfl (Nat.le_of_ble_eq_true rfl) dX7_readOne_47 (Nat.zero_le _) (Nat.zero_le _) (fun r6 u6 H6 locs6 hp6 hP hS => ?_)
      obtain ⟨σ6, τ6⟩ := u6
      obtain ⟨hR, f6, fL6, hq6, hp6_0, hp6_1, hp6_2, gnCT⟩ : P_X8_blame_v σ0 τ0 z5 _ _ _ _ r6 σ6 τ6 := hp6
      have hP : va_P D vwCl (gw cA ad σ6 τ6) H6 := hP
      obtain rfl := FrL.nil fL6
      have hF := hF.step f6 (by decide)
      have gCT := gCT.ag (Agr.fr f6 (by decide))
      have gWH := gWH.ag (Agr.fr f6 (by decide))
      have t7 : (σ6 24 1).toInt = (σ0 24 1).toInt := congrArg Int32.toInt (f6.at 24 1 (by decide))
      have t8 : (σ6 24 2).toInt = (σ0 24 2).toInt := congrArg Int32.toInt (f6.at 24 2 (by decide))
      exact r_zret hx hb hr hK hP hS hk (by omega) dX7_readOne_50 (show P_X7_readOne_d2 σ0 τ0 a1 b N mo q nn nm hc r6 σ6 τ0 from ⟨hR, hF, hFL, by omega, by first | exact RO.ofr ((one_l (by omega) (by omega) (by omega) (by omega)).trans (lea_n (by omega) (by omega))) (by omega) ⟨gCT, by omega, by omega⟩ | (exfalso; omega) | exact RO.ofk (one_x (by omega)) (by omega) (by omega) (by omega) | exact RO.ofk (one_4 (by omega) (by omega)) (by omega) (by omega) (by omega) | (obtain ⟨f, e1, x1, x2⟩ := o1.no (by omega); exact RO.ofl ((one_n (by omega) (by omega)).trans e1) (by omega) x1 x2) | exact RO.ofr ((one_n (by omega) (by omega)).trans e1) (by omega) ⟨gCT, by omega, by omega⟩ | (obtain ⟨f, e2, x1, x2⟩ := o2.no (by omega); exact RO.ofl (by rw [one_o (by omega) (by omega), e2, bnd_l]) (by omega) x1 x2) | (obtain ⟨f, e3, x1, x2⟩ := o3.no (by omega); exact RO.ofl (by rw [one_o (by omega) (by omega), e2, bnd_r, e3, bnd_l]) (by omega) x1 x2) | exact RO.ofr (by rw [one_o (by omega) (by omega), e2, bnd_r, e3, bnd_r]) (by omega) ⟨gCT, by omega, by omega⟩ | (rw [one_l (by omega) (by omega) (by omega) (by omega)]; exact o4.map (fun s es h => ⟨h.1, h.2.1, by have h2 := h.2.2; have hl := lea_up es; omega⟩)) | (rw [one_l (by omega) (by omega) (by omega) (by omega)]; exact o5.map (fun s es h => ⟨h.1, h.2.1, by have h2 := h.2.2; have hl := lea_up es; omega⟩)), by omega, gWH⟩)
    · refine lv_iload_n hx hb dX7_readOne_36 rfl (lv_at hl 2 rfl) ?_
      refine r_bipush hx hb dX7_readOne_37 (by decide) (fun z9 ez9 => ?_)
      refine r_icmp_le (tgt := 51) hx hb dX7_readOne_39 (by decide) (fun c10 => ?_) (fun c10 => ?_)
      · refine lv_aload_n hx hb dX7_readOne_51 rfl (lv_at hl 1 rfl) ?_
        refine fg_7_2 (k := 27) hx hb hts in_X7_readOne_7 hown hK hP (by decide) (by decide) (hts _ lk_X7_readOne_19) dX7_readOne_52 ?_
        refine lv_dup hx hb dX7_readOne_55 rfl ?_
        refine fgN_6_1 (k := 24) hx hb hts in_X7_readOne_6 hown hK hP (by decide) (by decide) (hN.use nw_7_61) dX7_readOne_56 ?_
        refine r_iconst hx hb dX7_readOne_59 (by decide) (fun z11 ez11 => ?_)
        refine r_iadd hx hb dX7_readOne_60 (by omega) (fun z12 ez12 => ?_)
        refine fpN_6_1 (k := 24) hx hb hts in_X7_readOne_6 hown hK hP (by decide) (by decide) (hN.use nw_7_61) hI hR hS (by omega) dX7_readOne_61 (fun σ13 H13 locs13 u13 v13 hR hP hS => ?_)
        have hF := hF.puts u13 4 rfl (by decide) (by decide) (by decide) (by decide)
        have gCT := gCT.ag (Agr.put u13 (by decide))
        have gWH := gWH.ag (Agr.put u13 (by decide))
        have t14 : (σ13 24 2).toInt = (σ0 24 2).toInt := congrArg Int32.toInt (u13 24 2 (by omega))
        have t15 : (σ13 1 13).toInt = (σ0 1 13).toInt := congrArg Int32.toInt (u13 1 13 (by omega))
        refine lv_aload_n hx hb dX7_readOne_64 rfl (lv_at hl 1 rfl) ?_
        refine fg_7_0 (k := 27) hx hb hts in_X7_readOne_7 hown hK hP (by decide) (by decide) (hts _ lk_X7_readOne_9) dX7_readOne_65 ?_
        refine r_cVv (k := 1) (As := []) (rest := []) ⟨hx, hb, hml, hown, hts⟩ hK hP hN hS (c_X8_next_v l D cA ad hI σ13 τ0 hR _ _ _ _ gCT) (cwV 0 hts gX7_readOne_X8_next rfl rfl rfl (by decide +kernel) ⟨by decide, by decide⟩) (rv_Tape hK hP (by decide) (by decide)) rfl hl.1 rfl (Nat.le_of_ble_eq_true rfl) dX7_readOne_68 (Nat.zero_le _) (Nat.zero_le _) (fun u16 H16 locs16 hp16 hP hS => ?_)
        obtain ⟨σ16, τ16⟩ := u16
        obtain ⟨hR, f16, fL16, hp16_0⟩ : P_X8_next_v σ13 τ0 _ _ _ _ σ16 τ16 := hp16
        have hP : va_P D vwCl (gw cA ad σ16 τ16) H16 := hP
        have hFL := hFL.step fL16 (by decide)
        have gWH := gWH.agL (AgrL.fr fL16 (by decide))
        have hF := hF.step f16 (by decide)
        have gWH := gWH.ag (Agr.fr f16 (by decide))
        have t17 : (σ16 24 2).toInt = (σ13 24 2).toInt := congrArg Int32.toInt (f16.at 24 2 (by decide))
        have t18 : (σ16 1 13).toInt = (σ13 1 13).toInt := congrArg Int32.toInt (f16.at 1 13 (by decide))
        have t19 : (σ16 24 1).toInt = (σ13 24 1).toInt := congrArg Int32.toInt (f16.at 24 1 (by decide))
        have gCT := hp16_0
        refine lv_iload_n hx hb dX7_readOne_71 rfl (lv_at hl 0 rfl) ?_
        by_cases c20 : (σ0 1 9).toInt = 22
        · refine lv_tableIn (off := 108) (tgt := 180) hx hb dX7_readOne_72 (by omega) (by omega) (by rw [c20]; rfl) (by decide) ?_
          refine lv_aload_n hx hb dX7_readOne_180 rfl (lv_at hl 1 rfl) ?_
          refine lv_iload_n hx hb dX7_readOne_181 rfl (lv_at hl 2 rfl) ?_
          refine r_iconst hx hb dX7_readOne_182 (by decide) (fun z21 ez21 => ?_)
          refine r_iadd hx hb dX7_readOne_183 (by omega) (fun z22 ez22 => ?_)
          refine r_cVi (k := 27) (As := [.int z22]) (rest := []) ⟨hx, hb, hml, hown, hts⟩ hK hP hN hS (c_X7_readOne_d3 l D cA ad hI σ16 τ16 hR z22 b N mo _ (nn + 1) nm hc (by omega) (by omega) (by omega) (by omega) gCT gWH) (cwV 1 hts gX7_readOne_X7_readOne rfl rfl rfl (by decide +kernel) ⟨by decide, by decide⟩) (rv_SText hK hP (by decide) (by decide)) rfl hl.1 rfl (Nat.le_of_ble_eq_true rfl) dX7_readOne_184 (Nat.zero_le _) (Nat.zero_le _) (fun r23 u23 H23 locs23 hp23 hP hS => ?_)
          obtain ⟨σ23, τ23⟩ := u23
          obtain ⟨hR, f23, fL23, hq23, hp23_0, hp23_1, gnWH⟩ : P_X7_readOne_d3 σ16 τ16 z22 b N mo _ (nn + 1) nm hc r23 σ23 τ23 := hp23
          have o1 := hp23_0
          have hP : va_P D vwCl (gw cA ad σ23 τ23) H23 := hP
          have hFL := hFL.step fL23 (by decide)
          have gWH := gWH.agL (AgrL.fr fL23 (by decide))
          have hF := hF.step f23 (by decide)
          have gWH := gWH.ag (Agr.fr f23 (by decide))
          have hr24 := rg_6_1 hR (k := 24) (by decide) (by decide)
          have hr25 := rg_6_2 hR (k := 24) (by decide) (by decide)
          refine r_if_eq (tgt := 208) hx hb dX7_readOne_187 (by decide) (fun c26 => ?_) (fun c26 => ?_)
          · clear hp23_1
            refine r_iconst hx hb dX7_readOne_208 (by decide) (fun z27 ez27 => ?_)
            exact r_zret hx hb hr hK hP hS hk (by omega) dX7_readOne_209 (show P_X7_readOne_d2 σ0 τ0 a1 b N mo q nn nm hc z27 σ23 τ23 from ⟨hR, hF, hFL, by omega, by first | exact RO.ofr ((one_l (by omega) (by omega) (by omega) (by omega)).trans (lea_n (by omega) (by omega))) (by omega) ⟨gCT, by omega, by omega⟩ | (exfalso; omega) | exact RO.ofk (one_x (by omega)) (by omega) (by omega) (by omega) | exact RO.ofk (one_4 (by omega) (by omega)) (by omega) (by omega) (by omega) | (obtain ⟨f, e1, x1, x2⟩ := o1.no (by omega); exact RO.ofl ((one_n (by omega) (by omega)).trans e1) (by omega) x1 x2) | exact RO.ofr ((one_n (by omega) (by omega)).trans e1) (by omega) ⟨gCT, by omega, by omega⟩ | (obtain ⟨f, e2, x1, x2⟩ := o2.no (by omega); exact RO.ofl (by rw [one_o (by omega) (by omega), e2, bnd_l]) (by omega) x1 x2) | (obtain ⟨f, e3, x1, x2⟩ := o3.no (by omega); exact RO.ofl (by rw [one_o (by omega) (by omega), e2, bnd_r, e3, bnd_l]) (by omega) x1 x2) | exact RO.ofr (by rw [one_o (by omega) (by omega), e2, bnd_r, e3, bnd_r]) (by omega) ⟨gCT, by omega, by omega⟩ | (rw [one_l (by omega) (by omega) (by omega) (by omega)]; exact o4.map (fun s es h => ⟨h.1, h.2.1, by have h2 := h.2.2; have hl := lea_up es; omega⟩)) | (rw [one_l (by omega) (by omega) (by omega) (by omega)]; exact o5.map (fun s es h => ⟨h.1, h.2.1, by have h2 := h.2.2; have hl := lea_up es; omega⟩)), by omega, gWH⟩)
          · replace hp23_1 := hp23_1.resolve_left (by omega)
            obtain ⟨s1, e1, gCT, hs1, hs2⟩ := o1.ye (by omega)
            have hu1 := one_up _ _ _ _ e1
            refine lv_aload_n hx hb dX7_readOne_190 rfl (lv_at hl 1 rfl) ?_
            refine fg_7_2 (k := 27) hx hb hts in_X7_readOne_7 hown hK hP (by decide) (by decide) (hts _ lk_X7_readOne_19) dX7_readOne_191 ?_
            refine r_bipush hx hb dX7_readOne_194 (by decide) (fun z28 ez28 => ?_)
            refine r_iconst hx hb dX7_readOne_196 (by decide) (fun z29 ez29 => ?_)
            refine r_iconst hx hb dX7_readOne_197 (by decide) (fun z30 ez30 => ?_)
            refine r_cVi (k := 24) (As := [.int z28, .int z29, .int z30]) (rest := []) ⟨hx, hb, hml, hown, hts⟩ hK hP hN hS (c_X6_add l D cA ad hI σ23 τ23 hR z28 z29 z30 (by omega)) (cwV 3 hts gX7_readOne_X6_add rfl rfl rfl (by decide +kernel) ⟨by decide, by decide⟩) (rv_Sent hK hP (by decide) (by decide)) rfl hl.1 rfl (Nat.le_of_ble_eq_true rfl) dX7_readOne_198 (Nat.zero_le _) (Nat.zero_le _) (fun r31 u31 H31 locs31 hp31 hP hS => ?_)
            obtain ⟨σ31, τ31⟩ := u31
            obtain ⟨hR, f31, fL31, hq31, hp31_0⟩ : P_X6_add σ23 τ23 z28 z29 z30 r31 σ31 τ31 := hp31
            have hP : va_P D vwCl (gw cA ad σ31 τ31) H31 := hP
            obtain rfl := FrL.nil fL31
            have hF := hF.step f31 (by decide)
            have gCT := gCT.ag (Agr.fr f31 (by decide))
            have gWH := gWH.ag (Agr.fr f31 (by decide))
            have t32 : (σ31 24 1).toInt = (σ23 24 1).toInt := congrArg Int32.toInt (f31.at 24 1 (by decide))
            have t33 : (σ31 1 13).toInt = (σ23 1 13).toInt := congrArg Int32.toInt (f31.at 1 13 (by decide))
            have hr34 := rg_6_2 hR (k := 24) (by decide) (by decide)
            refine r_if_eq (tgt := 208) hx hb dX7_readOne_201 (by decide) (fun c35 => ?_) (fun c35 => ?_)
            · refine r_iconst hx hb dX7_readOne_208 (by decide) (fun z36 ez36 => ?_)
              exact r_zret hx hb hr hK hP hS hk (by omega) dX7_readOne_209 (show P_X7_readOne_d2 σ0 τ0 a1 b N mo q nn nm hc z36 σ31 τ23 from ⟨hR, hF, hFL, by omega, by first | exact RO.ofr ((one_l (by omega) (by omega) (by omega) (by omega)).trans (lea_n (by omega) (by omega))) (by omega) ⟨gCT, by omega, by omega⟩ | (exfalso; omega) | exact RO.ofk (one_x (by omega)) (by omega) (by omega) (by omega) | exact RO.ofk (one_4 (by omega) (by omega)) (by omega) (by omega) (by omega) | (obtain ⟨f, e1, x1, x2⟩ := o1.no (by omega); exact RO.ofl ((one_n (by omega) (by omega)).trans e1) (by omega) x1 x2) | exact RO.ofr ((one_n (by omega) (by omega)).trans e1) (by omega) ⟨gCT, by omega, by omega⟩ | (obtain ⟨f, e2, x1, x2⟩ := o2.no (by omega); exact RO.ofl (by rw [one_o (by omega) (by omega), e2, bnd_l]) (by omega) x1 x2) | (obtain ⟨f, e3, x1, x2⟩ := o3.no (by omega); exact RO.ofl (by rw [one_o (by omega) (by omega), e2, bnd_r, e3, bnd_l]) (by omega) x1 x2) | exact RO.ofr (by rw [one_o (by omega) (by omega), e2, bnd_r, e3, bnd_r]) (by omega) ⟨gCT, by omega, by omega⟩ | (rw [one_l (by omega) (by omega) (by omega) (by omega)]; exact o4.map (fun s es h => ⟨h.1, h.2.1, by have h2 := h.2.2; have hl := lea_up es; omega⟩)) | (rw [one_l (by omega) (by omega) (by omega) (by omega)]; exact o5.map (fun s es h => ⟨h.1, h.2.1, by have h2 := h.2.2; have hl := lea_up es; omega⟩)), by omega, gWH⟩)
            · refine r_iconst hx hb dX7_readOne_204 (by decide) (fun z37 ez37 => ?_)
              refine lv_goto (tgt := 209) hx hb dX7_readOne_205 (by decide) ?_
              exact r_zret hx hb hr hK hP hS hk (by omega) dX7_readOne_209 (show P_X7_readOne_d2 σ0 τ0 a1 b N mo q nn nm hc z37 σ31 τ23 from ⟨hR, hF, hFL, by omega, by first | exact RO.ofr ((one_l (by omega) (by omega) (by omega) (by omega)).trans (lea_n (by omega) (by omega))) (by omega) ⟨gCT, by omega, by omega⟩ | (exfalso; omega) | exact RO.ofk (one_x (by omega)) (by omega) (by omega) (by omega) | exact RO.ofk (one_4 (by omega) (by omega)) (by omega) (by omega) (by omega) | (obtain ⟨f, e1, x1, x2⟩ := o1.no (by omega); exact RO.ofl ((one_n (by omega) (by omega)).trans e1) (by omega) x1 x2) | exact RO.ofr ((one_n (by omega) (by omega)).trans e1) (by omega) ⟨gCT, by omega, by omega⟩ | (obtain ⟨f, e2, x1, x2⟩ := o2.no (by omega); exact RO.ofl (by rw [one_o (by omega) (by omega), e2, bnd_l]) (by omega) x1 x2) | (obtain ⟨f, e3, x1, x2⟩ := o3.no (by omega); exact RO.ofl (by rw [one_o (by omega) (by omega), e2, bnd_r, e3, bnd_l]) (by omega) x1 x2) | exact RO.ofr (by rw [one_o (by omega) (by omega), e2, bnd_r, e3, bnd_r]) (by omega) ⟨gCT, by omega, by omega⟩ | (rw [one_l (by omega) (by omega) (by omega) (by omega)]; exact o4.map (fun s es h => ⟨h.1, h.2.1, by have h2 := h.2.2; have hl := lea_up es; omega⟩)) | (rw [one_l (by omega) (by omega) (by omega) (by omega)]; exact o5.map (fun s es h => ⟨h.1, h.2.1, by have h2 := h.2.2; have hl := lea_up es; omega⟩)), by omega, gWH⟩)
        by_cases c38 : (σ0 1 9).toInt = 23
        · refine lv_tableIn (off := 177) (tgt := 249) hx hb dX7_readOne_72 (by omega) (by omega) (by rw [c38]; rfl) (by decide) ?_
          refine lv_aload_n hx hb dX7_readOne_249 rfl (lv_at hl 1 rfl) ?_
          refine fg_7_2 (k := 27) hx hb hts in_X7_readOne_7 hown hK hP (by decide) (by decide) (hts _ lk_X7_readOne_19) dX7_readOne_250 ?_
          refine lv_iload_n hx hb dX7_readOne_253 rfl (lv_at hl 0 rfl) ?_
          refine r_bipush hx hb dX7_readOne_254 (by decide) (fun z39 ez39 => ?_)
          refine r_iconst hx hb dX7_readOne_256 (by decide) (fun z40 ez40 => ?_)
          refine r_cVi (k := 24) (As := [.int (σ0 1 9), .int z39, .int z40]) (rest := []) ⟨hx, hb, hml, hown, hts⟩ hK hP hN hS (c_X6_add l D cA ad hI σ16 τ16 hR (σ0 1 9) z39 z40 (by omega)) (cwV 3 hts gX7_readOne_X6_add rfl rfl rfl (by decide +kernel) ⟨by decide, by decide⟩) (rv_Sent hK hP (by decide) (by decide)) rfl hl.1 rfl (Nat.le_of_ble_eq_true rfl) dX7_readOne_257 (Nat.zero_le _) (Nat.zero_le _) (fun r41 u41 H41 locs41 hp41 hP hS => ?_)
          obtain ⟨σ41, τ41⟩ := u41
          obtain ⟨hR, f41, fL41, hq41, hp41_0⟩ : P_X6_add σ16 τ16 (σ0 1 9) z39 z40 r41 σ41 τ41 := hp41
          have hP : va_P D vwCl (gw cA ad σ41 τ41) H41 := hP
          obtain rfl := FrL.nil fL41
          have hF := hF.step f41 (by decide)
          have gCT := gCT.ag (Agr.fr f41 (by decide))
          have gWH := gWH.ag (Agr.fr f41 (by decide))
          have t42 : (σ41 1 13).toInt = (σ16 1 13).toInt := congrArg Int32.toInt (f41.at 1 13 (by decide))
          have t43 : (σ41 24 1).toInt = (σ16 24 1).toInt := congrArg Int32.toInt (f41.at 24 1 (by decide))
          have hr44 := rg_6_2 hR (k := 24) (by decide) (by decide)
          exact r_zret hx hb hr hK hP hS hk (by omega) dX7_readOne_260 (show P_X7_readOne_d2 σ0 τ0 a1 b N mo q nn nm hc r41 σ41 τ16 from ⟨hR, hF, hFL, by omega, by first | exact RO.ofr ((one_l (by omega) (by omega) (by omega) (by omega)).trans (lea_n (by omega) (by omega))) (by omega) ⟨gCT, by omega, by omega⟩ | (exfalso; omega) | exact RO.ofk (one_x (by omega)) (by omega) (by omega) (by omega) | exact RO.ofk (one_4 (by omega) (by omega)) (by omega) (by omega) (by omega) | (obtain ⟨f, e1, x1, x2⟩ := o1.no (by omega); exact RO.ofl ((one_n (by omega) (by omega)).trans e1) (by omega) x1 x2) | exact RO.ofr ((one_n (by omega) (by omega)).trans e1) (by omega) ⟨gCT, by omega, by omega⟩ | (obtain ⟨f, e2, x1, x2⟩ := o2.no (by omega); exact RO.ofl (by rw [one_o (by omega) (by omega), e2, bnd_l]) (by omega) x1 x2) | (obtain ⟨f, e3, x1, x2⟩ := o3.no (by omega); exact RO.ofl (by rw [one_o (by omega) (by omega), e2, bnd_r, e3, bnd_l]) (by omega) x1 x2) | exact RO.ofr (by rw [one_o (by omega) (by omega), e2, bnd_r, e3, bnd_r]) (by omega) ⟨gCT, by omega, by omega⟩ | (rw [one_l (by omega) (by omega) (by omega) (by omega)]; exact o4.map (fun s es h => ⟨h.1, h.2.1, by have h2 := h.2.2; have hl := lea_up es; omega⟩)) | (rw [one_l (by omega) (by omega) (by omega) (by omega)]; exact o5.map (fun s es h => ⟨h.1, h.2.1, by have h2 := h.2.2; have hl := lea_up es; omega⟩)), by omega, gWH⟩)
        by_cases c45 : (σ0 1 9).toInt = 24
        · refine lv_tableIn (off := 177) (tgt := 249) hx hb dX7_readOne_72 (by omega) (by omega) (by rw [c45]; rfl) (by decide) ?_
          refine lv_aload_n hx hb dX7_readOne_249 rfl (lv_at hl 1 rfl) ?_
          refine fg_7_2 (k := 27) hx hb hts in_X7_readOne_7 hown hK hP (by decide) (by decide) (hts _ lk_X7_readOne_19) dX7_readOne_250 ?_
          refine lv_iload_n hx hb dX7_readOne_253 rfl (lv_at hl 0 rfl) ?_
          refine r_bipush hx hb dX7_readOne_254 (by decide) (fun z46 ez46 => ?_)
          refine r_iconst hx hb dX7_readOne_256 (by decide) (fun z47 ez47 => ?_)
          refine r_cVi (k := 24) (As := [.int (σ0 1 9), .int z46, .int z47]) (rest := []) ⟨hx, hb, hml, hown, hts⟩ hK hP hN hS (c_X6_add l D cA ad hI σ16 τ16 hR (σ0 1 9) z46 z47 (by omega)) (cwV 3 hts gX7_readOne_X6_add rfl rfl rfl (by decide +kernel) ⟨by decide, by decide⟩) (rv_Sent hK hP (by decide) (by decide)) rfl hl.1 rfl (Nat.le_of_ble_eq_true rfl) dX7_readOne_257 (Nat.zero_le _) (Nat.zero_le _) (fun r48 u48 H48 locs48 hp48 hP hS => ?_)
          obtain ⟨σ48, τ48⟩ := u48
          obtain ⟨hR, f48, fL48, hq48, hp48_0⟩ : P_X6_add σ16 τ16 (σ0 1 9) z46 z47 r48 σ48 τ48 := hp48
          have hP : va_P D vwCl (gw cA ad σ48 τ48) H48 := hP
          obtain rfl := FrL.nil fL48
          have hF := hF.step f48 (by decide)
          have gCT := gCT.ag (Agr.fr f48 (by decide))
          have gWH := gWH.ag (Agr.fr f48 (by decide))
          have t49 : (σ48 1 13).toInt = (σ16 1 13).toInt := congrArg Int32.toInt (f48.at 1 13 (by decide))
          have t50 : (σ48 24 1).toInt = (σ16 24 1).toInt := congrArg Int32.toInt (f48.at 24 1 (by decide))
          have hr51 := rg_6_2 hR (k := 24) (by decide) (by decide)
          exact r_zret hx hb hr hK hP hS hk (by omega) dX7_readOne_260 (show P_X7_readOne_d2 σ0 τ0 a1 b N mo q nn nm hc r48 σ48 τ16 from ⟨hR, hF, hFL, by omega, by first | exact RO.ofr ((one_l (by omega) (by omega) (by omega) (by omega)).trans (lea_n (by omega) (by omega))) (by omega) ⟨gCT, by omega, by omega⟩ | (exfalso; omega) | exact RO.ofk (one_x (by omega)) (by omega) (by omega) (by omega) | exact RO.ofk (one_4 (by omega) (by omega)) (by omega) (by omega) (by omega) | (obtain ⟨f, e1, x1, x2⟩ := o1.no (by omega); exact RO.ofl ((one_n (by omega) (by omega)).trans e1) (by omega) x1 x2) | exact RO.ofr ((one_n (by omega) (by omega)).trans e1) (by omega) ⟨gCT, by omega, by omega⟩ | (obtain ⟨f, e2, x1, x2⟩ := o2.no (by omega); exact RO.ofl (by rw [one_o (by omega) (by omega), e2, bnd_l]) (by omega) x1 x2) | (obtain ⟨f, e3, x1, x2⟩ := o3.no (by omega); exact RO.ofl (by rw [one_o (by omega) (by omega), e2, bnd_r, e3, bnd_l]) (by omega) x1 x2) | exact RO.ofr (by rw [one_o (by omega) (by omega), e2, bnd_r, e3, bnd_r]) (by omega) ⟨gCT, by omega, by omega⟩ | (rw [one_l (by omega) (by omega) (by omega) (by omega)]; exact o4.map (fun s es h => ⟨h.1, h.2.1, by have h2 := h.2.2; have hl := lea_up es; omega⟩)) | (rw [one_l (by omega) (by omega) (by omega) (by omega)]; exact o5.map (fun s es h => ⟨h.1, h.2.1, by have h2 := h.2.2; have hl := lea_up es; omega⟩)), by omega, gWH⟩)
        by_cases c52 : (σ0 1 9).toInt = 25
        · refine lv_tableIn (off := 166) (tgt := 238) hx hb dX7_readOne_72 (by omega) (by omega) (by rw [c52]; rfl) (by decide) ?_
          refine lv_aload_n hx hb dX7_readOne_238 rfl (lv_at hl 1 rfl) ?_
          refine r_cVi (k := 27) (As := []) (rest := []) ⟨hx, hb, hml, hown, hts⟩ hK hP hN hS (c_X7_readOn l D cA ad hI σ16 τ16 hR b N mo _ (nn + 1) nm hc (tkq b N mo q) (by omega) (by omega) (by omega) gCT gWH) (cwV 0 hts gX7_readOne_X7_readOn rfl rfl rfl (by decide +kernel) ⟨by decide, by decide⟩) (rv_SText hK hP (by decide) (by decide)) rfl hl.1 rfl (Nat.le_of_ble_eq_true rfl) dX7_readOne_239 (Nat.zero_le _) (Nat.zero_le _) (fun r53 u53 H53 locs53 hp53 hP hS => ?_)
          obtain ⟨σ53, τ53⟩ := u53
          obtain ⟨hR, f53, fL53, hq53, hp53_0, hp53_1, gnWH⟩ : P_X7_readOn σ16 τ16 b N mo _ (nn + 1) nm hc (tkq b N mo q) r53 σ53 τ53 := hp53
          have o4 := hp53_0
          have hP : va_P D vwCl (gw cA ad σ53 τ53) H53 := hP
          have hFL := hFL.step fL53 (by decide)
          have gWH := gWH.agL (AgrL.fr fL53 (by decide))
          have hF := hF.step f53 (by decide)
          have gWH := gWH.ag (Agr.fr f53 (by decide))
          have t54 : (σ53 24 1).toInt = (σ16 24 1).toInt := congrArg Int32.toInt (f53.at 24 1 (by decide))
          have hr55 := rg_6_2 hR (k := 24) (by decide) (by decide)
          exact r_zret hx hb hr hK hP hS hk (by omega) dX7_readOne_242 (show P_X7_readOne_d2 σ0 τ0 a1 b N mo q nn nm hc r53 σ53 τ53 from ⟨hR, hF, hFL, by omega, by first | exact RO.ofr ((one_l (by omega) (by omega) (by omega) (by omega)).trans (lea_n (by omega) (by omega))) (by omega) ⟨gCT, by omega, by omega⟩ | (exfalso; omega) | exact RO.ofk (one_x (by omega)) (by omega) (by omega) (by omega) | exact RO.ofk (one_4 (by omega) (by omega)) (by omega) (by omega) (by omega) | (obtain ⟨f, e1, x1, x2⟩ := o1.no (by omega); exact RO.ofl ((one_n (by omega) (by omega)).trans e1) (by omega) x1 x2) | exact RO.ofr ((one_n (by omega) (by omega)).trans e1) (by omega) ⟨gCT, by omega, by omega⟩ | (obtain ⟨f, e2, x1, x2⟩ := o2.no (by omega); exact RO.ofl (by rw [one_o (by omega) (by omega), e2, bnd_l]) (by omega) x1 x2) | (obtain ⟨f, e3, x1, x2⟩ := o3.no (by omega); exact RO.ofl (by rw [one_o (by omega) (by omega), e2, bnd_r, e3, bnd_l]) (by omega) x1 x2) | exact RO.ofr (by rw [one_o (by omega) (by omega), e2, bnd_r, e3, bnd_r]) (by omega) ⟨gCT, by omega, by omega⟩ | (rw [one_l (by omega) (by omega) (by omega) (by omega)]; exact o4.map (fun s es h => ⟨h.1, h.2.1, by have h2 := h.2.2; have hl := lea_up es; omega⟩)) | (rw [one_l (by omega) (by omega) (by omega) (by omega)]; exact o5.map (fun s es h => ⟨h.1, h.2.1, by have h2 := h.2.2; have hl := lea_up es; omega⟩)), by omega, gWH⟩)
        by_cases c56 : (σ0 1 9).toInt = 26
        · refine lv_tableIn (off := 177) (tgt := 249) hx hb dX7_readOne_72 (by omega) (by omega) (by rw [c56]; rfl) (by decide) ?_
          refine lv_aload_n hx hb dX7_readOne_249 rfl (lv_at hl 1 rfl) ?_
          refine fg_7_2 (k := 27) hx hb hts in_X7_readOne_7 hown hK hP (by decide) (by decide) (hts _ lk_X7_readOne_19) dX7_readOne_250 ?_
          refine lv_iload_n hx hb dX7_readOne_253 rfl (lv_at hl 0 rfl) ?_
          refine r_bipush hx hb dX7_readOne_254 (by decide) (fun z57 ez57 => ?_)
          refine r_iconst hx hb dX7_readOne_256 (by decide) (fun z58 ez58 => ?_)
          refine r_cVi (k := 24) (As := [.int (σ0 1 9), .int z57, .int z58]) (rest := []) ⟨hx, hb, hml, hown, hts⟩ hK hP hN hS (c_X6_add l D cA ad hI σ16 τ16 hR (σ0 1 9) z57 z58 (by omega)) (cwV 3 hts gX7_readOne_X6_add rfl rfl rfl (by decide +kernel) ⟨by decide, by decide⟩) (rv_Sent hK hP (by decide) (by decide)) rfl hl.1 rfl (Nat.le_of_ble_eq_true rfl) dX7_readOne_257 (Nat.zero_le _) (Nat.zero_le _) (fun r59 u59 H59 locs59 hp59 hP hS => ?_)
          obtain ⟨σ59, τ59⟩ := u59
          obtain ⟨hR, f59, fL59, hq59, hp59_0⟩ : P_X6_add σ16 τ16 (σ0 1 9) z57 z58 r59 σ59 τ59 := hp59
          have hP : va_P D vwCl (gw cA ad σ59 τ59) H59 := hP
          obtain rfl := FrL.nil fL59
          have hF := hF.step f59 (by decide)
          have gCT := gCT.ag (Agr.fr f59 (by decide))
          have gWH := gWH.ag (Agr.fr f59 (by decide))
          have t60 : (σ59 1 13).toInt = (σ16 1 13).toInt := congrArg Int32.toInt (f59.at 1 13 (by decide))
          have t61 : (σ59 24 1).toInt = (σ16 24 1).toInt := congrArg Int32.toInt (f59.at 24 1 (by decide))
          have hr62 := rg_6_2 hR (k := 24) (by decide) (by decide)
          exact r_zret hx hb hr hK hP hS hk (by omega) dX7_readOne_260 (show P_X7_readOne_d2 σ0 τ0 a1 b N mo q nn nm hc r59 σ59 τ16 from ⟨hR, hF, hFL, by omega, by first | exact RO.ofr ((one_l (by omega) (by omega) (by omega) (by omega)).trans (lea_n (by omega) (by omega))) (by omega) ⟨gCT, by omega, by omega⟩ | (exfalso; omega) | exact RO.ofk (one_x (by omega)) (by omega) (by omega) (by omega) | exact RO.ofk (one_4 (by omega) (by omega)) (by omega) (by omega) (by omega) | (obtain ⟨f, e1, x1, x2⟩ := o1.no (by omega); exact RO.ofl ((one_n (by omega) (by omega)).trans e1) (by omega) x1 x2) | exact RO.ofr ((one_n (by omega) (by omega)).trans e1) (by omega) ⟨gCT, by omega, by omega⟩ | (obtain ⟨f, e2, x1, x2⟩ := o2.no (by omega); exact RO.ofl (by rw [one_o (by omega) (by omega), e2, bnd_l]) (by omega) x1 x2) | (obtain ⟨f, e3, x1, x2⟩ := o3.no (by omega); exact RO.ofl (by rw [one_o (by omega) (by omega), e2, bnd_r, e3, bnd_l]) (by omega) x1 x2) | exact RO.ofr (by rw [one_o (by omega) (by omega), e2, bnd_r, e3, bnd_r]) (by omega) ⟨gCT, by omega, by omega⟩ | (rw [one_l (by omega) (by omega) (by omega) (by omega)]; exact o4.map (fun s es h => ⟨h.1, h.2.1, by have h2 := h.2.2; have hl := lea_up es; omega⟩)) | (rw [one_l (by omega) (by omega) (by omega) (by omega)]; exact o5.map (fun s es h => ⟨h.1, h.2.1, by have h2 := h.2.2; have hl := lea_up es; omega⟩)), by omega, gWH⟩)
        by_cases c63 : (σ0 1 9).toInt = 27
        · refine lv_tableIn (off := 171) (tgt := 243) hx hb dX7_readOne_72 (by omega) (by omega) (by rw [c63]; rfl) (by decide) ?_
          refine lv_aload_n hx hb dX7_readOne_243 rfl (lv_at hl 1 rfl) ?_
          refine lv_iload_n hx hb dX7_readOne_244 rfl (lv_at hl 0 rfl) ?_
          refine r_cVi (k := 27) (As := [.int (σ0 1 9)]) (rest := []) ⟨hx, hb, hml, hown, hts⟩ hK hP hN hS (c_X7_readMeasure l D cA ad hI σ16 τ16 hR (σ0 1 9) b N mo _ (nn + 1) nm hc (tkq b N mo q) (by omega) (by omega) (by omega) (by omega) gCT gWH) (cwV 1 hts gX7_readOne_X7_readMeasure rfl rfl rfl (by decide +kernel) ⟨by decide, by decide⟩) (rv_SText hK hP (by decide) (by decide)) rfl hl.1 rfl (Nat.le_of_ble_eq_true rfl) dX7_readOne_245 (Nat.zero_le _) (Nat.zero_le _) (fun r64 u64 H64 locs64 hp64 hP hS => ?_)
          obtain ⟨σ64, τ64⟩ := u64
          obtain ⟨hR, f64, fL64, hq64, hp64_0, hp64_1, gnWH⟩ : P_X7_readMeasure σ16 τ16 (σ0 1 9) b N mo _ (nn + 1) nm hc (tkq b N mo q) r64 σ64 τ64 := hp64
          have o5 := hp64_0
          have hP : va_P D vwCl (gw cA ad σ64 τ64) H64 := hP
          have hFL := hFL.step fL64 (by decide)
          have gWH := gWH.agL (AgrL.fr fL64 (by decide))
          have hF := hF.step f64 (by decide)
          have gWH := gWH.ag (Agr.fr f64 (by decide))
          have t65 : (σ64 24 1).toInt = (σ16 24 1).toInt := congrArg Int32.toInt (f64.at 24 1 (by decide))
          have hr66 := rg_6_2 hR (k := 24) (by decide) (by decide)
          exact r_zret hx hb hr hK hP hS hk (by omega) dX7_readOne_248 (show P_X7_readOne_d2 σ0 τ0 a1 b N mo q nn nm hc r64 σ64 τ64 from ⟨hR, hF, hFL, by omega, by first | exact RO.ofr ((one_l (by omega) (by omega) (by omega) (by omega)).trans (lea_n (by omega) (by omega))) (by omega) ⟨gCT, by omega, by omega⟩ | (exfalso; omega) | exact RO.ofk (one_x (by omega)) (by omega) (by omega) (by omega) | exact RO.ofk (one_4 (by omega) (by omega)) (by omega) (by omega) (by omega) | (obtain ⟨f, e1, x1, x2⟩ := o1.no (by omega); exact RO.ofl ((one_n (by omega) (by omega)).trans e1) (by omega) x1 x2) | exact RO.ofr ((one_n (by omega) (by omega)).trans e1) (by omega) ⟨gCT, by omega, by omega⟩ | (obtain ⟨f, e2, x1, x2⟩ := o2.no (by omega); exact RO.ofl (by rw [one_o (by omega) (by omega), e2, bnd_l]) (by omega) x1 x2) | (obtain ⟨f, e3, x1, x2⟩ := o3.no (by omega); exact RO.ofl (by rw [one_o (by omega) (by omega), e2, bnd_r, e3, bnd_l]) (by omega) x1 x2) | exact RO.ofr (by rw [one_o (by omega) (by omega), e2, bnd_r, e3, bnd_r]) (by omega) ⟨gCT, by omega, by omega⟩ | (rw [one_l (by omega) (by omega) (by omega) (by omega)]; exact o4.map (fun s es h => ⟨h.1, h.2.1, by have h2 := h.2.2; have hl := lea_up es; omega⟩)) | (rw [one_l (by omega) (by omega) (by omega) (by omega)]; exact o5.map (fun s es h => ⟨h.1, h.2.1, by have h2 := h.2.2; have hl := lea_up es; omega⟩)), by omega, gWH⟩)
        by_cases c67 : (σ0 1 9).toInt = 28
        · refine lv_tableIn (off := 171) (tgt := 243) hx hb dX7_readOne_72 (by omega) (by omega) (by rw [c67]; rfl) (by decide) ?_
          refine lv_aload_n hx hb dX7_readOne_243 rfl (lv_at hl 1 rfl) ?_
          refine lv_iload_n hx hb dX7_readOne_244 rfl (lv_at hl 0 rfl) ?_
          refine r_cVi (k := 27) (As := [.int (σ0 1 9)]) (rest := []) ⟨hx, hb, hml, hown, hts⟩ hK hP hN hS (c_X7_readMeasure l D cA ad hI σ16 τ16 hR (σ0 1 9) b N mo _ (nn + 1) nm hc (tkq b N mo q) (by omega) (by omega) (by omega) (by omega) gCT gWH) (cwV 1 hts gX7_readOne_X7_readMeasure rfl rfl rfl (by decide +kernel) ⟨by decide, by decide⟩) (rv_SText hK hP (by decide) (by decide)) rfl hl.1 rfl (Nat.le_of_ble_eq_true rfl) dX7_readOne_245 (Nat.zero_le _) (Nat.zero_le _) (fun r68 u68 H68 locs68 hp68 hP hS => ?_)
          obtain ⟨σ68, τ68⟩ := u68
          obtain ⟨hR, f68, fL68, hq68, hp68_0, hp68_1, gnWH⟩ : P_X7_readMeasure σ16 τ16 (σ0 1 9) b N mo _ (nn + 1) nm hc (tkq b N mo q) r68 σ68 τ68 := hp68
          have o5 := hp68_0
          have hP : va_P D vwCl (gw cA ad σ68 τ68) H68 := hP
          have hFL := hFL.step fL68 (by decide)
          have gWH := gWH.agL (AgrL.fr fL68 (by decide))
          have hF := hF.step f68 (by decide)
          have gWH := gWH.ag (Agr.fr f68 (by decide))
          have t69 : (σ68 24 1).toInt = (σ16 24 1).toInt := congrArg Int32.toInt (f68.at 24 1 (by decide))
          have hr70 := rg_6_2 hR (k := 24) (by decide) (by decide)
          exact r_zret hx hb hr hK hP hS hk (by omega) dX7_readOne_248 (show P_X7_readOne_d2 σ0 τ0 a1 b N mo q nn nm hc r68 σ68 τ68 from ⟨hR, hF, hFL, by omega, by first | exact RO.ofr ((one_l (by omega) (by omega) (by omega) (by omega)).trans (lea_n (by omega) (by omega))) (by omega) ⟨gCT, by omega, by omega⟩ | (exfalso; omega) | exact RO.ofk (one_x (by omega)) (by omega) (by omega) (by omega) | exact RO.ofk (one_4 (by omega) (by omega)) (by omega) (by omega) (by omega) | (obtain ⟨f, e1, x1, x2⟩ := o1.no (by omega); exact RO.ofl ((one_n (by omega) (by omega)).trans e1) (by omega) x1 x2) | exact RO.ofr ((one_n (by omega) (by omega)).trans e1) (by omega) ⟨gCT, by omega, by omega⟩ | (obtain ⟨f, e2, x1, x2⟩ := o2.no (by omega); exact RO.ofl (by rw [one_o (by omega) (by omega), e2, bnd_l]) (by omega) x1 x2) | (obtain ⟨f, e3, x1, x2⟩ := o3.no (by omega); exact RO.ofl (by rw [one_o (by omega) (by omega), e2, bnd_r, e3, bnd_l]) (by omega) x1 x2) | exact RO.ofr (by rw [one_o (by omega) (by omega), e2, bnd_r, e3, bnd_r]) (by omega) ⟨gCT, by omega, by omega⟩ | (rw [one_l (by omega) (by omega) (by omega) (by omega)]; exact o4.map (fun s es h => ⟨h.1, h.2.1, by have h2 := h.2.2; have hl := lea_up es; omega⟩)) | (rw [one_l (by omega) (by omega) (by omega) (by omega)]; exact o5.map (fun s es h => ⟨h.1, h.2.1, by have h2 := h.2.2; have hl := lea_up es; omega⟩)), by omega, gWH⟩)
        by_cases c71 : (σ0 1 9).toInt = 29
        · refine lv_tableIn (off := 171) (tgt := 243) hx hb dX7_readOne_72 (by omega) (by omega) (by rw [c71]; rfl) (by decide) ?_
          refine lv_aload_n hx hb dX7_readOne_243 rfl (lv_at hl 1 rfl) ?_
          refine lv_iload_n hx hb dX7_readOne_244 rfl (lv_at hl 0 rfl) ?_
          refine r_cVi (k := 27) (As := [.int (σ0 1 9)]) (rest := []) ⟨hx, hb, hml, hown, hts⟩ hK hP hN hS (c_X7_readMeasure l D cA ad hI σ16 τ16 hR (σ0 1 9) b N mo _ (nn + 1) nm hc (tkq b N mo q) (by omega) (by omega) (by omega) (by omega) gCT gWH) (cwV 1 hts gX7_readOne_X7_readMeasure rfl rfl rfl (by decide +kernel) ⟨by decide, by decide⟩) (rv_SText hK hP (by decide) (by decide)) rfl hl.1 rfl (Nat.le_of_ble_eq_true rfl) dX7_readOne_245 (Nat.zero_le _) (Nat.zero_le _) (fun r72 u72 H72 locs72 hp72 hP hS => ?_)
          obtain ⟨σ72, τ72⟩ := u72
          obtain ⟨hR, f72, fL72, hq72, hp72_0, hp72_1, gnWH⟩ : P_X7_readMeasure σ16 τ16 (σ0 1 9) b N mo _ (nn + 1) nm hc (tkq b N mo q) r72 σ72 τ72 := hp72
          have o5 := hp72_0
          have hP : va_P D vwCl (gw cA ad σ72 τ72) H72 := hP
          have hFL := hFL.step fL72 (by decide)
          have gWH := gWH.agL (AgrL.fr fL72 (by decide))
          have hF := hF.step f72 (by decide)
          have gWH := gWH.ag (Agr.fr f72 (by decide))
          have t73 : (σ72 24 1).toInt = (σ16 24 1).toInt := congrArg Int32.toInt (f72.at 24 1 (by decide))
          have hr74 := rg_6_2 hR (k := 24) (by decide) (by decide)
          exact r_zret hx hb hr hK hP hS hk (by omega) dX7_readOne_248 (show P_X7_readOne_d2 σ0 τ0 a1 b N mo q nn nm hc r72 σ72 τ72 from ⟨hR, hF, hFL, by omega, by first | exact RO.ofr ((one_l (by omega) (by omega) (by omega) (by omega)).trans (lea_n (by omega) (by omega))) (by omega) ⟨gCT, by omega, by omega⟩ | (exfalso; omega) | exact RO.ofk (one_x (by omega)) (by omega) (by omega) (by omega) | exact RO.ofk (one_4 (by omega) (by omega)) (by omega) (by omega) (by omega) | (obtain ⟨f, e1, x1, x2⟩ := o1.no (by omega); exact RO.ofl ((one_n (by omega) (by omega)).trans e1) (by omega) x1 x2) | exact RO.ofr ((one_n (by omega) (by omega)).trans e1) (by omega) ⟨gCT, by omega, by omega⟩ | (obtain ⟨f, e2, x1, x2⟩ := o2.no (by omega); exact RO.ofl (by rw [one_o (by omega) (by omega), e2, bnd_l]) (by omega) x1 x2) | (obtain ⟨f, e3, x1, x2⟩ := o3.no (by omega); exact RO.ofl (by rw [one_o (by omega) (by omega), e2, bnd_r, e3, bnd_l]) (by omega) x1 x2) | exact RO.ofr (by rw [one_o (by omega) (by omega), e2, bnd_r, e3, bnd_r]) (by omega) ⟨gCT, by omega, by omega⟩ | (rw [one_l (by omega) (by omega) (by omega) (by omega)]; exact o4.map (fun s es h => ⟨h.1, h.2.1, by have h2 := h.2.2; have hl := lea_up es; omega⟩)) | (rw [one_l (by omega) (by omega) (by omega) (by omega)]; exact o5.map (fun s es h => ⟨h.1, h.2.1, by have h2 := h.2.2; have hl := lea_up es; omega⟩)), by omega, gWH⟩)
        by_cases c75 : (σ0 1 9).toInt = 30
        · refine lv_tableIn (off := 171) (tgt := 243) hx hb dX7_readOne_72 (by omega) (by omega) (by rw [c75]; rfl) (by decide) ?_
          refine lv_aload_n hx hb dX7_readOne_243 rfl (lv_at hl 1 rfl) ?_
          refine lv_iload_n hx hb dX7_readOne_244 rfl (lv_at hl 0 rfl) ?_
          refine r_cVi (k := 27) (As := [.int (σ0 1 9)]) (rest := []) ⟨hx, hb, hml, hown, hts⟩ hK hP hN hS (c_X7_readMeasure l D cA ad hI σ16 τ16 hR (σ0 1 9) b N mo _ (nn + 1) nm hc (tkq b N mo q) (by omega) (by omega) (by omega) (by omega) gCT gWH) (cwV 1 hts gX7_readOne_X7_readMeasure rfl rfl rfl (by decide +kernel) ⟨by decide, by decide⟩) (rv_SText hK hP (by decide) (by decide)) rfl hl.1 rfl (Nat.le_of_ble_eq_true rfl) dX7_readOne_245 (Nat.zero_le _) (Nat.zero_le _) (fun r76 u76 H76 locs76 hp76 hP hS => ?_)
          obtain ⟨σ76, τ76⟩ := u76
          obtain ⟨hR, f76, fL76, hq76, hp76_0, hp76_1, gnWH⟩ : P_X7_readMeasure σ16 τ16 (σ0 1 9) b N mo _ (nn + 1) nm hc (tkq b N mo q) r76 σ76 τ76 := hp76
          have o5 := hp76_0
          have hP : va_P D vwCl (gw cA ad σ76 τ76) H76 := hP
          have hFL := hFL.step fL76 (by decide)
          have gWH := gWH.agL (AgrL.fr fL76 (by decide))
          have hF := hF.step f76 (by decide)
          have gWH := gWH.ag (Agr.fr f76 (by decide))
          have t77 : (σ76 24 1).toInt = (σ16 24 1).toInt := congrArg Int32.toInt (f76.at 24 1 (by decide))
          have hr78 := rg_6_2 hR (k := 24) (by decide) (by decide)
          exact r_zret hx hb hr hK hP hS hk (by omega) dX7_readOne_248 (show P_X7_readOne_d2 σ0 τ0 a1 b N mo q nn nm hc r76 σ76 τ76 from ⟨hR, hF, hFL, by omega, by first | exact RO.ofr ((one_l (by omega) (by omega) (by omega) (by omega)).trans (lea_n (by omega) (by omega))) (by omega) ⟨gCT, by omega, by omega⟩ | (exfalso; omega) | exact RO.ofk (one_x (by omega)) (by omega) (by omega) (by omega) | exact RO.ofk (one_4 (by omega) (by omega)) (by omega) (by omega) (by omega) | (obtain ⟨f, e1, x1, x2⟩ := o1.no (by omega); exact RO.ofl ((one_n (by omega) (by omega)).trans e1) (by omega) x1 x2) | exact RO.ofr ((one_n (by omega) (by omega)).trans e1) (by omega) ⟨gCT, by omega, by omega⟩ | (obtain ⟨f, e2, x1, x2⟩ := o2.no (by omega); exact RO.ofl (by rw [one_o (by omega) (by omega), e2, bnd_l]) (by omega) x1 x2) | (obtain ⟨f, e3, x1, x2⟩ := o3.no (by omega); exact RO.ofl (by rw [one_o (by omega) (by omega), e2, bnd_r, e3, bnd_l]) (by omega) x1 x2) | exact RO.ofr (by rw [one_o (by omega) (by omega), e2, bnd_r, e3, bnd_r]) (by omega) ⟨gCT, by omega, by omega⟩ | (rw [one_l (by omega) (by omega) (by omega) (by omega)]; exact o4.map (fun s es h => ⟨h.1, h.2.1, by have h2 := h.2.2; have hl := lea_up es; omega⟩)) | (rw [one_l (by omega) (by omega) (by omega) (by omega)]; exact o5.map (fun s es h => ⟨h.1, h.2.1, by have h2 := h.2.2; have hl := lea_up es; omega⟩)), by omega, gWH⟩)
        by_cases c79 : (σ0 1 9).toInt = 31
        · refine lv_tableIn (off := 177) (tgt := 249) hx hb dX7_readOne_72 (by omega) (by omega) (by rw [c79]; rfl) (by decide) ?_
          refine lv_aload_n hx hb dX7_readOne_249 rfl (lv_at hl 1 rfl) ?_
          refine fg_7_2 (k := 27) hx hb hts in_X7_readOne_7 hown hK hP (by decide) (by decide) (hts _ lk_X7_readOne_19) dX7_readOne_250 ?_
          refine lv_iload_n hx hb dX7_readOne_253 rfl (lv_at hl 0 rfl) ?_
          refine r_bipush hx hb dX7_readOne_254 (by decide) (fun z80 ez80 => ?_)
          refine r_iconst hx hb dX7_readOne_256 (by decide) (fun z81 ez81 => ?_)
          refine r_cVi (k := 24) (As := [.int (σ0 1 9), .int z80, .int z81]) (rest := []) ⟨hx, hb, hml, hown, hts⟩ hK hP hN hS (c_X6_add l D cA ad hI σ16 τ16 hR (σ0 1 9) z80 z81 (by omega)) (cwV 3 hts gX7_readOne_X6_add rfl rfl rfl (by decide +kernel) ⟨by decide, by decide⟩) (rv_Sent hK hP (by decide) (by decide)) rfl hl.1 rfl (Nat.le_of_ble_eq_true rfl) dX7_readOne_257 (Nat.zero_le _) (Nat.zero_le _) (fun r82 u82 H82 locs82 hp82 hP hS => ?_)
          obtain ⟨σ82, τ82⟩ := u82
          obtain ⟨hR, f82, fL82, hq82, hp82_0⟩ : P_X6_add σ16 τ16 (σ0 1 9) z80 z81 r82 σ82 τ82 := hp82
          have hP : va_P D vwCl (gw cA ad σ82 τ82) H82 := hP
          obtain rfl := FrL.nil fL82
          have hF := hF.step f82 (by decide)
          have gCT := gCT.ag (Agr.fr f82 (by decide))
          have gWH := gWH.ag (Agr.fr f82 (by decide))
          have t83 : (σ82 1 13).toInt = (σ16 1 13).toInt := congrArg Int32.toInt (f82.at 1 13 (by decide))
          have t84 : (σ82 24 1).toInt = (σ16 24 1).toInt := congrArg Int32.toInt (f82.at 24 1 (by decide))
          have hr85 := rg_6_2 hR (k := 24) (by decide) (by decide)
          exact r_zret hx hb hr hK hP hS hk (by omega) dX7_readOne_260 (show P_X7_readOne_d2 σ0 τ0 a1 b N mo q nn nm hc r82 σ82 τ16 from ⟨hR, hF, hFL, by omega, by first | exact RO.ofr ((one_l (by omega) (by omega) (by omega) (by omega)).trans (lea_n (by omega) (by omega))) (by omega) ⟨gCT, by omega, by omega⟩ | (exfalso; omega) | exact RO.ofk (one_x (by omega)) (by omega) (by omega) (by omega) | exact RO.ofk (one_4 (by omega) (by omega)) (by omega) (by omega) (by omega) | (obtain ⟨f, e1, x1, x2⟩ := o1.no (by omega); exact RO.ofl ((one_n (by omega) (by omega)).trans e1) (by omega) x1 x2) | exact RO.ofr ((one_n (by omega) (by omega)).trans e1) (by omega) ⟨gCT, by omega, by omega⟩ | (obtain ⟨f, e2, x1, x2⟩ := o2.no (by omega); exact RO.ofl (by rw [one_o (by omega) (by omega), e2, bnd_l]) (by omega) x1 x2) | (obtain ⟨f, e3, x1, x2⟩ := o3.no (by omega); exact RO.ofl (by rw [one_o (by omega) (by omega), e2, bnd_r, e3, bnd_l]) (by omega) x1 x2) | exact RO.ofr (by rw [one_o (by omega) (by omega), e2, bnd_r, e3, bnd_r]) (by omega) ⟨gCT, by omega, by omega⟩ | (rw [one_l (by omega) (by omega) (by omega) (by omega)]; exact o4.map (fun s es h => ⟨h.1, h.2.1, by have h2 := h.2.2; have hl := lea_up es; omega⟩)) | (rw [one_l (by omega) (by omega) (by omega) (by omega)]; exact o5.map (fun s es h => ⟨h.1, h.2.1, by have h2 := h.2.2; have hl := lea_up es; omega⟩)), by omega, gWH⟩)
        by_cases c86 : (σ0 1 9).toInt = 32
        · refine lv_tableIn (off := 177) (tgt := 249) hx hb dX7_readOne_72 (by omega) (by omega) (by rw [c86]; rfl) (by decide) ?_
          refine lv_aload_n hx hb dX7_readOne_249 rfl (lv_at hl 1 rfl) ?_
          refine fg_7_2 (k := 27) hx hb hts in_X7_readOne_7 hown hK hP (by decide) (by decide) (hts _ lk_X7_readOne_19) dX7_readOne_250 ?_
          refine lv_iload_n hx hb dX7_readOne_253 rfl (lv_at hl 0 rfl) ?_
          refine r_bipush hx hb dX7_readOne_254 (by decide) (fun z87 ez87 => ?_)
          refine r_iconst hx hb dX7_readOne_256 (by decide) (fun z88 ez88 => ?_)
          refine r_cVi (k := 24) (As := [.int (σ0 1 9), .int z87, .int z88]) (rest := []) ⟨hx, hb, hml, hown, hts⟩ hK hP hN hS (c_X6_add l D cA ad hI σ16 τ16 hR (σ0 1 9) z87 z88 (by omega)) (cwV 3 hts gX7_readOne_X6_add rfl rfl rfl (by decide +kernel) ⟨by decide, by decide⟩) (rv_Sent hK hP (by decide) (by decide)) rfl hl.1 rfl (Nat.le_of_ble_eq_true rfl) dX7_readOne_257 (Nat.zero_le _) (Nat.zero_le _) (fun r89 u89 H89 locs89 hp89 hP hS => ?_)
          obtain ⟨σ89, τ89⟩ := u89
          obtain ⟨hR, f89, fL89, hq89, hp89_0⟩ : P_X6_add σ16 τ16 (σ0 1 9) z87 z88 r89 σ89 τ89 := hp89
          have hP : va_P D vwCl (gw cA ad σ89 τ89) H89 := hP
          obtain rfl := FrL.nil fL89
          have hF := hF.step f89 (by decide)
          have gCT := gCT.ag (Agr.fr f89 (by decide))
          have gWH := gWH.ag (Agr.fr f89 (by decide))
          have t90 : (σ89 1 13).toInt = (σ16 1 13).toInt := congrArg Int32.toInt (f89.at 1 13 (by decide))
          have t91 : (σ89 24 1).toInt = (σ16 24 1).toInt := congrArg Int32.toInt (f89.at 24 1 (by decide))
          have hr92 := rg_6_2 hR (k := 24) (by decide) (by decide)
          exact r_zret hx hb hr hK hP hS hk (by omega) dX7_readOne_260 (show P_X7_readOne_d2 σ0 τ0 a1 b N mo q nn nm hc r89 σ89 τ16 from ⟨hR, hF, hFL, by omega, by first | exact RO.ofr ((one_l (by omega) (by omega) (by omega) (by omega)).trans (lea_n (by omega) (by omega))) (by omega) ⟨gCT, by omega, by omega⟩ | (exfalso; omega) | exact RO.ofk (one_x (by omega)) (by omega) (by omega) (by omega) | exact RO.ofk (one_4 (by omega) (by omega)) (by omega) (by omega) (by omega) | (obtain ⟨f, e1, x1, x2⟩ := o1.no (by omega); exact RO.ofl ((one_n (by omega) (by omega)).trans e1) (by omega) x1 x2) | exact RO.ofr ((one_n (by omega) (by omega)).trans e1) (by omega) ⟨gCT, by omega, by omega⟩ | (obtain ⟨f, e2, x1, x2⟩ := o2.no (by omega); exact RO.ofl (by rw [one_o (by omega) (by omega), e2, bnd_l]) (by omega) x1 x2) | (obtain ⟨f, e3, x1, x2⟩ := o3.no (by omega); exact RO.ofl (by rw [one_o (by omega) (by omega), e2, bnd_r, e3, bnd_l]) (by omega) x1 x2) | exact RO.ofr (by rw [one_o (by omega) (by omega), e2, bnd_r, e3, bnd_r]) (by omega) ⟨gCT, by omega, by omega⟩ | (rw [one_l (by omega) (by omega) (by omega) (by omega)]; exact o4.map (fun s es h => ⟨h.1, h.2.1, by have h2 := h.2.2; have hl := lea_up es; omega⟩)) | (rw [one_l (by omega) (by omega) (by omega) (by omega)]; exact o5.map (fun s es h => ⟨h.1, h.2.1, by have h2 := h.2.2; have hl := lea_up es; omega⟩)), by omega, gWH⟩)
        by_cases c93 : (σ0 1 9).toInt = 33
        · refine lv_tableIn (off := 177) (tgt := 249) hx hb dX7_readOne_72 (by omega) (by omega) (by rw [c93]; rfl) (by decide) ?_
          refine lv_aload_n hx hb dX7_readOne_249 rfl (lv_at hl 1 rfl) ?_
          refine fg_7_2 (k := 27) hx hb hts in_X7_readOne_7 hown hK hP (by decide) (by decide) (hts _ lk_X7_readOne_19) dX7_readOne_250 ?_
          refine lv_iload_n hx hb dX7_readOne_253 rfl (lv_at hl 0 rfl) ?_
          refine r_bipush hx hb dX7_readOne_254 (by decide) (fun z94 ez94 => ?_)
          refine r_iconst hx hb dX7_readOne_256 (by decide) (fun z95 ez95 => ?_)
          refine r_cVi (k := 24) (As := [.int (σ0 1 9), .int z94, .int z95]) (rest := []) ⟨hx, hb, hml, hown, hts⟩ hK hP hN hS (c_X6_add l D cA ad hI σ16 τ16 hR (σ0 1 9) z94 z95 (by omega)) (cwV 3 hts gX7_readOne_X6_add rfl rfl rfl (by decide +kernel) ⟨by decide, by decide⟩) (rv_Sent hK hP (by decide) (by decide)) rfl hl.1 rfl (Nat.le_of_ble_eq_true rfl) dX7_readOne_257 (Nat.zero_le _) (Nat.zero_le _) (fun r96 u96 H96 locs96 hp96 hP hS => ?_)
          obtain ⟨σ96, τ96⟩ := u96
          obtain ⟨hR, f96, fL96, hq96, hp96_0⟩ : P_X6_add σ16 τ16 (σ0 1 9) z94 z95 r96 σ96 τ96 := hp96
          have hP : va_P D vwCl (gw cA ad σ96 τ96) H96 := hP
          obtain rfl := FrL.nil fL96
          have hF := hF.step f96 (by decide)
          have gCT := gCT.ag (Agr.fr f96 (by decide))
          have gWH := gWH.ag (Agr.fr f96 (by decide))
          have t97 : (σ96 1 13).toInt = (σ16 1 13).toInt := congrArg Int32.toInt (f96.at 1 13 (by decide))
          have t98 : (σ96 24 1).toInt = (σ16 24 1).toInt := congrArg Int32.toInt (f96.at 24 1 (by decide))
          have hr99 := rg_6_2 hR (k := 24) (by decide) (by decide)
          exact r_zret hx hb hr hK hP hS hk (by omega) dX7_readOne_260 (show P_X7_readOne_d2 σ0 τ0 a1 b N mo q nn nm hc r96 σ96 τ16 from ⟨hR, hF, hFL, by omega, by first | exact RO.ofr ((one_l (by omega) (by omega) (by omega) (by omega)).trans (lea_n (by omega) (by omega))) (by omega) ⟨gCT, by omega, by omega⟩ | (exfalso; omega) | exact RO.ofk (one_x (by omega)) (by omega) (by omega) (by omega) | exact RO.ofk (one_4 (by omega) (by omega)) (by omega) (by omega) (by omega) | (obtain ⟨f, e1, x1, x2⟩ := o1.no (by omega); exact RO.ofl ((one_n (by omega) (by omega)).trans e1) (by omega) x1 x2) | exact RO.ofr ((one_n (by omega) (by omega)).trans e1) (by omega) ⟨gCT, by omega, by omega⟩ | (obtain ⟨f, e2, x1, x2⟩ := o2.no (by omega); exact RO.ofl (by rw [one_o (by omega) (by omega), e2, bnd_l]) (by omega) x1 x2) | (obtain ⟨f, e3, x1, x2⟩ := o3.no (by omega); exact RO.ofl (by rw [one_o (by omega) (by omega), e2, bnd_r, e3, bnd_l]) (by omega) x1 x2) | exact RO.ofr (by rw [one_o (by omega) (by omega), e2, bnd_r, e3, bnd_r]) (by omega) ⟨gCT, by omega, by omega⟩ | (rw [one_l (by omega) (by omega) (by omega) (by omega)]; exact o4.map (fun s es h => ⟨h.1, h.2.1, by have h2 := h.2.2; have hl := lea_up es; omega⟩)) | (rw [one_l (by omega) (by omega) (by omega) (by omega)]; exact o5.map (fun s es h => ⟨h.1, h.2.1, by have h2 := h.2.2; have hl := lea_up es; omega⟩)), by omega, gWH⟩)
        by_cases c100 : (σ0 1 9).toInt = 34
        · refine lv_tableIn (off := 177) (tgt := 249) hx hb dX7_readOne_72 (by omega) (by omega) (by rw [c100]; rfl) (by decide) ?_
          refine lv_aload_n hx hb dX7_readOne_249 rfl (lv_at hl 1 rfl) ?_
          refine fg_7_2 (k := 27) hx hb hts in_X7_readOne_7 hown hK hP (by decide) (by decide) (hts _ lk_X7_readOne_19) dX7_readOne_250 ?_
          refine lv_iload_n hx hb dX7_readOne_253 rfl (lv_at hl 0 rfl) ?_
          refine r_bipush hx hb dX7_readOne_254 (by decide) (fun z101 ez101 => ?_)
          refine r_iconst hx hb dX7_readOne_256 (by decide) (fun z102 ez102 => ?_)
          refine r_cVi (k := 24) (As := [.int (σ0 1 9), .int z101, .int z102]) (rest := []) ⟨hx, hb, hml, hown, hts⟩ hK hP hN hS (c_X6_add l D cA ad hI σ16 τ16 hR (σ0 1 9) z101 z102 (by omega)) (cwV 3 hts gX7_readOne_X6_add rfl rfl rfl (by decide +kernel) ⟨by decide, by decide⟩) (rv_Sent hK hP (by decide) (by decide)) rfl hl.1 rfl (Nat.le_of_ble_eq_true rfl) dX7_readOne_257 (Nat.zero_le _) (Nat.zero_le _) (fun r103 u103 H103 locs103 hp103 hP hS => ?_)
          obtain ⟨σ103, τ103⟩ := u103
          obtain ⟨hR, f103, fL103, hq103, hp103_0⟩ : P_X6_add σ16 τ16 (σ0 1 9) z101 z102 r103 σ103 τ103 := hp103
          have hP : va_P D vwCl (gw cA ad σ103 τ103) H103 := hP
          obtain rfl := FrL.nil fL103
          have hF := hF.step f103 (by decide)
          have gCT := gCT.ag (Agr.fr f103 (by decide))
          have gWH := gWH.ag (Agr.fr f103 (by decide))
          have t104 : (σ103 1 13).toInt = (σ16 1 13).toInt := congrArg Int32.toInt (f103.at 1 13 (by decide))
          have t105 : (σ103 24 1).toInt = (σ16 24 1).toInt := congrArg Int32.toInt (f103.at 24 1 (by decide))
          have hr106 := rg_6_2 hR (k := 24) (by decide) (by decide)
          exact r_zret hx hb hr hK hP hS hk (by omega) dX7_readOne_260 (show P_X7_readOne_d2 σ0 τ0 a1 b N mo q nn nm hc r103 σ103 τ16 from ⟨hR, hF, hFL, by omega, by first | exact RO.ofr ((one_l (by omega) (by omega) (by omega) (by omega)).trans (lea_n (by omega) (by omega))) (by omega) ⟨gCT, by omega, by omega⟩ | (exfalso; omega) | exact RO.ofk (one_x (by omega)) (by omega) (by omega) (by omega) | exact RO.ofk (one_4 (by omega) (by omega)) (by omega) (by omega) (by omega) | (obtain ⟨f, e1, x1, x2⟩ := o1.no (by omega); exact RO.ofl ((one_n (by omega) (by omega)).trans e1) (by omega) x1 x2) | exact RO.ofr ((one_n (by omega) (by omega)).trans e1) (by omega) ⟨gCT, by omega, by omega⟩ | (obtain ⟨f, e2, x1, x2⟩ := o2.no (by omega); exact RO.ofl (by rw [one_o (by omega) (by omega), e2, bnd_l]) (by omega) x1 x2) | (obtain ⟨f, e3, x1, x2⟩ := o3.no (by omega); exact RO.ofl (by rw [one_o (by omega) (by omega), e2, bnd_r, e3, bnd_l]) (by omega) x1 x2) | exact RO.ofr (by rw [one_o (by omega) (by omega), e2, bnd_r, e3, bnd_r]) (by omega) ⟨gCT, by omega, by omega⟩ | (rw [one_l (by omega) (by omega) (by omega) (by omega)]; exact o4.map (fun s es h => ⟨h.1, h.2.1, by have h2 := h.2.2; have hl := lea_up es; omega⟩)) | (rw [one_l (by omega) (by omega) (by omega) (by omega)]; exact o5.map (fun s es h => ⟨h.1, h.2.1, by have h2 := h.2.2; have hl := lea_up es; omega⟩)), by omega, gWH⟩)
        by_cases c107 : (σ0 1 9).toInt = 35
        · refine lv_tableIn (off := 177) (tgt := 249) hx hb dX7_readOne_72 (by omega) (by omega) (by rw [c107]; rfl) (by decide) ?_
          refine lv_aload_n hx hb dX7_readOne_249 rfl (lv_at hl 1 rfl) ?_
          refine fg_7_2 (k := 27) hx hb hts in_X7_readOne_7 hown hK hP (by decide) (by decide) (hts _ lk_X7_readOne_19) dX7_readOne_250 ?_
          refine lv_iload_n hx hb dX7_readOne_253 rfl (lv_at hl 0 rfl) ?_
          refine r_bipush hx hb dX7_readOne_254 (by decide) (fun z108 ez108 => ?_)
          refine r_iconst hx hb dX7_readOne_256 (by decide) (fun z109 ez109 => ?_)
          refine r_cVi (k := 24) (As := [.int (σ0 1 9), .int z108, .int z109]) (rest := []) ⟨hx, hb, hml, hown, hts⟩ hK hP hN hS (c_X6_add l D cA ad hI σ16 τ16 hR (σ0 1 9) z108 z109 (by omega)) (cwV 3 hts gX7_readOne_X6_add rfl rfl rfl (by decide +kernel) ⟨by decide, by decide⟩) (rv_Sent hK hP (by decide) (by decide)) rfl hl.1 rfl (Nat.le_of_ble_eq_true rfl) dX7_readOne_257 (Nat.zero_le _) (Nat.zero_le _) (fun r110 u110 H110 locs110 hp110 hP hS => ?_)
          obtain ⟨σ110, τ110⟩ := u110
          obtain ⟨hR, f110, fL110, hq110, hp110_0⟩ : P_X6_add σ16 τ16 (σ0 1 9) z108 z109 r110 σ110 τ110 := hp110
          have hP : va_P D vwCl (gw cA ad σ110 τ110) H110 := hP
          obtain rfl := FrL.nil fL110
          have hF := hF.step f110 (by decide)
          have gCT := gCT.ag (Agr.fr f110 (by decide))
          have gWH := gWH.ag (Agr.fr f110 (by decide))
          have t111 : (σ110 1 13).toInt = (σ16 1 13).toInt := congrArg Int32.toInt (f110.at 1 13 (by decide))
          have t112 : (σ110 24 1).toInt = (σ16 24 1).toInt := congrArg Int32.toInt (f110.at 24 1 (by decide))
          have hr113 := rg_6_2 hR (k := 24) (by decide) (by decide)
          exact r_zret hx hb hr hK hP hS hk (by omega) dX7_readOne_260 (show P_X7_readOne_d2 σ0 τ0 a1 b N mo q nn nm hc r110 σ110 τ16 from ⟨hR, hF, hFL, by omega, by first | exact RO.ofr ((one_l (by omega) (by omega) (by omega) (by omega)).trans (lea_n (by omega) (by omega))) (by omega) ⟨gCT, by omega, by omega⟩ | (exfalso; omega) | exact RO.ofk (one_x (by omega)) (by omega) (by omega) (by omega) | exact RO.ofk (one_4 (by omega) (by omega)) (by omega) (by omega) (by omega) | (obtain ⟨f, e1, x1, x2⟩ := o1.no (by omega); exact RO.ofl ((one_n (by omega) (by omega)).trans e1) (by omega) x1 x2) | exact RO.ofr ((one_n (by omega) (by omega)).trans e1) (by omega) ⟨gCT, by omega, by omega⟩ | (obtain ⟨f, e2, x1, x2⟩ := o2.no (by omega); exact RO.ofl (by rw [one_o (by omega) (by omega), e2, bnd_l]) (by omega) x1 x2) | (obtain ⟨f, e3, x1, x2⟩ := o3.no (by omega); exact RO.ofl (by rw [one_o (by omega) (by omega), e2, bnd_r, e3, bnd_l]) (by omega) x1 x2) | exact RO.ofr (by rw [one_o (by omega) (by omega), e2, bnd_r, e3, bnd_r]) (by omega) ⟨gCT, by omega, by omega⟩ | (rw [one_l (by omega) (by omega) (by omega) (by omega)]; exact o4.map (fun s es h => ⟨h.1, h.2.1, by have h2 := h.2.2; have hl := lea_up es; omega⟩)) | (rw [one_l (by omega) (by omega) (by omega) (by omega)]; exact o5.map (fun s es h => ⟨h.1, h.2.1, by have h2 := h.2.2; have hl := lea_up es; omega⟩)), by omega, gWH⟩)
        by_cases c114 : (σ0 1 9).toInt = 36
        · refine lv_tableIn (off := 177) (tgt := 249) hx hb dX7_readOne_72 (by omega) (by omega) (by rw [c114]; rfl) (by decide) ?_
          refine lv_aload_n hx hb dX7_readOne_249 rfl (lv_at hl 1 rfl) ?_
          refine fg_7_2 (k := 27) hx hb hts in_X7_readOne_7 hown hK hP (by decide) (by decide) (hts _ lk_X7_readOne_19) dX7_readOne_250 ?_
          refine lv_iload_n hx hb dX7_readOne_253 rfl (lv_at hl 0 rfl) ?_
          refine r_bipush hx hb dX7_readOne_254 (by decide) (fun z115 ez115 => ?_)
          refine r_iconst hx hb dX7_readOne_256 (by decide) (fun z116 ez116 => ?_)
          refine r_cVi (k := 24) (As := [.int (σ0 1 9), .int z115, .int z116]) (rest := []) ⟨hx, hb, hml, hown, hts⟩ hK hP hN hS (c_X6_add l D cA ad hI σ16 τ16 hR (σ0 1 9) z115 z116 (by omega)) (cwV 3 hts gX7_readOne_X6_add rfl rfl rfl (by decide +kernel) ⟨by decide, by decide⟩) (rv_Sent hK hP (by decide) (by decide)) rfl hl.1 rfl (Nat.le_of_ble_eq_true rfl) dX7_readOne_257 (Nat.zero_le _) (Nat.zero_le _) (fun r117 u117 H117 locs117 hp117 hP hS => ?_)
          obtain ⟨σ117, τ117⟩ := u117
          obtain ⟨hR, f117, fL117, hq117, hp117_0⟩ : P_X6_add σ16 τ16 (σ0 1 9) z115 z116 r117 σ117 τ117 := hp117
          have hP : va_P D vwCl (gw cA ad σ117 τ117) H117 := hP
          obtain rfl := FrL.nil fL117
          have hF := hF.step f117 (by decide)
          have gCT := gCT.ag (Agr.fr f117 (by decide))
          have gWH := gWH.ag (Agr.fr f117 (by decide))
          have t118 : (σ117 1 13).toInt = (σ16 1 13).toInt := congrArg Int32.toInt (f117.at 1 13 (by decide))
          have t119 : (σ117 24 1).toInt = (σ16 24 1).toInt := congrArg Int32.toInt (f117.at 24 1 (by decide))
          have hr120 := rg_6_2 hR (k := 24) (by decide) (by decide)
          exact r_zret hx hb hr hK hP hS hk (by omega) dX7_readOne_260 (show P_X7_readOne_d2 σ0 τ0 a1 b N mo q nn nm hc r117 σ117 τ16 from ⟨hR, hF, hFL, by omega, by first | exact RO.ofr ((one_l (by omega) (by omega) (by omega) (by omega)).trans (lea_n (by omega) (by omega))) (by omega) ⟨gCT, by omega, by omega⟩ | (exfalso; omega) | exact RO.ofk (one_x (by omega)) (by omega) (by omega) (by omega) | exact RO.ofk (one_4 (by omega) (by omega)) (by omega) (by omega) (by omega) | (obtain ⟨f, e1, x1, x2⟩ := o1.no (by omega); exact RO.ofl ((one_n (by omega) (by omega)).trans e1) (by omega) x1 x2) | exact RO.ofr ((one_n (by omega) (by omega)).trans e1) (by omega) ⟨gCT, by omega, by omega⟩ | (obtain ⟨f, e2, x1, x2⟩ := o2.no (by omega); exact RO.ofl (by rw [one_o (by omega) (by omega), e2, bnd_l]) (by omega) x1 x2) | (obtain ⟨f, e3, x1, x2⟩ := o3.no (by omega); exact RO.ofl (by rw [one_o (by omega) (by omega), e2, bnd_r, e3, bnd_l]) (by omega) x1 x2) | exact RO.ofr (by rw [one_o (by omega) (by omega), e2, bnd_r, e3, bnd_r]) (by omega) ⟨gCT, by omega, by omega⟩ | (rw [one_l (by omega) (by omega) (by omega) (by omega)]; exact o4.map (fun s es h => ⟨h.1, h.2.1, by have h2 := h.2.2; have hl := lea_up es; omega⟩)) | (rw [one_l (by omega) (by omega) (by omega) (by omega)]; exact o5.map (fun s es h => ⟨h.1, h.2.1, by have h2 := h.2.2; have hl := lea_up es; omega⟩)), by omega, gWH⟩)
        by_cases c121 : (σ0 1 9).toInt = 37
        · refine lv_tableIn (off := 177) (tgt := 249) hx hb dX7_readOne_72 (by omega) (by omega) (by rw [c121]; rfl) (by decide) ?_
          refine lv_aload_n hx hb dX7_readOne_249 rfl (lv_at hl 1 rfl) ?_
          refine fg_7_2 (k := 27) hx hb hts in_X7_readOne_7 hown hK hP (by decide) (by decide) (hts _ lk_X7_readOne_19) dX7_readOne_250 ?_
          refine lv_iload_n hx hb dX7_readOne_253 rfl (lv_at hl 0 rfl) ?_
          refine r_bipush hx hb dX7_readOne_254 (by decide) (fun z122 ez122 => ?_)
          refine r_iconst hx hb dX7_readOne_256 (by decide) (fun z123 ez123 => ?_)
          refine r_cVi (k := 24) (As := [.int (σ0 1 9), .int z122, .int z123]) (rest := []) ⟨hx, hb, hml, hown, hts⟩ hK hP hN hS (c_X6_add l D cA ad hI σ16 τ16 hR (σ0 1 9) z122 z123 (by omega)) (cwV 3 hts gX7_readOne_X6_add rfl rfl rfl (by decide +kernel) ⟨by decide, by decide⟩) (rv_Sent hK hP (by decide) (by decide)) rfl hl.1 rfl (Nat.le_of_ble_eq_true rfl) dX7_readOne_257 (Nat.zero_le _) (Nat.zero_le _) (fun r124 u124 H124 locs124 hp124 hP hS => ?_)
          obtain ⟨σ124, τ124⟩ := u124
          obtain ⟨hR, f124, fL124, hq124, hp124_0⟩ : P_X6_add σ16 τ16 (σ0 1 9) z122 z123 r124 σ124 τ124 := hp124
          have hP : va_P D vwCl (gw cA ad σ124 τ124) H124 := hP
          obtain rfl := FrL.nil fL124
          have hF := hF.step f124 (by decide)
          have gCT := gCT.ag (Agr.fr f124 (by decide))
          have gWH := gWH.ag (Agr.fr f124 (by decide))
          have t125 : (σ124 1 13).toInt = (σ16 1 13).toInt := congrArg Int32.toInt (f124.at 1 13 (by decide))
          have t126 : (σ124 24 1).toInt = (σ16 24 1).toInt := congrArg Int32.toInt (f124.at 24 1 (by decide))
          have hr127 := rg_6_2 hR (k := 24) (by decide) (by decide)
          exact r_zret hx hb hr hK hP hS hk (by omega) dX7_readOne_260 (show P_X7_readOne_d2 σ0 τ0 a1 b N mo q nn nm hc r124 σ124 τ16 from ⟨hR, hF, hFL, by omega, by first | exact RO.ofr ((one_l (by omega) (by omega) (by omega) (by omega)).trans (lea_n (by omega) (by omega))) (by omega) ⟨gCT, by omega, by omega⟩ | (exfalso; omega) | exact RO.ofk (one_x (by omega)) (by omega) (by omega) (by omega) | exact RO.ofk (one_4 (by omega) (by omega)) (by omega) (by omega) (by omega) | (obtain ⟨f, e1, x1, x2⟩ := o1.no (by omega); exact RO.ofl ((one_n (by omega) (by omega)).trans e1) (by omega) x1 x2) | exact RO.ofr ((one_n (by omega) (by omega)).trans e1) (by omega) ⟨gCT, by omega, by omega⟩ | (obtain ⟨f, e2, x1, x2⟩ := o2.no (by omega); exact RO.ofl (by rw [one_o (by omega) (by omega), e2, bnd_l]) (by omega) x1 x2) | (obtain ⟨f, e3, x1, x2⟩ := o3.no (by omega); exact RO.ofl (by rw [one_o (by omega) (by omega), e2, bnd_r, e3, bnd_l]) (by omega) x1 x2) | exact RO.ofr (by rw [one_o (by omega) (by omega), e2, bnd_r, e3, bnd_r]) (by omega) ⟨gCT, by omega, by omega⟩ | (rw [one_l (by omega) (by omega) (by omega) (by omega)]; exact o4.map (fun s es h => ⟨h.1, h.2.1, by have h2 := h.2.2; have hl := lea_up es; omega⟩)) | (rw [one_l (by omega) (by omega) (by omega) (by omega)]; exact o5.map (fun s es h => ⟨h.1, h.2.1, by have h2 := h.2.2; have hl := lea_up es; omega⟩)), by omega, gWH⟩)
        by_cases c128 : (σ0 1 9).toInt = 38
        · refine lv_tableIn (off := 177) (tgt := 249) hx hb dX7_readOne_72 (by omega) (by omega) (by rw [c128]; rfl) (by decide) ?_
          refine lv_aload_n hx hb dX7_readOne_249 rfl (lv_at hl 1 rfl) ?_
          refine fg_7_2 (k := 27) hx hb hts in_X7_readOne_7 hown hK hP (by decide) (by decide) (hts _ lk_X7_readOne_19) dX7_readOne_250 ?_
          refine lv_iload_n hx hb dX7_readOne_253 rfl (lv_at hl 0 rfl) ?_
          refine r_bipush hx hb dX7_readOne_254 (by decide) (fun z129 ez129 => ?_)
          refine r_iconst hx hb dX7_readOne_256 (by decide) (fun z130 ez130 => ?_)
          refine r_cVi (k := 24) (As := [.int (σ0 1 9), .int z129, .int z130]) (rest := []) ⟨hx, hb, hml, hown, hts⟩ hK hP hN hS (c_X6_add l D cA ad hI σ16 τ16 hR (σ0 1 9) z129 z130 (by omega)) (cwV 3 hts gX7_readOne_X6_add rfl rfl rfl (by decide +kernel) ⟨by decide, by decide⟩) (rv_Sent hK hP (by decide) (by decide)) rfl hl.1 rfl (Nat.le_of_ble_eq_true rfl) dX7_readOne_257 (Nat.zero_le _) (Nat.zero_le _) (fun r131 u131 H131 locs131 hp131 hP hS => ?_)
          obtain ⟨σ131, τ131⟩ := u131
          obtain ⟨hR, f131, fL131, hq131, hp131_0⟩ : P_X6_add σ16 τ16 (σ0 1 9) z129 z130 r131 σ131 τ131 := hp131
          have hP : va_P D vwCl (gw cA ad σ131 τ131) H131 := hP
          obtain rfl := FrL.nil fL131
          have hF := hF.step f131 (by decide)
          have gCT := gCT.ag (Agr.fr f131 (by decide))
          have gWH := gWH.ag (Agr.fr f131 (by decide))
          have t132 : (σ131 1 13).toInt = (σ16 1 13).toInt := congrArg Int32.toInt (f131.at 1 13 (by decide))
          have t133 : (σ131 24 1).toInt = (σ16 24 1).toInt := congrArg Int32.toInt (f131.at 24 1 (by decide))
          have hr134 := rg_6_2 hR (k := 24) (by decide) (by decide)
          exact r_zret hx hb hr hK hP hS hk (by omega) dX7_readOne_260 (show P_X7_readOne_d2 σ0 τ0 a1 b N mo q nn nm hc r131 σ131 τ16 from ⟨hR, hF, hFL, by omega, by first | exact RO.ofr ((one_l (by omega) (by omega) (by omega) (by omega)).trans (lea_n (by omega) (by omega))) (by omega) ⟨gCT, by omega, by omega⟩ | (exfalso; omega) | exact RO.ofk (one_x (by omega)) (by omega) (by omega) (by omega) | exact RO.ofk (one_4 (by omega) (by omega)) (by omega) (by omega) (by omega) | (obtain ⟨f, e1, x1, x2⟩ := o1.no (by omega); exact RO.ofl ((one_n (by omega) (by omega)).trans e1) (by omega) x1 x2) | exact RO.ofr ((one_n (by omega) (by omega)).trans e1) (by omega) ⟨gCT, by omega, by omega⟩ | (obtain ⟨f, e2, x1, x2⟩ := o2.no (by omega); exact RO.ofl (by rw [one_o (by omega) (by omega), e2, bnd_l]) (by omega) x1 x2) | (obtain ⟨f, e3, x1, x2⟩ := o3.no (by omega); exact RO.ofl (by rw [one_o (by omega) (by omega), e2, bnd_r, e3, bnd_l]) (by omega) x1 x2) | exact RO.ofr (by rw [one_o (by omega) (by omega), e2, bnd_r, e3, bnd_r]) (by omega) ⟨gCT, by omega, by omega⟩ | (rw [one_l (by omega) (by omega) (by omega) (by omega)]; exact o4.map (fun s es h => ⟨h.1, h.2.1, by have h2 := h.2.2; have hl := lea_up es; omega⟩)) | (rw [one_l (by omega) (by omega) (by omega) (by omega)]; exact o5.map (fun s es h => ⟨h.1, h.2.1, by have h2 := h.2.2; have hl := lea_up es; omega⟩)), by omega, gWH⟩)
        by_cases c135 : (σ0 1 9).toInt = 39
        · refine lv_tableIn (off := 177) (tgt := 249) hx hb dX7_readOne_72 (by omega) (by omega) (by rw [c135]; rfl) (by decide) ?_
          refine lv_aload_n hx hb dX7_readOne_249 rfl (lv_at hl 1 rfl) ?_
          refine fg_7_2 (k := 27) hx hb hts in_X7_readOne_7 hown hK hP (by decide) (by decide) (hts _ lk_X7_readOne_19) dX7_readOne_250 ?_
          refine lv_iload_n hx hb dX7_readOne_253 rfl (lv_at hl 0 rfl) ?_
          refine r_bipush hx hb dX7_readOne_254 (by decide) (fun z136 ez136 => ?_)
          refine r_iconst hx hb dX7_readOne_256 (by decide) (fun z137 ez137 => ?_)
          refine r_cVi (k := 24) (As := [.int (σ0 1 9), .int z136, .int z137]) (rest := []) ⟨hx, hb, hml, hown, hts⟩ hK hP hN hS (c_X6_add l D cA ad hI σ16 τ16 hR (σ0 1 9) z136 z137 (by omega)) (cwV 3 hts gX7_readOne_X6_add rfl rfl rfl (by decide +kernel) ⟨by decide, by decide⟩) (rv_Sent hK hP (by decide) (by decide)) rfl hl.1 rfl (Nat.le_of_ble_eq_true rfl) dX7_readOne_257 (Nat.zero_le _) (Nat.zero_le _) (fun r138 u138 H138 locs138 hp138 hP hS => ?_)
          obtain ⟨σ138, τ138⟩ := u138
          obtain ⟨hR, f138, fL138, hq138, hp138_0⟩ : P_X6_add σ16 τ16 (σ0 1 9) z136 z137 r138 σ138 τ138 := hp138
          have hP : va_P D vwCl (gw cA ad σ138 τ138) H138 := hP
          obtain rfl := FrL.nil fL138
          have hF := hF.step f138 (by decide)
          have gCT := gCT.ag (Agr.fr f138 (by decide))
          have gWH := gWH.ag (Agr.fr f138 (by decide))
          have t139 : (σ138 1 13).toInt = (σ16 1 13).toInt := congrArg Int32.toInt (f138.at 1 13 (by decide))
          have t140 : (σ138 24 1).toInt = (σ16 24 1).toInt := congrArg Int32.toInt (f138.at 24 1 (by decide))
          have hr141 := rg_6_2 hR (k := 24) (by decide) (by decide)
          exact r_zret hx hb hr hK hP hS hk (by omega) dX7_readOne_260 (show P_X7_readOne_d2 σ0 τ0 a1 b N mo q nn nm hc r138 σ138 τ16 from ⟨hR, hF, hFL, by omega, by first | exact RO.ofr ((one_l (by omega) (by omega) (by omega) (by omega)).trans (lea_n (by omega) (by omega))) (by omega) ⟨gCT, by omega, by omega⟩ | (exfalso; omega) | exact RO.ofk (one_x (by omega)) (by omega) (by omega) (by omega) | exact RO.ofk (one_4 (by omega) (by omega)) (by omega) (by omega) (by omega) | (obtain ⟨f, e1, x1, x2⟩ := o1.no (by omega); exact RO.ofl ((one_n (by omega) (by omega)).trans e1) (by omega) x1 x2) | exact RO.ofr ((one_n (by omega) (by omega)).trans e1) (by omega) ⟨gCT, by omega, by omega⟩ | (obtain ⟨f, e2, x1, x2⟩ := o2.no (by omega); exact RO.ofl (by rw [one_o (by omega) (by omega), e2, bnd_l]) (by omega) x1 x2) | (obtain ⟨f, e3, x1, x2⟩ := o3.no (by omega); exact RO.ofl (by rw [one_o (by omega) (by omega), e2, bnd_r, e3, bnd_l]) (by omega) x1 x2) | exact RO.ofr (by rw [one_o (by omega) (by omega), e2, bnd_r, e3, bnd_r]) (by omega) ⟨gCT, by omega, by omega⟩ | (rw [one_l (by omega) (by omega) (by omega) (by omega)]; exact o4.map (fun s es h => ⟨h.1, h.2.1, by have h2 := h.2.2; have hl := lea_up es; omega⟩)) | (rw [one_l (by omega) (by omega) (by omega) (by omega)]; exact o5.map (fun s es h => ⟨h.1, h.2.1, by have h2 := h.2.2; have hl := lea_up es; omega⟩)), by omega, gWH⟩)
        by_cases c142 : (σ0 1 9).toInt = 40
        · refine lv_tableIn (off := 177) (tgt := 249) hx hb dX7_readOne_72 (by omega) (by omega) (by rw [c142]; rfl) (by decide) ?_
          refine lv_aload_n hx hb dX7_readOne_249 rfl (lv_at hl 1 rfl) ?_
          refine fg_7_2 (k := 27) hx hb hts in_X7_readOne_7 hown hK hP (by decide) (by decide) (hts _ lk_X7_readOne_19) dX7_readOne_250 ?_
          refine lv_iload_n hx hb dX7_readOne_253 rfl (lv_at hl 0 rfl) ?_
          refine r_bipush hx hb dX7_readOne_254 (by decide) (fun z143 ez143 => ?_)
          refine r_iconst hx hb dX7_readOne_256 (by decide) (fun z144 ez144 => ?_)
          refine r_cVi (k := 24) (As := [.int (σ0 1 9), .int z143, .int z144]) (rest := []) ⟨hx, hb, hml, hown, hts⟩ hK hP hN hS (c_X6_add l D cA ad hI σ16 τ16 hR (σ0 1 9) z143 z144 (by omega)) (cwV 3 hts gX7_readOne_X6_add rfl rfl rfl (by decide +kernel) ⟨by decide, by decide⟩) (rv_Sent hK hP (by decide) (by decide)) rfl hl.1 rfl (Nat.le_of_ble_eq_true rfl) dX7_readOne_257 (Nat.zero_le _) (Nat.zero_le _) (fun r145 u145 H145 locs145 hp145 hP hS => ?_)
          obtain ⟨σ145, τ145⟩ := u145
          obtain ⟨hR, f145, fL145, hq145, hp145_0⟩ : P_X6_add σ16 τ16 (σ0 1 9) z143 z144 r145 σ145 τ145 := hp145
          have hP : va_P D vwCl (gw cA ad σ145 τ145) H145 := hP
          obtain rfl := FrL.nil fL145
          have hF := hF.step f145 (by decide)
          have gCT := gCT.ag (Agr.fr f145 (by decide))
          have gWH := gWH.ag (Agr.fr f145 (by decide))
          have t146 : (σ145 1 13).toInt = (σ16 1 13).toInt := congrArg Int32.toInt (f145.at 1 13 (by decide))
          have t147 : (σ145 24 1).toInt = (σ16 24 1).toInt := congrArg Int32.toInt (f145.at 24 1 (by decide))
          have hr148 := rg_6_2 hR (k := 24) (by decide) (by decide)
          exact r_zret hx hb hr hK hP hS hk (by omega) dX7_readOne_260 (show P_X7_readOne_d2 σ0 τ0 a1 b N mo q nn nm hc r145 σ145 τ16 from ⟨hR, hF, hFL, by omega, by first | exact RO.ofr ((one_l (by omega) (by omega) (by omega) (by omega)).trans (lea_n (by omega) (by omega))) (by omega) ⟨gCT, by omega, by omega⟩ | (exfalso; omega) | exact RO.ofk (one_x (by omega)) (by omega) (by omega) (by omega) | exact RO.ofk (one_4 (by omega) (by omega)) (by omega) (by omega) (by omega) | (obtain ⟨f, e1, x1, x2⟩ := o1.no (by omega); exact RO.ofl ((one_n (by omega) (by omega)).trans e1) (by omega) x1 x2) | exact RO.ofr ((one_n (by omega) (by omega)).trans e1) (by omega) ⟨gCT, by omega, by omega⟩ | (obtain ⟨f, e2, x1, x2⟩ := o2.no (by omega); exact RO.ofl (by rw [one_o (by omega) (by omega), e2, bnd_l]) (by omega) x1 x2) | (obtain ⟨f, e3, x1, x2⟩ := o3.no (by omega); exact RO.ofl (by rw [one_o (by omega) (by omega), e2, bnd_r, e3, bnd_l]) (by omega) x1 x2) | exact RO.ofr (by rw [one_o (by omega) (by omega), e2, bnd_r, e3, bnd_r]) (by omega) ⟨gCT, by omega, by omega⟩ | (rw [one_l (by omega) (by omega) (by omega) (by omega)]; exact o4.map (fun s es h => ⟨h.1, h.2.1, by have h2 := h.2.2; have hl := lea_up es; omega⟩)) | (rw [one_l (by omega) (by omega) (by omega) (by omega)]; exact o5.map (fun s es h => ⟨h.1, h.2.1, by have h2 := h.2.2; have hl := lea_up es; omega⟩)), by omega, gWH⟩)
        by_cases c149 : (σ0 1 9).toInt = 41
        · refine lv_tableIn (off := 177) (tgt := 249) hx hb dX7_readOne_72 (by omega) (by omega) (by rw [c149]; rfl) (by decide) ?_
          refine lv_aload_n hx hb dX7_readOne_249 rfl (lv_at hl 1 rfl) ?_
          refine fg_7_2 (k := 27) hx hb hts in_X7_readOne_7 hown hK hP (by decide) (by decide) (hts _ lk_X7_readOne_19) dX7_readOne_250 ?_
          refine lv_iload_n hx hb dX7_readOne_253 rfl (lv_at hl 0 rfl) ?_
          refine r_bipush hx hb dX7_readOne_254 (by decide) (fun z150 ez150 => ?_)
          refine r_iconst hx hb dX7_readOne_256 (by decide) (fun z151 ez151 => ?_)
          refine r_cVi (k := 24) (As := [.int (σ0 1 9), .int z150, .int z151]) (rest := []) ⟨hx, hb, hml, hown, hts⟩ hK hP hN hS (c_X6_add l D cA ad hI σ16 τ16 hR (σ0 1 9) z150 z151 (by omega)) (cwV 3 hts gX7_readOne_X6_add rfl rfl rfl (by decide +kernel) ⟨by decide, by decide⟩) (rv_Sent hK hP (by decide) (by decide)) rfl hl.1 rfl (Nat.le_of_ble_eq_true rfl) dX7_readOne_257 (Nat.zero_le _) (Nat.zero_le _) (fun r152 u152 H152 locs152 hp152 hP hS => ?_)
          obtain ⟨σ152, τ152⟩ := u152
          obtain ⟨hR, f152, fL152, hq152, hp152_0⟩ : P_X6_add σ16 τ16 (σ0 1 9) z150 z151 r152 σ152 τ152 := hp152
          have hP : va_P D vwCl (gw cA ad σ152 τ152) H152 := hP
          obtain rfl := FrL.nil fL152
          have hF := hF.step f152 (by decide)
          have gCT := gCT.ag (Agr.fr f152 (by decide))
          have gWH := gWH.ag (Agr.fr f152 (by decide))
          have t153 : (σ152 1 13).toInt = (σ16 1 13).toInt := congrArg Int32.toInt (f152.at 1 13 (by decide))
          have t154 : (σ152 24 1).toInt = (σ16 24 1).toInt := congrArg Int32.toInt (f152.at 24 1 (by decide))
          have hr155 := rg_6_2 hR (k := 24) (by decide) (by decide)
          exact r_zret hx hb hr hK hP hS hk (by omega) dX7_readOne_260 (show P_X7_readOne_d2 σ0 τ0 a1 b N mo q nn nm hc r152 σ152 τ16 from ⟨hR, hF, hFL, by omega, by first | exact RO.ofr ((one_l (by omega) (by omega) (by omega) (by omega)).trans (lea_n (by omega) (by omega))) (by omega) ⟨gCT, by omega, by omega⟩ | (exfalso; omega) | exact RO.ofk (one_x (by omega)) (by omega) (by omega) (by omega) | exact RO.ofk (one_4 (by omega) (by omega)) (by omega) (by omega) (by omega) | (obtain ⟨f, e1, x1, x2⟩ := o1.no (by omega); exact RO.ofl ((one_n (by omega) (by omega)).trans e1) (by omega) x1 x2) | exact RO.ofr ((one_n (by omega) (by omega)).trans e1) (by omega) ⟨gCT, by omega, by omega⟩ | (obtain ⟨f, e2, x1, x2⟩ := o2.no (by omega); exact RO.ofl (by rw [one_o (by omega) (by omega), e2, bnd_l]) (by omega) x1 x2) | (obtain ⟨f, e3, x1, x2⟩ := o3.no (by omega); exact RO.ofl (by rw [one_o (by omega) (by omega), e2, bnd_r, e3, bnd_l]) (by omega) x1 x2) | exact RO.ofr (by rw [one_o (by omega) (by omega), e2, bnd_r, e3, bnd_r]) (by omega) ⟨gCT, by omega, by omega⟩ | (rw [one_l (by omega) (by omega) (by omega) (by omega)]; exact o4.map (fun s es h => ⟨h.1, h.2.1, by have h2 := h.2.2; have hl := lea_up es; omega⟩)) | (rw [one_l (by omega) (by omega) (by omega) (by omega)]; exact o5.map (fun s es h => ⟨h.1, h.2.1, by have h2 := h.2.2; have hl := lea_up es; omega⟩)), by omega, gWH⟩)
        by_cases c156 : (σ0 1 9).toInt = 42
        · refine lv_tableIn (off := 177) (tgt := 249) hx hb dX7_readOne_72 (by omega) (by omega) (by rw [c156]; rfl) (by decide) ?_
          refine lv_aload_n hx hb dX7_readOne_249 rfl (lv_at hl 1 rfl) ?_
          refine fg_7_2 (k := 27) hx hb hts in_X7_readOne_7 hown hK hP (by decide) (by decide) (hts _ lk_X7_readOne_19) dX7_readOne_250 ?_
          refine lv_iload_n hx hb dX7_readOne_253 rfl (lv_at hl 0 rfl) ?_
          refine r_bipush hx hb dX7_readOne_254 (by decide) (fun z157 ez157 => ?_)
          refine r_iconst hx hb dX7_readOne_256 (by decide) (fun z158 ez158 => ?_)
          refine r_cVi (k := 24) (As := [.int (σ0 1 9), .int z157, .int z158]) (rest := []) ⟨hx, hb, hml, hown, hts⟩ hK hP hN hS (c_X6_add l D cA ad hI σ16 τ16 hR (σ0 1 9) z157 z158 (by omega)) (cwV 3 hts gX7_readOne_X6_add rfl rfl rfl (by decide +kernel) ⟨by decide, by decide⟩) (rv_Sent hK hP (by decide) (by decide)) rfl hl.1 rfl (Nat.le_of_ble_eq_true rfl) dX7_readOne_257 (Nat.zero_le _) (Nat.zero_le _) (fun r159 u159 H159 locs159 hp159 hP hS => ?_)
          obtain ⟨σ159, τ159⟩ := u159
          obtain ⟨hR, f159, fL159, hq159, hp159_0⟩ : P_X6_add σ16 τ16 (σ0 1 9) z157 z158 r159 σ159 τ159 := hp159
          have hP : va_P D vwCl (gw cA ad σ159 τ159) H159 := hP
          obtain rfl := FrL.nil fL159
          have hF := hF.step f159 (by decide)
          have gCT := gCT.ag (Agr.fr f159 (by decide))
          have gWH := gWH.ag (Agr.fr f159 (by decide))
          have t160 : (σ159 1 13).toInt = (σ16 1 13).toInt := congrArg Int32.toInt (f159.at 1 13 (by decide))
          have t161 : (σ159 24 1).toInt = (σ16 24 1).toInt := congrArg Int32.toInt (f159.at 24 1 (by decide))
          have hr162 := rg_6_2 hR (k := 24) (by decide) (by decide)
          exact r_zret hx hb hr hK hP hS hk (by omega) dX7_readOne_260 (show P_X7_readOne_d2 σ0 τ0 a1 b N mo q nn nm hc r159 σ159 τ16 from ⟨hR, hF, hFL, by omega, by first | exact RO.ofr ((one_l (by omega) (by omega) (by omega) (by omega)).trans (lea_n (by omega) (by omega))) (by omega) ⟨gCT, by omega, by omega⟩ | (exfalso; omega) | exact RO.ofk (one_x (by omega)) (by omega) (by omega) (by omega) | exact RO.ofk (one_4 (by omega) (by omega)) (by omega) (by omega) (by omega) | (obtain ⟨f, e1, x1, x2⟩ := o1.no (by omega); exact RO.ofl ((one_n (by omega) (by omega)).trans e1) (by omega) x1 x2) | exact RO.ofr ((one_n (by omega) (by omega)).trans e1) (by omega) ⟨gCT, by omega, by omega⟩ | (obtain ⟨f, e2, x1, x2⟩ := o2.no (by omega); exact RO.ofl (by rw [one_o (by omega) (by omega), e2, bnd_l]) (by omega) x1 x2) | (obtain ⟨f, e3, x1, x2⟩ := o3.no (by omega); exact RO.ofl (by rw [one_o (by omega) (by omega), e2, bnd_r, e3, bnd_l]) (by omega) x1 x2) | exact RO.ofr (by rw [one_o (by omega) (by omega), e2, bnd_r, e3, bnd_r]) (by omega) ⟨gCT, by omega, by omega⟩ | (rw [one_l (by omega) (by omega) (by omega) (by omega)]; exact o4.map (fun s es h => ⟨h.1, h.2.1, by have h2 := h.2.2; have hl := lea_up es; omega⟩)) | (rw [one_l (by omega) (by omega) (by omega) (by omega)]; exact o5.map (fun s es h => ⟨h.1, h.2.1, by have h2 := h.2.2; have hl := lea_up es; omega⟩)), by omega, gWH⟩)
        by_cases c163 : (σ0 1 9).toInt = 43
        · refine lv_tableIn (off := 177) (tgt := 249) hx hb dX7_readOne_72 (by omega) (by omega) (by rw [c163]; rfl) (by decide) ?_
          refine lv_aload_n hx hb dX7_readOne_249 rfl (lv_at hl 1 rfl) ?_
          refine fg_7_2 (k := 27) hx hb hts in_X7_readOne_7 hown hK hP (by decide) (by decide) (hts _ lk_X7_readOne_19) dX7_readOne_250 ?_
          refine lv_iload_n hx hb dX7_readOne_253 rfl (lv_at hl 0 rfl) ?_
          refine r_bipush hx hb dX7_readOne_254 (by decide) (fun z164 ez164 => ?_)
          refine r_iconst hx hb dX7_readOne_256 (by decide) (fun z165 ez165 => ?_)
          refine r_cVi (k := 24) (As := [.int (σ0 1 9), .int z164, .int z165]) (rest := []) ⟨hx, hb, hml, hown, hts⟩ hK hP hN hS (c_X6_add l D cA ad hI σ16 τ16 hR (σ0 1 9) z164 z165 (by omega)) (cwV 3 hts gX7_readOne_X6_add rfl rfl rfl (by decide +kernel) ⟨by decide, by decide⟩) (rv_Sent hK hP (by decide) (by decide)) rfl hl.1 rfl (Nat.le_of_ble_eq_true rfl) dX7_readOne_257 (Nat.zero_le _) (Nat.zero_le _) (fun r166 u166 H166 locs166 hp166 hP hS => ?_)
          obtain ⟨σ166, τ166⟩ := u166
          obtain ⟨hR, f166, fL166, hq166, hp166_0⟩ : P_X6_add σ16 τ16 (σ0 1 9) z164 z165 r166 σ166 τ166 := hp166
          have hP : va_P D vwCl (gw cA ad σ166 τ166) H166 := hP
          obtain rfl := FrL.nil fL166
          have hF := hF.step f166 (by decide)
          have gCT := gCT.ag (Agr.fr f166 (by decide))
          have gWH := gWH.ag (Agr.fr f166 (by decide))
          have t167 : (σ166 1 13).toInt = (σ16 1 13).toInt := congrArg Int32.toInt (f166.at 1 13 (by decide))
          have t168 : (σ166 24 1).toInt = (σ16 24 1).toInt := congrArg Int32.toInt (f166.at 24 1 (by decide))
          have hr169 := rg_6_2 hR (k := 24) (by decide) (by decide)
          exact r_zret hx hb hr hK hP hS hk (by omega) dX7_readOne_260 (show P_X7_readOne_d2 σ0 τ0 a1 b N mo q nn nm hc r166 σ166 τ16 from ⟨hR, hF, hFL, by omega, by first | exact RO.ofr ((one_l (by omega) (by omega) (by omega) (by omega)).trans (lea_n (by omega) (by omega))) (by omega) ⟨gCT, by omega, by omega⟩ | (exfalso; omega) | exact RO.ofk (one_x (by omega)) (by omega) (by omega) (by omega) | exact RO.ofk (one_4 (by omega) (by omega)) (by omega) (by omega) (by omega) | (obtain ⟨f, e1, x1, x2⟩ := o1.no (by omega); exact RO.ofl ((one_n (by omega) (by omega)).trans e1) (by omega) x1 x2) | exact RO.ofr ((one_n (by omega) (by omega)).trans e1) (by omega) ⟨gCT, by omega, by omega⟩ | (obtain ⟨f, e2, x1, x2⟩ := o2.no (by omega); exact RO.ofl (by rw [one_o (by omega) (by omega), e2, bnd_l]) (by omega) x1 x2) | (obtain ⟨f, e3, x1, x2⟩ := o3.no (by omega); exact RO.ofl (by rw [one_o (by omega) (by omega), e2, bnd_r, e3, bnd_l]) (by omega) x1 x2) | exact RO.ofr (by rw [one_o (by omega) (by omega), e2, bnd_r, e3, bnd_r]) (by omega) ⟨gCT, by omega, by omega⟩ | (rw [one_l (by omega) (by omega) (by omega) (by omega)]; exact o4.map (fun s es h => ⟨h.1, h.2.1, by have h2 := h.2.2; have hl := lea_up es; omega⟩)) | (rw [one_l (by omega) (by omega) (by omega) (by omega)]; exact o5.map (fun s es h => ⟨h.1, h.2.1, by have h2 := h.2.2; have hl := lea_up es; omega⟩)), by omega, gWH⟩)
        by_cases c170 : (σ0 1 9).toInt = 44
        · refine lv_tableIn (off := 138) (tgt := 210) hx hb dX7_readOne_72 (by omega) (by omega) (by rw [c170]; rfl) (by decide) ?_
          refine lv_aload_n hx hb dX7_readOne_210 rfl (lv_at hl 1 rfl) ?_
          refine lv_iload_n hx hb dX7_readOne_211 rfl (lv_at hl 2 rfl) ?_
          refine r_iconst hx hb dX7_readOne_212 (by decide) (fun z171 ez171 => ?_)
          refine r_iadd hx hb dX7_readOne_213 (by omega) (fun z172 ez172 => ?_)
          refine r_cVi (k := 27) (As := [.int z172]) (rest := []) ⟨hx, hb, hml, hown, hts⟩ hK hP hN hS (c_X7_readCond_d3 l D cA ad hI σ16 τ16 hR z172 b N mo _ (nn + 1) nm hc (by omega) (by omega) (by omega) (by omega) gCT gWH) (cwV 1 hts gX7_readOne_X7_readCond rfl rfl rfl (by decide +kernel) ⟨by decide, by decide⟩) (rv_SText hK hP (by decide) (by decide)) rfl hl.1 rfl (Nat.le_of_ble_eq_true rfl) dX7_readOne_214 (Nat.zero_le _) (Nat.zero_le _) (fun r173 u173 H173 locs173 hp173 hP hS => ?_)
          obtain ⟨σ173, τ173⟩ := u173
          obtain ⟨hR, f173, fL173, hq173, hp173_0, hp173_1, gnWH⟩ : P_X7_readCond_d3 σ16 τ16 z172 b N mo _ (nn + 1) nm hc r173 σ173 τ173 := hp173
          have o2 := hp173_0
          have hP : va_P D vwCl (gw cA ad σ173 τ173) H173 := hP
          have hFL := hFL.step fL173 (by decide)
          have gWH := gWH.agL (AgrL.fr fL173 (by decide))
          have hF := hF.step f173 (by decide)
          have gWH := gWH.ag (Agr.fr f173 (by decide))
          have hr174 := rg_6_1 hR (k := 24) (by decide) (by decide)
          have hr175 := rg_6_2 hR (k := 24) (by decide) (by decide)
          refine r_if_eq (tgt := 236) hx hb dX7_readOne_217 (by decide) (fun c176 => ?_) (fun c176 => ?_)
          · clear hp173_1
            refine r_iconst hx hb dX7_readOne_236 (by decide) (fun z177 ez177 => ?_)
            exact r_zret hx hb hr hK hP hS hk (by omega) dX7_readOne_237 (show P_X7_readOne_d2 σ0 τ0 a1 b N mo q nn nm hc z177 σ173 τ173 from ⟨hR, hF, hFL, by omega, by first | exact RO.ofr ((one_l (by omega) (by omega) (by omega) (by omega)).trans (lea_n (by omega) (by omega))) (by omega) ⟨gCT, by omega, by omega⟩ | (exfalso; omega) | exact RO.ofk (one_x (by omega)) (by omega) (by omega) (by omega) | exact RO.ofk (one_4 (by omega) (by omega)) (by omega) (by omega) (by omega) | (obtain ⟨f, e1, x1, x2⟩ := o1.no (by omega); exact RO.ofl ((one_n (by omega) (by omega)).trans e1) (by omega) x1 x2) | exact RO.ofr ((one_n (by omega) (by omega)).trans e1) (by omega) ⟨gCT, by omega, by omega⟩ | (obtain ⟨f, e2, x1, x2⟩ := o2.no (by omega); exact RO.ofl (by rw [one_o (by omega) (by omega), e2, bnd_l]) (by omega) x1 x2) | (obtain ⟨f, e3, x1, x2⟩ := o3.no (by omega); exact RO.ofl (by rw [one_o (by omega) (by omega), e2, bnd_r, e3, bnd_l]) (by omega) x1 x2) | exact RO.ofr (by rw [one_o (by omega) (by omega), e2, bnd_r, e3, bnd_r]) (by omega) ⟨gCT, by omega, by omega⟩ | (rw [one_l (by omega) (by omega) (by omega) (by omega)]; exact o4.map (fun s es h => ⟨h.1, h.2.1, by have h2 := h.2.2; have hl := lea_up es; omega⟩)) | (rw [one_l (by omega) (by omega) (by omega) (by omega)]; exact o5.map (fun s es h => ⟨h.1, h.2.1, by have h2 := h.2.2; have hl := lea_up es; omega⟩)), by omega, gWH⟩)
          · replace hp173_1 := hp173_1.resolve_left (by omega)
            obtain ⟨s2, e2, gCT, hs1, hs2⟩ := o2.ye (by omega)
            have hu2 := con_up (one_up _) _ _ _ e2
            refine lv_aload_n hx hb dX7_readOne_220 rfl (lv_at hl 1 rfl) ?_
            refine fg_7_0 (k := 27) hx hb hts in_X7_readOne_7 hown hK hP (by decide) (by decide) (hts _ lk_X7_readOne_9) dX7_readOne_221 ?_
            refine r_bipush hx hb dX7_readOne_224 (by decide) (fun z178 ez178 => ?_)
            refine r_cVi (k := 1) (As := [.int z178]) (rest := []) ⟨hx, hb, hml, hown, hts⟩ hK hP hN hS (c_X8_take_v l D cA ad hI σ173 τ173 hR z178 b N mo _ 45 (by omega) (by omega) gCT) (cwV 1 hts gX7_readOne_X8_take rfl rfl rfl (by decide +kernel) ⟨by decide, by decide⟩) (rv_Tape hK hP (by decide) (by decide)) rfl hl.1 rfl (Nat.le_of_ble_eq_true rfl) dX7_readOne_226 (Nat.zero_le _) (Nat.zero_le _) (fun r179 u179 H179 locs179 hp179 hP hS => ?_)
            obtain ⟨σ179, τ179⟩ := u179
            obtain ⟨hR, f179, fL179, hq179, hp179_0, hp179_1⟩ : P_X8_take_v σ173 τ173 z178 b N mo _ 45 r179 σ179 τ179 := hp179
            have o3 := hp179_0
            have hP : va_P D vwCl (gw cA ad σ179 τ179) H179 := hP
            have hFL := hFL.step fL179 (by decide)
            have gWH := gWH.agL (AgrL.fr fL179 (by decide))
            have hF := hF.step f179 (by decide)
            have gWH := gWH.ag (Agr.fr f179 (by decide))
            have t180 : (σ179 24 1).toInt = (σ173 24 1).toInt := congrArg Int32.toInt (f179.at 24 1 (by decide))
            have t181 : (σ179 24 2).toInt = (σ173 24 2).toInt := congrArg Int32.toInt (f179.at 24 2 (by decide))
            refine r_if_eq (tgt := 236) hx hb dX7_readOne_229 (by decide) (fun c182 => ?_) (fun c182 => ?_)
            · clear hp179_1
              refine r_iconst hx hb dX7_readOne_236 (by decide) (fun z183 ez183 => ?_)
              exact r_zret hx hb hr hK hP hS hk (by omega) dX7_readOne_237 (show P_X7_readOne_d2 σ0 τ0 a1 b N mo q nn nm hc z183 σ179 τ179 from ⟨hR, hF, hFL, by omega, by first | exact RO.ofr ((one_l (by omega) (by omega) (by omega) (by omega)).trans (lea_n (by omega) (by omega))) (by omega) ⟨gCT, by omega, by omega⟩ | (exfalso; omega) | exact RO.ofk (one_x (by omega)) (by omega) (by omega) (by omega) | exact RO.ofk (one_4 (by omega) (by omega)) (by omega) (by omega) (by omega) | (obtain ⟨f, e1, x1, x2⟩ := o1.no (by omega); exact RO.ofl ((one_n (by omega) (by omega)).trans e1) (by omega) x1 x2) | exact RO.ofr ((one_n (by omega) (by omega)).trans e1) (by omega) ⟨gCT, by omega, by omega⟩ | (obtain ⟨f, e2, x1, x2⟩ := o2.no (by omega); exact RO.ofl (by rw [one_o (by omega) (by omega), e2, bnd_l]) (by omega) x1 x2) | (obtain ⟨f, e3, x1, x2⟩ := o3.no (by omega); exact RO.ofl (by rw [one_o (by omega) (by omega), e2, bnd_r, e3, bnd_l]) (by omega) x1 x2) | exact RO.ofr (by rw [one_o (by omega) (by omega), e2, bnd_r, e3, bnd_r]) (by omega) ⟨gCT, by omega, by omega⟩ | (rw [one_l (by omega) (by omega) (by omega) (by omega)]; exact o4.map (fun s es h => ⟨h.1, h.2.1, by have h2 := h.2.2; have hl := lea_up es; omega⟩)) | (rw [one_l (by omega) (by omega) (by omega) (by omega)]; exact o5.map (fun s es h => ⟨h.1, h.2.1, by have h2 := h.2.2; have hl := lea_up es; omega⟩)), by omega, gWH⟩)
            · replace hp179_1 := hp179_1.resolve_left (by omega)
              obtain ⟨q3, e3, gCT⟩ := o3.ye (by omega)
              refine r_iconst hx hb dX7_readOne_232 (by decide) (fun z184 ez184 => ?_)
              refine lv_goto (tgt := 237) hx hb dX7_readOne_233 (by decide) ?_
              exact r_zret hx hb hr hK hP hS hk (by omega) dX7_readOne_237 (show P_X7_readOne_d2 σ0 τ0 a1 b N mo q nn nm hc z184 σ179 τ179 from ⟨hR, hF, hFL, by omega, by first | exact RO.ofr ((one_l (by omega) (by omega) (by omega) (by omega)).trans (lea_n (by omega) (by omega))) (by omega) ⟨gCT, by omega, by omega⟩ | (exfalso; omega) | exact RO.ofk (one_x (by omega)) (by omega) (by omega) (by omega) | exact RO.ofk (one_4 (by omega) (by omega)) (by omega) (by omega) (by omega) | (obtain ⟨f, e1, x1, x2⟩ := o1.no (by omega); exact RO.ofl ((one_n (by omega) (by omega)).trans e1) (by omega) x1 x2) | exact RO.ofr ((one_n (by omega) (by omega)).trans e1) (by omega) ⟨gCT, by omega, by omega⟩ | (obtain ⟨f, e2, x1, x2⟩ := o2.no (by omega); exact RO.ofl (by rw [one_o (by omega) (by omega), e2, bnd_l]) (by omega) x1 x2) | (obtain ⟨f, e3, x1, x2⟩ := o3.no (by omega); exact RO.ofl (by rw [one_o (by omega) (by omega), e2, bnd_r, e3, bnd_l]) (by omega) x1 x2) | exact RO.ofr (by rw [one_o (by omega) (by omega), e2, bnd_r, e3, bnd_r]) (by omega) ⟨gCT, by omega, by omega⟩ | (rw [one_l (by omega) (by omega) (by omega) (by omega)]; exact o4.map (fun s es h => ⟨h.1, h.2.1, by have h2 := h.2.2; have hl := lea_up es; omega⟩)) | (rw [one_l (by omega) (by omega) (by omega) (by omega)]; exact o5.map (fun s es h => ⟨h.1, h.2.1, by have h2 := h.2.2; have hl := lea_up es; omega⟩)), by omega, gWH⟩)
        refine lv_tableOut (tgt := 249) hx hb dX7_readOne_72 (by omega) (by decide) ?_
        refine lv_aload_n hx hb dX7_readOne_249 rfl (lv_at hl 1 rfl) ?_
        refine fg_7_2 (k := 27) hx hb hts in_X7_readOne_7 hown hK hP (by decide) (by decide) (hts _ lk_X7_readOne_19) dX7_readOne_250 ?_
        refine lv_iload_n hx hb dX7_readOne_253 rfl (lv_at hl 0 rfl) ?_
        refine r_bipush hx hb dX7_readOne_254 (by decide) (fun z185 ez185 => ?_)
        refine r_iconst hx hb dX7_readOne_256 (by decide) (fun z186 ez186 => ?_)
        refine r_cVi (k := 24) (As := [.int (σ0 1 9), .int z185, .int z186]) (rest := []) ⟨hx, hb, hml, hown, hts⟩ hK hP hN hS (c_X6_add l D cA ad hI σ16 τ16 hR (σ0 1 9) z185 z186 (by omega)) (cwV 3 hts gX7_readOne_X6_add rfl rfl rfl (by decide +kernel) ⟨by decide, by decide⟩) (rv_Sent hK hP (by decide) (by decide)) rfl hl.1 rfl (Nat.le_of_ble_eq_true rfl) dX7_readOne_257 (Nat.zero_le _) (Nat.zero_le _) (fun r187 u187 H187 locs187 hp187 hP hS => ?_)
        obtain ⟨σ187, τ187⟩ := u187
        obtain ⟨hR, f187, fL187, hq187, hp187_0⟩ : P_X6_add σ16 τ16 (σ0 1 9) z185 z186 r187 σ187 τ187 := hp187
        have hP : va_P D vwCl (gw cA ad σ187 τ187) H187 := hP
        obtain rfl := FrL.nil fL187
        have hF := hF.step f187 (by decide)
        have gCT := gCT.ag (Agr.fr f187 (by decide))
        have gWH := gWH.ag (Agr.fr f187 (by decide))
        have t188 : (σ187 1 13).toInt = (σ16 1 13).toInt := congrArg Int32.toInt (f187.at 1 13 (by decide))
        have t189 : (σ187 24 1).toInt = (σ16 24 1).toInt := congrArg Int32.toInt (f187.at 24 1 (by decide))
        have hr190 := rg_6_2 hR (k := 24) (by decide) (by decide)
        exact r_zret hx hb hr hK hP hS hk (by omega) dX7_readOne_260 (show P_X7_readOne_d2 σ0 τ0 a1 b N mo q nn nm hc r187 σ187 τ16 from ⟨hR, hF, hFL, by omega, by first | exact RO.ofr ((one_l (by omega) (by omega) (by omega) (by omega)).trans (lea_n (by omega) (by omega))) (by omega) ⟨gCT, by omega, by omega⟩ | (exfalso; omega) | exact RO.ofk (one_x (by omega)) (by omega) (by omega) (by omega) | exact RO.ofk (one_4 (by omega) (by omega)) (by omega) (by omega) (by omega) | (obtain ⟨f, e1, x1, x2⟩ := o1.no (by omega); exact RO.ofl ((one_n (by omega) (by omega)).trans e1) (by omega) x1 x2) | exact RO.ofr ((one_n (by omega) (by omega)).trans e1) (by omega) ⟨gCT, by omega, by omega⟩ | (obtain ⟨f, e2, x1, x2⟩ := o2.no (by omega); exact RO.ofl (by rw [one_o (by omega) (by omega), e2, bnd_l]) (by omega) x1 x2) | (obtain ⟨f, e3, x1, x2⟩ := o3.no (by omega); exact RO.ofl (by rw [one_o (by omega) (by omega), e2, bnd_r, e3, bnd_l]) (by omega) x1 x2) | exact RO.ofr (by rw [one_o (by omega) (by omega), e2, bnd_r, e3, bnd_r]) (by omega) ⟨gCT, by omega, by omega⟩ | (rw [one_l (by omega) (by omega) (by omega) (by omega)]; exact o4.map (fun s es h => ⟨h.1, h.2.1, by have h2 := h.2.2; have hl := lea_up es; omega⟩)) | (rw [one_l (by omega) (by omega) (by omega) (by omega)]; exact o5.map (fun s es h => ⟨h.1, h.2.1, by have h2 := h.2.2; have hl := lea_up es; omega⟩)), by omega, gWH⟩)
      · exfalso; omega
  · refine lv_aload_n hx hb dX7_readOne_15 rfl (lv_at hl 1 rfl) ?_
    refine fg_7_0 (k := 27) hx hb hts in_X7_readOne_7 hown hK hP (by decide) (by decide) (hts _ lk_X7_readOne_9) dX7_readOne_16 ?_
    refine r_iconst hx hb dX7_readOne_19 (by decide) (fun z191 ez191 => ?_)
    refine r_cVi (k := 1) (As := [.int z191]) (rest := []) ⟨hx, hb, hml, hown, hts⟩ hK hP hN hS (c_X8_blame_v l D cA ad hI σ0 τ0 hR z191 _ _ _ _ (by omega) gCT) (cwV 1 hts gX7_readOne_X8_blame rfl rfl rfl (by decide +kernel) ⟨by decide, by decide⟩) (rv_Tape hK hP (by decide) (by decide)) rfl hl.1 rfl (Nat.le_of_ble_eq_true rfl) dX7_readOne_20 (Nat.zero_le _) (Nat.zero_le _) (fun r192 u192 H192 locs192 hp192 hP hS => ?_)
    obtain ⟨σ192, τ192⟩ := u192
    obtain ⟨hR, f192, fL192, hq192, hp192_0, hp192_1, hp192_2, gnCT⟩ : P_X8_blame_v σ0 τ0 z191 _ _ _ _ r192 σ192 τ192 := hp192
    have hP : va_P D vwCl (gw cA ad σ192 τ192) H192 := hP
    obtain rfl := FrL.nil fL192
    have hF := hF.step f192 (by decide)
    have gCT := gCT.ag (Agr.fr f192 (by decide))
    have gWH := gWH.ag (Agr.fr f192 (by decide))
    have t193 : (σ192 24 1).toInt = (σ0 24 1).toInt := congrArg Int32.toInt (f192.at 24 1 (by decide))
    have t194 : (σ192 24 2).toInt = (σ0 24 2).toInt := congrArg Int32.toInt (f192.at 24 2 (by decide))
    exact r_zret hx hb hr hK hP hS hk (by omega) dX7_readOne_23 (show P_X7_readOne_d2 σ0 τ0 a1 b N mo q nn nm hc r192 σ192 τ0 from ⟨hR, hF, hFL, by omega, by first | exact RO.ofr ((one_l (by omega) (by omega) (by omega) (by omega)).trans (lea_n (by omega) (by omega))) (by omega) ⟨gCT, by omega, by omega⟩ | (exfalso; omega) | exact RO.ofk (one_x (by omega)) (by omega) (by omega) (by omega) | exact RO.ofk (one_4 (by omega) (by omega)) (by omega) (by omega) (by omega) | (obtain ⟨f, e1, x1, x2⟩ := o1.no (by omega); exact RO.ofl ((one_n (by omega) (by omega)).trans e1) (by omega) x1 x2) | exact RO.ofr ((one_n (by omega) (by omega)).trans e1) (by omega) ⟨gCT, by omega, by omega⟩ | (obtain ⟨f, e2, x1, x2⟩ := o2.no (by omega); exact RO.ofl (by rw [one_o (by omega) (by omega), e2, bnd_l]) (by omega) x1 x2) | (obtain ⟨f, e3, x1, x2⟩ := o3.no (by omega); exact RO.ofl (by rw [one_o (by omega) (by omega), e2, bnd_r, e3, bnd_l]) (by omega) x1 x2) | exact RO.ofr (by rw [one_o (by omega) (by omega), e2, bnd_r, e3, bnd_r]) (by omega) ⟨gCT, by omega, by omega⟩ | (rw [one_l (by omega) (by omega) (by omega) (by omega)]; exact o4.map (fun s es h => ⟨h.1, h.2.1, by have h2 := h.2.2; have hl := lea_up es; omega⟩)) | (rw [one_l (by omega) (by omega) (by omega) (by omega)]; exact o5.map (fun s es h => ⟨h.1, h.2.1, by have h2 := h.2.2; have hl := lea_up es; omega⟩)), by omega, gWH⟩)
abbrev L_X7_readAll_d2 : List Rc := [(1, 1, 7, 10), (372, 372, 0, 39), (376, 376, 0, 39), (380, 380, 0, 39), (24, 24, 1, 2), (1, 1, 12, 14)]
abbrev LL_X7_readAll_d2 : List Rc := [(1, 1, 11, 11)]
def P_X7_readAll_d2 (σ0 : Nat → Nat → Int32) (τ0 : Nat → Nat → Int64) (a1 : Int32) (b : Nat → Int) (N : Nat) (mo : Nat) (q : Nat) (nn : Nat) (nm : Nat → Int) (hc : Nat) (r : Int32) (σ : Nat → Nat → Int32) (τ : Nat → Nat → Int64) : Prop := Rg σ ∧ Fr L_X7_readAll_d2 σ0 σ ∧ FrL LL_X7_readAll_d2 τ0 τ ∧ (0 ≤ r.toInt ∧ r.toInt ≤ 1) ∧ (RO r σ (allP b N mo (fun q nn => oneP b N mo nm hc 7 q nn) q nn) (fun s => CT σ τ b N mo s.1 ∧ (σ 24 1).toInt = (s.2 : Int) ∧ (σ 24 2).toInt + 2 * (nn : Int) + 1 ≤ (σ0 24 2).toInt + 2 * (s.2 : Int))) ∧ (r.toInt = 0 ∨ (σ 1 13).toInt = (σ0 1 13).toInt) ∧ WH σ τ nm hc
def J_X7_readAll_d2_12 (p : Program) (l : Launch) (e : Env) (s : State) (m : MethodId) (args : Array Value) (below : List Frame) (meth : Method) (c : Code) (D : va_G) (cA : Nat → ClassId) (ad : Nat → Nat) (σ0 : Nat → Nat → Int32) (τ0 : Nat → Nat → Int64) (a1 : Int32) (b : Nat → Int) (N : Nat) (mo : Nat) (q : Nat) (nn : Nat) (nm : Nat → Int) (hc : Nat) (n : Nat) : Prop := ∀ (σ : Nat → Nat → Int32) (τ : Nat → Nat → Int64) (H : Heap) (locs : List Loc) (x2 : Int32) (fu : Nat) (q1 : Nat) (n1 : Nat) (ls : Array Slot), Rg σ → Fr L_X7_readAll_d2 σ0 σ → FrL LL_X7_readAll_d2 τ0 τ → va_P D vwCl (gw cA ad σ τ) H → va_S (AA ad) s.heap H locs → (0 ≤ x2.toInt ∧ x2.toInt ≤ 200) → (0 ≤ (σ 24 1).toInt ∧ (σ 24 1).toInt ≤ 20) → (0 ≤ (σ 24 2).toInt ∧ (σ 24 2).toInt ≤ 40) → (allP b N mo (fun q nn => oneP b N mo nm hc 7 q nn) q nn = lopP b N mo 21 (fun q nn => oneP b N mo nm hc 7 q nn) fu q1 n1) → ((σ 24 1).toInt = (n1 : Int)) → (0 ≤ (σ 24 2).toInt ∧ (σ 24 2).toInt + 2 * (nn : Int) + 1 ≤ (σ0 24 2).toInt + 2 * (n1 : Int)) → ((fu : Int) + x2.toInt = 200) → (n1 ≤ 20) → ((σ 1 13).toInt = (σ0 1 13).toInt) → (CT σ τ b N mo q1) → (WH σ τ nm hc) → (CT σ τ b N mo q1) → lv_has ls 3 [(0, .ref (ad 27)), (1, .int a1), (2, .int x2)] → 2 * (200 - x2.toInt) + 1 < (n : Int) → W p l e ({ frames := 23, cells := 0, slots := 0, locals := 505 } : Room) s m args below meth c H locs 0 0 (MQ below (va_Qi (fun (r : Int32) (u : SS) => P_X7_readAll_d2 σ0 τ0 a1 b N mo q nn nm hc r u.1 u.2) (WB D cA ad) (AA ad)) args s 0 0 (AA ad)) (F0 m 12 ls [])
set_option maxHeartbeats 4000000 in
theorem B_X7_readAll_d2_12 (p : Program) (l : Launch) (e : Env) (s : State) (m : MethodId) (args : Array Value) (below : List Frame) (meth : Method) (c : Code) (D : va_G) (cA : Nat → ClassId) (ad : Nat → Nat) (σ0 : Nat → Nat → Int32) (τ0 : Nat → Nat → Int64) (a1 : Int32) (b : Nat → Int) (N : Nat) (mo : Nat) (q : Nat) (nn : Nat) (nm : Nat → Int) (hc : Nat) (n : Nat) (C : Cy p s m args meth c cX7_readAll 3 wsX7_readAll RX7 D cA ad (some .boolean)) (ha1 : 2 ≤ a1.toInt ∧ a1.toInt ≤ 2) (hpre0 : (σ0 24 1).toInt = (nn : Int)) (hpre1 : 0 ≤ (σ0 24 2).toInt ∧ (σ0 24 2).toInt ≤ 2 * (nn : Int)) (hpre2 : nn ≤ 20) (gCT0 : CT σ0 τ0 b N mo q) (gWH0 : WH σ0 τ0 nm hc) (K12 : J_X7_readAll_d2_12 p l e s m args below meth c D cA ad σ0 τ0 a1 b N mo q nn nm hc n) : J_X7_readAll_d2_12 p l e s m args below meth c D cA ad σ0 τ0 a1 b N mo q nn nm hc (n + 1) := by
  obtain ⟨hx, hb, hml, hown, hts, hK, hk, hr, hI, hN⟩ := C
  intro σ τ H locs x2 fu q1 n1 ls hR hF hFL hP hS hc0 hc1 hc2 iv ib2 ib3 ifu in20 ik13 gCT gWH gCT hl hm
  refine lv_iload_n hx hb dX7_readAll_12 rfl (lv_at hl 2 rfl) ?_
  refine r_sipush hx hb dX7_readAll_13 (by decide) (fun z1 ez1 => ?_)
  refine r_icmp_ge (tgt := 68) hx hb dX7_readAll_16 (by decide) (fun c2 => ?_) (fun c2 => ?_)
  · refine r_iconst hx hb dX7_readAll_68 (by decide) (fun z3 ez3 => ?_)
    exact r_zret hx hb hr hK hP hS hk (by omega) dX7_readAll_69 (show P_X7_readAll_d2 σ0 τ0 a1 b N mo q nn nm hc z3 σ τ from ⟨hR, hF, hFL, by omega, by first | (exfalso; omega) | (obtain ⟨f, e1, x1, x2⟩ := o1.no (by omega); exact RO.ofl (all_f e1) (by omega) x1 x2) | exact RO.ofr (by rw [iv, lop_e (by omega)]) (by omega) ⟨gCT, by omega, by omega⟩ | (obtain ⟨f, e2, x1, x2⟩ := o2.no (by omega); exact RO.ofl (by rw [iv, lop_f (f := (fun q nn => oneP b N mo nm hc 7 q nn)) (by omega) (by omega) e2]) (by omega) x1 x2) | (exfalso; omega), by omega, gWH⟩)
  · have htk := gCT.tk
    refine lv_aload_n hx hb dX7_readAll_19 rfl (lv_at hl 0 rfl) ?_
    refine fg_7_0 (k := 27) hx hb hts in_X7_readAll_7 hown hK hP (by decide) (by decide) (hts _ lk_X7_readAll_9) dX7_readAll_20 ?_
    refine fgN_8_9 (k := 1) hx hb hts in_X7_readAll_8 hown hK hP (by decide) (by decide) (hN.use nw_7_32) dX7_readAll_23 ?_
    refine r_bipush hx hb dX7_readAll_26 (by decide) (fun z4 ez4 => ?_)
    refine r_icmp_ne (tgt := 68) hx hb dX7_readAll_28 (by decide) (fun c5 => ?_) (fun c5 => ?_)
    · refine r_iconst hx hb dX7_readAll_68 (by decide) (fun z6 ez6 => ?_)
      exact r_zret hx hb hr hK hP hS hk (by omega) dX7_readAll_69 (show P_X7_readAll_d2 σ0 τ0 a1 b N mo q nn nm hc z6 σ τ from ⟨hR, hF, hFL, by omega, by first | (exfalso; omega) | (obtain ⟨f, e1, x1, x2⟩ := o1.no (by omega); exact RO.ofl (all_f e1) (by omega) x1 x2) | exact RO.ofr (by rw [iv, lop_e (by omega)]) (by omega) ⟨gCT, by omega, by omega⟩ | (obtain ⟨f, e2, x1, x2⟩ := o2.no (by omega); exact RO.ofl (by rw [iv, lop_f (f := (fun q nn => oneP b N mo nm hc 7 q nn)) (by omega) (by omega) e2]) (by omega) x1 x2) | (exfalso; omega), by omega, gWH⟩)
    · refine lv_aload_n hx hb dX7_readAll_31 rfl (lv_at hl 0 rfl) ?_
      refine fg_7_0 (k := 27) hx hb hts in_X7_readAll_7 hown hK hP (by decide) (by decide) (hts _ lk_X7_readAll_9) dX7_readAll_32 ?_
      refine r_cVv (k := 1) (As := []) (rest := []) ⟨hx, hb, hml, hown, hts⟩ hK hP hN hS (c_X8_next_v l D cA ad hI σ τ hR _ _ _ _ gCT) (cwV 0 hts gX7_readAll_X8_next rfl rfl rfl (by decide +kernel) ⟨by decide, by decide⟩) (rv_Tape hK hP (by decide) (by decide)) rfl hl.1 rfl (Nat.le_of_ble_eq_true rfl) dX7_readAll_35 (Nat.zero_le _) (Nat.zero_le _) (fun u7 H7 locs7 hp7 hP hS => ?_)
      obtain ⟨σ7, τ7⟩ := u7
      obtain ⟨hR, f7, fL7, hp7_0⟩ : P_X8_next_v σ τ _ _ _ _ σ7 τ7 := hp7
      have hP : va_P D vwCl (gw cA ad σ7 τ7) H7 := hP
      have hFL := hFL.step fL7 (by decide)
      have gWH := gWH.agL (AgrL.fr fL7 (by decide))
      have hF := hF.step f7 (by decide)
      have gWH := gWH.ag (Agr.fr f7 (by decide))
      have t8 : (σ7 24 1).toInt = (σ 24 1).toInt := congrArg Int32.toInt (f7.at 24 1 (by decide))
      have t9 : (σ7 24 2).toInt = (σ 24 2).toInt := congrArg Int32.toInt (f7.at 24 2 (by decide))
      have t10 : (σ7 1 13).toInt = (σ 1 13).toInt := congrArg Int32.toInt (f7.at 1 13 (by decide))
      have gCT := hp7_0
      refine lv_aload_n hx hb dX7_readAll_38 rfl (lv_at hl 0 rfl) ?_
      refine lv_iload_n hx hb dX7_readAll_39 rfl (lv_at hl 1 rfl) ?_
      refine r_cVi (k := 27) (As := [.int a1]) (rest := []) ⟨hx, hb, hml, hown, hts⟩ hK hP hN hS (c_X7_readOne_d2 l D cA ad hI σ7 τ7 hR a1 b N mo _ n1 nm hc (by omega) (by omega) (by omega) (by omega) gCT gWH) (cwV 1 hts gX7_readAll_X7_readOne rfl rfl rfl (by decide +kernel) ⟨by decide, by decide⟩) (rv_SText hK hP (by decide) (by decide)) rfl hl.1 rfl (Nat.le_of_ble_eq_true rfl) dX7_readAll_40 (Nat.zero_le _) (Nat.zero_le _) (fun r11 u11 H11 locs11 hp11 hP hS => ?_)
      obtain ⟨σ11, τ11⟩ := u11
      obtain ⟨hR, f11, fL11, hq11, hp11_0, hp11_1, gnWH⟩ : P_X7_readOne_d2 σ7 τ7 a1 b N mo _ n1 nm hc r11 σ11 τ11 := hp11
      have o2 := hp11_0
      have hP : va_P D vwCl (gw cA ad σ11 τ11) H11 := hP
      have hFL := hFL.step fL11 (by decide)
      have gWH := gWH.agL (AgrL.fr fL11 (by decide))
      have hF := hF.step f11 (by decide)
      have gWH := gWH.ag (Agr.fr f11 (by decide))
      have hr12 := rg_6_1 hR (k := 24) (by decide) (by decide)
      have hr13 := rg_6_2 hR (k := 24) (by decide) (by decide)
      refine r_if_eq (tgt := 60) hx hb dX7_readAll_43 (by decide) (fun c14 => ?_) (fun c14 => ?_)
      · clear hp11_1
        refine r_iconst hx hb dX7_readAll_60 (by decide) (fun z15 ez15 => ?_)
        exact r_zret hx hb hr hK hP hS hk (by omega) dX7_readAll_61 (show P_X7_readAll_d2 σ0 τ0 a1 b N mo q nn nm hc z15 σ11 τ11 from ⟨hR, hF, hFL, by omega, by first | (exfalso; omega) | (obtain ⟨f, e1, x1, x2⟩ := o1.no (by omega); exact RO.ofl (all_f e1) (by omega) x1 x2) | exact RO.ofr (by rw [iv, lop_e (by omega)]) (by omega) ⟨gCT, by omega, by omega⟩ | (obtain ⟨f, e2, x1, x2⟩ := o2.no (by omega); exact RO.ofl (by rw [iv, lop_f (f := (fun q nn => oneP b N mo nm hc 7 q nn)) (by omega) (by omega) e2]) (by omega) x1 x2) | (exfalso; omega), by omega, gWH⟩)
      · replace hp11_1 := hp11_1.resolve_left (by omega)
        obtain ⟨s2, e2, gCT, hs3, hs4⟩ := o2.ye (by omega)
        have hu2 := one_up _ _ _ _ e2
        refine lv_aload_n hx hb dX7_readAll_46 rfl (lv_at hl 0 rfl) ?_
        refine fg_7_2 (k := 27) hx hb hts in_X7_readAll_7 hown hK hP (by decide) (by decide) (hts _ lk_X7_readAll_19) dX7_readAll_47 ?_
        refine r_bipush hx hb dX7_readAll_50 (by decide) (fun z16 ez16 => ?_)
        refine r_iconst hx hb dX7_readAll_52 (by decide) (fun z17 ez17 => ?_)
        refine r_iconst hx hb dX7_readAll_53 (by decide) (fun z18 ez18 => ?_)
        refine r_cVi (k := 24) (As := [.int z16, .int z17, .int z18]) (rest := []) ⟨hx, hb, hml, hown, hts⟩ hK hP hN hS (c_X6_add l D cA ad hI σ11 τ11 hR z16 z17 z18 (by omega)) (cwV 3 hts gX7_readAll_X6_add rfl rfl rfl (by decide +kernel) ⟨by decide, by decide⟩) (rv_Sent hK hP (by decide) (by decide)) rfl hl.1 rfl (Nat.le_of_ble_eq_true rfl) dX7_readAll_54 (Nat.zero_le _) (Nat.zero_le _) (fun r19 u19 H19 locs19 hp19 hP hS => ?_)
        obtain ⟨σ19, τ19⟩ := u19
        obtain ⟨hR, f19, fL19, hq19, hp19_0⟩ : P_X6_add σ11 τ11 z16 z17 z18 r19 σ19 τ19 := hp19
        have hP : va_P D vwCl (gw cA ad σ19 τ19) H19 := hP
        obtain rfl := FrL.nil fL19
        have hF := hF.step f19 (by decide)
        have gCT := gCT.ag (Agr.fr f19 (by decide))
        have gWH := gWH.ag (Agr.fr f19 (by decide))
        have t20 : (σ19 24 1).toInt = (σ11 24 1).toInt := congrArg Int32.toInt (f19.at 24 1 (by decide))
        have t21 : (σ19 1 13).toInt = (σ11 1 13).toInt := congrArg Int32.toInt (f19.at 1 13 (by decide))
        have hr22 := rg_6_2 hR (k := 24) (by decide) (by decide)
        refine r_if_ne (tgt := 62) hx hb dX7_readAll_57 (by decide) (fun c23 => ?_) (fun c23 => ?_)
        · refine r_iinc (k := 2) (lv1 := fun z24 => [(2, .int z24), (0, .ref (ad 27)), (1, .int a1)]) hx hb dX7_readAll_62 hl rfl (by decide) (fun _ => rfl) (by decide) (by omega) (fun z24 ls ez24 hl => ?_)
          refine lv_goto (tgt := 12) hx hb dX7_readAll_65 (by decide) ?_
          exact K12 σ19 τ11 H19 locs19 z24 (fu - 1) _ _ ls hR hF hFL hP hS (by omega) (by omega) (by omega) (by first | exact all_s e1 | rw [iv, lop_s (f := (fun q nn => oneP b N mo nm hc 7 q nn)) (by omega) (by omega) e2]) (by omega) (by omega) (by omega) (by omega) (by omega) gCT gWH gCT (lv_sub hl [1, 2, 0] rfl) (by omega)
        · refine r_iconst hx hb dX7_readAll_60 (by decide) (fun z25 ez25 => ?_)
          exact r_zret hx hb hr hK hP hS hk (by omega) dX7_readAll_61 (show P_X7_readAll_d2 σ0 τ0 a1 b N mo q nn nm hc z25 σ19 τ11 from ⟨hR, hF, hFL, by omega, by first | (exfalso; omega) | (obtain ⟨f, e1, x1, x2⟩ := o1.no (by omega); exact RO.ofl (all_f e1) (by omega) x1 x2) | exact RO.ofr (by rw [iv, lop_e (by omega)]) (by omega) ⟨gCT, by omega, by omega⟩ | (obtain ⟨f, e2, x1, x2⟩ := o2.no (by omega); exact RO.ofl (by rw [iv, lop_f (f := (fun q nn => oneP b N mo nm hc 7 q nn)) (by omega) (by omega) e2]) (by omega) x1 x2) | (exfalso; omega), by omega, gWH⟩)
theorem A_X7_readAll_d2 (p : Program) (l : Launch) (e : Env) (s : State) (m : MethodId) (args : Array Value) (below : List Frame) (meth : Method) (c : Code) (D : va_G) (cA : Nat → ClassId) (ad : Nat → Nat) (σ0 : Nat → Nat → Int32) (τ0 : Nat → Nat → Int64) (a1 : Int32) (b : Nat → Int) (N : Nat) (mo : Nat) (q : Nat) (nn : Nat) (nm : Nat → Int) (hc : Nat) (C : Cy p s m args meth c cX7_readAll 3 wsX7_readAll RX7 D cA ad (some .boolean)) (ha1 : 2 ≤ a1.toInt ∧ a1.toInt ≤ 2) (hpre0 : (σ0 24 1).toInt = (nn : Int)) (hpre1 : 0 ≤ (σ0 24 2).toInt ∧ (σ0 24 2).toInt ≤ 2 * (nn : Int)) (hpre2 : nn ≤ 20) (gCT0 : CT σ0 τ0 b N mo q) (gWH0 : WH σ0 τ0 nm hc) : ∀ n : Nat, J_X7_readAll_d2_12 p l e s m args below meth c D cA ad σ0 τ0 a1 b N mo q nn nm hc n := by
  intro n
  induction n with
  | zero =>
    exact (by intro σ τ H locs x2 fu q1 n1 ls hR hF hFL hP hS hc0 hc1 hc2 iv ib2 ib3 ifu in20 ik13 gCT gWH gCT hl hm; exfalso; omega)
  | succ n ih =>
    exact B_X7_readAll_d2_12 p l e s m args below meth c D cA ad σ0 τ0 a1 b N mo q nn nm hc n C ha1 hpre0 hpre1 hpre2 gCT0 gWH0 ih
set_option maxHeartbeats 4000000 in
theorem c_X7_readAll_d2 (l : Launch) (D : va_G) (cA : Nat → ClassId) (ad : Nat → Nat) (hI : Inj ad) (σ0 : Nat → Nat → Int32) (τ0 : Nat → Nat → Int64) (hR : Rg σ0) (a1 : Int32) (b : Nat → Int) (N : Nat) (mo : Nat) (q : Nat) (nn : Nat) (nm : Nat → Int) (hc : Nat) (ha1 : 2 ≤ a1.toInt ∧ a1.toInt ≤ 2) (hpre0 : (σ0 24 1).toInt = (nn : Int)) (hpre1 : 0 ≤ (σ0 24 2).toInt ∧ (σ0 24 2).toInt ≤ 2 * (nn : Int)) (hpre2 : nn ≤ 20) (gCT0 : CT σ0 τ0 b N mo q) (gWH0 : WH σ0 τ0 nm hc) : Met l yX7_readAll wsX7_readAll ({ frames := 23, cells := 0, slots := 0, locals := 505 } : Room) (WQc D cA ad [.ref (ad 27), .int a1] σ0 τ0) (va_Qi (fun (r : Int32) (u : SS) => P_X7_readAll_d2 σ0 τ0 a1 b N mo q nn nm hc r u.1 u.2) (WB D cA ad) (AA ad)) 0 0 (AA ad) := by
  refine Met.ofW (cc := cX7_readAll) (maxL := 3) (ret := (some .boolean)) (by decide) rfl ?_
  intro p e s m args below meth c s₁ B hml hv
  obtain ⟨rfl, hP, hK, hN⟩ := hv
  have C : Cy p s m _ meth c cX7_readAll 3 wsX7_readAll RX7 D cA ad (some .boolean) := ⟨B.exec, B.bytes, hml, findClass_of_methodNamed B.named, atoms_spec (ws := wsX7_readAll) B.pre, hK, B.notSynchronized, B.returns, hI, hN⟩
  have hl := lv_entry ([.ref (ad 27), .int a1]) (n := 3) (Nat.le_of_ble_eq_true rfl)
  rw [lg_entry_eq]
  generalize (lg_sl ([.ref (ad 27), .int a1]) ++ List.replicate (3 - (lg_sl ([.ref (ad 27), .int a1])).length) Slot.unset).toArray = ls at hl ⊢
  have hl : lv_has ls 3 [(0, .ref (ad 27)), (1, .int a1)] := hl
  have hS : va_S (AA ad) s.heap s.heap [] := va_S.rf
  have hF : Fr L_X7_readAll_d2 σ0 σ0 := Fr.rf
  have hFL : FrL LL_X7_readAll_d2 τ0 τ0 := FrL.rf
  have gCT := gCT0
  have gWH := gWH0
  have hA := A_X7_readAll_d2 p l e s m _ below meth c D cA ad σ0 τ0 a1 b N mo q nn nm hc C ha1 hpre0 hpre1 hpre2 gCT0 gWH0 810
  have K12 := hA
  clear hA
  obtain ⟨hx, hb, _, hown, hts, _, hk, hr, _, _⟩ := C
  refine lv_aload_n hx hb dX7_readAll_0 rfl (lv_at hl 0 rfl) ?_
  refine lv_iload_n hx hb dX7_readAll_1 rfl (lv_at hl 1 rfl) ?_
  refine r_cVi (k := 27) (As := [.int a1]) (rest := []) ⟨hx, hb, hml, hown, hts⟩ hK hP hN hS (c_X7_readOne_d2 l D cA ad hI σ0 τ0 hR a1 b N mo q nn nm hc (by omega) (by omega) (by omega) (by omega) gCT gWH) (cwV 1 hts gX7_readAll_X7_readOne rfl rfl rfl (by decide +kernel) ⟨by decide, by decide⟩) (rv_SText hK hP (by decide) (by decide)) rfl hl.1 rfl (Nat.le_of_ble_eq_true rfl) dX7_readAll_2 (Nat.zero_le _) (Nat.zero_le _) (fun r1 u1 H1 locs1 hp1 hP hS => ?_)
  obtain ⟨σ1, τ1⟩ := u1
  obtain ⟨hR, f1, fL1, hq1, hp1_0, hp1_1, gnWH⟩ : P_X7_readOne_d2 σ0 τ0 a1 b N mo q nn nm hc r1 σ1 τ1 := hp1
  have o1 := hp1_0
  have hP : va_P D vwCl (gw cA ad σ1 τ1) H1 := hP
  have hFL := hFL.step fL1 (by decide)
  have gWH := gWH.agL (AgrL.fr fL1 (by decide))
  have hF := hF.step f1 (by decide)
  have gWH := gWH.ag (Agr.fr f1 (by decide))
  have hr2 := rg_6_1 hR (k := 24) (by decide) (by decide)
  have hr3 := rg_6_2 hR (k := 24) (by decide) (by decide)
  refine r_if_ne (tgt := 10) hx hb dX7_readAll_5 (by decide) (fun c4 => ?_) (fun c4 => ?_)
  · replace hp1_1 := hp1_1.resolve_left (by omega)
    obtain ⟨s1, e1, gCT, hs1, hs2⟩ := o1.ye (by omega)
    have hu1 := one_up _ _ _ _ e1
    refine r_iconst hx hb dX7_readAll_10 (by decide) (fun z5 ez5 => ?_)
    refine lv_istore_n (lv' := [(2, .int z5), (0, .ref (ad 27)), (1, .int a1)]) hx hb dX7_readAll_11 rfl hl (by decide) rfl (fun ls hl => ?_)
    exact K12 σ1 τ1 H1 locs1 z5 200 _ _ ls hR hF hFL hP hS (by omega) (by omega) (by omega) (by first | exact all_s e1 | rw [iv, lop_s (f := (fun q nn => oneP b N mo nm hc 7 q nn)) (by omega) (by omega) e2]) (by omega) (by omega) (by omega) (by omega) (by omega) gCT gWH gCT (lv_sub hl [1, 2, 0] rfl) (by omega)
  · clear hp1_1
    refine r_iconst hx hb dX7_readAll_8 (by decide) (fun z6 ez6 => ?_)
    exact r_zret hx hb hr hK hP hS hk (by omega) dX7_readAll_9 (show P_X7_readAll_d2 σ0 τ0 a1 b N mo q nn nm hc z6 σ1 τ1 from ⟨hR, hF, hFL, by omega, by first | (exfalso; omega) | (obtain ⟨f, e1, x1, x2⟩ := o1.no (by omega); exact RO.ofl (all_f e1) (by omega) x1 x2) | exact RO.ofr (by rw [iv, lop_e (by omega)]) (by omega) ⟨gCT, by omega, by omega⟩ | (obtain ⟨f, e2, x1, x2⟩ := o2.no (by omega); exact RO.ofl (by rw [iv, lop_f (f := (fun q nn => oneP b N mo nm hc 7 q nn)) (by omega) (by omega) e2]) (by omega) x1 x2) | (exfalso; omega), by omega, gWH⟩)
abbrev L_X7_readCond_d2 : List Rc := [(1, 1, 7, 10), (372, 372, 0, 39), (376, 376, 0, 39), (380, 380, 0, 39), (24, 24, 1, 2), (1, 1, 12, 14)]
abbrev LL_X7_readCond_d2 : List Rc := [(1, 1, 11, 11)]
def P_X7_readCond_d2 (σ0 : Nat → Nat → Int32) (τ0 : Nat → Nat → Int64) (a1 : Int32) (b : Nat → Int) (N : Nat) (mo : Nat) (q : Nat) (nn : Nat) (nm : Nat → Int) (hc : Nat) (r : Int32) (σ : Nat → Nat → Int32) (τ : Nat → Nat → Int64) : Prop := Rg σ ∧ Fr L_X7_readCond_d2 σ0 σ ∧ FrL LL_X7_readCond_d2 τ0 τ ∧ (0 ≤ r.toInt ∧ r.toInt ≤ 1) ∧ (RO r σ (conP b N mo (fun q nn => oneP b N mo nm hc 7 q nn) q nn) (fun s => CT σ τ b N mo s.1 ∧ (σ 24 1).toInt = (s.2 : Int) ∧ (σ 24 2).toInt + 2 * (nn : Int) + 1 ≤ (σ0 24 2).toInt + 2 * (s.2 : Int))) ∧ (r.toInt = 0 ∨ (σ 1 13).toInt = (σ0 1 13).toInt) ∧ WH σ τ nm hc
def J_X7_readCond_d2_12 (p : Program) (l : Launch) (e : Env) (s : State) (m : MethodId) (args : Array Value) (below : List Frame) (meth : Method) (c : Code) (D : va_G) (cA : Nat → ClassId) (ad : Nat → Nat) (σ0 : Nat → Nat → Int32) (τ0 : Nat → Nat → Int64) (a1 : Int32) (b : Nat → Int) (N : Nat) (mo : Nat) (q : Nat) (nn : Nat) (nm : Nat → Int) (hc : Nat) (n : Nat) : Prop := ∀ (σ : Nat → Nat → Int32) (τ : Nat → Nat → Int64) (H : Heap) (locs : List Loc) (x2 : Int32) (fu : Nat) (q1 : Nat) (n1 : Nat) (ls : Array Slot), Rg σ → Fr L_X7_readCond_d2 σ0 σ → FrL LL_X7_readCond_d2 τ0 τ → va_P D vwCl (gw cA ad σ τ) H → va_S (AA ad) s.heap H locs → (0 ≤ x2.toInt ∧ x2.toInt ≤ 200) → (0 ≤ (σ 24 1).toInt ∧ (σ 24 1).toInt ≤ 20) → (0 ≤ (σ 24 2).toInt ∧ (σ 24 2).toInt ≤ 40) → (conP b N mo (fun q nn => oneP b N mo nm hc 7 q nn) q nn = lopP b N mo 20 (allP b N mo (fun q nn => oneP b N mo nm hc 7 q nn)) fu q1 n1) → ((σ 24 1).toInt = (n1 : Int)) → (0 ≤ (σ 24 2).toInt ∧ (σ 24 2).toInt + 2 * (nn : Int) + 1 ≤ (σ0 24 2).toInt + 2 * (n1 : Int)) → ((fu : Int) + x2.toInt = 200) → (n1 ≤ 20) → ((σ 1 13).toInt = (σ0 1 13).toInt) → (CT σ τ b N mo q1) → (WH σ τ nm hc) → (CT σ τ b N mo q1) → lv_has ls 3 [(0, .ref (ad 27)), (1, .int a1), (2, .int x2)] → 2 * (200 - x2.toInt) + 1 < (n : Int) → W p l e ({ frames := 24, cells := 0, slots := 0, locals := 527 } : Room) s m args below meth c H locs 0 0 (MQ below (va_Qi (fun (r : Int32) (u : SS) => P_X7_readCond_d2 σ0 τ0 a1 b N mo q nn nm hc r u.1 u.2) (WB D cA ad) (AA ad)) args s 0 0 (AA ad)) (F0 m 12 ls [])
set_option maxHeartbeats 4000000 in
theorem B_X7_readCond_d2_12 (p : Program) (l : Launch) (e : Env) (s : State) (m : MethodId) (args : Array Value) (below : List Frame) (meth : Method) (c : Code) (D : va_G) (cA : Nat → ClassId) (ad : Nat → Nat) (σ0 : Nat → Nat → Int32) (τ0 : Nat → Nat → Int64) (a1 : Int32) (b : Nat → Int) (N : Nat) (mo : Nat) (q : Nat) (nn : Nat) (nm : Nat → Int) (hc : Nat) (n : Nat) (C : Cy p s m args meth c cX7_readCond 3 wsX7_readCond RX7 D cA ad (some .boolean)) (ha1 : 2 ≤ a1.toInt ∧ a1.toInt ≤ 2) (hpre0 : (σ0 24 1).toInt = (nn : Int)) (hpre1 : 0 ≤ (σ0 24 2).toInt ∧ (σ0 24 2).toInt ≤ 2 * (nn : Int)) (hpre2 : nn ≤ 20) (gCT0 : CT σ0 τ0 b N mo q) (gWH0 : WH σ0 τ0 nm hc) (K12 : J_X7_readCond_d2_12 p l e s m args below meth c D cA ad σ0 τ0 a1 b N mo q nn nm hc n) : J_X7_readCond_d2_12 p l e s m args below meth c D cA ad σ0 τ0 a1 b N mo q nn nm hc (n + 1) := by
  obtain ⟨hx, hb, hml, hown, hts, hK, hk, hr, hI, hN⟩ := C
  intro σ τ H locs x2 fu q1 n1 ls hR hF hFL hP hS hc0 hc1 hc2 iv ib2 ib3 ifu in20 ik13 gCT gWH gCT hl hm
  refine lv_iload_n hx hb dX7_readCond_12 rfl (lv_at hl 2 rfl) ?_
  refine r_sipush hx hb dX7_readCond_13 (by decide) (fun z1 ez1 => ?_)
  refine r_icmp_ge (tgt := 68) hx hb dX7_readCond_16 (by decide) (fun c2 => ?_) (fun c2 => ?_)
  · refine r_iconst hx hb dX7_readCond_68 (by decide) (fun z3 ez3 => ?_)
    exact r_zret hx hb hr hK hP hS hk (by omega) dX7_readCond_69 (show P_X7_readCond_d2 σ0 τ0 a1 b N mo q nn nm hc z3 σ τ from ⟨hR, hF, hFL, by omega, by first | (exfalso; omega) | (obtain ⟨f, e1, x1, x2⟩ := o1.no (by omega); exact RO.ofl (con_f e1) (by omega) x1 x2) | exact RO.ofr (by rw [iv, lop_e (by omega)]) (by omega) ⟨gCT, by omega, by omega⟩ | (obtain ⟨f, e2, x1, x2⟩ := o2.no (by omega); exact RO.ofl (by rw [iv, lop_f (f := (allP b N mo (fun q nn => oneP b N mo nm hc 7 q nn))) (by omega) (by omega) e2]) (by omega) x1 x2) | (exfalso; omega), by omega, gWH⟩)
  · have htk := gCT.tk
    refine lv_aload_n hx hb dX7_readCond_19 rfl (lv_at hl 0 rfl) ?_
    refine fg_7_0 (k := 27) hx hb hts in_X7_readCond_7 hown hK hP (by decide) (by decide) (hts _ lk_X7_readCond_9) dX7_readCond_20 ?_
    refine fgN_8_9 (k := 1) hx hb hts in_X7_readCond_8 hown hK hP (by decide) (by decide) (hN.use nw_7_32) dX7_readCond_23 ?_
    refine r_bipush hx hb dX7_readCond_26 (by decide) (fun z4 ez4 => ?_)
    refine r_icmp_ne (tgt := 68) hx hb dX7_readCond_28 (by decide) (fun c5 => ?_) (fun c5 => ?_)
    · refine r_iconst hx hb dX7_readCond_68 (by decide) (fun z6 ez6 => ?_)
      exact r_zret hx hb hr hK hP hS hk (by omega) dX7_readCond_69 (show P_X7_readCond_d2 σ0 τ0 a1 b N mo q nn nm hc z6 σ τ from ⟨hR, hF, hFL, by omega, by first | (exfalso; omega) | (obtain ⟨f, e1, x1, x2⟩ := o1.no (by omega); exact RO.ofl (con_f e1) (by omega) x1 x2) | exact RO.ofr (by rw [iv, lop_e (by omega)]) (by omega) ⟨gCT, by omega, by omega⟩ | (obtain ⟨f, e2, x1, x2⟩ := o2.no (by omega); exact RO.ofl (by rw [iv, lop_f (f := (allP b N mo (fun q nn => oneP b N mo nm hc 7 q nn))) (by omega) (by omega) e2]) (by omega) x1 x2) | (exfalso; omega), by omega, gWH⟩)
    · refine lv_aload_n hx hb dX7_readCond_31 rfl (lv_at hl 0 rfl) ?_
      refine fg_7_0 (k := 27) hx hb hts in_X7_readCond_7 hown hK hP (by decide) (by decide) (hts _ lk_X7_readCond_9) dX7_readCond_32 ?_
      refine r_cVv (k := 1) (As := []) (rest := []) ⟨hx, hb, hml, hown, hts⟩ hK hP hN hS (c_X8_next_v l D cA ad hI σ τ hR _ _ _ _ gCT) (cwV 0 hts gX7_readCond_X8_next rfl rfl rfl (by decide +kernel) ⟨by decide, by decide⟩) (rv_Tape hK hP (by decide) (by decide)) rfl hl.1 rfl (Nat.le_of_ble_eq_true rfl) dX7_readCond_35 (Nat.zero_le _) (Nat.zero_le _) (fun u7 H7 locs7 hp7 hP hS => ?_)
      obtain ⟨σ7, τ7⟩ := u7
      obtain ⟨hR, f7, fL7, hp7_0⟩ : P_X8_next_v σ τ _ _ _ _ σ7 τ7 := hp7
      have hP : va_P D vwCl (gw cA ad σ7 τ7) H7 := hP
      have hFL := hFL.step fL7 (by decide)
      have gWH := gWH.agL (AgrL.fr fL7 (by decide))
      have hF := hF.step f7 (by decide)
      have gWH := gWH.ag (Agr.fr f7 (by decide))
      have t8 : (σ7 24 1).toInt = (σ 24 1).toInt := congrArg Int32.toInt (f7.at 24 1 (by decide))
      have t9 : (σ7 24 2).toInt = (σ 24 2).toInt := congrArg Int32.toInt (f7.at 24 2 (by decide))
      have t10 : (σ7 1 13).toInt = (σ 1 13).toInt := congrArg Int32.toInt (f7.at 1 13 (by decide))
      have gCT := hp7_0
      refine lv_aload_n hx hb dX7_readCond_38 rfl (lv_at hl 0 rfl) ?_
      refine lv_iload_n hx hb dX7_readCond_39 rfl (lv_at hl 1 rfl) ?_
      refine r_cVi (k := 27) (As := [.int a1]) (rest := []) ⟨hx, hb, hml, hown, hts⟩ hK hP hN hS (c_X7_readAll_d2 l D cA ad hI σ7 τ7 hR a1 b N mo _ n1 nm hc (by omega) (by omega) (by omega) (by omega) gCT gWH) (cwV 1 hts gX7_readCond_X7_readAll rfl rfl rfl (by decide +kernel) ⟨by decide, by decide⟩) (rv_SText hK hP (by decide) (by decide)) rfl hl.1 rfl (Nat.le_of_ble_eq_true rfl) dX7_readCond_40 (Nat.zero_le _) (Nat.zero_le _) (fun r11 u11 H11 locs11 hp11 hP hS => ?_)
      obtain ⟨σ11, τ11⟩ := u11
      obtain ⟨hR, f11, fL11, hq11, hp11_0, hp11_1, gnWH⟩ : P_X7_readAll_d2 σ7 τ7 a1 b N mo _ n1 nm hc r11 σ11 τ11 := hp11
      have o2 := hp11_0
      have hP : va_P D vwCl (gw cA ad σ11 τ11) H11 := hP
      have hFL := hFL.step fL11 (by decide)
      have gWH := gWH.agL (AgrL.fr fL11 (by decide))
      have hF := hF.step f11 (by decide)
      have gWH := gWH.ag (Agr.fr f11 (by decide))
      have hr12 := rg_6_1 hR (k := 24) (by decide) (by decide)
      have hr13 := rg_6_2 hR (k := 24) (by decide) (by decide)
      refine r_if_eq (tgt := 60) hx hb dX7_readCond_43 (by decide) (fun c14 => ?_) (fun c14 => ?_)
      · clear hp11_1
        refine r_iconst hx hb dX7_readCond_60 (by decide) (fun z15 ez15 => ?_)
        exact r_zret hx hb hr hK hP hS hk (by omega) dX7_readCond_61 (show P_X7_readCond_d2 σ0 τ0 a1 b N mo q nn nm hc z15 σ11 τ11 from ⟨hR, hF, hFL, by omega, by first | (exfalso; omega) | (obtain ⟨f, e1, x1, x2⟩ := o1.no (by omega); exact RO.ofl (con_f e1) (by omega) x1 x2) | exact RO.ofr (by rw [iv, lop_e (by omega)]) (by omega) ⟨gCT, by omega, by omega⟩ | (obtain ⟨f, e2, x1, x2⟩ := o2.no (by omega); exact RO.ofl (by rw [iv, lop_f (f := (allP b N mo (fun q nn => oneP b N mo nm hc 7 q nn))) (by omega) (by omega) e2]) (by omega) x1 x2) | (exfalso; omega), by omega, gWH⟩)
      · replace hp11_1 := hp11_1.resolve_left (by omega)
        obtain ⟨s2, e2, gCT, hs3, hs4⟩ := o2.ye (by omega)
        have hu2 := all_up (one_up _) _ _ _ e2
        refine lv_aload_n hx hb dX7_readCond_46 rfl (lv_at hl 0 rfl) ?_
        refine fg_7_2 (k := 27) hx hb hts in_X7_readCond_7 hown hK hP (by decide) (by decide) (hts _ lk_X7_readCond_19) dX7_readCond_47 ?_
        refine r_bipush hx hb dX7_readCond_50 (by decide) (fun z16 ez16 => ?_)
        refine r_iconst hx hb dX7_readCond_52 (by decide) (fun z17 ez17 => ?_)
        refine r_iconst hx hb dX7_readCond_53 (by decide) (fun z18 ez18 => ?_)
        refine r_cVi (k := 24) (As := [.int z16, .int z17, .int z18]) (rest := []) ⟨hx, hb, hml, hown, hts⟩ hK hP hN hS (c_X6_add l D cA ad hI σ11 τ11 hR z16 z17 z18 (by omega)) (cwV 3 hts gX7_readCond_X6_add rfl rfl rfl (by decide +kernel) ⟨by decide, by decide⟩) (rv_Sent hK hP (by decide) (by decide)) rfl hl.1 rfl (Nat.le_of_ble_eq_true rfl) dX7_readCond_54 (Nat.zero_le _) (Nat.zero_le _) (fun r19 u19 H19 locs19 hp19 hP hS => ?_)
        obtain ⟨σ19, τ19⟩ := u19
        obtain ⟨hR, f19, fL19, hq19, hp19_0⟩ : P_X6_add σ11 τ11 z16 z17 z18 r19 σ19 τ19 := hp19
        have hP : va_P D vwCl (gw cA ad σ19 τ19) H19 := hP
        obtain rfl := FrL.nil fL19
        have hF := hF.step f19 (by decide)
        have gCT := gCT.ag (Agr.fr f19 (by decide))
        have gWH := gWH.ag (Agr.fr f19 (by decide))
        have t20 : (σ19 24 1).toInt = (σ11 24 1).toInt := congrArg Int32.toInt (f19.at 24 1 (by decide))
        have t21 : (σ19 1 13).toInt = (σ11 1 13).toInt := congrArg Int32.toInt (f19.at 1 13 (by decide))
        have hr22 := rg_6_2 hR (k := 24) (by decide) (by decide)
        refine r_if_ne (tgt := 62) hx hb dX7_readCond_57 (by decide) (fun c23 => ?_) (fun c23 => ?_)
        · refine r_iinc (k := 2) (lv1 := fun z24 => [(2, .int z24), (0, .ref (ad 27)), (1, .int a1)]) hx hb dX7_readCond_62 hl rfl (by decide) (fun _ => rfl) (by decide) (by omega) (fun z24 ls ez24 hl => ?_)
          refine lv_goto (tgt := 12) hx hb dX7_readCond_65 (by decide) ?_
          exact K12 σ19 τ11 H19 locs19 z24 (fu - 1) _ _ ls hR hF hFL hP hS (by omega) (by omega) (by omega) (by first | exact con_s e1 | rw [iv, lop_s (f := (allP b N mo (fun q nn => oneP b N mo nm hc 7 q nn))) (by omega) (by omega) e2]) (by omega) (by omega) (by omega) (by omega) (by omega) gCT gWH gCT (lv_sub hl [1, 2, 0] rfl) (by omega)
        · refine r_iconst hx hb dX7_readCond_60 (by decide) (fun z25 ez25 => ?_)
          exact r_zret hx hb hr hK hP hS hk (by omega) dX7_readCond_61 (show P_X7_readCond_d2 σ0 τ0 a1 b N mo q nn nm hc z25 σ19 τ11 from ⟨hR, hF, hFL, by omega, by first | (exfalso; omega) | (obtain ⟨f, e1, x1, x2⟩ := o1.no (by omega); exact RO.ofl (con_f e1) (by omega) x1 x2) | exact RO.ofr (by rw [iv, lop_e (by omega)]) (by omega) ⟨gCT, by omega, by omega⟩ | (obtain ⟨f, e2, x1, x2⟩ := o2.no (by omega); exact RO.ofl (by rw [iv, lop_f (f := (allP b N mo (fun q nn => oneP b N mo nm hc 7 q nn))) (by omega) (by omega) e2]) (by omega) x1 x2) | (exfalso; omega), by omega, gWH⟩)
theorem A_X7_readCond_d2 (p : Program) (l : Launch) (e : Env) (s : State) (m : MethodId) (args : Array Value) (below : List Frame) (meth : Method) (c : Code) (D : va_G) (cA : Nat → ClassId) (ad : Nat → Nat) (σ0 : Nat → Nat → Int32) (τ0 : Nat → Nat → Int64) (a1 : Int32) (b : Nat → Int) (N : Nat) (mo : Nat) (q : Nat) (nn : Nat) (nm : Nat → Int) (hc : Nat) (C : Cy p s m args meth c cX7_readCond 3 wsX7_readCond RX7 D cA ad (some .boolean)) (ha1 : 2 ≤ a1.toInt ∧ a1.toInt ≤ 2) (hpre0 : (σ0 24 1).toInt = (nn : Int)) (hpre1 : 0 ≤ (σ0 24 2).toInt ∧ (σ0 24 2).toInt ≤ 2 * (nn : Int)) (hpre2 : nn ≤ 20) (gCT0 : CT σ0 τ0 b N mo q) (gWH0 : WH σ0 τ0 nm hc) : ∀ n : Nat, J_X7_readCond_d2_12 p l e s m args below meth c D cA ad σ0 τ0 a1 b N mo q nn nm hc n := by
  intro n
  induction n with
  | zero =>
    exact (by intro σ τ H locs x2 fu q1 n1 ls hR hF hFL hP hS hc0 hc1 hc2 iv ib2 ib3 ifu in20 ik13 gCT gWH gCT hl hm; exfalso; omega)
  | succ n ih =>
    exact B_X7_readCond_d2_12 p l e s m args below meth c D cA ad σ0 τ0 a1 b N mo q nn nm hc n C ha1 hpre0 hpre1 hpre2 gCT0 gWH0 ih
set_option maxHeartbeats 4000000 in
theorem c_X7_readCond_d2 (l : Launch) (D : va_G) (cA : Nat → ClassId) (ad : Nat → Nat) (hI : Inj ad) (σ0 : Nat → Nat → Int32) (τ0 : Nat → Nat → Int64) (hR : Rg σ0) (a1 : Int32) (b : Nat → Int) (N : Nat) (mo : Nat) (q : Nat) (nn : Nat) (nm : Nat → Int) (hc : Nat) (ha1 : 2 ≤ a1.toInt ∧ a1.toInt ≤ 2) (hpre0 : (σ0 24 1).toInt = (nn : Int)) (hpre1 : 0 ≤ (σ0 24 2).toInt ∧ (σ0 24 2).toInt ≤ 2 * (nn : Int)) (hpre2 : nn ≤ 20) (gCT0 : CT σ0 τ0 b N mo q) (gWH0 : WH σ0 τ0 nm hc) : Met l yX7_readCond wsX7_readCond ({ frames := 24, cells := 0, slots := 0, locals := 527 } : Room) (WQc D cA ad [.ref (ad 27), .int a1] σ0 τ0) (va_Qi (fun (r : Int32) (u : SS) => P_X7_readCond_d2 σ0 τ0 a1 b N mo q nn nm hc r u.1 u.2) (WB D cA ad) (AA ad)) 0 0 (AA ad) := by
  refine Met.ofW (cc := cX7_readCond) (maxL := 3) (ret := (some .boolean)) (by decide) rfl ?_
  intro p e s m args below meth c s₁ B hml hv
  obtain ⟨rfl, hP, hK, hN⟩ := hv
  have C : Cy p s m _ meth c cX7_readCond 3 wsX7_readCond RX7 D cA ad (some .boolean) := ⟨B.exec, B.bytes, hml, findClass_of_methodNamed B.named, atoms_spec (ws := wsX7_readCond) B.pre, hK, B.notSynchronized, B.returns, hI, hN⟩
  have hl := lv_entry ([.ref (ad 27), .int a1]) (n := 3) (Nat.le_of_ble_eq_true rfl)
  rw [lg_entry_eq]
  generalize (lg_sl ([.ref (ad 27), .int a1]) ++ List.replicate (3 - (lg_sl ([.ref (ad 27), .int a1])).length) Slot.unset).toArray = ls at hl ⊢
  have hl : lv_has ls 3 [(0, .ref (ad 27)), (1, .int a1)] := hl
  have hS : va_S (AA ad) s.heap s.heap [] := va_S.rf
  have hF : Fr L_X7_readCond_d2 σ0 σ0 := Fr.rf
  have hFL : FrL LL_X7_readCond_d2 τ0 τ0 := FrL.rf
  have gCT := gCT0
  have gWH := gWH0
  have hA := A_X7_readCond_d2 p l e s m _ below meth c D cA ad σ0 τ0 a1 b N mo q nn nm hc C ha1 hpre0 hpre1 hpre2 gCT0 gWH0 810
  have K12 := hA
  clear hA
  obtain ⟨hx, hb, _, hown, hts, _, hk, hr, _, _⟩ := C
  refine lv_aload_n hx hb dX7_readCond_0 rfl (lv_at hl 0 rfl) ?_
  refine lv_iload_n hx hb dX7_readCond_1 rfl (lv_at hl 1 rfl) ?_
  refine r_cVi (k := 27) (As := [.int a1]) (rest := []) ⟨hx, hb, hml, hown, hts⟩ hK hP hN hS (c_X7_readAll_d2 l D cA ad hI σ0 τ0 hR a1 b N mo q nn nm hc (by omega) (by omega) (by omega) (by omega) gCT gWH) (cwV 1 hts gX7_readCond_X7_readAll rfl rfl rfl (by decide +kernel) ⟨by decide, by decide⟩) (rv_SText hK hP (by decide) (by decide)) rfl hl.1 rfl (Nat.le_of_ble_eq_true rfl) dX7_readCond_2 (Nat.zero_le _) (Nat.zero_le _) (fun r1 u1 H1 locs1 hp1 hP hS => ?_)
  obtain ⟨σ1, τ1⟩ := u1
  obtain ⟨hR, f1, fL1, hq1, hp1_0, hp1_1, gnWH⟩ : P_X7_readAll_d2 σ0 τ0 a1 b N mo q nn nm hc r1 σ1 τ1 := hp1
  have o1 := hp1_0
  have hP : va_P D vwCl (gw cA ad σ1 τ1) H1 := hP
  have hFL := hFL.step fL1 (by decide)
  have gWH := gWH.agL (AgrL.fr fL1 (by decide))
  have hF := hF.step f1 (by decide)
  have gWH := gWH.ag (Agr.fr f1 (by decide))
  have hr2 := rg_6_1 hR (k := 24) (by decide) (by decide)
  have hr3 := rg_6_2 hR (k := 24) (by decide) (by decide)
  refine r_if_ne (tgt := 10) hx hb dX7_readCond_5 (by decide) (fun c4 => ?_) (fun c4 => ?_)
  · replace hp1_1 := hp1_1.resolve_left (by omega)
    obtain ⟨s1, e1, gCT, hs1, hs2⟩ := o1.ye (by omega)
    have hu1 := all_up (one_up _) _ _ _ e1
    refine r_iconst hx hb dX7_readCond_10 (by decide) (fun z5 ez5 => ?_)
    refine lv_istore_n (lv' := [(2, .int z5), (0, .ref (ad 27)), (1, .int a1)]) hx hb dX7_readCond_11 rfl hl (by decide) rfl (fun ls hl => ?_)
    exact K12 σ1 τ1 H1 locs1 z5 200 _ _ ls hR hF hFL hP hS (by omega) (by omega) (by omega) (by first | exact con_s e1 | rw [iv, lop_s (f := (allP b N mo (fun q nn => oneP b N mo nm hc 7 q nn))) (by omega) (by omega) e2]) (by omega) (by omega) (by omega) (by omega) (by omega) gCT gWH gCT (lv_sub hl [1, 2, 0] rfl) (by omega)
  · clear hp1_1
    refine r_iconst hx hb dX7_readCond_8 (by decide) (fun z6 ez6 => ?_)
    exact r_zret hx hb hr hK hP hS hk (by omega) dX7_readCond_9 (show P_X7_readCond_d2 σ0 τ0 a1 b N mo q nn nm hc z6 σ1 τ1 from ⟨hR, hF, hFL, by omega, by first | (exfalso; omega) | (obtain ⟨f, e1, x1, x2⟩ := o1.no (by omega); exact RO.ofl (con_f e1) (by omega) x1 x2) | exact RO.ofr (by rw [iv, lop_e (by omega)]) (by omega) ⟨gCT, by omega, by omega⟩ | (obtain ⟨f, e2, x1, x2⟩ := o2.no (by omega); exact RO.ofl (by rw [iv, lop_f (f := (allP b N mo (fun q nn => oneP b N mo nm hc 7 q nn))) (by omega) (by omega) e2]) (by omega) x1 x2) | (exfalso; omega), by omega, gWH⟩)
abbrev L_X7_readOne_d1 : List Rc := [(1, 1, 7, 10), (372, 372, 0, 39), (376, 376, 0, 39), (380, 380, 0, 39), (24, 24, 1, 2), (1, 1, 12, 14)]
abbrev LL_X7_readOne_d1 : List Rc := [(1, 1, 11, 11)]
def P_X7_readOne_d1 (σ0 : Nat → Nat → Int32) (τ0 : Nat → Nat → Int64) (a1 : Int32) (b : Nat → Int) (N : Nat) (mo : Nat) (q : Nat) (nn : Nat) (nm : Nat → Int) (hc : Nat) (r : Int32) (σ : Nat → Nat → Int32) (τ : Nat → Nat → Int64) : Prop := Rg σ ∧ Fr L_X7_readOne_d1 σ0 σ ∧ FrL LL_X7_readOne_d1 τ0 τ ∧ (0 ≤ r.toInt ∧ r.toInt ≤ 1) ∧ (RO r σ (oneP b N mo nm hc 8 q nn) (fun s => CT σ τ b N mo s.1 ∧ (σ 24 1).toInt = (s.2 : Int) ∧ (σ 24 2).toInt + 2 * (nn : Int) + 1 ≤ (σ0 24 2).toInt + 2 * (s.2 : Int))) ∧ (r.toInt = 0 ∨ (σ 1 13).toInt = (σ0 1 13).toInt) ∧ WH σ τ nm hc
set_option maxHeartbeats 4000000 in
theorem c_X7_readOne_d1 (l : Launch) (D : va_G) (cA : Nat → ClassId) (ad : Nat → Nat) (hI : Inj ad) (σ0 : Nat → Nat → Int32) (τ0 : Nat → Nat → Int64) (hR : Rg σ0) (a1 : Int32) (b : Nat → Int) (N : Nat) (mo : Nat) (q : Nat) (nn : Nat) (nm : Nat → Int) (hc : Nat) (ha1 : 1 ≤ a1.toInt ∧ a1.toInt ≤ 1) (hpre0 : (σ0 24 1).toInt = (nn : Int)) (hpre1 : 0 ≤ (σ0 24 2).toInt ∧ (σ0 24 2).toInt ≤ 2 * (nn : Int)) (hpre2 : nn ≤ 20) (gCT0 : CT σ0 τ0 b N mo q) (gWH0 : WH σ0 τ0 nm hc) : Met l yX7_readOne wsX7_readOne ({ frames := 25, cells := 0, slots := 0, locals := 549 } : Room) (WQc D cA ad [.ref (ad 27), .int a1] σ0 τ0) (va_Qi (fun (r : Int32) (u : SS) => P_X7_readOne_d1 σ0 τ0 a1 b N mo q nn nm hc r u.1 u.2) (WB D cA ad) (AA ad)) 0 0 (AA ad) := by
  refine Met.ofW (cc := cX7_readOne) (maxL := 3) (ret := (some .boolean)) (by decide) rfl ?_
  intro p e s m args below meth c s₁ B hml hv
  obtain ⟨rfl, hP, hK, hN⟩ := hv
  have C : Cy p s m _ meth c cX7_readOne 3 wsX7_readOne RX7 D cA ad (some .boolean) := ⟨B.exec, B.bytes, hml, findClass_of_methodNamed B.named, atoms_spec (ws := wsX7_readOne) B.pre, hK, B.notSynchronized, B.returns, hI, hN⟩
  have hl := lv_entry ([.ref (ad 27), .int a1]) (n := 3) (Nat.le_of_ble_eq_true rfl)
  rw [lg_entry_eq]
  generalize (lg_sl ([.ref (ad 27), .int a1]) ++ List.replicate (3 - (lg_sl ([.ref (ad 27), .int a1])).length) Slot.unset).toArray = ls at hl ⊢
  have hl : lv_has ls 3 [(0, .ref (ad 27)), (1, .int a1)] := hl
  have hS : va_S (AA ad) s.heap s.heap [] := va_S.rf
  have hF : Fr L_X7_readOne_d1 σ0 σ0 := Fr.rf
  have hFL : FrL LL_X7_readOne_d1 τ0 τ0 := FrL.rf
  have gCT := gCT0
  have gWH := gWH0
  obtain ⟨hx, hb, _, hown, hts, _, hk, hr, _, _⟩ := C
  have htk := gCT.tk
  refine lv_aload_n hx hb dX7_readOne_0 rfl (lv_at hl 0 rfl) ?_
  refine fg_7_0 (k := 27) hx hb hts in_X7_readOne_7 hown hK hP (by decide) (by decide) (hts _ lk_X7_readOne_9) dX7_readOne_1 ?_
  refine fgN_8_9 (k := 1) hx hb hts in_X7_readOne_8 hown hK hP (by decide) (by decide) (hN.use nw_7_32) dX7_readOne_4 ?_
  refine lv_istore_n (lv' := [(2, .int (σ0 1 9)), (0, .ref (ad 27)), (1, .int a1)]) hx hb dX7_readOne_7 rfl hl (by decide) rfl (fun ls hl => ?_)
  refine lv_iload_n hx hb dX7_readOne_8 rfl (lv_at hl 0 rfl) ?_
  refine r_cSi (As := [.int (σ0 1 9)]) (rest := []) ⟨hx, hb, hml, hown, hts⟩ hK hP hN hS (c_X7_beginsOne l D cA ad hI σ0 τ0 hR (σ0 1 9)) (va_cwS 1 hts gX7_readOne_X7_beginsOne rfl rfl rfl (by decide +kernel) ⟨by decide, by decide⟩) rfl hl.1 rfl (Nat.le_of_ble_eq_true rfl) dX7_readOne_9 (Nat.zero_le _) (Nat.zero_le _) (fun r1 u1 H1 locs1 hp1 hP hS => ?_)
  obtain ⟨σ1, τ1⟩ := u1
  obtain ⟨hR, f1, fL1, hq1, hp1_0⟩ : P_X7_beginsOne σ0 τ0 (σ0 1 9) r1 σ1 τ1 := hp1
  have hP : va_P D vwCl (gw cA ad σ1 τ1) H1 := hP
  obtain rfl := FrL.nil fL1
  obtain rfl := Fr.nil f1
  refine r_if_ne (tgt := 24) hx hb dX7_readOne_12 (by decide) (fun c2 => ?_) (fun c2 => ?_)
  · refine lv_aload_n hx hb dX7_readOne_24 rfl (lv_at hl 1 rfl) ?_
    refine fg_7_2 (k := 27) hx hb hts in_X7_readOne_7 hown hK hP (by decide) (by decide) (hts _ lk_X7_readOne_19) dX7_readOne_25 ?_
    refine fgN_6_1 (k := 24) hx hb hts in_X7_readOne_6 hown hK hP (by decide) (by decide) (hN.use nw_7_61) dX7_readOne_28 ?_
    refine r_bipush hx hb dX7_readOne_31 (by decide) (fun z3 ez3 => ?_)
    refine r_icmp_ge (tgt := 42) hx hb dX7_readOne_33 (by decide) (fun c4 => ?_) (fun c4 => ?_)
    · refine lv_aload_n hx hb dX7_readOne_42 rfl (lv_at hl 1 rfl) ?_
      refine fg_7_0 (k := 27) hx hb hts in_X7_readOne_7 hown hK hP (by decide) (by decide) (hts _ lk_X7_readOne_9) dX7_readOne_43 ?_
      refine r_iconst hx hb dX7_readOne_46 (by decide) (fun z5 ez5 => ?_)
      refine r_cVi (k := 1) (As := [.int z5]) (rest := []) ⟨hx, hb, hml, hown, hts⟩ hK hP hN hS (c_X8_blame_v l D cA ad hI σ0 τ0 hR z5 _ _ _ _ (by omega) gCT) (cwV 1 hts gX7_readOne_X8_blame rfl rfl rfl (by decide +kernel) ⟨by decide, by decide⟩) (rv_Tape hK hP (by decide) (by decide)) rfl hl.1 rfl (Nat.le_of_ble_eq_true rfl) dX7_readOne_47 (Nat.zero_le _) (Nat.zero_le _) (fun r6 u6 H6 locs6 hp6 hP hS => ?_)
      obtain ⟨σ6, τ6⟩ := u6
      obtain ⟨hR, f6, fL6, hq6, hp6_0, hp6_1, hp6_2, gnCT⟩ : P_X8_blame_v σ0 τ0 z5 _ _ _ _ r6 σ6 τ6 := hp6
      have hP : va_P D vwCl (gw cA ad σ6 τ6) H6 := hP
      obtain rfl := FrL.nil fL6
      have hF := hF.step f6 (by decide)
      have gCT := gCT.ag (Agr.fr f6 (by decide))
      have gWH := gWH.ag (Agr.fr f6 (by decide))
      have t7 : (σ6 24 1).toInt = (σ0 24 1).toInt := congrArg Int32.toInt (f6.at 24 1 (by decide))
      have t8 : (σ6 24 2).toInt = (σ0 24 2).toInt := congrArg Int32.toInt (f6.at 24 2 (by decide))
      exact r_zret hx hb hr hK hP hS hk (by omega) dX7_readOne_50 (show P_X7_readOne_d1 σ0 τ0 a1 b N mo q nn nm hc r6 σ6 τ0 from ⟨hR, hF, hFL, by omega, by first | exact RO.ofr ((one_l (by omega) (by omega) (by omega) (by omega)).trans (lea_n (by omega) (by omega))) (by omega) ⟨gCT, by omega, by omega⟩ | (exfalso; omega) | exact RO.ofk (one_x (by omega)) (by omega) (by omega) (by omega) | exact RO.ofk (one_4 (by omega) (by omega)) (by omega) (by omega) (by omega) | (obtain ⟨f, e1, x1, x2⟩ := o1.no (by omega); exact RO.ofl ((one_n (by omega) (by omega)).trans e1) (by omega) x1 x2) | exact RO.ofr ((one_n (by omega) (by omega)).trans e1) (by omega) ⟨gCT, by omega, by omega⟩ | (obtain ⟨f, e2, x1, x2⟩ := o2.no (by omega); exact RO.ofl (by rw [one_o (by omega) (by omega), e2, bnd_l]) (by omega) x1 x2) | (obtain ⟨f, e3, x1, x2⟩ := o3.no (by omega); exact RO.ofl (by rw [one_o (by omega) (by omega), e2, bnd_r, e3, bnd_l]) (by omega) x1 x2) | exact RO.ofr (by rw [one_o (by omega) (by omega), e2, bnd_r, e3, bnd_r]) (by omega) ⟨gCT, by omega, by omega⟩ | (rw [one_l (by omega) (by omega) (by omega) (by omega)]; exact o4.map (fun s es h => ⟨h.1, h.2.1, by have h2 := h.2.2; have hl := lea_up es; omega⟩)) | (rw [one_l (by omega) (by omega) (by omega) (by omega)]; exact o5.map (fun s es h => ⟨h.1, h.2.1, by have h2 := h.2.2; have hl := lea_up es; omega⟩)), by omega, gWH⟩)
    · refine lv_iload_n hx hb dX7_readOne_36 rfl (lv_at hl 2 rfl) ?_
      refine r_bipush hx hb dX7_readOne_37 (by decide) (fun z9 ez9 => ?_)
      refine r_icmp_le (tgt := 51) hx hb dX7_readOne_39 (by decide) (fun c10 => ?_) (fun c10 => ?_)
      · refine lv_aload_n hx hb dX7_readOne_51 rfl (lv_at hl 1 rfl) ?_
        refine fg_7_2 (k := 27) hx hb hts in_X7_readOne_7 hown hK hP (by decide) (by decide) (hts _ lk_X7_readOne_19) dX7_readOne_52 ?_
        refine lv_dup hx hb dX7_readOne_55 rfl ?_
        refine fgN_6_1 (k := 24) hx hb hts in_X7_readOne_6 hown hK hP (by decide) (by decide) (hN.use nw_7_61) dX7_readOne_56 ?_
        refine r_iconst hx hb dX7_readOne_59 (by decide) (fun z11 ez11 => ?_)
        refine r_iadd hx hb dX7_readOne_60 (by omega) (fun z12 ez12 => ?_)
        refine fpN_6_1 (k := 24) hx hb hts in_X7_readOne_6 hown hK hP (by decide) (by decide) (hN.use nw_7_61) hI hR hS (by omega) dX7_readOne_61 (fun σ13 H13 locs13 u13 v13 hR hP hS => ?_)
        have hF := hF.puts u13 4 rfl (by decide) (by decide) (by decide) (by decide)
        have gCT := gCT.ag (Agr.put u13 (by decide))
        have gWH := gWH.ag (Agr.put u13 (by decide))
        have t14 : (σ13 24 2).toInt = (σ0 24 2).toInt := congrArg Int32.toInt (u13 24 2 (by omega))
        have t15 : (σ13 1 13).toInt = (σ0 1 13).toInt := congrArg Int32.toInt (u13 1 13 (by omega))
        refine lv_aload_n hx hb dX7_readOne_64 rfl (lv_at hl 1 rfl) ?_
        refine fg_7_0 (k := 27) hx hb hts in_X7_readOne_7 hown hK hP (by decide) (by decide) (hts _ lk_X7_readOne_9) dX7_readOne_65 ?_
        refine r_cVv (k := 1) (As := []) (rest := []) ⟨hx, hb, hml, hown, hts⟩ hK hP hN hS (c_X8_next_v l D cA ad hI σ13 τ0 hR _ _ _ _ gCT) (cwV 0 hts gX7_readOne_X8_next rfl rfl rfl (by decide +kernel) ⟨by decide, by decide⟩) (rv_Tape hK hP (by decide) (by decide)) rfl hl.1 rfl (Nat.le_of_ble_eq_true rfl) dX7_readOne_68 (Nat.zero_le _) (Nat.zero_le _) (fun u16 H16 locs16 hp16 hP hS => ?_)
        obtain ⟨σ16, τ16⟩ := u16
        obtain ⟨hR, f16, fL16, hp16_0⟩ : P_X8_next_v σ13 τ0 _ _ _ _ σ16 τ16 := hp16
        have hP : va_P D vwCl (gw cA ad σ16 τ16) H16 := hP
        have hFL := hFL.step fL16 (by decide)
        have gWH := gWH.agL (AgrL.fr fL16 (by decide))
        have hF := hF.step f16 (by decide)
        have gWH := gWH.ag (Agr.fr f16 (by decide))
        have t17 : (σ16 24 2).toInt = (σ13 24 2).toInt := congrArg Int32.toInt (f16.at 24 2 (by decide))
        have t18 : (σ16 1 13).toInt = (σ13 1 13).toInt := congrArg Int32.toInt (f16.at 1 13 (by decide))
        have t19 : (σ16 24 1).toInt = (σ13 24 1).toInt := congrArg Int32.toInt (f16.at 24 1 (by decide))
        have gCT := hp16_0
        refine lv_iload_n hx hb dX7_readOne_71 rfl (lv_at hl 0 rfl) ?_
        by_cases c20 : (σ0 1 9).toInt = 22
        · refine lv_tableIn (off := 108) (tgt := 180) hx hb dX7_readOne_72 (by omega) (by omega) (by rw [c20]; rfl) (by decide) ?_
          refine lv_aload_n hx hb dX7_readOne_180 rfl (lv_at hl 1 rfl) ?_
          refine lv_iload_n hx hb dX7_readOne_181 rfl (lv_at hl 2 rfl) ?_
          refine r_iconst hx hb dX7_readOne_182 (by decide) (fun z21 ez21 => ?_)
          refine r_iadd hx hb dX7_readOne_183 (by omega) (fun z22 ez22 => ?_)
          refine r_cVi (k := 27) (As := [.int z22]) (rest := []) ⟨hx, hb, hml, hown, hts⟩ hK hP hN hS (c_X7_readOne_d2 l D cA ad hI σ16 τ16 hR z22 b N mo _ (nn + 1) nm hc (by omega) (by omega) (by omega) (by omega) gCT gWH) (cwV 1 hts gX7_readOne_X7_readOne rfl rfl rfl (by decide +kernel) ⟨by decide, by decide⟩) (rv_SText hK hP (by decide) (by decide)) rfl hl.1 rfl (Nat.le_of_ble_eq_true rfl) dX7_readOne_184 (Nat.zero_le _) (Nat.zero_le _) (fun r23 u23 H23 locs23 hp23 hP hS => ?_)
          obtain ⟨σ23, τ23⟩ := u23
          obtain ⟨hR, f23, fL23, hq23, hp23_0, hp23_1, gnWH⟩ : P_X7_readOne_d2 σ16 τ16 z22 b N mo _ (nn + 1) nm hc r23 σ23 τ23 := hp23
          have o1 := hp23_0
          have hP : va_P D vwCl (gw cA ad σ23 τ23) H23 := hP
          have hFL := hFL.step fL23 (by decide)
          have gWH := gWH.agL (AgrL.fr fL23 (by decide))
          have hF := hF.step f23 (by decide)
          have gWH := gWH.ag (Agr.fr f23 (by decide))
          have hr24 := rg_6_1 hR (k := 24) (by decide) (by decide)
          have hr25 := rg_6_2 hR (k := 24) (by decide) (by decide)
          refine r_if_eq (tgt := 208) hx hb dX7_readOne_187 (by decide) (fun c26 => ?_) (fun c26 => ?_)
          · clear hp23_1
            refine r_iconst hx hb dX7_readOne_208 (by decide) (fun z27 ez27 => ?_)
            exact r_zret hx hb hr hK hP hS hk (by omega) dX7_readOne_209 (show P_X7_readOne_d1 σ0 τ0 a1 b N mo q nn nm hc z27 σ23 τ23 from ⟨hR, hF, hFL, by omega, by first | exact RO.ofr ((one_l (by omega) (by omega) (by omega) (by omega)).trans (lea_n (by omega) (by omega))) (by omega) ⟨gCT, by omega, by omega⟩ | (exfalso; omega) | exact RO.ofk (one_x (by omega)) (by omega) (by omega) (by omega) | exact RO.ofk (one_4 (by omega) (by omega)) (by omega) (by omega) (by omega) | (obtain ⟨f, e1, x1, x2⟩ := o1.no (by omega); exact RO.ofl ((one_n (by omega) (by omega)).trans e1) (by omega) x1 x2) | exact RO.ofr ((one_n (by omega) (by omega)).trans e1) (by omega) ⟨gCT, by omega, by omega⟩ | (obtain ⟨f, e2, x1, x2⟩ := o2.no (by omega); exact RO.ofl (by rw [one_o (by omega) (by omega), e2, bnd_l]) (by omega) x1 x2) | (obtain ⟨f, e3, x1, x2⟩ := o3.no (by omega); exact RO.ofl (by rw [one_o (by omega) (by omega), e2, bnd_r, e3, bnd_l]) (by omega) x1 x2) | exact RO.ofr (by rw [one_o (by omega) (by omega), e2, bnd_r, e3, bnd_r]) (by omega) ⟨gCT, by omega, by omega⟩ | (rw [one_l (by omega) (by omega) (by omega) (by omega)]; exact o4.map (fun s es h => ⟨h.1, h.2.1, by have h2 := h.2.2; have hl := lea_up es; omega⟩)) | (rw [one_l (by omega) (by omega) (by omega) (by omega)]; exact o5.map (fun s es h => ⟨h.1, h.2.1, by have h2 := h.2.2; have hl := lea_up es; omega⟩)), by omega, gWH⟩)
          · replace hp23_1 := hp23_1.resolve_left (by omega)
            obtain ⟨s1, e1, gCT, hs1, hs2⟩ := o1.ye (by omega)
            have hu1 := one_up _ _ _ _ e1
            refine lv_aload_n hx hb dX7_readOne_190 rfl (lv_at hl 1 rfl) ?_
            refine fg_7_2 (k := 27) hx hb hts in_X7_readOne_7 hown hK hP (by decide) (by decide) (hts _ lk_X7_readOne_19) dX7_readOne_191 ?_
            refine r_bipush hx hb dX7_readOne_194 (by decide) (fun z28 ez28 => ?_)
            refine r_iconst hx hb dX7_readOne_196 (by decide) (fun z29 ez29 => ?_)
            refine r_iconst hx hb dX7_readOne_197 (by decide) (fun z30 ez30 => ?_)
            refine r_cVi (k := 24) (As := [.int z28, .int z29, .int z30]) (rest := []) ⟨hx, hb, hml, hown, hts⟩ hK hP hN hS (c_X6_add l D cA ad hI σ23 τ23 hR z28 z29 z30 (by omega)) (cwV 3 hts gX7_readOne_X6_add rfl rfl rfl (by decide +kernel) ⟨by decide, by decide⟩) (rv_Sent hK hP (by decide) (by decide)) rfl hl.1 rfl (Nat.le_of_ble_eq_true rfl) dX7_readOne_198 (Nat.zero_le _) (Nat.zero_le _) (fun r31 u31 H31 locs31 hp31 hP hS => ?_)
            obtain ⟨σ31, τ31⟩ := u31
            obtain ⟨hR, f31, fL31, hq31, hp31_0⟩ : P_X6_add σ23 τ23 z28 z29 z30 r31 σ31 τ31 := hp31
            have hP : va_P D vwCl (gw cA ad σ31 τ31) H31 := hP
            obtain rfl := FrL.nil fL31
            have hF := hF.step f31 (by decide)
            have gCT := gCT.ag (Agr.fr f31 (by decide))
            have gWH := gWH.ag (Agr.fr f31 (by decide))
            have t32 : (σ31 24 1).toInt = (σ23 24 1).toInt := congrArg Int32.toInt (f31.at 24 1 (by decide))
            have t33 : (σ31 1 13).toInt = (σ23 1 13).toInt := congrArg Int32.toInt (f31.at 1 13 (by decide))
            have hr34 := rg_6_2 hR (k := 24) (by decide) (by decide)
            refine r_if_eq (tgt := 208) hx hb dX7_readOne_201 (by decide) (fun c35 => ?_) (fun c35 => ?_)
            · refine r_iconst hx hb dX7_readOne_208 (by decide) (fun z36 ez36 => ?_)
              exact r_zret hx hb hr hK hP hS hk (by omega) dX7_readOne_209 (show P_X7_readOne_d1 σ0 τ0 a1 b N mo q nn nm hc z36 σ31 τ23 from ⟨hR, hF, hFL, by omega, by first | exact RO.ofr ((one_l (by omega) (by omega) (by omega) (by omega)).trans (lea_n (by omega) (by omega))) (by omega) ⟨gCT, by omega, by omega⟩ | (exfalso; omega) | exact RO.ofk (one_x (by omega)) (by omega) (by omega) (by omega) | exact RO.ofk (one_4 (by omega) (by omega)) (by omega) (by omega) (by omega) | (obtain ⟨f, e1, x1, x2⟩ := o1.no (by omega); exact RO.ofl ((one_n (by omega) (by omega)).trans e1) (by omega) x1 x2) | exact RO.ofr ((one_n (by omega) (by omega)).trans e1) (by omega) ⟨gCT, by omega, by omega⟩ | (obtain ⟨f, e2, x1, x2⟩ := o2.no (by omega); exact RO.ofl (by rw [one_o (by omega) (by omega), e2, bnd_l]) (by omega) x1 x2) | (obtain ⟨f, e3, x1, x2⟩ := o3.no (by omega); exact RO.ofl (by rw [one_o (by omega) (by omega), e2, bnd_r, e3, bnd_l]) (by omega) x1 x2) | exact RO.ofr (by rw [one_o (by omega) (by omega), e2, bnd_r, e3, bnd_r]) (by omega) ⟨gCT, by omega, by omega⟩ | (rw [one_l (by omega) (by omega) (by omega) (by omega)]; exact o4.map (fun s es h => ⟨h.1, h.2.1, by have h2 := h.2.2; have hl := lea_up es; omega⟩)) | (rw [one_l (by omega) (by omega) (by omega) (by omega)]; exact o5.map (fun s es h => ⟨h.1, h.2.1, by have h2 := h.2.2; have hl := lea_up es; omega⟩)), by omega, gWH⟩)
            · refine r_iconst hx hb dX7_readOne_204 (by decide) (fun z37 ez37 => ?_)
              refine lv_goto (tgt := 209) hx hb dX7_readOne_205 (by decide) ?_
              exact r_zret hx hb hr hK hP hS hk (by omega) dX7_readOne_209 (show P_X7_readOne_d1 σ0 τ0 a1 b N mo q nn nm hc z37 σ31 τ23 from ⟨hR, hF, hFL, by omega, by first | exact RO.ofr ((one_l (by omega) (by omega) (by omega) (by omega)).trans (lea_n (by omega) (by omega))) (by omega) ⟨gCT, by omega, by omega⟩ | (exfalso; omega) | exact RO.ofk (one_x (by omega)) (by omega) (by omega) (by omega) | exact RO.ofk (one_4 (by omega) (by omega)) (by omega) (by omega) (by omega) | (obtain ⟨f, e1, x1, x2⟩ := o1.no (by omega); exact RO.ofl ((one_n (by omega) (by omega)).trans e1) (by omega) x1 x2) | exact RO.ofr ((one_n (by omega) (by omega)).trans e1) (by omega) ⟨gCT, by omega, by omega⟩ | (obtain ⟨f, e2, x1, x2⟩ := o2.no (by omega); exact RO.ofl (by rw [one_o (by omega) (by omega), e2, bnd_l]) (by omega) x1 x2) | (obtain ⟨f, e3, x1, x2⟩ := o3.no (by omega); exact RO.ofl (by rw [one_o (by omega) (by omega), e2, bnd_r, e3, bnd_l]) (by omega) x1 x2) | exact RO.ofr (by rw [one_o (by omega) (by omega), e2, bnd_r, e3, bnd_r]) (by omega) ⟨gCT, by omega, by omega⟩ | (rw [one_l (by omega) (by omega) (by omega) (by omega)]; exact o4.map (fun s es h => ⟨h.1, h.2.1, by have h2 := h.2.2; have hl := lea_up es; omega⟩)) | (rw [one_l (by omega) (by omega) (by omega) (by omega)]; exact o5.map (fun s es h => ⟨h.1, h.2.1, by have h2 := h.2.2; have hl := lea_up es; omega⟩)), by omega, gWH⟩)
        by_cases c38 : (σ0 1 9).toInt = 23
        · refine lv_tableIn (off := 177) (tgt := 249) hx hb dX7_readOne_72 (by omega) (by omega) (by rw [c38]; rfl) (by decide) ?_
          refine lv_aload_n hx hb dX7_readOne_249 rfl (lv_at hl 1 rfl) ?_
          refine fg_7_2 (k := 27) hx hb hts in_X7_readOne_7 hown hK hP (by decide) (by decide) (hts _ lk_X7_readOne_19) dX7_readOne_250 ?_
          refine lv_iload_n hx hb dX7_readOne_253 rfl (lv_at hl 0 rfl) ?_
          refine r_bipush hx hb dX7_readOne_254 (by decide) (fun z39 ez39 => ?_)
          refine r_iconst hx hb dX7_readOne_256 (by decide) (fun z40 ez40 => ?_)
          refine r_cVi (k := 24) (As := [.int (σ0 1 9), .int z39, .int z40]) (rest := []) ⟨hx, hb, hml, hown, hts⟩ hK hP hN hS (c_X6_add l D cA ad hI σ16 τ16 hR (σ0 1 9) z39 z40 (by omega)) (cwV 3 hts gX7_readOne_X6_add rfl rfl rfl (by decide +kernel) ⟨by decide, by decide⟩) (rv_Sent hK hP (by decide) (by decide)) rfl hl.1 rfl (Nat.le_of_ble_eq_true rfl) dX7_readOne_257 (Nat.zero_le _) (Nat.zero_le _) (fun r41 u41 H41 locs41 hp41 hP hS => ?_)
          obtain ⟨σ41, τ41⟩ := u41
          obtain ⟨hR, f41, fL41, hq41, hp41_0⟩ : P_X6_add σ16 τ16 (σ0 1 9) z39 z40 r41 σ41 τ41 := hp41
          have hP : va_P D vwCl (gw cA ad σ41 τ41) H41 := hP
          obtain rfl := FrL.nil fL41
          have hF := hF.step f41 (by decide)
          have gCT := gCT.ag (Agr.fr f41 (by decide))
          have gWH := gWH.ag (Agr.fr f41 (by decide))
          have t42 : (σ41 1 13).toInt = (σ16 1 13).toInt := congrArg Int32.toInt (f41.at 1 13 (by decide))
          have t43 : (σ41 24 1).toInt = (σ16 24 1).toInt := congrArg Int32.toInt (f41.at 24 1 (by decide))
          have hr44 := rg_6_2 hR (k := 24) (by decide) (by decide)
          exact r_zret hx hb hr hK hP hS hk (by omega) dX7_readOne_260 (show P_X7_readOne_d1 σ0 τ0 a1 b N mo q nn nm hc r41 σ41 τ16 from ⟨hR, hF, hFL, by omega, by first | exact RO.ofr ((one_l (by omega) (by omega) (by omega) (by omega)).trans (lea_n (by omega) (by omega))) (by omega) ⟨gCT, by omega, by omega⟩ | (exfalso; omega) | exact RO.ofk (one_x (by omega)) (by omega) (by omega) (by omega) | exact RO.ofk (one_4 (by omega) (by omega)) (by omega) (by omega) (by omega) | (obtain ⟨f, e1, x1, x2⟩ := o1.no (by omega); exact RO.ofl ((one_n (by omega) (by omega)).trans e1) (by omega) x1 x2) | exact RO.ofr ((one_n (by omega) (by omega)).trans e1) (by omega) ⟨gCT, by omega, by omega⟩ | (obtain ⟨f, e2, x1, x2⟩ := o2.no (by omega); exact RO.ofl (by rw [one_o (by omega) (by omega), e2, bnd_l]) (by omega) x1 x2) | (obtain ⟨f, e3, x1, x2⟩ := o3.no (by omega); exact RO.ofl (by rw [one_o (by omega) (by omega), e2, bnd_r, e3, bnd_l]) (by omega) x1 x2) | exact RO.ofr (by rw [one_o (by omega) (by omega), e2, bnd_r, e3, bnd_r]) (by omega) ⟨gCT, by omega, by omega⟩ | (rw [one_l (by omega) (by omega) (by omega) (by omega)]; exact o4.map (fun s es h => ⟨h.1, h.2.1, by have h2 := h.2.2; have hl := lea_up es; omega⟩)) | (rw [one_l (by omega) (by omega) (by omega) (by omega)]; exact o5.map (fun s es h => ⟨h.1, h.2.1, by have h2 := h.2.2; have hl := lea_up es; omega⟩)), by omega, gWH⟩)
        by_cases c45 : (σ0 1 9).toInt = 24
        · refine lv_tableIn (off := 177) (tgt := 249) hx hb dX7_readOne_72 (by omega) (by omega) (by rw [c45]; rfl) (by decide) ?_
          refine lv_aload_n hx hb dX7_readOne_249 rfl (lv_at hl 1 rfl) ?_
          refine fg_7_2 (k := 27) hx hb hts in_X7_readOne_7 hown hK hP (by decide) (by decide) (hts _ lk_X7_readOne_19) dX7_readOne_250 ?_
          refine lv_iload_n hx hb dX7_readOne_253 rfl (lv_at hl 0 rfl) ?_
          refine r_bipush hx hb dX7_readOne_254 (by decide) (fun z46 ez46 => ?_)
          refine r_iconst hx hb dX7_readOne_256 (by decide) (fun z47 ez47 => ?_)
          refine r_cVi (k := 24) (As := [.int (σ0 1 9), .int z46, .int z47]) (rest := []) ⟨hx, hb, hml, hown, hts⟩ hK hP hN hS (c_X6_add l D cA ad hI σ16 τ16 hR (σ0 1 9) z46 z47 (by omega)) (cwV 3 hts gX7_readOne_X6_add rfl rfl rfl (by decide +kernel) ⟨by decide, by decide⟩) (rv_Sent hK hP (by decide) (by decide)) rfl hl.1 rfl (Nat.le_of_ble_eq_true rfl) dX7_readOne_257 (Nat.zero_le _) (Nat.zero_le _) (fun r48 u48 H48 locs48 hp48 hP hS => ?_)
          obtain ⟨σ48, τ48⟩ := u48
          obtain ⟨hR, f48, fL48, hq48, hp48_0⟩ : P_X6_add σ16 τ16 (σ0 1 9) z46 z47 r48 σ48 τ48 := hp48
          have hP : va_P D vwCl (gw cA ad σ48 τ48) H48 := hP
          obtain rfl := FrL.nil fL48
          have hF := hF.step f48 (by decide)
          have gCT := gCT.ag (Agr.fr f48 (by decide))
          have gWH := gWH.ag (Agr.fr f48 (by decide))
          have t49 : (σ48 1 13).toInt = (σ16 1 13).toInt := congrArg Int32.toInt (f48.at 1 13 (by decide))
          have t50 : (σ48 24 1).toInt = (σ16 24 1).toInt := congrArg Int32.toInt (f48.at 24 1 (by decide))
          have hr51 := rg_6_2 hR (k := 24) (by decide) (by decide)
          exact r_zret hx hb hr hK hP hS hk (by omega) dX7_readOne_260 (show P_X7_readOne_d1 σ0 τ0 a1 b N mo q nn nm hc r48 σ48 τ16 from ⟨hR, hF, hFL, by omega, by first | exact RO.ofr ((one_l (by omega) (by omega) (by omega) (by omega)).trans (lea_n (by omega) (by omega))) (by omega) ⟨gCT, by omega, by omega⟩ | (exfalso; omega) | exact RO.ofk (one_x (by omega)) (by omega) (by omega) (by omega) | exact RO.ofk (one_4 (by omega) (by omega)) (by omega) (by omega) (by omega) | (obtain ⟨f, e1, x1, x2⟩ := o1.no (by omega); exact RO.ofl ((one_n (by omega) (by omega)).trans e1) (by omega) x1 x2) | exact RO.ofr ((one_n (by omega) (by omega)).trans e1) (by omega) ⟨gCT, by omega, by omega⟩ | (obtain ⟨f, e2, x1, x2⟩ := o2.no (by omega); exact RO.ofl (by rw [one_o (by omega) (by omega), e2, bnd_l]) (by omega) x1 x2) | (obtain ⟨f, e3, x1, x2⟩ := o3.no (by omega); exact RO.ofl (by rw [one_o (by omega) (by omega), e2, bnd_r, e3, bnd_l]) (by omega) x1 x2) | exact RO.ofr (by rw [one_o (by omega) (by omega), e2, bnd_r, e3, bnd_r]) (by omega) ⟨gCT, by omega, by omega⟩ | (rw [one_l (by omega) (by omega) (by omega) (by omega)]; exact o4.map (fun s es h => ⟨h.1, h.2.1, by have h2 := h.2.2; have hl := lea_up es; omega⟩)) | (rw [one_l (by omega) (by omega) (by omega) (by omega)]; exact o5.map (fun s es h => ⟨h.1, h.2.1, by have h2 := h.2.2; have hl := lea_up es; omega⟩)), by omega, gWH⟩)
        by_cases c52 : (σ0 1 9).toInt = 25
        · refine lv_tableIn (off := 166) (tgt := 238) hx hb dX7_readOne_72 (by omega) (by omega) (by rw [c52]; rfl) (by decide) ?_
          refine lv_aload_n hx hb dX7_readOne_238 rfl (lv_at hl 1 rfl) ?_
          refine r_cVi (k := 27) (As := []) (rest := []) ⟨hx, hb, hml, hown, hts⟩ hK hP hN hS (c_X7_readOn l D cA ad hI σ16 τ16 hR b N mo _ (nn + 1) nm hc (tkq b N mo q) (by omega) (by omega) (by omega) gCT gWH) (cwV 0 hts gX7_readOne_X7_readOn rfl rfl rfl (by decide +kernel) ⟨by decide, by decide⟩) (rv_SText hK hP (by decide) (by decide)) rfl hl.1 rfl (Nat.le_of_ble_eq_true rfl) dX7_readOne_239 (Nat.zero_le _) (Nat.zero_le _) (fun r53 u53 H53 locs53 hp53 hP hS => ?_)
          obtain ⟨σ53, τ53⟩ := u53
          obtain ⟨hR, f53, fL53, hq53, hp53_0, hp53_1, gnWH⟩ : P_X7_readOn σ16 τ16 b N mo _ (nn + 1) nm hc (tkq b N mo q) r53 σ53 τ53 := hp53
          have o4 := hp53_0
          have hP : va_P D vwCl (gw cA ad σ53 τ53) H53 := hP
          have hFL := hFL.step fL53 (by decide)
          have gWH := gWH.agL (AgrL.fr fL53 (by decide))
          have hF := hF.step f53 (by decide)
          have gWH := gWH.ag (Agr.fr f53 (by decide))
          have t54 : (σ53 24 1).toInt = (σ16 24 1).toInt := congrArg Int32.toInt (f53.at 24 1 (by decide))
          have hr55 := rg_6_2 hR (k := 24) (by decide) (by decide)
          exact r_zret hx hb hr hK hP hS hk (by omega) dX7_readOne_242 (show P_X7_readOne_d1 σ0 τ0 a1 b N mo q nn nm hc r53 σ53 τ53 from ⟨hR, hF, hFL, by omega, by first | exact RO.ofr ((one_l (by omega) (by omega) (by omega) (by omega)).trans (lea_n (by omega) (by omega))) (by omega) ⟨gCT, by omega, by omega⟩ | (exfalso; omega) | exact RO.ofk (one_x (by omega)) (by omega) (by omega) (by omega) | exact RO.ofk (one_4 (by omega) (by omega)) (by omega) (by omega) (by omega) | (obtain ⟨f, e1, x1, x2⟩ := o1.no (by omega); exact RO.ofl ((one_n (by omega) (by omega)).trans e1) (by omega) x1 x2) | exact RO.ofr ((one_n (by omega) (by omega)).trans e1) (by omega) ⟨gCT, by omega, by omega⟩ | (obtain ⟨f, e2, x1, x2⟩ := o2.no (by omega); exact RO.ofl (by rw [one_o (by omega) (by omega), e2, bnd_l]) (by omega) x1 x2) | (obtain ⟨f, e3, x1, x2⟩ := o3.no (by omega); exact RO.ofl (by rw [one_o (by omega) (by omega), e2, bnd_r, e3, bnd_l]) (by omega) x1 x2) | exact RO.ofr (by rw [one_o (by omega) (by omega), e2, bnd_r, e3, bnd_r]) (by omega) ⟨gCT, by omega, by omega⟩ | (rw [one_l (by omega) (by omega) (by omega) (by omega)]; exact o4.map (fun s es h => ⟨h.1, h.2.1, by have h2 := h.2.2; have hl := lea_up es; omega⟩)) | (rw [one_l (by omega) (by omega) (by omega) (by omega)]; exact o5.map (fun s es h => ⟨h.1, h.2.1, by have h2 := h.2.2; have hl := lea_up es; omega⟩)), by omega, gWH⟩)
        by_cases c56 : (σ0 1 9).toInt = 26
        · refine lv_tableIn (off := 177) (tgt := 249) hx hb dX7_readOne_72 (by omega) (by omega) (by rw [c56]; rfl) (by decide) ?_
          refine lv_aload_n hx hb dX7_readOne_249 rfl (lv_at hl 1 rfl) ?_
          refine fg_7_2 (k := 27) hx hb hts in_X7_readOne_7 hown hK hP (by decide) (by decide) (hts _ lk_X7_readOne_19) dX7_readOne_250 ?_
          refine lv_iload_n hx hb dX7_readOne_253 rfl (lv_at hl 0 rfl) ?_
          refine r_bipush hx hb dX7_readOne_254 (by decide) (fun z57 ez57 => ?_)
          refine r_iconst hx hb dX7_readOne_256 (by decide) (fun z58 ez58 => ?_)
          refine r_cVi (k := 24) (As := [.int (σ0 1 9), .int z57, .int z58]) (rest := []) ⟨hx, hb, hml, hown, hts⟩ hK hP hN hS (c_X6_add l D cA ad hI σ16 τ16 hR (σ0 1 9) z57 z58 (by omega)) (cwV 3 hts gX7_readOne_X6_add rfl rfl rfl (by decide +kernel) ⟨by decide, by decide⟩) (rv_Sent hK hP (by decide) (by decide)) rfl hl.1 rfl (Nat.le_of_ble_eq_true rfl) dX7_readOne_257 (Nat.zero_le _) (Nat.zero_le _) (fun r59 u59 H59 locs59 hp59 hP hS => ?_)
          obtain ⟨σ59, τ59⟩ := u59
          obtain ⟨hR, f59, fL59, hq59, hp59_0⟩ : P_X6_add σ16 τ16 (σ0 1 9) z57 z58 r59 σ59 τ59 := hp59
          have hP : va_P D vwCl (gw cA ad σ59 τ59) H59 := hP
          obtain rfl := FrL.nil fL59
          have hF := hF.step f59 (by decide)
          have gCT := gCT.ag (Agr.fr f59 (by decide))
          have gWH := gWH.ag (Agr.fr f59 (by decide))
          have t60 : (σ59 1 13).toInt = (σ16 1 13).toInt := congrArg Int32.toInt (f59.at 1 13 (by decide))
          have t61 : (σ59 24 1).toInt = (σ16 24 1).toInt := congrArg Int32.toInt (f59.at 24 1 (by decide))
          have hr62 := rg_6_2 hR (k := 24) (by decide) (by decide)
          exact r_zret hx hb hr hK hP hS hk (by omega) dX7_readOne_260 (show P_X7_readOne_d1 σ0 τ0 a1 b N mo q nn nm hc r59 σ59 τ16 from ⟨hR, hF, hFL, by omega, by first | exact RO.ofr ((one_l (by omega) (by omega) (by omega) (by omega)).trans (lea_n (by omega) (by omega))) (by omega) ⟨gCT, by omega, by omega⟩ | (exfalso; omega) | exact RO.ofk (one_x (by omega)) (by omega) (by omega) (by omega) | exact RO.ofk (one_4 (by omega) (by omega)) (by omega) (by omega) (by omega) | (obtain ⟨f, e1, x1, x2⟩ := o1.no (by omega); exact RO.ofl ((one_n (by omega) (by omega)).trans e1) (by omega) x1 x2) | exact RO.ofr ((one_n (by omega) (by omega)).trans e1) (by omega) ⟨gCT, by omega, by omega⟩ | (obtain ⟨f, e2, x1, x2⟩ := o2.no (by omega); exact RO.ofl (by rw [one_o (by omega) (by omega), e2, bnd_l]) (by omega) x1 x2) | (obtain ⟨f, e3, x1, x2⟩ := o3.no (by omega); exact RO.ofl (by rw [one_o (by omega) (by omega), e2, bnd_r, e3, bnd_l]) (by omega) x1 x2) | exact RO.ofr (by rw [one_o (by omega) (by omega), e2, bnd_r, e3, bnd_r]) (by omega) ⟨gCT, by omega, by omega⟩ | (rw [one_l (by omega) (by omega) (by omega) (by omega)]; exact o4.map (fun s es h => ⟨h.1, h.2.1, by have h2 := h.2.2; have hl := lea_up es; omega⟩)) | (rw [one_l (by omega) (by omega) (by omega) (by omega)]; exact o5.map (fun s es h => ⟨h.1, h.2.1, by have h2 := h.2.2; have hl := lea_up es; omega⟩)), by omega, gWH⟩)
        by_cases c63 : (σ0 1 9).toInt = 27
        · refine lv_tableIn (off := 171) (tgt := 243) hx hb dX7_readOne_72 (by omega) (by omega) (by rw [c63]; rfl) (by decide) ?_
          refine lv_aload_n hx hb dX7_readOne_243 rfl (lv_at hl 1 rfl) ?_
          refine lv_iload_n hx hb dX7_readOne_244 rfl (lv_at hl 0 rfl) ?_
          refine r_cVi (k := 27) (As := [.int (σ0 1 9)]) (rest := []) ⟨hx, hb, hml, hown, hts⟩ hK hP hN hS (c_X7_readMeasure l D cA ad hI σ16 τ16 hR (σ0 1 9) b N mo _ (nn + 1) nm hc (tkq b N mo q) (by omega) (by omega) (by omega) (by omega) gCT gWH) (cwV 1 hts gX7_readOne_X7_readMeasure rfl rfl rfl (by decide +kernel) ⟨by decide, by decide⟩) (rv_SText hK hP (by decide) (by decide)) rfl hl.1 rfl (Nat.le_of_ble_eq_true rfl) dX7_readOne_245 (Nat.zero_le _) (Nat.zero_le _) (fun r64 u64 H64 locs64 hp64 hP hS => ?_)
          obtain ⟨σ64, τ64⟩ := u64
          obtain ⟨hR, f64, fL64, hq64, hp64_0, hp64_1, gnWH⟩ : P_X7_readMeasure σ16 τ16 (σ0 1 9) b N mo _ (nn + 1) nm hc (tkq b N mo q) r64 σ64 τ64 := hp64
          have o5 := hp64_0
          have hP : va_P D vwCl (gw cA ad σ64 τ64) H64 := hP
          have hFL := hFL.step fL64 (by decide)
          have gWH := gWH.agL (AgrL.fr fL64 (by decide))
          have hF := hF.step f64 (by decide)
          have gWH := gWH.ag (Agr.fr f64 (by decide))
          have t65 : (σ64 24 1).toInt = (σ16 24 1).toInt := congrArg Int32.toInt (f64.at 24 1 (by decide))
          have hr66 := rg_6_2 hR (k := 24) (by decide) (by decide)
          exact r_zret hx hb hr hK hP hS hk (by omega) dX7_readOne_248 (show P_X7_readOne_d1 σ0 τ0 a1 b N mo q nn nm hc r64 σ64 τ64 from ⟨hR, hF, hFL, by omega, by first | exact RO.ofr ((one_l (by omega) (by omega) (by omega) (by omega)).trans (lea_n (by omega) (by omega))) (by omega) ⟨gCT, by omega, by omega⟩ | (exfalso; omega) | exact RO.ofk (one_x (by omega)) (by omega) (by omega) (by omega) | exact RO.ofk (one_4 (by omega) (by omega)) (by omega) (by omega) (by omega) | (obtain ⟨f, e1, x1, x2⟩ := o1.no (by omega); exact RO.ofl ((one_n (by omega) (by omega)).trans e1) (by omega) x1 x2) | exact RO.ofr ((one_n (by omega) (by omega)).trans e1) (by omega) ⟨gCT, by omega, by omega⟩ | (obtain ⟨f, e2, x1, x2⟩ := o2.no (by omega); exact RO.ofl (by rw [one_o (by omega) (by omega), e2, bnd_l]) (by omega) x1 x2) | (obtain ⟨f, e3, x1, x2⟩ := o3.no (by omega); exact RO.ofl (by rw [one_o (by omega) (by omega), e2, bnd_r, e3, bnd_l]) (by omega) x1 x2) | exact RO.ofr (by rw [one_o (by omega) (by omega), e2, bnd_r, e3, bnd_r]) (by omega) ⟨gCT, by omega, by omega⟩ | (rw [one_l (by omega) (by omega) (by omega) (by omega)]; exact o4.map (fun s es h => ⟨h.1, h.2.1, by have h2 := h.2.2; have hl := lea_up es; omega⟩)) | (rw [one_l (by omega) (by omega) (by omega) (by omega)]; exact o5.map (fun s es h => ⟨h.1, h.2.1, by have h2 := h.2.2; have hl := lea_up es; omega⟩)), by omega, gWH⟩)
        by_cases c67 : (σ0 1 9).toInt = 28
        · refine lv_tableIn (off := 171) (tgt := 243) hx hb dX7_readOne_72 (by omega) (by omega) (by rw [c67]; rfl) (by decide) ?_
          refine lv_aload_n hx hb dX7_readOne_243 rfl (lv_at hl 1 rfl) ?_
          refine lv_iload_n hx hb dX7_readOne_244 rfl (lv_at hl 0 rfl) ?_
          refine r_cVi (k := 27) (As := [.int (σ0 1 9)]) (rest := []) ⟨hx, hb, hml, hown, hts⟩ hK hP hN hS (c_X7_readMeasure l D cA ad hI σ16 τ16 hR (σ0 1 9) b N mo _ (nn + 1) nm hc (tkq b N mo q) (by omega) (by omega) (by omega) (by omega) gCT gWH) (cwV 1 hts gX7_readOne_X7_readMeasure rfl rfl rfl (by decide +kernel) ⟨by decide, by decide⟩) (rv_SText hK hP (by decide) (by decide)) rfl hl.1 rfl (Nat.le_of_ble_eq_true rfl) dX7_readOne_245 (Nat.zero_le _) (Nat.zero_le _) (fun r68 u68 H68 locs68 hp68 hP hS => ?_)
          obtain ⟨σ68, τ68⟩ := u68
          obtain ⟨hR, f68, fL68, hq68, hp68_0, hp68_1, gnWH⟩ : P_X7_readMeasure σ16 τ16 (σ0 1 9) b N mo _ (nn + 1) nm hc (tkq b N mo q) r68 σ68 τ68 := hp68
          have o5 := hp68_0
          have hP : va_P D vwCl (gw cA ad σ68 τ68) H68 := hP
          have hFL := hFL.step fL68 (by decide)
          have gWH := gWH.agL (AgrL.fr fL68 (by decide))
          have hF := hF.step f68 (by decide)
          have gWH := gWH.ag (Agr.fr f68 (by decide))
          have t69 : (σ68 24 1).toInt = (σ16 24 1).toInt := congrArg Int32.toInt (f68.at 24 1 (by decide))
          have hr70 := rg_6_2 hR (k := 24) (by decide) (by decide)
          exact r_zret hx hb hr hK hP hS hk (by omega) dX7_readOne_248 (show P_X7_readOne_d1 σ0 τ0 a1 b N mo q nn nm hc r68 σ68 τ68 from ⟨hR, hF, hFL, by omega, by first | exact RO.ofr ((one_l (by omega) (by omega) (by omega) (by omega)).trans (lea_n (by omega) (by omega))) (by omega) ⟨gCT, by omega, by omega⟩ | (exfalso; omega) | exact RO.ofk (one_x (by omega)) (by omega) (by omega) (by omega) | exact RO.ofk (one_4 (by omega) (by omega)) (by omega) (by omega) (by omega) | (obtain ⟨f, e1, x1, x2⟩ := o1.no (by omega); exact RO.ofl ((one_n (by omega) (by omega)).trans e1) (by omega) x1 x2) | exact RO.ofr ((one_n (by omega) (by omega)).trans e1) (by omega) ⟨gCT, by omega, by omega⟩ | (obtain ⟨f, e2, x1, x2⟩ := o2.no (by omega); exact RO.ofl (by rw [one_o (by omega) (by omega), e2, bnd_l]) (by omega) x1 x2) | (obtain ⟨f, e3, x1, x2⟩ := o3.no (by omega); exact RO.ofl (by rw [one_o (by omega) (by omega), e2, bnd_r, e3, bnd_l]) (by omega) x1 x2) | exact RO.ofr (by rw [one_o (by omega) (by omega), e2, bnd_r, e3, bnd_r]) (by omega) ⟨gCT, by omega, by omega⟩ | (rw [one_l (by omega) (by omega) (by omega) (by omega)]; exact o4.map (fun s es h => ⟨h.1, h.2.1, by have h2 := h.2.2; have hl := lea_up es; omega⟩)) | (rw [one_l (by omega) (by omega) (by omega) (by omega)]; exact o5.map (fun s es h => ⟨h.1, h.2.1, by have h2 := h.2.2; have hl := lea_up es; omega⟩)), by omega, gWH⟩)
        by_cases c71 : (σ0 1 9).toInt = 29
        · refine lv_tableIn (off := 171) (tgt := 243) hx hb dX7_readOne_72 (by omega) (by omega) (by rw [c71]; rfl) (by decide) ?_
          refine lv_aload_n hx hb dX7_readOne_243 rfl (lv_at hl 1 rfl) ?_
          refine lv_iload_n hx hb dX7_readOne_244 rfl (lv_at hl 0 rfl) ?_
          refine r_cVi (k := 27) (As := [.int (σ0 1 9)]) (rest := []) ⟨hx, hb, hml, hown, hts⟩ hK hP hN hS (c_X7_readMeasure l D cA ad hI σ16 τ16 hR (σ0 1 9) b N mo _ (nn + 1) nm hc (tkq b N mo q) (by omega) (by omega) (by omega) (by omega) gCT gWH) (cwV 1 hts gX7_readOne_X7_readMeasure rfl rfl rfl (by decide +kernel) ⟨by decide, by decide⟩) (rv_SText hK hP (by decide) (by decide)) rfl hl.1 rfl (Nat.le_of_ble_eq_true rfl) dX7_readOne_245 (Nat.zero_le _) (Nat.zero_le _) (fun r72 u72 H72 locs72 hp72 hP hS => ?_)
          obtain ⟨σ72, τ72⟩ := u72
          obtain ⟨hR, f72, fL72, hq72, hp72_0, hp72_1, gnWH⟩ : P_X7_readMeasure σ16 τ16 (σ0 1 9) b N mo _ (nn + 1) nm hc (tkq b N mo q) r72 σ72 τ72 := hp72
          have o5 := hp72_0
          have hP : va_P D vwCl (gw cA ad σ72 τ72) H72 := hP
          have hFL := hFL.step fL72 (by decide)
          have gWH := gWH.agL (AgrL.fr fL72 (by decide))
          have hF := hF.step f72 (by decide)
          have gWH := gWH.ag (Agr.fr f72 (by decide))
          have t73 : (σ72 24 1).toInt = (σ16 24 1).toInt := congrArg Int32.toInt (f72.at 24 1 (by decide))
          have hr74 := rg_6_2 hR (k := 24) (by decide) (by decide)
          exact r_zret hx hb hr hK hP hS hk (by omega) dX7_readOne_248 (show P_X7_readOne_d1 σ0 τ0 a1 b N mo q nn nm hc r72 σ72 τ72 from ⟨hR, hF, hFL, by omega, by first | exact RO.ofr ((one_l (by omega) (by omega) (by omega) (by omega)).trans (lea_n (by omega) (by omega))) (by omega) ⟨gCT, by omega, by omega⟩ | (exfalso; omega) | exact RO.ofk (one_x (by omega)) (by omega) (by omega) (by omega) | exact RO.ofk (one_4 (by omega) (by omega)) (by omega) (by omega) (by omega) | (obtain ⟨f, e1, x1, x2⟩ := o1.no (by omega); exact RO.ofl ((one_n (by omega) (by omega)).trans e1) (by omega) x1 x2) | exact RO.ofr ((one_n (by omega) (by omega)).trans e1) (by omega) ⟨gCT, by omega, by omega⟩ | (obtain ⟨f, e2, x1, x2⟩ := o2.no (by omega); exact RO.ofl (by rw [one_o (by omega) (by omega), e2, bnd_l]) (by omega) x1 x2) | (obtain ⟨f, e3, x1, x2⟩ := o3.no (by omega); exact RO.ofl (by rw [one_o (by omega) (by omega), e2, bnd_r, e3, bnd_l]) (by omega) x1 x2) | exact RO.ofr (by rw [one_o (by omega) (by omega), e2, bnd_r, e3, bnd_r]) (by omega) ⟨gCT, by omega, by omega⟩ | (rw [one_l (by omega) (by omega) (by omega) (by omega)]; exact o4.map (fun s es h => ⟨h.1, h.2.1, by have h2 := h.2.2; have hl := lea_up es; omega⟩)) | (rw [one_l (by omega) (by omega) (by omega) (by omega)]; exact o5.map (fun s es h => ⟨h.1, h.2.1, by have h2 := h.2.2; have hl := lea_up es; omega⟩)), by omega, gWH⟩)
        by_cases c75 : (σ0 1 9).toInt = 30
        · refine lv_tableIn (off := 171) (tgt := 243) hx hb dX7_readOne_72 (by omega) (by omega) (by rw [c75]; rfl) (by decide) ?_
          refine lv_aload_n hx hb dX7_readOne_243 rfl (lv_at hl 1 rfl) ?_
          refine lv_iload_n hx hb dX7_readOne_244 rfl (lv_at hl 0 rfl) ?_
          refine r_cVi (k := 27) (As := [.int (σ0 1 9)]) (rest := []) ⟨hx, hb, hml, hown, hts⟩ hK hP hN hS (c_X7_readMeasure l D cA ad hI σ16 τ16 hR (σ0 1 9) b N mo _ (nn + 1) nm hc (tkq b N mo q) (by omega) (by omega) (by omega) (by omega) gCT gWH) (cwV 1 hts gX7_readOne_X7_readMeasure rfl rfl rfl (by decide +kernel) ⟨by decide, by decide⟩) (rv_SText hK hP (by decide) (by decide)) rfl hl.1 rfl (Nat.le_of_ble_eq_true rfl) dX7_readOne_245 (Nat.zero_le _) (Nat.zero_le _) (fun r76 u76 H76 locs76 hp76 hP hS => ?_)
          obtain ⟨σ76, τ76⟩ := u76
          obtain ⟨hR, f76, fL76, hq76, hp76_0, hp76_1, gnWH⟩ : P_X7_readMeasure σ16 τ16 (σ0 1 9) b N mo _ (nn + 1) nm hc (tkq b N mo q) r76 σ76 τ76 := hp76
          have o5 := hp76_0
          have hP : va_P D vwCl (gw cA ad σ76 τ76) H76 := hP
          have hFL := hFL.step fL76 (by decide)
          have gWH := gWH.agL (AgrL.fr fL76 (by decide))
          have hF := hF.step f76 (by decide)
          have gWH := gWH.ag (Agr.fr f76 (by decide))
          have t77 : (σ76 24 1).toInt = (σ16 24 1).toInt := congrArg Int32.toInt (f76.at 24 1 (by decide))
          have hr78 := rg_6_2 hR (k := 24) (by decide) (by decide)
          exact r_zret hx hb hr hK hP hS hk (by omega) dX7_readOne_248 (show P_X7_readOne_d1 σ0 τ0 a1 b N mo q nn nm hc r76 σ76 τ76 from ⟨hR, hF, hFL, by omega, by first | exact RO.ofr ((one_l (by omega) (by omega) (by omega) (by omega)).trans (lea_n (by omega) (by omega))) (by omega) ⟨gCT, by omega, by omega⟩ | (exfalso; omega) | exact RO.ofk (one_x (by omega)) (by omega) (by omega) (by omega) | exact RO.ofk (one_4 (by omega) (by omega)) (by omega) (by omega) (by omega) | (obtain ⟨f, e1, x1, x2⟩ := o1.no (by omega); exact RO.ofl ((one_n (by omega) (by omega)).trans e1) (by omega) x1 x2) | exact RO.ofr ((one_n (by omega) (by omega)).trans e1) (by omega) ⟨gCT, by omega, by omega⟩ | (obtain ⟨f, e2, x1, x2⟩ := o2.no (by omega); exact RO.ofl (by rw [one_o (by omega) (by omega), e2, bnd_l]) (by omega) x1 x2) | (obtain ⟨f, e3, x1, x2⟩ := o3.no (by omega); exact RO.ofl (by rw [one_o (by omega) (by omega), e2, bnd_r, e3, bnd_l]) (by omega) x1 x2) | exact RO.ofr (by rw [one_o (by omega) (by omega), e2, bnd_r, e3, bnd_r]) (by omega) ⟨gCT, by omega, by omega⟩ | (rw [one_l (by omega) (by omega) (by omega) (by omega)]; exact o4.map (fun s es h => ⟨h.1, h.2.1, by have h2 := h.2.2; have hl := lea_up es; omega⟩)) | (rw [one_l (by omega) (by omega) (by omega) (by omega)]; exact o5.map (fun s es h => ⟨h.1, h.2.1, by have h2 := h.2.2; have hl := lea_up es; omega⟩)), by omega, gWH⟩)
        by_cases c79 : (σ0 1 9).toInt = 31
        · refine lv_tableIn (off := 177) (tgt := 249) hx hb dX7_readOne_72 (by omega) (by omega) (by rw [c79]; rfl) (by decide) ?_
          refine lv_aload_n hx hb dX7_readOne_249 rfl (lv_at hl 1 rfl) ?_
          refine fg_7_2 (k := 27) hx hb hts in_X7_readOne_7 hown hK hP (by decide) (by decide) (hts _ lk_X7_readOne_19) dX7_readOne_250 ?_
          refine lv_iload_n hx hb dX7_readOne_253 rfl (lv_at hl 0 rfl) ?_
          refine r_bipush hx hb dX7_readOne_254 (by decide) (fun z80 ez80 => ?_)
          refine r_iconst hx hb dX7_readOne_256 (by decide) (fun z81 ez81 => ?_)
          refine r_cVi (k := 24) (As := [.int (σ0 1 9), .int z80, .int z81]) (rest := []) ⟨hx, hb, hml, hown, hts⟩ hK hP hN hS (c_X6_add l D cA ad hI σ16 τ16 hR (σ0 1 9) z80 z81 (by omega)) (cwV 3 hts gX7_readOne_X6_add rfl rfl rfl (by decide +kernel) ⟨by decide, by decide⟩) (rv_Sent hK hP (by decide) (by decide)) rfl hl.1 rfl (Nat.le_of_ble_eq_true rfl) dX7_readOne_257 (Nat.zero_le _) (Nat.zero_le _) (fun r82 u82 H82 locs82 hp82 hP hS => ?_)
          obtain ⟨σ82, τ82⟩ := u82
          obtain ⟨hR, f82, fL82, hq82, hp82_0⟩ : P_X6_add σ16 τ16 (σ0 1 9) z80 z81 r82 σ82 τ82 := hp82
          have hP : va_P D vwCl (gw cA ad σ82 τ82) H82 := hP
          obtain rfl := FrL.nil fL82
          have hF := hF.step f82 (by decide)
          have gCT := gCT.ag (Agr.fr f82 (by decide))
          have gWH := gWH.ag (Agr.fr f82 (by decide))
          have t83 : (σ82 1 13).toInt = (σ16 1 13).toInt := congrArg Int32.toInt (f82.at 1 13 (by decide))
          have t84 : (σ82 24 1).toInt = (σ16 24 1).toInt := congrArg Int32.toInt (f82.at 24 1 (by decide))
          have hr85 := rg_6_2 hR (k := 24) (by decide) (by decide)
          exact r_zret hx hb hr hK hP hS hk (by omega) dX7_readOne_260 (show P_X7_readOne_d1 σ0 τ0 a1 b N mo q nn nm hc r82 σ82 τ16 from ⟨hR, hF, hFL, by omega, by first | exact RO.ofr ((one_l (by omega) (by omega) (by omega) (by omega)).trans (lea_n (by omega) (by omega))) (by omega) ⟨gCT, by omega, by omega⟩ | (exfalso; omega) | exact RO.ofk (one_x (by omega)) (by omega) (by omega) (by omega) | exact RO.ofk (one_4 (by omega) (by omega)) (by omega) (by omega) (by omega) | (obtain ⟨f, e1, x1, x2⟩ := o1.no (by omega); exact RO.ofl ((one_n (by omega) (by omega)).trans e1) (by omega) x1 x2) | exact RO.ofr ((one_n (by omega) (by omega)).trans e1) (by omega) ⟨gCT, by omega, by omega⟩ | (obtain ⟨f, e2, x1, x2⟩ := o2.no (by omega); exact RO.ofl (by rw [one_o (by omega) (by omega), e2, bnd_l]) (by omega) x1 x2) | (obtain ⟨f, e3, x1, x2⟩ := o3.no (by omega); exact RO.ofl (by rw [one_o (by omega) (by omega), e2, bnd_r, e3, bnd_l]) (by omega) x1 x2) | exact RO.ofr (by rw [one_o (by omega) (by omega), e2, bnd_r, e3, bnd_r]) (by omega) ⟨gCT, by omega, by omega⟩ | (rw [one_l (by omega) (by omega) (by omega) (by omega)]; exact o4.map (fun s es h => ⟨h.1, h.2.1, by have h2 := h.2.2; have hl := lea_up es; omega⟩)) | (rw [one_l (by omega) (by omega) (by omega) (by omega)]; exact o5.map (fun s es h => ⟨h.1, h.2.1, by have h2 := h.2.2; have hl := lea_up es; omega⟩)), by omega, gWH⟩)
        by_cases c86 : (σ0 1 9).toInt = 32
        · refine lv_tableIn (off := 177) (tgt := 249) hx hb dX7_readOne_72 (by omega) (by omega) (by rw [c86]; rfl) (by decide) ?_
          refine lv_aload_n hx hb dX7_readOne_249 rfl (lv_at hl 1 rfl) ?_
          refine fg_7_2 (k := 27) hx hb hts in_X7_readOne_7 hown hK hP (by decide) (by decide) (hts _ lk_X7_readOne_19) dX7_readOne_250 ?_
          refine lv_iload_n hx hb dX7_readOne_253 rfl (lv_at hl 0 rfl) ?_
          refine r_bipush hx hb dX7_readOne_254 (by decide) (fun z87 ez87 => ?_)
          refine r_iconst hx hb dX7_readOne_256 (by decide) (fun z88 ez88 => ?_)
          refine r_cVi (k := 24) (As := [.int (σ0 1 9), .int z87, .int z88]) (rest := []) ⟨hx, hb, hml, hown, hts⟩ hK hP hN hS (c_X6_add l D cA ad hI σ16 τ16 hR (σ0 1 9) z87 z88 (by omega)) (cwV 3 hts gX7_readOne_X6_add rfl rfl rfl (by decide +kernel) ⟨by decide, by decide⟩) (rv_Sent hK hP (by decide) (by decide)) rfl hl.1 rfl (Nat.le_of_ble_eq_true rfl) dX7_readOne_257 (Nat.zero_le _) (Nat.zero_le _) (fun r89 u89 H89 locs89 hp89 hP hS => ?_)
          obtain ⟨σ89, τ89⟩ := u89
          obtain ⟨hR, f89, fL89, hq89, hp89_0⟩ : P_X6_add σ16 τ16 (σ0 1 9) z87 z88 r89 σ89 τ89 := hp89
          have hP : va_P D vwCl (gw cA ad σ89 τ89) H89 := hP
          obtain rfl := FrL.nil fL89
          have hF := hF.step f89 (by decide)
          have gCT := gCT.ag (Agr.fr f89 (by decide))
          have gWH := gWH.ag (Agr.fr f89 (by decide))
          have t90 : (σ89 1 13).toInt = (σ16 1 13).toInt := congrArg Int32.toInt (f89.at 1 13 (by decide))
          have t91 : (σ89 24 1).toInt = (σ16 24 1).toInt := congrArg Int32.toInt (f89.at 24 1 (by decide))
          have hr92 := rg_6_2 hR (k := 24) (by decide) (by decide)
          exact r_zret hx hb hr hK hP hS hk (by omega) dX7_readOne_260 (show P_X7_readOne_d1 σ0 τ0 a1 b N mo q nn nm hc r89 σ89 τ16 from ⟨hR, hF, hFL, by omega, by first | exact RO.ofr ((one_l (by omega) (by omega) (by omega) (by omega)).trans (lea_n (by omega) (by omega))) (by omega) ⟨gCT, by omega, by omega⟩ | (exfalso; omega) | exact RO.ofk (one_x (by omega)) (by omega) (by omega) (by omega) | exact RO.ofk (one_4 (by omega) (by omega)) (by omega) (by omega) (by omega) | (obtain ⟨f, e1, x1, x2⟩ := o1.no (by omega); exact RO.ofl ((one_n (by omega) (by omega)).trans e1) (by omega) x1 x2) | exact RO.ofr ((one_n (by omega) (by omega)).trans e1) (by omega) ⟨gCT, by omega, by omega⟩ | (obtain ⟨f, e2, x1, x2⟩ := o2.no (by omega); exact RO.ofl (by rw [one_o (by omega) (by omega), e2, bnd_l]) (by omega) x1 x2) | (obtain ⟨f, e3, x1, x2⟩ := o3.no (by omega); exact RO.ofl (by rw [one_o (by omega) (by omega), e2, bnd_r, e3, bnd_l]) (by omega) x1 x2) | exact RO.ofr (by rw [one_o (by omega) (by omega), e2, bnd_r, e3, bnd_r]) (by omega) ⟨gCT, by omega, by omega⟩ | (rw [one_l (by omega) (by omega) (by omega) (by omega)]; exact o4.map (fun s es h => ⟨h.1, h.2.1, by have h2 := h.2.2; have hl := lea_up es; omega⟩)) | (rw [one_l (by omega) (by omega) (by omega) (by omega)]; exact o5.map (fun s es h => ⟨h.1, h.2.1, by have h2 := h.2.2; have hl := lea_up es; omega⟩)), by omega, gWH⟩)
        by_cases c93 : (σ0 1 9).toInt = 33
        · refine lv_tableIn (off := 177) (tgt := 249) hx hb dX7_readOne_72 (by omega) (by omega) (by rw [c93]; rfl) (by decide) ?_
          refine lv_aload_n hx hb dX7_readOne_249 rfl (lv_at hl 1 rfl) ?_
          refine fg_7_2 (k := 27) hx hb hts in_X7_readOne_7 hown hK hP (by decide) (by decide) (hts _ lk_X7_readOne_19) dX7_readOne_250 ?_
          refine lv_iload_n hx hb dX7_readOne_253 rfl (lv_at hl 0 rfl) ?_
          refine r_bipush hx hb dX7_readOne_254 (by decide) (fun z94 ez94 => ?_)
          refine r_iconst hx hb dX7_readOne_256 (by decide) (fun z95 ez95 => ?_)
          refine r_cVi (k := 24) (As := [.int (σ0 1 9), .int z94, .int z95]) (rest := []) ⟨hx, hb, hml, hown, hts⟩ hK hP hN hS (c_X6_add l D cA ad hI σ16 τ16 hR (σ0 1 9) z94 z95 (by omega)) (cwV 3 hts gX7_readOne_X6_add rfl rfl rfl (by decide +kernel) ⟨by decide, by decide⟩) (rv_Sent hK hP (by decide) (by decide)) rfl hl.1 rfl (Nat.le_of_ble_eq_true rfl) dX7_readOne_257 (Nat.zero_le _) (Nat.zero_le _) (fun r96 u96 H96 locs96 hp96 hP hS => ?_)
          obtain ⟨σ96, τ96⟩ := u96
          obtain ⟨hR, f96, fL96, hq96, hp96_0⟩ : P_X6_add σ16 τ16 (σ0 1 9) z94 z95 r96 σ96 τ96 := hp96
          have hP : va_P D vwCl (gw cA ad σ96 τ96) H96 := hP
          obtain rfl := FrL.nil fL96
          have hF := hF.step f96 (by decide)
          have gCT := gCT.ag (Agr.fr f96 (by decide))
          have gWH := gWH.ag (Agr.fr f96 (by decide))
          have t97 : (σ96 1 13).toInt = (σ16 1 13).toInt := congrArg Int32.toInt (f96.at 1 13 (by decide))
          have t98 : (σ96 24 1).toInt = (σ16 24 1).toInt := congrArg Int32.toInt (f96.at 24 1 (by decide))
          have hr99 := rg_6_2 hR (k := 24) (by decide) (by decide)
          exact r_zret hx hb hr hK hP hS hk (by omega) dX7_readOne_260 (show P_X7_readOne_d1 σ0 τ0 a1 b N mo q nn nm hc r96 σ96 τ16 from ⟨hR, hF, hFL, by omega, by first | exact RO.ofr ((one_l (by omega) (by omega) (by omega) (by omega)).trans (lea_n (by omega) (by omega))) (by omega) ⟨gCT, by omega, by omega⟩ | (exfalso; omega) | exact RO.ofk (one_x (by omega)) (by omega) (by omega) (by omega) | exact RO.ofk (one_4 (by omega) (by omega)) (by omega) (by omega) (by omega) | (obtain ⟨f, e1, x1, x2⟩ := o1.no (by omega); exact RO.ofl ((one_n (by omega) (by omega)).trans e1) (by omega) x1 x2) | exact RO.ofr ((one_n (by omega) (by omega)).trans e1) (by omega) ⟨gCT, by omega, by omega⟩ | (obtain ⟨f, e2, x1, x2⟩ := o2.no (by omega); exact RO.ofl (by rw [one_o (by omega) (by omega), e2, bnd_l]) (by omega) x1 x2) | (obtain ⟨f, e3, x1, x2⟩ := o3.no (by omega); exact RO.ofl (by rw [one_o (by omega) (by omega), e2, bnd_r, e3, bnd_l]) (by omega) x1 x2) | exact RO.ofr (by rw [one_o (by omega) (by omega), e2, bnd_r, e3, bnd_r]) (by omega) ⟨gCT, by omega, by omega⟩ | (rw [one_l (by omega) (by omega) (by omega) (by omega)]; exact o4.map (fun s es h => ⟨h.1, h.2.1, by have h2 := h.2.2; have hl := lea_up es; omega⟩)) | (rw [one_l (by omega) (by omega) (by omega) (by omega)]; exact o5.map (fun s es h => ⟨h.1, h.2.1, by have h2 := h.2.2; have hl := lea_up es; omega⟩)), by omega, gWH⟩)
        by_cases c100 : (σ0 1 9).toInt = 34
        · refine lv_tableIn (off := 177) (tgt := 249) hx hb dX7_readOne_72 (by omega) (by omega) (by rw [c100]; rfl) (by decide) ?_
          refine lv_aload_n hx hb dX7_readOne_249 rfl (lv_at hl 1 rfl) ?_
          refine fg_7_2 (k := 27) hx hb hts in_X7_readOne_7 hown hK hP (by decide) (by decide) (hts _ lk_X7_readOne_19) dX7_readOne_250 ?_
          refine lv_iload_n hx hb dX7_readOne_253 rfl (lv_at hl 0 rfl) ?_
          refine r_bipush hx hb dX7_readOne_254 (by decide) (fun z101 ez101 => ?_)
          refine r_iconst hx hb dX7_readOne_256 (by decide) (fun z102 ez102 => ?_)
          refine r_cVi (k := 24) (As := [.int (σ0 1 9), .int z101, .int z102]) (rest := []) ⟨hx, hb, hml, hown, hts⟩ hK hP hN hS (c_X6_add l D cA ad hI σ16 τ16 hR (σ0 1 9) z101 z102 (by omega)) (cwV 3 hts gX7_readOne_X6_add rfl rfl rfl (by decide +kernel) ⟨by decide, by decide⟩) (rv_Sent hK hP (by decide) (by decide)) rfl hl.1 rfl (Nat.le_of_ble_eq_true rfl) dX7_readOne_257 (Nat.zero_le _) (Nat.zero_le _) (fun r103 u103 H103 locs103 hp103 hP hS => ?_)
          obtain ⟨σ103, τ103⟩ := u103
          obtain ⟨hR, f103, fL103, hq103, hp103_0⟩ : P_X6_add σ16 τ16 (σ0 1 9) z101 z102 r103 σ103 τ103 := hp103
          have hP : va_P D vwCl (gw cA ad σ103 τ103) H103 := hP
          obtain rfl := FrL.nil fL103
          have hF := hF.step f103 (by decide)
          have gCT := gCT.ag (Agr.fr f103 (by decide))
          have gWH := gWH.ag (Agr.fr f103 (by decide))
          have t104 : (σ103 1 13).toInt = (σ16 1 13).toInt := congrArg Int32.toInt (f103.at 1 13 (by decide))
          have t105 : (σ103 24 1).toInt = (σ16 24 1).toInt := congrArg Int32.toInt (f103.at 24 1 (by decide))
          have hr106 := rg_6_2 hR (k := 24) (by decide) (by decide)
          exact r_zret hx hb hr hK hP hS hk (by omega) dX7_readOne_260 (show P_X7_readOne_d1 σ0 τ0 a1 b N mo q nn nm hc r103 σ103 τ16 from ⟨hR, hF, hFL, by omega, by first | exact RO.ofr ((one_l (by omega) (by omega) (by omega) (by omega)).trans (lea_n (by omega) (by omega))) (by omega) ⟨gCT, by omega, by omega⟩ | (exfalso; omega) | exact RO.ofk (one_x (by omega)) (by omega) (by omega) (by omega) | exact RO.ofk (one_4 (by omega) (by omega)) (by omega) (by omega) (by omega) | (obtain ⟨f, e1, x1, x2⟩ := o1.no (by omega); exact RO.ofl ((one_n (by omega) (by omega)).trans e1) (by omega) x1 x2) | exact RO.ofr ((one_n (by omega) (by omega)).trans e1) (by omega) ⟨gCT, by omega, by omega⟩ | (obtain ⟨f, e2, x1, x2⟩ := o2.no (by omega); exact RO.ofl (by rw [one_o (by omega) (by omega), e2, bnd_l]) (by omega) x1 x2) | (obtain ⟨f, e3, x1, x2⟩ := o3.no (by omega); exact RO.ofl (by rw [one_o (by omega) (by omega), e2, bnd_r, e3, bnd_l]) (by omega) x1 x2) | exact RO.ofr (by rw [one_o (by omega) (by omega), e2, bnd_r, e3, bnd_r]) (by omega) ⟨gCT, by omega, by omega⟩ | (rw [one_l (by omega) (by omega) (by omega) (by omega)]; exact o4.map (fun s es h => ⟨h.1, h.2.1, by have h2 := h.2.2; have hl := lea_up es; omega⟩)) | (rw [one_l (by omega) (by omega) (by omega) (by omega)]; exact o5.map (fun s es h => ⟨h.1, h.2.1, by have h2 := h.2.2; have hl := lea_up es; omega⟩)), by omega, gWH⟩)
        by_cases c107 : (σ0 1 9).toInt = 35
        · refine lv_tableIn (off := 177) (tgt := 249) hx hb dX7_readOne_72 (by omega) (by omega) (by rw [c107]; rfl) (by decide) ?_
          refine lv_aload_n hx hb dX7_readOne_249 rfl (lv_at hl 1 rfl) ?_
          refine fg_7_2 (k := 27) hx hb hts in_X7_readOne_7 hown hK hP (by decide) (by decide) (hts _ lk_X7_readOne_19) dX7_readOne_250 ?_
          refine lv_iload_n hx hb dX7_readOne_253 rfl (lv_at hl 0 rfl) ?_
          refine r_bipush hx hb dX7_readOne_254 (by decide) (fun z108 ez108 => ?_)
          refine r_iconst hx hb dX7_readOne_256 (by decide) (fun z109 ez109 => ?_)
          refine r_cVi (k := 24) (As := [.int (σ0 1 9), .int z108, .int z109]) (rest := []) ⟨hx, hb, hml, hown, hts⟩ hK hP hN hS (c_X6_add l D cA ad hI σ16 τ16 hR (σ0 1 9) z108 z109 (by omega)) (cwV 3 hts gX7_readOne_X6_add rfl rfl rfl (by decide +kernel) ⟨by decide, by decide⟩) (rv_Sent hK hP (by decide) (by decide)) rfl hl.1 rfl (Nat.le_of_ble_eq_true rfl) dX7_readOne_257 (Nat.zero_le _) (Nat.zero_le _) (fun r110 u110 H110 locs110 hp110 hP hS => ?_)
          obtain ⟨σ110, τ110⟩ := u110
          obtain ⟨hR, f110, fL110, hq110, hp110_0⟩ : P_X6_add σ16 τ16 (σ0 1 9) z108 z109 r110 σ110 τ110 := hp110
          have hP : va_P D vwCl (gw cA ad σ110 τ110) H110 := hP
          obtain rfl := FrL.nil fL110
          have hF := hF.step f110 (by decide)
          have gCT := gCT.ag (Agr.fr f110 (by decide))
          have gWH := gWH.ag (Agr.fr f110 (by decide))
          have t111 : (σ110 1 13).toInt = (σ16 1 13).toInt := congrArg Int32.toInt (f110.at 1 13 (by decide))
          have t112 : (σ110 24 1).toInt = (σ16 24 1).toInt := congrArg Int32.toInt (f110.at 24 1 (by decide))
          have hr113 := rg_6_2 hR (k := 24) (by decide) (by decide)
          exact r_zret hx hb hr hK hP hS hk (by omega) dX7_readOne_260 (show P_X7_readOne_d1 σ0 τ0 a1 b N mo q nn nm hc r110 σ110 τ16 from ⟨hR, hF, hFL, by omega, by first | exact RO.ofr ((one_l (by omega) (by omega) (by omega) (by omega)).trans (lea_n (by omega) (by omega))) (by omega) ⟨gCT, by omega, by omega⟩ | (exfalso; omega) | exact RO.ofk (one_x (by omega)) (by omega) (by omega) (by omega) | exact RO.ofk (one_4 (by omega) (by omega)) (by omega) (by omega) (by omega) | (obtain ⟨f, e1, x1, x2⟩ := o1.no (by omega); exact RO.ofl ((one_n (by omega) (by omega)).trans e1) (by omega) x1 x2) | exact RO.ofr ((one_n (by omega) (by omega)).trans e1) (by omega) ⟨gCT, by omega, by omega⟩ | (obtain ⟨f, e2, x1, x2⟩ := o2.no (by omega); exact RO.ofl (by rw [one_o (by omega) (by omega), e2, bnd_l]) (by omega) x1 x2) | (obtain ⟨f, e3, x1, x2⟩ := o3.no (by omega); exact RO.ofl (by rw [one_o (by omega) (by omega), e2, bnd_r, e3, bnd_l]) (by omega) x1 x2) | exact RO.ofr (by rw [one_o (by omega) (by omega), e2, bnd_r, e3, bnd_r]) (by omega) ⟨gCT, by omega, by omega⟩ | (rw [one_l (by omega) (by omega) (by omega) (by omega)]; exact o4.map (fun s es h => ⟨h.1, h.2.1, by have h2 := h.2.2; have hl := lea_up es; omega⟩)) | (rw [one_l (by omega) (by omega) (by omega) (by omega)]; exact o5.map (fun s es h => ⟨h.1, h.2.1, by have h2 := h.2.2; have hl := lea_up es; omega⟩)), by omega, gWH⟩)
        by_cases c114 : (σ0 1 9).toInt = 36
        · refine lv_tableIn (off := 177) (tgt := 249) hx hb dX7_readOne_72 (by omega) (by omega) (by rw [c114]; rfl) (by decide) ?_
          refine lv_aload_n hx hb dX7_readOne_249 rfl (lv_at hl 1 rfl) ?_
          refine fg_7_2 (k := 27) hx hb hts in_X7_readOne_7 hown hK hP (by decide) (by decide) (hts _ lk_X7_readOne_19) dX7_readOne_250 ?_
          refine lv_iload_n hx hb dX7_readOne_253 rfl (lv_at hl 0 rfl) ?_
          refine r_bipush hx hb dX7_readOne_254 (by decide) (fun z115 ez115 => ?_)
          refine r_iconst hx hb dX7_readOne_256 (by decide) (fun z116 ez116 => ?_)
          refine r_cVi (k := 24) (As := [.int (σ0 1 9), .int z115, .int z116]) (rest := []) ⟨hx, hb, hml, hown, hts⟩ hK hP hN hS (c_X6_add l D cA ad hI σ16 τ16 hR (σ0 1 9) z115 z116 (by omega)) (cwV 3 hts gX7_readOne_X6_add rfl rfl rfl (by decide +kernel) ⟨by decide, by decide⟩) (rv_Sent hK hP (by decide) (by decide)) rfl hl.1 rfl (Nat.le_of_ble_eq_true rfl) dX7_readOne_257 (Nat.zero_le _) (Nat.zero_le _) (fun r117 u117 H117 locs117 hp117 hP hS => ?_)
          obtain ⟨σ117, τ117⟩ := u117
          obtain ⟨hR, f117, fL117, hq117, hp117_0⟩ : P_X6_add σ16 τ16 (σ0 1 9) z115 z116 r117 σ117 τ117 := hp117
          have hP : va_P D vwCl (gw cA ad σ117 τ117) H117 := hP
          obtain rfl := FrL.nil fL117
          have hF := hF.step f117 (by decide)
          have gCT := gCT.ag (Agr.fr f117 (by decide))
          have gWH := gWH.ag (Agr.fr f117 (by decide))
          have t118 : (σ117 1 13).toInt = (σ16 1 13).toInt := congrArg Int32.toInt (f117.at 1 13 (by decide))
          have t119 : (σ117 24 1).toInt = (σ16 24 1).toInt := congrArg Int32.toInt (f117.at 24 1 (by decide))
          have hr120 := rg_6_2 hR (k := 24) (by decide) (by decide)
          exact r_zret hx hb hr hK hP hS hk (by omega) dX7_readOne_260 (show P_X7_readOne_d1 σ0 τ0 a1 b N mo q nn nm hc r117 σ117 τ16 from ⟨hR, hF, hFL, by omega, by first | exact RO.ofr ((one_l (by omega) (by omega) (by omega) (by omega)).trans (lea_n (by omega) (by omega))) (by omega) ⟨gCT, by omega, by omega⟩ | (exfalso; omega) | exact RO.ofk (one_x (by omega)) (by omega) (by omega) (by omega) | exact RO.ofk (one_4 (by omega) (by omega)) (by omega) (by omega) (by omega) | (obtain ⟨f, e1, x1, x2⟩ := o1.no (by omega); exact RO.ofl ((one_n (by omega) (by omega)).trans e1) (by omega) x1 x2) | exact RO.ofr ((one_n (by omega) (by omega)).trans e1) (by omega) ⟨gCT, by omega, by omega⟩ | (obtain ⟨f, e2, x1, x2⟩ := o2.no (by omega); exact RO.ofl (by rw [one_o (by omega) (by omega), e2, bnd_l]) (by omega) x1 x2) | (obtain ⟨f, e3, x1, x2⟩ := o3.no (by omega); exact RO.ofl (by rw [one_o (by omega) (by omega), e2, bnd_r, e3, bnd_l]) (by omega) x1 x2) | exact RO.ofr (by rw [one_o (by omega) (by omega), e2, bnd_r, e3, bnd_r]) (by omega) ⟨gCT, by omega, by omega⟩ | (rw [one_l (by omega) (by omega) (by omega) (by omega)]; exact o4.map (fun s es h => ⟨h.1, h.2.1, by have h2 := h.2.2; have hl := lea_up es; omega⟩)) | (rw [one_l (by omega) (by omega) (by omega) (by omega)]; exact o5.map (fun s es h => ⟨h.1, h.2.1, by have h2 := h.2.2; have hl := lea_up es; omega⟩)), by omega, gWH⟩)
        by_cases c121 : (σ0 1 9).toInt = 37
        · refine lv_tableIn (off := 177) (tgt := 249) hx hb dX7_readOne_72 (by omega) (by omega) (by rw [c121]; rfl) (by decide) ?_
          refine lv_aload_n hx hb dX7_readOne_249 rfl (lv_at hl 1 rfl) ?_
          refine fg_7_2 (k := 27) hx hb hts in_X7_readOne_7 hown hK hP (by decide) (by decide) (hts _ lk_X7_readOne_19) dX7_readOne_250 ?_
          refine lv_iload_n hx hb dX7_readOne_253 rfl (lv_at hl 0 rfl) ?_
          refine r_bipush hx hb dX7_readOne_254 (by decide) (fun z122 ez122 => ?_)
          refine r_iconst hx hb dX7_readOne_256 (by decide) (fun z123 ez123 => ?_)
          refine r_cVi (k := 24) (As := [.int (σ0 1 9), .int z122, .int z123]) (rest := []) ⟨hx, hb, hml, hown, hts⟩ hK hP hN hS (c_X6_add l D cA ad hI σ16 τ16 hR (σ0 1 9) z122 z123 (by omega)) (cwV 3 hts gX7_readOne_X6_add rfl rfl rfl (by decide +kernel) ⟨by decide, by decide⟩) (rv_Sent hK hP (by decide) (by decide)) rfl hl.1 rfl (Nat.le_of_ble_eq_true rfl) dX7_readOne_257 (Nat.zero_le _) (Nat.zero_le _) (fun r124 u124 H124 locs124 hp124 hP hS => ?_)
          obtain ⟨σ124, τ124⟩ := u124
          obtain ⟨hR, f124, fL124, hq124, hp124_0⟩ : P_X6_add σ16 τ16 (σ0 1 9) z122 z123 r124 σ124 τ124 := hp124
          have hP : va_P D vwCl (gw cA ad σ124 τ124) H124 := hP
          obtain rfl := FrL.nil fL124
          have hF := hF.step f124 (by decide)
          have gCT := gCT.ag (Agr.fr f124 (by decide))
          have gWH := gWH.ag (Agr.fr f124 (by decide))
          have t125 : (σ124 1 13).toInt = (σ16 1 13).toInt := congrArg Int32.toInt (f124.at 1 13 (by decide))
          have t126 : (σ124 24 1).toInt = (σ16 24 1).toInt := congrArg Int32.toInt (f124.at 24 1 (by decide))
          have hr127 := rg_6_2 hR (k := 24) (by decide) (by decide)
          exact r_zret hx hb hr hK hP hS hk (by omega) dX7_readOne_260 (show P_X7_readOne_d1 σ0 τ0 a1 b N mo q nn nm hc r124 σ124 τ16 from ⟨hR, hF, hFL, by omega, by first | exact RO.ofr ((one_l (by omega) (by omega) (by omega) (by omega)).trans (lea_n (by omega) (by omega))) (by omega) ⟨gCT, by omega, by omega⟩ | (exfalso; omega) | exact RO.ofk (one_x (by omega)) (by omega) (by omega) (by omega) | exact RO.ofk (one_4 (by omega) (by omega)) (by omega) (by omega) (by omega) | (obtain ⟨f, e1, x1, x2⟩ := o1.no (by omega); exact RO.ofl ((one_n (by omega) (by omega)).trans e1) (by omega) x1 x2) | exact RO.ofr ((one_n (by omega) (by omega)).trans e1) (by omega) ⟨gCT, by omega, by omega⟩ | (obtain ⟨f, e2, x1, x2⟩ := o2.no (by omega); exact RO.ofl (by rw [one_o (by omega) (by omega), e2, bnd_l]) (by omega) x1 x2) | (obtain ⟨f, e3, x1, x2⟩ := o3.no (by omega); exact RO.ofl (by rw [one_o (by omega) (by omega), e2, bnd_r, e3, bnd_l]) (by omega) x1 x2) | exact RO.ofr (by rw [one_o (by omega) (by omega), e2, bnd_r, e3, bnd_r]) (by omega) ⟨gCT, by omega, by omega⟩ | (rw [one_l (by omega) (by omega) (by omega) (by omega)]; exact o4.map (fun s es h => ⟨h.1, h.2.1, by have h2 := h.2.2; have hl := lea_up es; omega⟩)) | (rw [one_l (by omega) (by omega) (by omega) (by omega)]; exact o5.map (fun s es h => ⟨h.1, h.2.1, by have h2 := h.2.2; have hl := lea_up es; omega⟩)), by omega, gWH⟩)
        by_cases c128 : (σ0 1 9).toInt = 38
        · refine lv_tableIn (off := 177) (tgt := 249) hx hb dX7_readOne_72 (by omega) (by omega) (by rw [c128]; rfl) (by decide) ?_
          refine lv_aload_n hx hb dX7_readOne_249 rfl (lv_at hl 1 rfl) ?_
          refine fg_7_2 (k := 27) hx hb hts in_X7_readOne_7 hown hK hP (by decide) (by decide) (hts _ lk_X7_readOne_19) dX7_readOne_250 ?_
          refine lv_iload_n hx hb dX7_readOne_253 rfl (lv_at hl 0 rfl) ?_
          refine r_bipush hx hb dX7_readOne_254 (by decide) (fun z129 ez129 => ?_)
          refine r_iconst hx hb dX7_readOne_256 (by decide) (fun z130 ez130 => ?_)
          refine r_cVi (k := 24) (As := [.int (σ0 1 9), .int z129, .int z130]) (rest := []) ⟨hx, hb, hml, hown, hts⟩ hK hP hN hS (c_X6_add l D cA ad hI σ16 τ16 hR (σ0 1 9) z129 z130 (by omega)) (cwV 3 hts gX7_readOne_X6_add rfl rfl rfl (by decide +kernel) ⟨by decide, by decide⟩) (rv_Sent hK hP (by decide) (by decide)) rfl hl.1 rfl (Nat.le_of_ble_eq_true rfl) dX7_readOne_257 (Nat.zero_le _) (Nat.zero_le _) (fun r131 u131 H131 locs131 hp131 hP hS => ?_)
          obtain ⟨σ131, τ131⟩ := u131
          obtain ⟨hR, f131, fL131, hq131, hp131_0⟩ : P_X6_add σ16 τ16 (σ0 1 9) z129 z130 r131 σ131 τ131 := hp131
          have hP : va_P D vwCl (gw cA ad σ131 τ131) H131 := hP
          obtain rfl := FrL.nil fL131
          have hF := hF.step f131 (by decide)
          have gCT := gCT.ag (Agr.fr f131 (by decide))
          have gWH := gWH.ag (Agr.fr f131 (by decide))
          have t132 : (σ131 1 13).toInt = (σ16 1 13).toInt := congrArg Int32.toInt (f131.at 1 13 (by decide))
          have t133 : (σ131 24 1).toInt = (σ16 24 1).toInt := congrArg Int32.toInt (f131.at 24 1 (by decide))
          have hr134 := rg_6_2 hR (k := 24) (by decide) (by decide)
          exact r_zret hx hb hr hK hP hS hk (by omega) dX7_readOne_260 (show P_X7_readOne_d1 σ0 τ0 a1 b N mo q nn nm hc r131 σ131 τ16 from ⟨hR, hF, hFL, by omega, by first | exact RO.ofr ((one_l (by omega) (by omega) (by omega) (by omega)).trans (lea_n (by omega) (by omega))) (by omega) ⟨gCT, by omega, by omega⟩ | (exfalso; omega) | exact RO.ofk (one_x (by omega)) (by omega) (by omega) (by omega) | exact RO.ofk (one_4 (by omega) (by omega)) (by omega) (by omega) (by omega) | (obtain ⟨f, e1, x1, x2⟩ := o1.no (by omega); exact RO.ofl ((one_n (by omega) (by omega)).trans e1) (by omega) x1 x2) | exact RO.ofr ((one_n (by omega) (by omega)).trans e1) (by omega) ⟨gCT, by omega, by omega⟩ | (obtain ⟨f, e2, x1, x2⟩ := o2.no (by omega); exact RO.ofl (by rw [one_o (by omega) (by omega), e2, bnd_l]) (by omega) x1 x2) | (obtain ⟨f, e3, x1, x2⟩ := o3.no (by omega); exact RO.ofl (by rw [one_o (by omega) (by omega), e2, bnd_r, e3, bnd_l]) (by omega) x1 x2) | exact RO.ofr (by rw [one_o (by omega) (by omega), e2, bnd_r, e3, bnd_r]) (by omega) ⟨gCT, by omega, by omega⟩ | (rw [one_l (by omega) (by omega) (by omega) (by omega)]; exact o4.map (fun s es h => ⟨h.1, h.2.1, by have h2 := h.2.2; have hl := lea_up es; omega⟩)) | (rw [one_l (by omega) (by omega) (by omega) (by omega)]; exact o5.map (fun s es h => ⟨h.1, h.2.1, by have h2 := h.2.2; have hl := lea_up es; omega⟩)), by omega, gWH⟩)
        by_cases c135 : (σ0 1 9).toInt = 39
        · refine lv_tableIn (off := 177) (tgt := 249) hx hb dX7_readOne_72 (by omega) (by omega) (by rw [c135]; rfl) (by decide) ?_
          refine lv_aload_n hx hb dX7_readOne_249 rfl (lv_at hl 1 rfl) ?_
          refine fg_7_2 (k := 27) hx hb hts in_X7_readOne_7 hown hK hP (by decide) (by decide) (hts _ lk_X7_readOne_19) dX7_readOne_250 ?_
          refine lv_iload_n hx hb dX7_readOne_253 rfl (lv_at hl 0 rfl) ?_
          refine r_bipush hx hb dX7_readOne_254 (by decide) (fun z136 ez136 => ?_)
          refine r_iconst hx hb dX7_readOne_256 (by decide) (fun z137 ez137 => ?_)
          refine r_cVi (k := 24) (As := [.int (σ0 1 9), .int z136, .int z137]) (rest := []) ⟨hx, hb, hml, hown, hts⟩ hK hP hN hS (c_X6_add l D cA ad hI σ16 τ16 hR (σ0 1 9) z136 z137 (by omega)) (cwV 3 hts gX7_readOne_X6_add rfl rfl rfl (by decide +kernel) ⟨by decide, by decide⟩) (rv_Sent hK hP (by decide) (by decide)) rfl hl.1 rfl (Nat.le_of_ble_eq_true rfl) dX7_readOne_257 (Nat.zero_le _) (Nat.zero_le _) (fun r138 u138 H138 locs138 hp138 hP hS => ?_)
          obtain ⟨σ138, τ138⟩ := u138
          obtain ⟨hR, f138, fL138, hq138, hp138_0⟩ : P_X6_add σ16 τ16 (σ0 1 9) z136 z137 r138 σ138 τ138 := hp138
          have hP : va_P D vwCl (gw cA ad σ138 τ138) H138 := hP
          obtain rfl := FrL.nil fL138
          have hF := hF.step f138 (by decide)
          have gCT := gCT.ag (Agr.fr f138 (by decide))
          have gWH := gWH.ag (Agr.fr f138 (by decide))
          have t139 : (σ138 1 13).toInt = (σ16 1 13).toInt := congrArg Int32.toInt (f138.at 1 13 (by decide))
          have t140 : (σ138 24 1).toInt = (σ16 24 1).toInt := congrArg Int32.toInt (f138.at 24 1 (by decide))
          have hr141 := rg_6_2 hR (k := 24) (by decide) (by decide)
          exact r_zret hx hb hr hK hP hS hk (by omega) dX7_readOne_260 (show P_X7_readOne_d1 σ0 τ0 a1 b N mo q nn nm hc r138 σ138 τ16 from ⟨hR, hF, hFL, by omega, by first | exact RO.ofr ((one_l (by omega) (by omega) (by omega) (by omega)).trans (lea_n (by omega) (by omega))) (by omega) ⟨gCT, by omega, by omega⟩ | (exfalso; omega) | exact RO.ofk (one_x (by omega)) (by omega) (by omega) (by omega) | exact RO.ofk (one_4 (by omega) (by omega)) (by omega) (by omega) (by omega) | (obtain ⟨f, e1, x1, x2⟩ := o1.no (by omega); exact RO.ofl ((one_n (by omega) (by omega)).trans e1) (by omega) x1 x2) | exact RO.ofr ((one_n (by omega) (by omega)).trans e1) (by omega) ⟨gCT, by omega, by omega⟩ | (obtain ⟨f, e2, x1, x2⟩ := o2.no (by omega); exact RO.ofl (by rw [one_o (by omega) (by omega), e2, bnd_l]) (by omega) x1 x2) | (obtain ⟨f, e3, x1, x2⟩ := o3.no (by omega); exact RO.ofl (by rw [one_o (by omega) (by omega), e2, bnd_r, e3, bnd_l]) (by omega) x1 x2) | exact RO.ofr (by rw [one_o (by omega) (by omega), e2, bnd_r, e3, bnd_r]) (by omega) ⟨gCT, by omega, by omega⟩ | (rw [one_l (by omega) (by omega) (by omega) (by omega)]; exact o4.map (fun s es h => ⟨h.1, h.2.1, by have h2 := h.2.2; have hl := lea_up es; omega⟩)) | (rw [one_l (by omega) (by omega) (by omega) (by omega)]; exact o5.map (fun s es h => ⟨h.1, h.2.1, by have h2 := h.2.2; have hl := lea_up es; omega⟩)), by omega, gWH⟩)
        by_cases c142 : (σ0 1 9).toInt = 40
        · refine lv_tableIn (off := 177) (tgt := 249) hx hb dX7_readOne_72 (by omega) (by omega) (by rw [c142]; rfl) (by decide) ?_
          refine lv_aload_n hx hb dX7_readOne_249 rfl (lv_at hl 1 rfl) ?_
          refine fg_7_2 (k := 27) hx hb hts in_X7_readOne_7 hown hK hP (by decide) (by decide) (hts _ lk_X7_readOne_19) dX7_readOne_250 ?_
          refine lv_iload_n hx hb dX7_readOne_253 rfl (lv_at hl 0 rfl) ?_
          refine r_bipush hx hb dX7_readOne_254 (by decide) (fun z143 ez143 => ?_)
          refine r_iconst hx hb dX7_readOne_256 (by decide) (fun z144 ez144 => ?_)
          refine r_cVi (k := 24) (As := [.int (σ0 1 9), .int z143, .int z144]) (rest := []) ⟨hx, hb, hml, hown, hts⟩ hK hP hN hS (c_X6_add l D cA ad hI σ16 τ16 hR (σ0 1 9) z143 z144 (by omega)) (cwV 3 hts gX7_readOne_X6_add rfl rfl rfl (by decide +kernel) ⟨by decide, by decide⟩) (rv_Sent hK hP (by decide) (by decide)) rfl hl.1 rfl (Nat.le_of_ble_eq_true rfl) dX7_readOne_257 (Nat.zero_le _) (Nat.zero_le _) (fun r145 u145 H145 locs145 hp145 hP hS => ?_)
          obtain ⟨σ145, τ145⟩ := u145
          obtain ⟨hR, f145, fL145, hq145, hp145_0⟩ : P_X6_add σ16 τ16 (σ0 1 9) z143 z144 r145 σ145 τ145 := hp145
          have hP : va_P D vwCl (gw cA ad σ145 τ145) H145 := hP
          obtain rfl := FrL.nil fL145
          have hF := hF.step f145 (by decide)
          have gCT := gCT.ag (Agr.fr f145 (by decide))
          have gWH := gWH.ag (Agr.fr f145 (by decide))
          have t146 : (σ145 1 13).toInt = (σ16 1 13).toInt := congrArg Int32.toInt (f145.at 1 13 (by decide))
          have t147 : (σ145 24 1).toInt = (σ16 24 1).toInt := congrArg Int32.toInt (f145.at 24 1 (by decide))
          have hr148 := rg_6_2 hR (k := 24) (by decide) (by decide)
          exact r_zret hx hb hr hK hP hS hk (by omega) dX7_readOne_260 (show P_X7_readOne_d1 σ0 τ0 a1 b N mo q nn nm hc r145 σ145 τ16 from ⟨hR, hF, hFL, by omega, by first | exact RO.ofr ((one_l (by omega) (by omega) (by omega) (by omega)).trans (lea_n (by omega) (by omega))) (by omega) ⟨gCT, by omega, by omega⟩ | (exfalso; omega) | exact RO.ofk (one_x (by omega)) (by omega) (by omega) (by omega) | exact RO.ofk (one_4 (by omega) (by omega)) (by omega) (by omega) (by omega) | (obtain ⟨f, e1, x1, x2⟩ := o1.no (by omega); exact RO.ofl ((one_n (by omega) (by omega)).trans e1) (by omega) x1 x2) | exact RO.ofr ((one_n (by omega) (by omega)).trans e1) (by omega) ⟨gCT, by omega, by omega⟩ | (obtain ⟨f, e2, x1, x2⟩ := o2.no (by omega); exact RO.ofl (by rw [one_o (by omega) (by omega), e2, bnd_l]) (by omega) x1 x2) | (obtain ⟨f, e3, x1, x2⟩ := o3.no (by omega); exact RO.ofl (by rw [one_o (by omega) (by omega), e2, bnd_r, e3, bnd_l]) (by omega) x1 x2) | exact RO.ofr (by rw [one_o (by omega) (by omega), e2, bnd_r, e3, bnd_r]) (by omega) ⟨gCT, by omega, by omega⟩ | (rw [one_l (by omega) (by omega) (by omega) (by omega)]; exact o4.map (fun s es h => ⟨h.1, h.2.1, by have h2 := h.2.2; have hl := lea_up es; omega⟩)) | (rw [one_l (by omega) (by omega) (by omega) (by omega)]; exact o5.map (fun s es h => ⟨h.1, h.2.1, by have h2 := h.2.2; have hl := lea_up es; omega⟩)), by omega, gWH⟩)
        by_cases c149 : (σ0 1 9).toInt = 41
        · refine lv_tableIn (off := 177) (tgt := 249) hx hb dX7_readOne_72 (by omega) (by omega) (by rw [c149]; rfl) (by decide) ?_
          refine lv_aload_n hx hb dX7_readOne_249 rfl (lv_at hl 1 rfl) ?_
          refine fg_7_2 (k := 27) hx hb hts in_X7_readOne_7 hown hK hP (by decide) (by decide) (hts _ lk_X7_readOne_19) dX7_readOne_250 ?_
          refine lv_iload_n hx hb dX7_readOne_253 rfl (lv_at hl 0 rfl) ?_
          refine r_bipush hx hb dX7_readOne_254 (by decide) (fun z150 ez150 => ?_)
          refine r_iconst hx hb dX7_readOne_256 (by decide) (fun z151 ez151 => ?_)
          refine r_cVi (k := 24) (As := [.int (σ0 1 9), .int z150, .int z151]) (rest := []) ⟨hx, hb, hml, hown, hts⟩ hK hP hN hS (c_X6_add l D cA ad hI σ16 τ16 hR (σ0 1 9) z150 z151 (by omega)) (cwV 3 hts gX7_readOne_X6_add rfl rfl rfl (by decide +kernel) ⟨by decide, by decide⟩) (rv_Sent hK hP (by decide) (by decide)) rfl hl.1 rfl (Nat.le_of_ble_eq_true rfl) dX7_readOne_257 (Nat.zero_le _) (Nat.zero_le _) (fun r152 u152 H152 locs152 hp152 hP hS => ?_)
          obtain ⟨σ152, τ152⟩ := u152
          obtain ⟨hR, f152, fL152, hq152, hp152_0⟩ : P_X6_add σ16 τ16 (σ0 1 9) z150 z151 r152 σ152 τ152 := hp152
          have hP : va_P D vwCl (gw cA ad σ152 τ152) H152 := hP
          obtain rfl := FrL.nil fL152
          have hF := hF.step f152 (by decide)
          have gCT := gCT.ag (Agr.fr f152 (by decide))
          have gWH := gWH.ag (Agr.fr f152 (by decide))
          have t153 : (σ152 1 13).toInt = (σ16 1 13).toInt := congrArg Int32.toInt (f152.at 1 13 (by decide))
          have t154 : (σ152 24 1).toInt = (σ16 24 1).toInt := congrArg Int32.toInt (f152.at 24 1 (by decide))
          have hr155 := rg_6_2 hR (k := 24) (by decide) (by decide)
          exact r_zret hx hb hr hK hP hS hk (by omega) dX7_readOne_260 (show P_X7_readOne_d1 σ0 τ0 a1 b N mo q nn nm hc r152 σ152 τ16 from ⟨hR, hF, hFL, by omega, by first | exact RO.ofr ((one_l (by omega) (by omega) (by omega) (by omega)).trans (lea_n (by omega) (by omega))) (by omega) ⟨gCT, by omega, by omega⟩ | (exfalso; omega) | exact RO.ofk (one_x (by omega)) (by omega) (by omega) (by omega) | exact RO.ofk (one_4 (by omega) (by omega)) (by omega) (by omega) (by omega) | (obtain ⟨f, e1, x1, x2⟩ := o1.no (by omega); exact RO.ofl ((one_n (by omega) (by omega)).trans e1) (by omega) x1 x2) | exact RO.ofr ((one_n (by omega) (by omega)).trans e1) (by omega) ⟨gCT, by omega, by omega⟩ | (obtain ⟨f, e2, x1, x2⟩ := o2.no (by omega); exact RO.ofl (by rw [one_o (by omega) (by omega), e2, bnd_l]) (by omega) x1 x2) | (obtain ⟨f, e3, x1, x2⟩ := o3.no (by omega); exact RO.ofl (by rw [one_o (by omega) (by omega), e2, bnd_r, e3, bnd_l]) (by omega) x1 x2) | exact RO.ofr (by rw [one_o (by omega) (by omega), e2, bnd_r, e3, bnd_r]) (by omega) ⟨gCT, by omega, by omega⟩ | (rw [one_l (by omega) (by omega) (by omega) (by omega)]; exact o4.map (fun s es h => ⟨h.1, h.2.1, by have h2 := h.2.2; have hl := lea_up es; omega⟩)) | (rw [one_l (by omega) (by omega) (by omega) (by omega)]; exact o5.map (fun s es h => ⟨h.1, h.2.1, by have h2 := h.2.2; have hl := lea_up es; omega⟩)), by omega, gWH⟩)
        by_cases c156 : (σ0 1 9).toInt = 42
        · refine lv_tableIn (off := 177) (tgt := 249) hx hb dX7_readOne_72 (by omega) (by omega) (by rw [c156]; rfl) (by decide) ?_
          refine lv_aload_n hx hb dX7_readOne_249 rfl (lv_at hl 1 rfl) ?_
          refine fg_7_2 (k := 27) hx hb hts in_X7_readOne_7 hown hK hP (by decide) (by decide) (hts _ lk_X7_readOne_19) dX7_readOne_250 ?_
          refine lv_iload_n hx hb dX7_readOne_253 rfl (lv_at hl 0 rfl) ?_
          refine r_bipush hx hb dX7_readOne_254 (by decide) (fun z157 ez157 => ?_)
          refine r_iconst hx hb dX7_readOne_256 (by decide) (fun z158 ez158 => ?_)
          refine r_cVi (k := 24) (As := [.int (σ0 1 9), .int z157, .int z158]) (rest := []) ⟨hx, hb, hml, hown, hts⟩ hK hP hN hS (c_X6_add l D cA ad hI σ16 τ16 hR (σ0 1 9) z157 z158 (by omega)) (cwV 3 hts gX7_readOne_X6_add rfl rfl rfl (by decide +kernel) ⟨by decide, by decide⟩) (rv_Sent hK hP (by decide) (by decide)) rfl hl.1 rfl (Nat.le_of_ble_eq_true rfl) dX7_readOne_257 (Nat.zero_le _) (Nat.zero_le _) (fun r159 u159 H159 locs159 hp159 hP hS => ?_)
          obtain ⟨σ159, τ159⟩ := u159
          obtain ⟨hR, f159, fL159, hq159, hp159_0⟩ : P_X6_add σ16 τ16 (σ0 1 9) z157 z158 r159 σ159 τ159 := hp159
          have hP : va_P D vwCl (gw cA ad σ159 τ159) H159 := hP
          obtain rfl := FrL.nil fL159
          have hF := hF.step f159 (by decide)
          have gCT := gCT.ag (Agr.fr f159 (by decide))
          have gWH := gWH.ag (Agr.fr f159 (by decide))
          have t160 : (σ159 1 13).toInt = (σ16 1 13).toInt := congrArg Int32.toInt (f159.at 1 13 (by decide))
          have t161 : (σ159 24 1).toInt = (σ16 24 1).toInt := congrArg Int32.toInt (f159.at 24 1 (by decide))
          have hr162 := rg_6_2 hR (k := 24) (by decide) (by decide)
          exact r_zret hx hb hr hK hP hS hk (by omega) dX7_readOne_260 (show P_X7_readOne_d1 σ0 τ0 a1 b N mo q nn nm hc r159 σ159 τ16 from ⟨hR, hF, hFL, by omega, by first | exact RO.ofr ((one_l (by omega) (by omega) (by omega) (by omega)).trans (lea_n (by omega) (by omega))) (by omega) ⟨gCT, by omega, by omega⟩ | (exfalso; omega) | exact RO.ofk (one_x (by omega)) (by omega) (by omega) (by omega) | exact RO.ofk (one_4 (by omega) (by omega)) (by omega) (by omega) (by omega) | (obtain ⟨f, e1, x1, x2⟩ := o1.no (by omega); exact RO.ofl ((one_n (by omega) (by omega)).trans e1) (by omega) x1 x2) | exact RO.ofr ((one_n (by omega) (by omega)).trans e1) (by omega) ⟨gCT, by omega, by omega⟩ | (obtain ⟨f, e2, x1, x2⟩ := o2.no (by omega); exact RO.ofl (by rw [one_o (by omega) (by omega), e2, bnd_l]) (by omega) x1 x2) | (obtain ⟨f, e3, x1, x2⟩ := o3.no (by omega); exact RO.ofl (by rw [one_o (by omega) (by omega), e2, bnd_r, e3, bnd_l]) (by omega) x1 x2) | exact RO.ofr (by rw [one_o (by omega) (by omega), e2, bnd_r, e3, bnd_r]) (by omega) ⟨gCT, by omega, by omega⟩ | (rw [one_l (by omega) (by omega) (by omega) (by omega)]; exact o4.map (fun s es h => ⟨h.1, h.2.1, by have h2 := h.2.2; have hl := lea_up es; omega⟩)) | (rw [one_l (by omega) (by omega) (by omega) (by omega)]; exact o5.map (fun s es h => ⟨h.1, h.2.1, by have h2 := h.2.2; have hl := lea_up es; omega⟩)), by omega, gWH⟩)
        by_cases c163 : (σ0 1 9).toInt = 43
        · refine lv_tableIn (off := 177) (tgt := 249) hx hb dX7_readOne_72 (by omega) (by omega) (by rw [c163]; rfl) (by decide) ?_
          refine lv_aload_n hx hb dX7_readOne_249 rfl (lv_at hl 1 rfl) ?_
          refine fg_7_2 (k := 27) hx hb hts in_X7_readOne_7 hown hK hP (by decide) (by decide) (hts _ lk_X7_readOne_19) dX7_readOne_250 ?_
          refine lv_iload_n hx hb dX7_readOne_253 rfl (lv_at hl 0 rfl) ?_
          refine r_bipush hx hb dX7_readOne_254 (by decide) (fun z164 ez164 => ?_)
          refine r_iconst hx hb dX7_readOne_256 (by decide) (fun z165 ez165 => ?_)
          refine r_cVi (k := 24) (As := [.int (σ0 1 9), .int z164, .int z165]) (rest := []) ⟨hx, hb, hml, hown, hts⟩ hK hP hN hS (c_X6_add l D cA ad hI σ16 τ16 hR (σ0 1 9) z164 z165 (by omega)) (cwV 3 hts gX7_readOne_X6_add rfl rfl rfl (by decide +kernel) ⟨by decide, by decide⟩) (rv_Sent hK hP (by decide) (by decide)) rfl hl.1 rfl (Nat.le_of_ble_eq_true rfl) dX7_readOne_257 (Nat.zero_le _) (Nat.zero_le _) (fun r166 u166 H166 locs166 hp166 hP hS => ?_)
          obtain ⟨σ166, τ166⟩ := u166
          obtain ⟨hR, f166, fL166, hq166, hp166_0⟩ : P_X6_add σ16 τ16 (σ0 1 9) z164 z165 r166 σ166 τ166 := hp166
          have hP : va_P D vwCl (gw cA ad σ166 τ166) H166 := hP
          obtain rfl := FrL.nil fL166
          have hF := hF.step f166 (by decide)
          have gCT := gCT.ag (Agr.fr f166 (by decide))
          have gWH := gWH.ag (Agr.fr f166 (by decide))
          have t167 : (σ166 1 13).toInt = (σ16 1 13).toInt := congrArg Int32.toInt (f166.at 1 13 (by decide))
          have t168 : (σ166 24 1).toInt = (σ16 24 1).toInt := congrArg Int32.toInt (f166.at 24 1 (by decide))
          have hr169 := rg_6_2 hR (k := 24) (by decide) (by decide)
          exact r_zret hx hb hr hK hP hS hk (by omega) dX7_readOne_260 (show P_X7_readOne_d1 σ0 τ0 a1 b N mo q nn nm hc r166 σ166 τ16 from ⟨hR, hF, hFL, by omega, by first | exact RO.ofr ((one_l (by omega) (by omega) (by omega) (by omega)).trans (lea_n (by omega) (by omega))) (by omega) ⟨gCT, by omega, by omega⟩ | (exfalso; omega) | exact RO.ofk (one_x (by omega)) (by omega) (by omega) (by omega) | exact RO.ofk (one_4 (by omega) (by omega)) (by omega) (by omega) (by omega) | (obtain ⟨f, e1, x1, x2⟩ := o1.no (by omega); exact RO.ofl ((one_n (by omega) (by omega)).trans e1) (by omega) x1 x2) | exact RO.ofr ((one_n (by omega) (by omega)).trans e1) (by omega) ⟨gCT, by omega, by omega⟩ | (obtain ⟨f, e2, x1, x2⟩ := o2.no (by omega); exact RO.ofl (by rw [one_o (by omega) (by omega), e2, bnd_l]) (by omega) x1 x2) | (obtain ⟨f, e3, x1, x2⟩ := o3.no (by omega); exact RO.ofl (by rw [one_o (by omega) (by omega), e2, bnd_r, e3, bnd_l]) (by omega) x1 x2) | exact RO.ofr (by rw [one_o (by omega) (by omega), e2, bnd_r, e3, bnd_r]) (by omega) ⟨gCT, by omega, by omega⟩ | (rw [one_l (by omega) (by omega) (by omega) (by omega)]; exact o4.map (fun s es h => ⟨h.1, h.2.1, by have h2 := h.2.2; have hl := lea_up es; omega⟩)) | (rw [one_l (by omega) (by omega) (by omega) (by omega)]; exact o5.map (fun s es h => ⟨h.1, h.2.1, by have h2 := h.2.2; have hl := lea_up es; omega⟩)), by omega, gWH⟩)
        by_cases c170 : (σ0 1 9).toInt = 44
        · refine lv_tableIn (off := 138) (tgt := 210) hx hb dX7_readOne_72 (by omega) (by omega) (by rw [c170]; rfl) (by decide) ?_
          refine lv_aload_n hx hb dX7_readOne_210 rfl (lv_at hl 1 rfl) ?_
          refine lv_iload_n hx hb dX7_readOne_211 rfl (lv_at hl 2 rfl) ?_
          refine r_iconst hx hb dX7_readOne_212 (by decide) (fun z171 ez171 => ?_)
          refine r_iadd hx hb dX7_readOne_213 (by omega) (fun z172 ez172 => ?_)
          refine r_cVi (k := 27) (As := [.int z172]) (rest := []) ⟨hx, hb, hml, hown, hts⟩ hK hP hN hS (c_X7_readCond_d2 l D cA ad hI σ16 τ16 hR z172 b N mo _ (nn + 1) nm hc (by omega) (by omega) (by omega) (by omega) gCT gWH) (cwV 1 hts gX7_readOne_X7_readCond rfl rfl rfl (by decide +kernel) ⟨by decide, by decide⟩) (rv_SText hK hP (by decide) (by decide)) rfl hl.1 rfl (Nat.le_of_ble_eq_true rfl) dX7_readOne_214 (Nat.zero_le _) (Nat.zero_le _) (fun r173 u173 H173 locs173 hp173 hP hS => ?_)
          obtain ⟨σ173, τ173⟩ := u173
          obtain ⟨hR, f173, fL173, hq173, hp173_0, hp173_1, gnWH⟩ : P_X7_readCond_d2 σ16 τ16 z172 b N mo _ (nn + 1) nm hc r173 σ173 τ173 := hp173
          have o2 := hp173_0
          have hP : va_P D vwCl (gw cA ad σ173 τ173) H173 := hP
          have hFL := hFL.step fL173 (by decide)
          have gWH := gWH.agL (AgrL.fr fL173 (by decide))
          have hF := hF.step f173 (by decide)
          have gWH := gWH.ag (Agr.fr f173 (by decide))
          have hr174 := rg_6_1 hR (k := 24) (by decide) (by decide)
          have hr175 := rg_6_2 hR (k := 24) (by decide) (by decide)
          refine r_if_eq (tgt := 236) hx hb dX7_readOne_217 (by decide) (fun c176 => ?_) (fun c176 => ?_)
          · clear hp173_1
            refine r_iconst hx hb dX7_readOne_236 (by decide) (fun z177 ez177 => ?_)
            exact r_zret hx hb hr hK hP hS hk (by omega) dX7_readOne_237 (show P_X7_readOne_d1 σ0 τ0 a1 b N mo q nn nm hc z177 σ173 τ173 from ⟨hR, hF, hFL, by omega, by first | exact RO.ofr ((one_l (by omega) (by omega) (by omega) (by omega)).trans (lea_n (by omega) (by omega))) (by omega) ⟨gCT, by omega, by omega⟩ | (exfalso; omega) | exact RO.ofk (one_x (by omega)) (by omega) (by omega) (by omega) | exact RO.ofk (one_4 (by omega) (by omega)) (by omega) (by omega) (by omega) | (obtain ⟨f, e1, x1, x2⟩ := o1.no (by omega); exact RO.ofl ((one_n (by omega) (by omega)).trans e1) (by omega) x1 x2) | exact RO.ofr ((one_n (by omega) (by omega)).trans e1) (by omega) ⟨gCT, by omega, by omega⟩ | (obtain ⟨f, e2, x1, x2⟩ := o2.no (by omega); exact RO.ofl (by rw [one_o (by omega) (by omega), e2, bnd_l]) (by omega) x1 x2) | (obtain ⟨f, e3, x1, x2⟩ := o3.no (by omega); exact RO.ofl (by rw [one_o (by omega) (by omega), e2, bnd_r, e3, bnd_l]) (by omega) x1 x2) | exact RO.ofr (by rw [one_o (by omega) (by omega), e2, bnd_r, e3, bnd_r]) (by omega) ⟨gCT, by omega, by omega⟩ | (rw [one_l (by omega) (by omega) (by omega) (by omega)]; exact o4.map (fun s es h => ⟨h.1, h.2.1, by have h2 := h.2.2; have hl := lea_up es; omega⟩)) | (rw [one_l (by omega) (by omega) (by omega) (by omega)]; exact o5.map (fun s es h => ⟨h.1, h.2.1, by have h2 := h.2.2; have hl := lea_up es; omega⟩)), by omega, gWH⟩)
          · replace hp173_1 := hp173_1.resolve_left (by omega)
            obtain ⟨s2, e2, gCT, hs1, hs2⟩ := o2.ye (by omega)
            have hu2 := con_up (one_up _) _ _ _ e2
            refine lv_aload_n hx hb dX7_readOne_220 rfl (lv_at hl 1 rfl) ?_
            refine fg_7_0 (k := 27) hx hb hts in_X7_readOne_7 hown hK hP (by decide) (by decide) (hts _ lk_X7_readOne_9) dX7_readOne_221 ?_
            refine r_bipush hx hb dX7_readOne_224 (by decide) (fun z178 ez178 => ?_)
            refine r_cVi (k := 1) (As := [.int z178]) (rest := []) ⟨hx, hb, hml, hown, hts⟩ hK hP hN hS (c_X8_take_v l D cA ad hI σ173 τ173 hR z178 b N mo _ 45 (by omega) (by omega) gCT) (cwV 1 hts gX7_readOne_X8_take rfl rfl rfl (by decide +kernel) ⟨by decide, by decide⟩) (rv_Tape hK hP (by decide) (by decide)) rfl hl.1 rfl (Nat.le_of_ble_eq_true rfl) dX7_readOne_226 (Nat.zero_le _) (Nat.zero_le _) (fun r179 u179 H179 locs179 hp179 hP hS => ?_)
            obtain ⟨σ179, τ179⟩ := u179
            obtain ⟨hR, f179, fL179, hq179, hp179_0, hp179_1⟩ : P_X8_take_v σ173 τ173 z178 b N mo _ 45 r179 σ179 τ179 := hp179
            have o3 := hp179_0
            have hP : va_P D vwCl (gw cA ad σ179 τ179) H179 := hP
            have hFL := hFL.step fL179 (by decide)
            have gWH := gWH.agL (AgrL.fr fL179 (by decide))
            have hF := hF.step f179 (by decide)
            have gWH := gWH.ag (Agr.fr f179 (by decide))
            have t180 : (σ179 24 1).toInt = (σ173 24 1).toInt := congrArg Int32.toInt (f179.at 24 1 (by decide))
            have t181 : (σ179 24 2).toInt = (σ173 24 2).toInt := congrArg Int32.toInt (f179.at 24 2 (by decide))
            refine r_if_eq (tgt := 236) hx hb dX7_readOne_229 (by decide) (fun c182 => ?_) (fun c182 => ?_)
            · clear hp179_1
              refine r_iconst hx hb dX7_readOne_236 (by decide) (fun z183 ez183 => ?_)
              exact r_zret hx hb hr hK hP hS hk (by omega) dX7_readOne_237 (show P_X7_readOne_d1 σ0 τ0 a1 b N mo q nn nm hc z183 σ179 τ179 from ⟨hR, hF, hFL, by omega, by first | exact RO.ofr ((one_l (by omega) (by omega) (by omega) (by omega)).trans (lea_n (by omega) (by omega))) (by omega) ⟨gCT, by omega, by omega⟩ | (exfalso; omega) | exact RO.ofk (one_x (by omega)) (by omega) (by omega) (by omega) | exact RO.ofk (one_4 (by omega) (by omega)) (by omega) (by omega) (by omega) | (obtain ⟨f, e1, x1, x2⟩ := o1.no (by omega); exact RO.ofl ((one_n (by omega) (by omega)).trans e1) (by omega) x1 x2) | exact RO.ofr ((one_n (by omega) (by omega)).trans e1) (by omega) ⟨gCT, by omega, by omega⟩ | (obtain ⟨f, e2, x1, x2⟩ := o2.no (by omega); exact RO.ofl (by rw [one_o (by omega) (by omega), e2, bnd_l]) (by omega) x1 x2) | (obtain ⟨f, e3, x1, x2⟩ := o3.no (by omega); exact RO.ofl (by rw [one_o (by omega) (by omega), e2, bnd_r, e3, bnd_l]) (by omega) x1 x2) | exact RO.ofr (by rw [one_o (by omega) (by omega), e2, bnd_r, e3, bnd_r]) (by omega) ⟨gCT, by omega, by omega⟩ | (rw [one_l (by omega) (by omega) (by omega) (by omega)]; exact o4.map (fun s es h => ⟨h.1, h.2.1, by have h2 := h.2.2; have hl := lea_up es; omega⟩)) | (rw [one_l (by omega) (by omega) (by omega) (by omega)]; exact o5.map (fun s es h => ⟨h.1, h.2.1, by have h2 := h.2.2; have hl := lea_up es; omega⟩)), by omega, gWH⟩)
            · replace hp179_1 := hp179_1.resolve_left (by omega)
              obtain ⟨q3, e3, gCT⟩ := o3.ye (by omega)
              refine r_iconst hx hb dX7_readOne_232 (by decide) (fun z184 ez184 => ?_)
              refine lv_goto (tgt := 237) hx hb dX7_readOne_233 (by decide) ?_
              exact r_zret hx hb hr hK hP hS hk (by omega) dX7_readOne_237 (show P_X7_readOne_d1 σ0 τ0 a1 b N mo q nn nm hc z184 σ179 τ179 from ⟨hR, hF, hFL, by omega, by first | exact RO.ofr ((one_l (by omega) (by omega) (by omega) (by omega)).trans (lea_n (by omega) (by omega))) (by omega) ⟨gCT, by omega, by omega⟩ | (exfalso; omega) | exact RO.ofk (one_x (by omega)) (by omega) (by omega) (by omega) | exact RO.ofk (one_4 (by omega) (by omega)) (by omega) (by omega) (by omega) | (obtain ⟨f, e1, x1, x2⟩ := o1.no (by omega); exact RO.ofl ((one_n (by omega) (by omega)).trans e1) (by omega) x1 x2) | exact RO.ofr ((one_n (by omega) (by omega)).trans e1) (by omega) ⟨gCT, by omega, by omega⟩ | (obtain ⟨f, e2, x1, x2⟩ := o2.no (by omega); exact RO.ofl (by rw [one_o (by omega) (by omega), e2, bnd_l]) (by omega) x1 x2) | (obtain ⟨f, e3, x1, x2⟩ := o3.no (by omega); exact RO.ofl (by rw [one_o (by omega) (by omega), e2, bnd_r, e3, bnd_l]) (by omega) x1 x2) | exact RO.ofr (by rw [one_o (by omega) (by omega), e2, bnd_r, e3, bnd_r]) (by omega) ⟨gCT, by omega, by omega⟩ | (rw [one_l (by omega) (by omega) (by omega) (by omega)]; exact o4.map (fun s es h => ⟨h.1, h.2.1, by have h2 := h.2.2; have hl := lea_up es; omega⟩)) | (rw [one_l (by omega) (by omega) (by omega) (by omega)]; exact o5.map (fun s es h => ⟨h.1, h.2.1, by have h2 := h.2.2; have hl := lea_up es; omega⟩)), by omega, gWH⟩)
        refine lv_tableOut (tgt := 249) hx hb dX7_readOne_72 (by omega) (by decide) ?_
        refine lv_aload_n hx hb dX7_readOne_249 rfl (lv_at hl 1 rfl) ?_
        refine fg_7_2 (k := 27) hx hb hts in_X7_readOne_7 hown hK hP (by decide) (by decide) (hts _ lk_X7_readOne_19) dX7_readOne_250 ?_
        refine lv_iload_n hx hb dX7_readOne_253 rfl (lv_at hl 0 rfl) ?_
        refine r_bipush hx hb dX7_readOne_254 (by decide) (fun z185 ez185 => ?_)
        refine r_iconst hx hb dX7_readOne_256 (by decide) (fun z186 ez186 => ?_)
        refine r_cVi (k := 24) (As := [.int (σ0 1 9), .int z185, .int z186]) (rest := []) ⟨hx, hb, hml, hown, hts⟩ hK hP hN hS (c_X6_add l D cA ad hI σ16 τ16 hR (σ0 1 9) z185 z186 (by omega)) (cwV 3 hts gX7_readOne_X6_add rfl rfl rfl (by decide +kernel) ⟨by decide, by decide⟩) (rv_Sent hK hP (by decide) (by decide)) rfl hl.1 rfl (Nat.le_of_ble_eq_true rfl) dX7_readOne_257 (Nat.zero_le _) (Nat.zero_le _) (fun r187 u187 H187 locs187 hp187 hP hS => ?_)
        obtain ⟨σ187, τ187⟩ := u187
        obtain ⟨hR, f187, fL187, hq187, hp187_0⟩ : P_X6_add σ16 τ16 (σ0 1 9) z185 z186 r187 σ187 τ187 := hp187
        have hP : va_P D vwCl (gw cA ad σ187 τ187) H187 := hP
        obtain rfl := FrL.nil fL187
        have hF := hF.step f187 (by decide)
        have gCT := gCT.ag (Agr.fr f187 (by decide))
        have gWH := gWH.ag (Agr.fr f187 (by decide))
        have t188 : (σ187 1 13).toInt = (σ16 1 13).toInt := congrArg Int32.toInt (f187.at 1 13 (by decide))
        have t189 : (σ187 24 1).toInt = (σ16 24 1).toInt := congrArg Int32.toInt (f187.at 24 1 (by decide))
        have hr190 := rg_6_2 hR (k := 24) (by decide) (by decide)
        exact r_zret hx hb hr hK hP hS hk (by omega) dX7_readOne_260 (show P_X7_readOne_d1 σ0 τ0 a1 b N mo q nn nm hc r187 σ187 τ16 from ⟨hR, hF, hFL, by omega, by first | exact RO.ofr ((one_l (by omega) (by omega) (by omega) (by omega)).trans (lea_n (by omega) (by omega))) (by omega) ⟨gCT, by omega, by omega⟩ | (exfalso; omega) | exact RO.ofk (one_x (by omega)) (by omega) (by omega) (by omega) | exact RO.ofk (one_4 (by omega) (by omega)) (by omega) (by omega) (by omega) | (obtain ⟨f, e1, x1, x2⟩ := o1.no (by omega); exact RO.ofl ((one_n (by omega) (by omega)).trans e1) (by omega) x1 x2) | exact RO.ofr ((one_n (by omega) (by omega)).trans e1) (by omega) ⟨gCT, by omega, by omega⟩ | (obtain ⟨f, e2, x1, x2⟩ := o2.no (by omega); exact RO.ofl (by rw [one_o (by omega) (by omega), e2, bnd_l]) (by omega) x1 x2) | (obtain ⟨f, e3, x1, x2⟩ := o3.no (by omega); exact RO.ofl (by rw [one_o (by omega) (by omega), e2, bnd_r, e3, bnd_l]) (by omega) x1 x2) | exact RO.ofr (by rw [one_o (by omega) (by omega), e2, bnd_r, e3, bnd_r]) (by omega) ⟨gCT, by omega, by omega⟩ | (rw [one_l (by omega) (by omega) (by omega) (by omega)]; exact o4.map (fun s es h => ⟨h.1, h.2.1, by have h2 := h.2.2; have hl := lea_up es; omega⟩)) | (rw [one_l (by omega) (by omega) (by omega) (by omega)]; exact o5.map (fun s es h => ⟨h.1, h.2.1, by have h2 := h.2.2; have hl := lea_up es; omega⟩)), by omega, gWH⟩)
      · exfalso; omega
  · refine lv_aload_n hx hb dX7_readOne_15 rfl (lv_at hl 1 rfl) ?_
    refine fg_7_0 (k := 27) hx hb hts in_X7_readOne_7 hown hK hP (by decide) (by decide) (hts _ lk_X7_readOne_9) dX7_readOne_16 ?_
    refine r_iconst hx hb dX7_readOne_19 (by decide) (fun z191 ez191 => ?_)
    refine r_cVi (k := 1) (As := [.int z191]) (rest := []) ⟨hx, hb, hml, hown, hts⟩ hK hP hN hS (c_X8_blame_v l D cA ad hI σ0 τ0 hR z191 _ _ _ _ (by omega) gCT) (cwV 1 hts gX7_readOne_X8_blame rfl rfl rfl (by decide +kernel) ⟨by decide, by decide⟩) (rv_Tape hK hP (by decide) (by decide)) rfl hl.1 rfl (Nat.le_of_ble_eq_true rfl) dX7_readOne_20 (Nat.zero_le _) (Nat.zero_le _) (fun r192 u192 H192 locs192 hp192 hP hS => ?_)
    obtain ⟨σ192, τ192⟩ := u192
    obtain ⟨hR, f192, fL192, hq192, hp192_0, hp192_1, hp192_2, gnCT⟩ : P_X8_blame_v σ0 τ0 z191 _ _ _ _ r192 σ192 τ192 := hp192
    have hP : va_P D vwCl (gw cA ad σ192 τ192) H192 := hP
    obtain rfl := FrL.nil fL192
    have hF := hF.step f192 (by decide)
    have gCT := gCT.ag (Agr.fr f192 (by decide))
    have gWH := gWH.ag (Agr.fr f192 (by decide))
    have t193 : (σ192 24 1).toInt = (σ0 24 1).toInt := congrArg Int32.toInt (f192.at 24 1 (by decide))
    have t194 : (σ192 24 2).toInt = (σ0 24 2).toInt := congrArg Int32.toInt (f192.at 24 2 (by decide))
    exact r_zret hx hb hr hK hP hS hk (by omega) dX7_readOne_23 (show P_X7_readOne_d1 σ0 τ0 a1 b N mo q nn nm hc r192 σ192 τ0 from ⟨hR, hF, hFL, by omega, by first | exact RO.ofr ((one_l (by omega) (by omega) (by omega) (by omega)).trans (lea_n (by omega) (by omega))) (by omega) ⟨gCT, by omega, by omega⟩ | (exfalso; omega) | exact RO.ofk (one_x (by omega)) (by omega) (by omega) (by omega) | exact RO.ofk (one_4 (by omega) (by omega)) (by omega) (by omega) (by omega) | (obtain ⟨f, e1, x1, x2⟩ := o1.no (by omega); exact RO.ofl ((one_n (by omega) (by omega)).trans e1) (by omega) x1 x2) | exact RO.ofr ((one_n (by omega) (by omega)).trans e1) (by omega) ⟨gCT, by omega, by omega⟩ | (obtain ⟨f, e2, x1, x2⟩ := o2.no (by omega); exact RO.ofl (by rw [one_o (by omega) (by omega), e2, bnd_l]) (by omega) x1 x2) | (obtain ⟨f, e3, x1, x2⟩ := o3.no (by omega); exact RO.ofl (by rw [one_o (by omega) (by omega), e2, bnd_r, e3, bnd_l]) (by omega) x1 x2) | exact RO.ofr (by rw [one_o (by omega) (by omega), e2, bnd_r, e3, bnd_r]) (by omega) ⟨gCT, by omega, by omega⟩ | (rw [one_l (by omega) (by omega) (by omega) (by omega)]; exact o4.map (fun s es h => ⟨h.1, h.2.1, by have h2 := h.2.2; have hl := lea_up es; omega⟩)) | (rw [one_l (by omega) (by omega) (by omega) (by omega)]; exact o5.map (fun s es h => ⟨h.1, h.2.1, by have h2 := h.2.2; have hl := lea_up es; omega⟩)), by omega, gWH⟩)
