set_option maxHeartbeats 4000000 in
theorem LB_15 (p : Program) (l : Launch) (e : Env) (s : State) (m : MethodId) (below : List Frame) (meth : Method) (c : Code) (b L : Nat) (xs : Nat → Int32) (D : va_G) (cA : Nat → ClassId) (ad : Nat → Nat) (C : LC p l s m meth c b L xs D cA ad) (i : Int32) (ni : Nat) (ei : i.toInt = (ni : Int)) (hL : L ≤ 3072) (hn : ni + 6 ≤ L) (Kc : LK p l e s m below meth c b L xs D cA ad i) : LJ p l e s m below meth c b L xs D cA ad i 714 := by
  obtain ⟨hx, hb, hml, hown, hts, hX, hbl, hK, hI, hA, hV, hl0⟩ := C
  intro σ τ H locs cells slots ls hli hP hS hcc hss hl
  obtain ⟨hR, gRI, gSI, gSIK, gBI, hsz, gTE, gRV, gVK, gVN, hfa⟩ := hli
  have hcl : cells ≤ room_1.cells := (show cells ≤ 601024 by omega)
  have hsl : slots ≤ room_1.slots := (show slots ≤ 7293034 by omega)
  have hcl1 : cells + 1 ≤ room_1.cells := (show cells + 1 ≤ 601024 by omega)
  have hsl1 : slots + 6 ≤ room_1.slots := (show slots + 6 ≤ 7293034 by omega)
  refine lv_aload_n hx hb dL_law_714 rfl (lv_at hl 1 rfl) ?_
  have hs5_1 := rg_8_5 hR (k := 1) (by decide) (by decide)
  refine q_cVi (k := 0) (As := []) (rest := []) ⟨hx, hb, hml, hown, hts⟩ hK hP hV hA hS (c_X11_undo l D cA ad hI σ τ hR) (cwV 0 hts gL_law_X11_undo rfl rfl rfl (by decide +kernel) ⟨by decide, by decide⟩) (rv_X hK hP (by decide) (by decide)) rfl hl.1 rfl (Nat.le_of_ble_eq_true rfl) dL_law_715 hcl hsl (fun r1 u1 H1 locs1 hp1 hP hS => ?_)
  obtain ⟨σ1, τ1⟩ := u1
  obtain ⟨hR, f1, fL1, hq1⟩ : P_X11_undo σ τ r1 σ1 τ1 := hp1
  have hP : va_P D vwCl (gw cA ad σ1 τ1) H1 := hP
  obtain rfl := FrL.nil fL1
  have gRI := RI.fr gRI f1 (by decide)
  have gSI := SI.fr gSI hR f1 (by decide)
  have gSIK := SIK.fr gSIK hR f1 (by decide)
  have gBI := BI.fr gBI f1 (by decide)
  have t1_1_5 := congrArg Int32.toInt (f1.at 1 5 (by decide))
  have t1_387_2 := congrArg Int32.toInt (f1.at 387 2 (by decide))
  have t1_0_18 := congrArg Int32.toInt (f1.at 0 18 (by decide))
  have t1_387_15 := congrArg Int32.toInt (f1.at 387 15 (by decide))
  have gVK := gVK.fr f1 (by decide)
  have gVN := gVN.fr f1 (by decide) fL1 (by decide)
  have gTE := gTE.fr f1 (by decide) (by omega) (by omega)
  refine lv_pop hx hb dL_law_718 rfl ?_
  refine lv_aload_n hx hb dL_law_719 rfl (lv_at hl 2 rfl) ?_
  have hs5_2 := rg_8_5 hR (k := 1) (by decide) (by decide)
  refine q_cVi (k := 387) (As := []) (rest := []) ⟨hx, hb, hml, hown, hts⟩ hK hP hV hA hS (c_X12_undo l D cA ad hI σ1 τ hR) (cwV 0 hts gL_law_X12_undo rfl rfl rfl (by decide +kernel) ⟨by decide, by decide⟩) (rv_M hK hP (by decide) (by decide)) rfl hl.1 rfl (Nat.le_of_ble_eq_true rfl) dL_law_720 hcl hsl (fun r2 u2 H2 locs2 hp2 hP hS => ?_)
  obtain ⟨σ2, τ2⟩ := u2
  obtain ⟨hR, f2, fL2, hq2⟩ : P_X12_undo σ1 τ r2 σ2 τ2 := hp2
  have hP : va_P D vwCl (gw cA ad σ2 τ2) H2 := hP
  obtain rfl := FrL.nil fL2
  have gRI := RI.fr gRI f2 (by decide)
  have gSI := SI.fr gSI hR f2 (by decide)
  have gSIK := SIK.fr gSIK hR f2 (by decide)
  have gBI := BI.fr gBI f2 (by decide)
  have t2_1_5 := congrArg Int32.toInt (f2.at 1 5 (by decide))
  have t2_387_2 := congrArg Int32.toInt (f2.at 387 2 (by decide))
  have t2_0_18 := congrArg Int32.toInt (f2.at 0 18 (by decide))
  have t2_387_15 := congrArg Int32.toInt (f2.at 387 15 (by decide))
  have gVK := gVK.fr f2 (by decide)
  have gVN := gVN.fr f2 (by decide) fL2 (by decide)
  have gTE := gTE.fr f2 (by decide) (by omega) (by omega)
  refine lv_pop hx hb dL_law_723 rfl ?_
  refine lv_goto (tgt := 1492) hx hb dL_law_724 (by decide) ?_
  exact Kc σ2 τ H2 locs2 (cells) (slots) ls ⟨hR, gRI, gSI, gSIK, gBI, (by omega), gTE, gRV, gVK, gVN, (by omega)⟩ hP hS (by omega) (by omega) (lv_sub hl [0, 1, 2, 3, 4] rfl)
set_option maxHeartbeats 4000000 in
theorem LB_16 (p : Program) (l : Launch) (e : Env) (s : State) (m : MethodId) (below : List Frame) (meth : Method) (c : Code) (b L : Nat) (xs : Nat → Int32) (D : va_G) (cA : Nat → ClassId) (ad : Nat → Nat) (C : LC p l s m meth c b L xs D cA ad) (i : Int32) (ni : Nat) (ei : i.toInt = (ni : Int)) (hL : L ≤ 3072) (hn : ni + 6 ≤ L) (Kc : LK p l e s m below meth c b L xs D cA ad i) : LJ p l e s m below meth c b L xs D cA ad i 727 := by
  obtain ⟨hx, hb, hml, hown, hts, hX, hbl, hK, hI, hA, hV, hl0⟩ := C
  intro σ τ H locs cells slots ls hli hP hS hcc hss hl
  obtain ⟨hR, gRI, gSI, gSIK, gBI, hsz, gTE, gRV, gVK, gVN, hfa⟩ := hli
  have hcl : cells ≤ room_1.cells := (show cells ≤ 601024 by omega)
  have hsl : slots ≤ room_1.slots := (show slots ≤ 7293034 by omega)
  have hcl1 : cells + 1 ≤ room_1.cells := (show cells + 1 ≤ 601024 by omega)
  have hsl1 : slots + 6 ≤ room_1.slots := (show slots + 6 ≤ 7293034 by omega)
  refine lv_aload_n hx hb dL_law_727 rfl (lv_at hl 1 rfl) ?_
  refine lv_aload_n hx hb dL_law_728 rfl (lv_at hl 0 rfl) ?_
  refine lv_iload hx hb dL_law_729 (lv_at hl 4 rfl) ?_
  refine r_iconst hx hb dL_law_731 (by decide) (fun z1 ez1 => ?_)
  refine r_iadd hx hb dL_law_732 (by omega) (fun z2 ez2 => ?_)
  refine q_scr (j := ni + 1) hx hb hX hbl hS (by omega) (by omega) dL_law_733 ?_
  refine lv_aload_n hx hb dL_law_734 rfl (lv_at hl 0 rfl) ?_
  refine lv_iload hx hb dL_law_735 (lv_at hl 4 rfl) ?_
  refine r_iconst hx hb dL_law_737 (by decide) (fun z3 ez3 => ?_)
  refine r_iadd hx hb dL_law_738 (by omega) (fun z4 ez4 => ?_)
  refine q_scr (j := ni + 2) hx hb hX hbl hS (by omega) (by omega) dL_law_739 ?_
  refine lv_aload_n hx hb dL_law_740 rfl (lv_at hl 0 rfl) ?_
  refine lv_iload hx hb dL_law_741 (lv_at hl 4 rfl) ?_
  refine r_iconst hx hb dL_law_743 (by decide) (fun z5 ez5 => ?_)
  refine r_iadd hx hb dL_law_744 (by omega) (fun z6 ez6 => ?_)
  refine q_scr (j := ni + 3) hx hb hX hbl hS (by omega) (by omega) dL_law_745 ?_
  have hs5_7 := rg_8_5 hR (k := 1) (by decide) (by decide)
  refine q_cVi (k := 0) (As := [.int (xs (ni + 1)), .int (xs (ni + 2)), .int (xs (ni + 3))]) (rest := []) ⟨hx, hb, hml, hown, hts⟩ hK hP hV hA hS (c_X11_far l D cA ad hI σ τ hR (xs (ni + 1)) (xs (ni + 2)) (xs (ni + 3))) (cwV 3 hts gL_law_X11_far rfl rfl rfl (by decide +kernel) ⟨by decide, by decide⟩) (rv_X hK hP (by decide) (by decide)) rfl hl.1 rfl (Nat.le_of_ble_eq_true rfl) dL_law_746 hcl hsl (fun r7 u7 H7 locs7 hp7 hP hS => ?_)
  obtain ⟨σ7, τ7⟩ := u7
  obtain ⟨hR, f7, fL7⟩ : P_X11_far σ τ (xs (ni + 1)) (xs (ni + 2)) (xs (ni + 3)) r7 σ7 τ7 := hp7
  have hP : va_P D vwCl (gw cA ad σ7 τ7) H7 := hP
  obtain rfl := FrL.nil fL7
  have gRI := RI.fr gRI f7 (by decide)
  have gSI := SI.fr gSI hR f7 (by decide)
  have gSIK := SIK.fr gSIK hR f7 (by decide)
  have gBI := BI.fr gBI f7 (by decide)
  have t7_1_5 := congrArg Int32.toInt (f7.at 1 5 (by decide))
  have t7_387_2 := congrArg Int32.toInt (f7.at 387 2 (by decide))
  have t7_0_18 := congrArg Int32.toInt (f7.at 0 18 (by decide))
  have t7_387_15 := congrArg Int32.toInt (f7.at 387 15 (by decide))
  have gVK := gVK.fr f7 (by decide)
  have gVN := gVN.fr f7 (by decide) fL7 (by decide)
  have gTE := gTE.fr f7 (by decide) (by omega) (by omega)
  refine lv_pop hx hb dL_law_749 rfl ?_
  refine lv_aload_n hx hb dL_law_750 rfl (lv_at hl 2 rfl) ?_
  refine lv_aload_n hx hb dL_law_751 rfl (lv_at hl 0 rfl) ?_
  refine lv_iload hx hb dL_law_752 (lv_at hl 4 rfl) ?_
  refine r_iconst hx hb dL_law_754 (by decide) (fun z8 ez8 => ?_)
  refine r_iadd hx hb dL_law_755 (by omega) (fun z9 ez9 => ?_)
  refine q_scr (j := ni + 1) hx hb hX hbl hS (by omega) (by omega) dL_law_756 ?_
  refine lv_aload_n hx hb dL_law_757 rfl (lv_at hl 0 rfl) ?_
  refine lv_iload hx hb dL_law_758 (lv_at hl 4 rfl) ?_
  refine r_iconst hx hb dL_law_760 (by decide) (fun z10 ez10 => ?_)
  refine r_iadd hx hb dL_law_761 (by omega) (fun z11 ez11 => ?_)
  refine q_scr (j := ni + 2) hx hb hX hbl hS (by omega) (by omega) dL_law_762 ?_
  refine lv_aload_n hx hb dL_law_763 rfl (lv_at hl 0 rfl) ?_
  refine lv_iload hx hb dL_law_764 (lv_at hl 4 rfl) ?_
  refine r_iconst hx hb dL_law_766 (by decide) (fun z12 ez12 => ?_)
  refine r_iadd hx hb dL_law_767 (by omega) (fun z13 ez13 => ?_)
  refine q_scr (j := ni + 3) hx hb hX hbl hS (by omega) (by omega) dL_law_768 ?_
  have hs5_14 := rg_8_5 hR (k := 1) (by decide) (by decide)
  refine q_cVi (k := 387) (As := [.int (xs (ni + 1)), .int (xs (ni + 2)), .int (xs (ni + 3))]) (rest := []) ⟨hx, hb, hml, hown, hts⟩ hK hP hV hA hS (c_X12_far l D cA ad hI σ7 τ hR (xs (ni + 1)) (xs (ni + 2)) (xs (ni + 3))) (cwV 3 hts gL_law_X12_far rfl rfl rfl (by decide +kernel) ⟨by decide, by decide⟩) (rv_M hK hP (by decide) (by decide)) rfl hl.1 rfl (Nat.le_of_ble_eq_true rfl) dL_law_769 hcl hsl (fun r14 u14 H14 locs14 hp14 hP hS => ?_)
  obtain ⟨σ14, τ14⟩ := u14
  obtain ⟨hR, f14, fL14⟩ : P_X12_far σ7 τ (xs (ni + 1)) (xs (ni + 2)) (xs (ni + 3)) r14 σ14 τ14 := hp14
  have hP : va_P D vwCl (gw cA ad σ14 τ14) H14 := hP
  obtain rfl := FrL.nil fL14
  have gRI := RI.fr gRI f14 (by decide)
  have gSI := SI.fr gSI hR f14 (by decide)
  have gSIK := SIK.fr gSIK hR f14 (by decide)
  have gBI := BI.fr gBI f14 (by decide)
  have t14_1_5 := congrArg Int32.toInt (f14.at 1 5 (by decide))
  have t14_387_2 := congrArg Int32.toInt (f14.at 387 2 (by decide))
  have t14_0_18 := congrArg Int32.toInt (f14.at 0 18 (by decide))
  have t14_387_15 := congrArg Int32.toInt (f14.at 387 15 (by decide))
  have gVK := gVK.fr f14 (by decide)
  have gVN := gVN.fr f14 (by decide) fL14 (by decide)
  have gTE := gTE.fr f14 (by decide) (by omega) (by omega)
  refine lv_pop hx hb dL_law_772 rfl ?_
  refine lv_goto (tgt := 1492) hx hb dL_law_773 (by decide) ?_
  exact Kc σ14 τ H14 locs14 (cells) (slots) ls ⟨hR, gRI, gSI, gSIK, gBI, (by omega), gTE, gRV, gVK, gVN, (by omega)⟩ hP hS (by omega) (by omega) (lv_sub hl [0, 1, 2, 3, 4] rfl)
set_option maxHeartbeats 4000000 in
theorem LB_17 (p : Program) (l : Launch) (e : Env) (s : State) (m : MethodId) (below : List Frame) (meth : Method) (c : Code) (b L : Nat) (xs : Nat → Int32) (D : va_G) (cA : Nat → ClassId) (ad : Nat → Nat) (C : LC p l s m meth c b L xs D cA ad) (i : Int32) (ni : Nat) (ei : i.toInt = (ni : Int)) (hL : L ≤ 3072) (hn : ni + 6 ≤ L) (Kc : LK p l e s m below meth c b L xs D cA ad i) : LJ p l e s m below meth c b L xs D cA ad i 776 := by
  obtain ⟨hx, hb, hml, hown, hts, hX, hbl, hK, hI, hA, hV, hl0⟩ := C
  intro σ τ H locs cells slots ls hli hP hS hcc hss hl
  obtain ⟨hR, gRI, gSI, gSIK, gBI, hsz, gTE, gRV, gVK, gVN, hfa⟩ := hli
  have hcl : cells ≤ room_1.cells := (show cells ≤ 601024 by omega)
  have hsl : slots ≤ room_1.slots := (show slots ≤ 7293034 by omega)
  have hcl1 : cells + 1 ≤ room_1.cells := (show cells + 1 ≤ 601024 by omega)
  have hsl1 : slots + 6 ≤ room_1.slots := (show slots + 6 ≤ 7293034 by omega)
  refine lv_aload_n hx hb dL_law_776 rfl (lv_at hl 1 rfl) ?_
  refine lv_aload_n hx hb dL_law_777 rfl (lv_at hl 0 rfl) ?_
  refine lv_iload hx hb dL_law_778 (lv_at hl 4 rfl) ?_
  refine r_iconst hx hb dL_law_780 (by decide) (fun z1 ez1 => ?_)
  refine r_iadd hx hb dL_law_781 (by omega) (fun z2 ez2 => ?_)
  refine q_scr (j := ni + 1) hx hb hX hbl hS (by omega) (by omega) dL_law_782 ?_
  refine lv_aload_n hx hb dL_law_783 rfl (lv_at hl 0 rfl) ?_
  refine lv_iload hx hb dL_law_784 (lv_at hl 4 rfl) ?_
  refine r_iconst hx hb dL_law_786 (by decide) (fun z3 ez3 => ?_)
  refine r_iadd hx hb dL_law_787 (by omega) (fun z4 ez4 => ?_)
  refine q_scr (j := ni + 2) hx hb hX hbl hS (by omega) (by omega) dL_law_788 ?_
  refine lv_aload_n hx hb dL_law_789 rfl (lv_at hl 0 rfl) ?_
  refine lv_iload hx hb dL_law_790 (lv_at hl 4 rfl) ?_
  refine r_iconst hx hb dL_law_792 (by decide) (fun z5 ez5 => ?_)
  refine r_iadd hx hb dL_law_793 (by omega) (fun z6 ez6 => ?_)
  refine q_scr (j := ni + 3) hx hb hX hbl hS (by omega) (by omega) dL_law_794 ?_
  have hs5_7 := rg_8_5 hR (k := 1) (by decide) (by decide)
  refine q_cVi (k := 0) (As := [.int (xs (ni + 1)), .int (xs (ni + 2)), .int (xs (ni + 3))]) (rest := []) ⟨hx, hb, hml, hown, hts⟩ hK hP hV hA hS (c_X11_hears l D cA ad hI σ τ hR (xs (ni + 1)) (xs (ni + 2)) (xs (ni + 3))) (cwV 3 hts gL_law_X11_hears rfl rfl rfl (by decide +kernel) ⟨by decide, by decide⟩) (rv_X hK hP (by decide) (by decide)) rfl hl.1 rfl (Nat.le_of_ble_eq_true rfl) dL_law_795 hcl hsl (fun r7 u7 H7 locs7 hp7 hP hS => ?_)
  obtain ⟨σ7, τ7⟩ := u7
  obtain ⟨hR, f7, fL7, hq7⟩ : P_X11_hears σ τ (xs (ni + 1)) (xs (ni + 2)) (xs (ni + 3)) r7 σ7 τ7 := hp7
  have hP : va_P D vwCl (gw cA ad σ7 τ7) H7 := hP
  obtain rfl := FrL.nil fL7
  have gRI := RI.fr gRI f7 (by decide)
  have gSI := SI.fr gSI hR f7 (by decide)
  have gSIK := SIK.fr gSIK hR f7 (by decide)
  have gBI := BI.fr gBI f7 (by decide)
  have t7_1_5 := congrArg Int32.toInt (f7.at 1 5 (by decide))
  have t7_387_2 := congrArg Int32.toInt (f7.at 387 2 (by decide))
  have t7_0_18 := congrArg Int32.toInt (f7.at 0 18 (by decide))
  have t7_387_15 := congrArg Int32.toInt (f7.at 387 15 (by decide))
  have gVK := gVK.fr f7 (by decide)
  have gVN := gVN.fr f7 (by decide) fL7 (by decide)
  have gTE := gTE.fr f7 (by decide) (by omega) (by omega)
  refine lv_pop hx hb dL_law_798 rfl ?_
  refine lv_aload_n hx hb dL_law_799 rfl (lv_at hl 2 rfl) ?_
  refine lv_aload_n hx hb dL_law_800 rfl (lv_at hl 0 rfl) ?_
  refine lv_iload hx hb dL_law_801 (lv_at hl 4 rfl) ?_
  refine r_iconst hx hb dL_law_803 (by decide) (fun z8 ez8 => ?_)
  refine r_iadd hx hb dL_law_804 (by omega) (fun z9 ez9 => ?_)
  refine q_scr (j := ni + 1) hx hb hX hbl hS (by omega) (by omega) dL_law_805 ?_
  refine lv_aload_n hx hb dL_law_806 rfl (lv_at hl 0 rfl) ?_
  refine lv_iload hx hb dL_law_807 (lv_at hl 4 rfl) ?_
  refine r_iconst hx hb dL_law_809 (by decide) (fun z10 ez10 => ?_)
  refine r_iadd hx hb dL_law_810 (by omega) (fun z11 ez11 => ?_)
  refine q_scr (j := ni + 2) hx hb hX hbl hS (by omega) (by omega) dL_law_811 ?_
  refine lv_aload_n hx hb dL_law_812 rfl (lv_at hl 0 rfl) ?_
  refine lv_iload hx hb dL_law_813 (lv_at hl 4 rfl) ?_
  refine r_iconst hx hb dL_law_815 (by decide) (fun z12 ez12 => ?_)
  refine r_iadd hx hb dL_law_816 (by omega) (fun z13 ez13 => ?_)
  refine q_scr (j := ni + 3) hx hb hX hbl hS (by omega) (by omega) dL_law_817 ?_
  have hs5_14 := rg_8_5 hR (k := 1) (by decide) (by decide)
  refine q_cVi (k := 387) (As := [.int (xs (ni + 1)), .int (xs (ni + 2)), .int (xs (ni + 3))]) (rest := []) ⟨hx, hb, hml, hown, hts⟩ hK hP hV hA hS (c_X12_hears l D cA ad hI σ7 τ hR (xs (ni + 1)) (xs (ni + 2)) (xs (ni + 3))) (cwV 3 hts gL_law_X12_hears rfl rfl rfl (by decide +kernel) ⟨by decide, by decide⟩) (rv_M hK hP (by decide) (by decide)) rfl hl.1 rfl (Nat.le_of_ble_eq_true rfl) dL_law_818 hcl hsl (fun r14 u14 H14 locs14 hp14 hP hS => ?_)
  obtain ⟨σ14, τ14⟩ := u14
  obtain ⟨hR, f14, fL14, hq14⟩ : P_X12_hears σ7 τ (xs (ni + 1)) (xs (ni + 2)) (xs (ni + 3)) r14 σ14 τ14 := hp14
  have hP : va_P D vwCl (gw cA ad σ14 τ14) H14 := hP
  obtain rfl := FrL.nil fL14
  have gRI := RI.fr gRI f14 (by decide)
  have gSI := SI.fr gSI hR f14 (by decide)
  have gSIK := SIK.fr gSIK hR f14 (by decide)
  have gBI := BI.fr gBI f14 (by decide)
  have t14_1_5 := congrArg Int32.toInt (f14.at 1 5 (by decide))
  have t14_387_2 := congrArg Int32.toInt (f14.at 387 2 (by decide))
  have t14_0_18 := congrArg Int32.toInt (f14.at 0 18 (by decide))
  have t14_387_15 := congrArg Int32.toInt (f14.at 387 15 (by decide))
  have gVK := gVK.fr f14 (by decide)
  have gVN := gVN.fr f14 (by decide) fL14 (by decide)
  have gTE := gTE.fr f14 (by decide) (by omega) (by omega)
  refine lv_pop hx hb dL_law_821 rfl ?_
  refine lv_goto (tgt := 1492) hx hb dL_law_822 (by decide) ?_
  exact Kc σ14 τ H14 locs14 (cells) (slots) ls ⟨hR, gRI, gSI, gSIK, gBI, (by omega), gTE, gRV, gVK, gVN, (by omega)⟩ hP hS (by omega) (by omega) (lv_sub hl [0, 1, 2, 3, 4] rfl)
set_option maxHeartbeats 4000000 in
theorem LB_18 (p : Program) (l : Launch) (e : Env) (s : State) (m : MethodId) (below : List Frame) (meth : Method) (c : Code) (b L : Nat) (xs : Nat → Int32) (D : va_G) (cA : Nat → ClassId) (ad : Nat → Nat) (C : LC p l s m meth c b L xs D cA ad) (i : Int32) (ni : Nat) (ei : i.toInt = (ni : Int)) (hL : L ≤ 3072) (hn : ni + 6 ≤ L) (Kc : LK p l e s m below meth c b L xs D cA ad i) : LJ p l e s m below meth c b L xs D cA ad i 825 := by
  obtain ⟨hx, hb, hml, hown, hts, hX, hbl, hK, hI, hA, hV, hl0⟩ := C
  intro σ τ H locs cells slots ls hli hP hS hcc hss hl
  obtain ⟨hR, gRI, gSI, gSIK, gBI, hsz, gTE, gRV, gVK, gVN, hfa⟩ := hli
  have hcl : cells ≤ room_1.cells := (show cells ≤ 601024 by omega)
  have hsl : slots ≤ room_1.slots := (show slots ≤ 7293034 by omega)
  have hcl1 : cells + 1 ≤ room_1.cells := (show cells + 1 ≤ 601024 by omega)
  have hsl1 : slots + 6 ≤ room_1.slots := (show slots + 6 ≤ 7293034 by omega)
  refine lv_aload_n hx hb dL_law_825 rfl (lv_at hl 1 rfl) ?_
  refine lv_aload_n hx hb dL_law_826 rfl (lv_at hl 0 rfl) ?_
  refine lv_iload hx hb dL_law_827 (lv_at hl 4 rfl) ?_
  refine r_iconst hx hb dL_law_829 (by decide) (fun z1 ez1 => ?_)
  refine r_iadd hx hb dL_law_830 (by omega) (fun z2 ez2 => ?_)
  refine q_scr (j := ni + 1) hx hb hX hbl hS (by omega) (by omega) dL_law_831 ?_
  refine lv_aload_n hx hb dL_law_832 rfl (lv_at hl 0 rfl) ?_
  refine lv_iload hx hb dL_law_833 (lv_at hl 4 rfl) ?_
  refine r_iconst hx hb dL_law_835 (by decide) (fun z3 ez3 => ?_)
  refine r_iadd hx hb dL_law_836 (by omega) (fun z4 ez4 => ?_)
  refine q_scr (j := ni + 2) hx hb hX hbl hS (by omega) (by omega) dL_law_837 ?_
  have hs5_5 := rg_8_5 hR (k := 1) (by decide) (by decide)
  refine q_cVi (k := 0) (As := [.int (xs (ni + 1)), .int (xs (ni + 2))]) (rest := []) ⟨hx, hb, hml, hown, hts⟩ hK hP hV hA hS (c_X11_who l D cA ad hI σ τ hR (xs (ni + 1)) (xs (ni + 2))) (cwV 2 hts gL_law_X11_who rfl rfl rfl (by decide +kernel) ⟨by decide, by decide⟩) (rv_X hK hP (by decide) (by decide)) rfl hl.1 rfl (Nat.le_of_ble_eq_true rfl) dL_law_838 hcl hsl (fun r5 u5 H5 locs5 hp5 hP hS => ?_)
  obtain ⟨σ5, τ5⟩ := u5
  obtain ⟨hR, f5, fL5⟩ : P_X11_who σ τ (xs (ni + 1)) (xs (ni + 2)) r5 σ5 τ5 := hp5
  have hP : va_P D vwCl (gw cA ad σ5 τ5) H5 := hP
  obtain rfl := FrL.nil fL5
  have gRI := RI.fr gRI f5 (by decide)
  have gSI := SI.fr gSI hR f5 (by decide)
  have gSIK := SIK.fr gSIK hR f5 (by decide)
  have gBI := BI.fr gBI f5 (by decide)
  have t5_1_5 := congrArg Int32.toInt (f5.at 1 5 (by decide))
  have t5_387_2 := congrArg Int32.toInt (f5.at 387 2 (by decide))
  have t5_0_18 := congrArg Int32.toInt (f5.at 0 18 (by decide))
  have t5_387_15 := congrArg Int32.toInt (f5.at 387 15 (by decide))
  have gVK := gVK.fr f5 (by decide)
  have gVN := gVN.fr f5 (by decide) fL5 (by decide)
  have gTE := gTE.fr f5 (by decide) (by omega) (by omega)
  refine lv_pop hx hb dL_law_841 rfl ?_
  refine lv_aload_n hx hb dL_law_842 rfl (lv_at hl 2 rfl) ?_
  refine lv_aload_n hx hb dL_law_843 rfl (lv_at hl 0 rfl) ?_
  refine lv_iload hx hb dL_law_844 (lv_at hl 4 rfl) ?_
  refine r_iconst hx hb dL_law_846 (by decide) (fun z6 ez6 => ?_)
  refine r_iadd hx hb dL_law_847 (by omega) (fun z7 ez7 => ?_)
  refine q_scr (j := ni + 1) hx hb hX hbl hS (by omega) (by omega) dL_law_848 ?_
  refine lv_aload_n hx hb dL_law_849 rfl (lv_at hl 0 rfl) ?_
  refine lv_iload hx hb dL_law_850 (lv_at hl 4 rfl) ?_
  refine r_iconst hx hb dL_law_852 (by decide) (fun z8 ez8 => ?_)
  refine r_iadd hx hb dL_law_853 (by omega) (fun z9 ez9 => ?_)
  refine q_scr (j := ni + 2) hx hb hX hbl hS (by omega) (by omega) dL_law_854 ?_
  have hs5_10 := rg_8_5 hR (k := 1) (by decide) (by decide)
  refine q_cVi (k := 387) (As := [.int (xs (ni + 1)), .int (xs (ni + 2))]) (rest := []) ⟨hx, hb, hml, hown, hts⟩ hK hP hV hA hS (c_X12_who l D cA ad hI σ5 τ hR (xs (ni + 1)) (xs (ni + 2))) (cwV 2 hts gL_law_X12_who rfl rfl rfl (by decide +kernel) ⟨by decide, by decide⟩) (rv_M hK hP (by decide) (by decide)) rfl hl.1 rfl (Nat.le_of_ble_eq_true rfl) dL_law_855 hcl hsl (fun r10 u10 H10 locs10 hp10 hP hS => ?_)
  obtain ⟨σ10, τ10⟩ := u10
  obtain ⟨hR, f10, fL10⟩ : P_X12_who σ5 τ (xs (ni + 1)) (xs (ni + 2)) r10 σ10 τ10 := hp10
  have hP : va_P D vwCl (gw cA ad σ10 τ10) H10 := hP
  obtain rfl := FrL.nil fL10
  have gRI := RI.fr gRI f10 (by decide)
  have gSI := SI.fr gSI hR f10 (by decide)
  have gSIK := SIK.fr gSIK hR f10 (by decide)
  have gBI := BI.fr gBI f10 (by decide)
  have t10_1_5 := congrArg Int32.toInt (f10.at 1 5 (by decide))
  have t10_387_2 := congrArg Int32.toInt (f10.at 387 2 (by decide))
  have t10_0_18 := congrArg Int32.toInt (f10.at 0 18 (by decide))
  have t10_387_15 := congrArg Int32.toInt (f10.at 387 15 (by decide))
  have gVK := gVK.fr f10 (by decide)
  have gVN := gVN.fr f10 (by decide) fL10 (by decide)
  have gTE := gTE.fr f10 (by decide) (by omega) (by omega)
  refine lv_pop hx hb dL_law_858 rfl ?_
  refine lv_goto (tgt := 1492) hx hb dL_law_859 (by decide) ?_
  exact Kc σ10 τ H10 locs10 (cells) (slots) ls ⟨hR, gRI, gSI, gSIK, gBI, (by omega), gTE, gRV, gVK, gVN, (by omega)⟩ hP hS (by omega) (by omega) (lv_sub hl [0, 1, 2, 3, 4] rfl)
set_option maxHeartbeats 4000000 in
theorem LB_19 (p : Program) (l : Launch) (e : Env) (s : State) (m : MethodId) (below : List Frame) (meth : Method) (c : Code) (b L : Nat) (xs : Nat → Int32) (D : va_G) (cA : Nat → ClassId) (ad : Nat → Nat) (C : LC p l s m meth c b L xs D cA ad) (i : Int32) (ni : Nat) (ei : i.toInt = (ni : Int)) (hL : L ≤ 3072) (hn : ni + 6 ≤ L) (Kc : LK p l e s m below meth c b L xs D cA ad i) : LJ p l e s m below meth c b L xs D cA ad i 862 := by
  obtain ⟨hx, hb, hml, hown, hts, hX, hbl, hK, hI, hA, hV, hl0⟩ := C
  intro σ τ H locs cells slots ls hli hP hS hcc hss hl
  obtain ⟨hR, gRI, gSI, gSIK, gBI, hsz, gTE, gRV, gVK, gVN, hfa⟩ := hli
  have hcl : cells ≤ room_1.cells := (show cells ≤ 601024 by omega)
  have hsl : slots ≤ room_1.slots := (show slots ≤ 7293034 by omega)
  have hcl1 : cells + 1 ≤ room_1.cells := (show cells + 1 ≤ 601024 by omega)
  have hsl1 : slots + 6 ≤ room_1.slots := (show slots + 6 ≤ 7293034 by omega)
  refine lv_aload_n hx hb dL_law_862 rfl (lv_at hl 1 rfl) ?_
  refine lv_aload_n hx hb dL_law_863 rfl (lv_at hl 0 rfl) ?_
  refine lv_iload hx hb dL_law_864 (lv_at hl 4 rfl) ?_
  refine r_iconst hx hb dL_law_866 (by decide) (fun z1 ez1 => ?_)
  refine r_iadd hx hb dL_law_867 (by omega) (fun z2 ez2 => ?_)
  refine q_scr (j := ni + 1) hx hb hX hbl hS (by omega) (by omega) dL_law_868 ?_
  refine lv_aload_n hx hb dL_law_869 rfl (lv_at hl 0 rfl) ?_
  refine lv_iload hx hb dL_law_870 (lv_at hl 4 rfl) ?_
  refine r_iconst hx hb dL_law_872 (by decide) (fun z3 ez3 => ?_)
  refine r_iadd hx hb dL_law_873 (by omega) (fun z4 ez4 => ?_)
  refine q_scr (j := ni + 2) hx hb hX hbl hS (by omega) (by omega) dL_law_874 ?_
  have hs5_5 := rg_8_5 hR (k := 1) (by decide) (by decide)
  refine q_cVi (k := 0) (As := [.int (xs (ni + 1)), .int (xs (ni + 2))]) (rest := []) ⟨hx, hb, hml, hown, hts⟩ hK hP hV hA hS (c_X11_first l D cA ad hI σ τ hR (xs (ni + 1)) (xs (ni + 2))) (cwV 2 hts gL_law_X11_first rfl rfl rfl (by decide +kernel) ⟨by decide, by decide⟩) (rv_X hK hP (by decide) (by decide)) rfl hl.1 rfl (Nat.le_of_ble_eq_true rfl) dL_law_875 hcl hsl (fun r5 u5 H5 locs5 hp5 hP hS => ?_)
  obtain ⟨σ5, τ5⟩ := u5
  obtain ⟨hR, f5, fL5, hq5⟩ : P_X11_first σ τ (xs (ni + 1)) (xs (ni + 2)) r5 σ5 τ5 := hp5
  have hP : va_P D vwCl (gw cA ad σ5 τ5) H5 := hP
  obtain rfl := FrL.nil fL5
  have gRI := RI.fr gRI f5 (by decide)
  have gSI := SI.fr gSI hR f5 (by decide)
  have gSIK := SIK.fr gSIK hR f5 (by decide)
  have gBI := BI.fr gBI f5 (by decide)
  have t5_1_5 := congrArg Int32.toInt (f5.at 1 5 (by decide))
  have t5_387_2 := congrArg Int32.toInt (f5.at 387 2 (by decide))
  have t5_0_18 := congrArg Int32.toInt (f5.at 0 18 (by decide))
  have t5_387_15 := congrArg Int32.toInt (f5.at 387 15 (by decide))
  have gVK := gVK.fr f5 (by decide)
  have gVN := gVN.fr f5 (by decide) fL5 (by decide)
  have gTE := gTE.fr f5 (by decide) (by omega) (by omega)
  refine lv_pop hx hb dL_law_878 rfl ?_
  refine lv_aload_n hx hb dL_law_879 rfl (lv_at hl 2 rfl) ?_
  refine lv_aload_n hx hb dL_law_880 rfl (lv_at hl 0 rfl) ?_
  refine lv_iload hx hb dL_law_881 (lv_at hl 4 rfl) ?_
  refine r_iconst hx hb dL_law_883 (by decide) (fun z6 ez6 => ?_)
  refine r_iadd hx hb dL_law_884 (by omega) (fun z7 ez7 => ?_)
  refine q_scr (j := ni + 1) hx hb hX hbl hS (by omega) (by omega) dL_law_885 ?_
  refine lv_aload_n hx hb dL_law_886 rfl (lv_at hl 0 rfl) ?_
  refine lv_iload hx hb dL_law_887 (lv_at hl 4 rfl) ?_
  refine r_iconst hx hb dL_law_889 (by decide) (fun z8 ez8 => ?_)
  refine r_iadd hx hb dL_law_890 (by omega) (fun z9 ez9 => ?_)
  refine q_scr (j := ni + 2) hx hb hX hbl hS (by omega) (by omega) dL_law_891 ?_
  have hs5_10 := rg_8_5 hR (k := 1) (by decide) (by decide)
  refine q_cVi (k := 387) (As := [.int (xs (ni + 1)), .int (xs (ni + 2))]) (rest := []) ⟨hx, hb, hml, hown, hts⟩ hK hP hV hA hS (c_X12_first l D cA ad hI σ5 τ hR (xs (ni + 1)) (xs (ni + 2))) (cwV 2 hts gL_law_X12_first rfl rfl rfl (by decide +kernel) ⟨by decide, by decide⟩) (rv_M hK hP (by decide) (by decide)) rfl hl.1 rfl (Nat.le_of_ble_eq_true rfl) dL_law_892 hcl hsl (fun r10 u10 H10 locs10 hp10 hP hS => ?_)
  obtain ⟨σ10, τ10⟩ := u10
  obtain ⟨hR, f10, fL10, hq10⟩ : P_X12_first σ5 τ (xs (ni + 1)) (xs (ni + 2)) r10 σ10 τ10 := hp10
  have hP : va_P D vwCl (gw cA ad σ10 τ10) H10 := hP
  obtain rfl := FrL.nil fL10
  have gRI := RI.fr gRI f10 (by decide)
  have gSI := SI.fr gSI hR f10 (by decide)
  have gSIK := SIK.fr gSIK hR f10 (by decide)
  have gBI := BI.fr gBI f10 (by decide)
  have t10_1_5 := congrArg Int32.toInt (f10.at 1 5 (by decide))
  have t10_387_2 := congrArg Int32.toInt (f10.at 387 2 (by decide))
  have t10_0_18 := congrArg Int32.toInt (f10.at 0 18 (by decide))
  have t10_387_15 := congrArg Int32.toInt (f10.at 387 15 (by decide))
  have gVK := gVK.fr f10 (by decide)
  have gVN := gVN.fr f10 (by decide) fL10 (by decide)
  have gTE := gTE.fr f10 (by decide) (by omega) (by omega)
  refine lv_pop hx hb dL_law_895 rfl ?_
  refine lv_goto (tgt := 1492) hx hb dL_law_896 (by decide) ?_
  exact Kc σ10 τ H10 locs10 (cells) (slots) ls ⟨hR, gRI, gSI, gSIK, gBI, (by omega), gTE, gRV, gVK, gVN, (by omega)⟩ hP hS (by omega) (by omega) (lv_sub hl [0, 1, 2, 3, 4] rfl)
set_option maxHeartbeats 4000000 in
theorem LB_20 (p : Program) (l : Launch) (e : Env) (s : State) (m : MethodId) (below : List Frame) (meth : Method) (c : Code) (b L : Nat) (xs : Nat → Int32) (D : va_G) (cA : Nat → ClassId) (ad : Nat → Nat) (C : LC p l s m meth c b L xs D cA ad) (i : Int32) (ni : Nat) (ei : i.toInt = (ni : Int)) (hL : L ≤ 3072) (hn : ni + 6 ≤ L) (Kc : LK p l e s m below meth c b L xs D cA ad i) : LJ p l e s m below meth c b L xs D cA ad i 899 := by
  obtain ⟨hx, hb, hml, hown, hts, hX, hbl, hK, hI, hA, hV, hl0⟩ := C
  intro σ τ H locs cells slots ls hli hP hS hcc hss hl
  obtain ⟨hR, gRI, gSI, gSIK, gBI, hsz, gTE, gRV, gVK, gVN, hfa⟩ := hli
  have hcl : cells ≤ room_1.cells := (show cells ≤ 601024 by omega)
  have hsl : slots ≤ room_1.slots := (show slots ≤ 7293034 by omega)
  have hcl1 : cells + 1 ≤ room_1.cells := (show cells + 1 ≤ 601024 by omega)
  have hsl1 : slots + 6 ≤ room_1.slots := (show slots + 6 ≤ 7293034 by omega)
  refine lv_aload_n hx hb dL_law_899 rfl (lv_at hl 1 rfl) ?_
  have hs5_1 := rg_8_5 hR (k := 1) (by decide) (by decide)
  refine q_cVi (k := 0) (As := []) (rest := []) ⟨hx, hb, hml, hown, hts⟩ hK hP hV hA hS (c_X11_lied l D cA ad hI σ τ hR) (cwV 0 hts gL_law_X11_lied rfl rfl rfl (by decide +kernel) ⟨by decide, by decide⟩) (rv_X hK hP (by decide) (by decide)) rfl hl.1 rfl (Nat.le_of_ble_eq_true rfl) dL_law_900 hcl hsl (fun r1 u1 H1 locs1 hp1 hP hS => ?_)
  obtain ⟨σ1, τ1⟩ := u1
  obtain ⟨hR, f1, fL1⟩ : P_X11_lied σ τ r1 σ1 τ1 := hp1
  have hP : va_P D vwCl (gw cA ad σ1 τ1) H1 := hP
  obtain rfl := FrL.nil fL1
  have gRI := RI.fr gRI f1 (by decide)
  have gSI := SI.fr gSI hR f1 (by decide)
  have gSIK := SIK.fr gSIK hR f1 (by decide)
  have gBI := BI.fr gBI f1 (by decide)
  have t1_1_5 := congrArg Int32.toInt (f1.at 1 5 (by decide))
  have t1_387_2 := congrArg Int32.toInt (f1.at 387 2 (by decide))
  have t1_0_18 := congrArg Int32.toInt (f1.at 0 18 (by decide))
  have t1_387_15 := congrArg Int32.toInt (f1.at 387 15 (by decide))
  have gVK := gVK.fr f1 (by decide)
  have gVN := gVN.fr f1 (by decide) fL1 (by decide)
  have gTE := gTE.fr f1 (by decide) (by omega) (by omega)
  refine lv_pop hx hb dL_law_903 rfl ?_
  refine lv_aload_n hx hb dL_law_904 rfl (lv_at hl 2 rfl) ?_
  have hs5_2 := rg_8_5 hR (k := 1) (by decide) (by decide)
  refine q_cVi (k := 387) (As := []) (rest := []) ⟨hx, hb, hml, hown, hts⟩ hK hP hV hA hS (c_X12_lied l D cA ad hI σ1 τ hR) (cwV 0 hts gL_law_X12_lied rfl rfl rfl (by decide +kernel) ⟨by decide, by decide⟩) (rv_M hK hP (by decide) (by decide)) rfl hl.1 rfl (Nat.le_of_ble_eq_true rfl) dL_law_905 hcl hsl (fun r2 u2 H2 locs2 hp2 hP hS => ?_)
  obtain ⟨σ2, τ2⟩ := u2
  obtain ⟨hR, f2, fL2⟩ : P_X12_lied σ1 τ r2 σ2 τ2 := hp2
  have hP : va_P D vwCl (gw cA ad σ2 τ2) H2 := hP
  obtain rfl := FrL.nil fL2
  have gRI := RI.fr gRI f2 (by decide)
  have gSI := SI.fr gSI hR f2 (by decide)
  have gSIK := SIK.fr gSIK hR f2 (by decide)
  have gBI := BI.fr gBI f2 (by decide)
  have t2_1_5 := congrArg Int32.toInt (f2.at 1 5 (by decide))
  have t2_387_2 := congrArg Int32.toInt (f2.at 387 2 (by decide))
  have t2_0_18 := congrArg Int32.toInt (f2.at 0 18 (by decide))
  have t2_387_15 := congrArg Int32.toInt (f2.at 387 15 (by decide))
  have gVK := gVK.fr f2 (by decide)
  have gVN := gVN.fr f2 (by decide) fL2 (by decide)
  have gTE := gTE.fr f2 (by decide) (by omega) (by omega)
  refine lv_pop hx hb dL_law_908 rfl ?_
  refine lv_goto (tgt := 1492) hx hb dL_law_909 (by decide) ?_
  exact Kc σ2 τ H2 locs2 (cells) (slots) ls ⟨hR, gRI, gSI, gSIK, gBI, (by omega), gTE, gRV, gVK, gVN, (by omega)⟩ hP hS (by omega) (by omega) (lv_sub hl [0, 1, 2, 3, 4] rfl)
set_option maxHeartbeats 4000000 in
theorem LB_21 (p : Program) (l : Launch) (e : Env) (s : State) (m : MethodId) (below : List Frame) (meth : Method) (c : Code) (b L : Nat) (xs : Nat → Int32) (D : va_G) (cA : Nat → ClassId) (ad : Nat → Nat) (C : LC p l s m meth c b L xs D cA ad) (i : Int32) (ni : Nat) (ei : i.toInt = (ni : Int)) (hL : L ≤ 3072) (hn : ni + 6 ≤ L) (Kc : LK p l e s m below meth c b L xs D cA ad i) : LJ p l e s m below meth c b L xs D cA ad i 912 := by
  obtain ⟨hx, hb, hml, hown, hts, hX, hbl, hK, hI, hA, hV, hl0⟩ := C
  intro σ τ H locs cells slots ls hli hP hS hcc hss hl
  obtain ⟨hR, gRI, gSI, gSIK, gBI, hsz, gTE, gRV, gVK, gVN, hfa⟩ := hli
  have hcl : cells ≤ room_1.cells := (show cells ≤ 601024 by omega)
  have hsl : slots ≤ room_1.slots := (show slots ≤ 7293034 by omega)
  have hcl1 : cells + 1 ≤ room_1.cells := (show cells + 1 ≤ 601024 by omega)
  have hsl1 : slots + 6 ≤ room_1.slots := (show slots + 6 ≤ 7293034 by omega)
  refine lv_aload_n hx hb dL_law_912 rfl (lv_at hl 1 rfl) ?_
  refine lv_aload_n hx hb dL_law_913 rfl (lv_at hl 0 rfl) ?_
  refine lv_iload hx hb dL_law_914 (lv_at hl 4 rfl) ?_
  refine r_iconst hx hb dL_law_916 (by decide) (fun z1 ez1 => ?_)
  refine r_iadd hx hb dL_law_917 (by omega) (fun z2 ez2 => ?_)
  refine q_scr (j := ni + 1) hx hb hX hbl hS (by omega) (by omega) dL_law_918 ?_
  have hs5_3 := rg_8_5 hR (k := 1) (by decide) (by decide)
  refine q_cVi (k := 0) (As := [.int (xs (ni + 1))]) (rest := []) ⟨hx, hb, hml, hown, hts⟩ hK hP hV hA hS (c_X11_nearer l D cA ad hI σ τ hR (xs (ni + 1))) (cwV 1 hts gL_law_X11_nearer rfl rfl rfl (by decide +kernel) ⟨by decide, by decide⟩) (rv_X hK hP (by decide) (by decide)) rfl hl.1 rfl (Nat.le_of_ble_eq_true rfl) dL_law_919 hcl hsl (fun r3 u3 H3 locs3 hp3 hP hS => ?_)
  obtain ⟨σ3, τ3⟩ := u3
  obtain ⟨hR, f3, fL3⟩ : P_X11_nearer σ τ (xs (ni + 1)) r3 σ3 τ3 := hp3
  have hP : va_P D vwCl (gw cA ad σ3 τ3) H3 := hP
  obtain rfl := FrL.nil fL3
  have gRI := RI.fr gRI f3 (by decide)
  have gSI := SI.fr gSI hR f3 (by decide)
  have gSIK := SIK.fr gSIK hR f3 (by decide)
  have gBI := BI.fr gBI f3 (by decide)
  have t3_1_5 := congrArg Int32.toInt (f3.at 1 5 (by decide))
  have t3_387_2 := congrArg Int32.toInt (f3.at 387 2 (by decide))
  have t3_0_18 := congrArg Int32.toInt (f3.at 0 18 (by decide))
  have t3_387_15 := congrArg Int32.toInt (f3.at 387 15 (by decide))
  have gVK := gVK.fr f3 (by decide)
  have gVN := gVN.fr f3 (by decide) fL3 (by decide)
  have gTE := gTE.fr f3 (by decide) (by omega) (by omega)
  refine lv_pop hx hb dL_law_922 rfl ?_
  refine lv_aload_n hx hb dL_law_923 rfl (lv_at hl 2 rfl) ?_
  refine lv_aload_n hx hb dL_law_924 rfl (lv_at hl 0 rfl) ?_
  refine lv_iload hx hb dL_law_925 (lv_at hl 4 rfl) ?_
  refine r_iconst hx hb dL_law_927 (by decide) (fun z4 ez4 => ?_)
  refine r_iadd hx hb dL_law_928 (by omega) (fun z5 ez5 => ?_)
  refine q_scr (j := ni + 1) hx hb hX hbl hS (by omega) (by omega) dL_law_929 ?_
  have hs5_6 := rg_8_5 hR (k := 1) (by decide) (by decide)
  refine q_cVi (k := 387) (As := [.int (xs (ni + 1))]) (rest := []) ⟨hx, hb, hml, hown, hts⟩ hK hP hV hA hS (c_X12_nearer l D cA ad hI σ3 τ hR (xs (ni + 1))) (cwV 1 hts gL_law_X12_nearer rfl rfl rfl (by decide +kernel) ⟨by decide, by decide⟩) (rv_M hK hP (by decide) (by decide)) rfl hl.1 rfl (Nat.le_of_ble_eq_true rfl) dL_law_930 hcl hsl (fun r6 u6 H6 locs6 hp6 hP hS => ?_)
  obtain ⟨σ6, τ6⟩ := u6
  obtain ⟨hR, f6, fL6⟩ : P_X12_nearer σ3 τ (xs (ni + 1)) r6 σ6 τ6 := hp6
  have hP : va_P D vwCl (gw cA ad σ6 τ6) H6 := hP
  obtain rfl := FrL.nil fL6
  have gRI := RI.fr gRI f6 (by decide)
  have gSI := SI.fr gSI hR f6 (by decide)
  have gSIK := SIK.fr gSIK hR f6 (by decide)
  have gBI := BI.fr gBI f6 (by decide)
  have t6_1_5 := congrArg Int32.toInt (f6.at 1 5 (by decide))
  have t6_387_2 := congrArg Int32.toInt (f6.at 387 2 (by decide))
  have t6_0_18 := congrArg Int32.toInt (f6.at 0 18 (by decide))
  have t6_387_15 := congrArg Int32.toInt (f6.at 387 15 (by decide))
  have gVK := gVK.fr f6 (by decide)
  have gVN := gVN.fr f6 (by decide) fL6 (by decide)
  have gTE := gTE.fr f6 (by decide) (by omega) (by omega)
  refine lv_pop hx hb dL_law_933 rfl ?_
  refine lv_goto (tgt := 1492) hx hb dL_law_934 (by decide) ?_
  exact Kc σ6 τ H6 locs6 (cells) (slots) ls ⟨hR, gRI, gSI, gSIK, gBI, (by omega), gTE, gRV, gVK, gVN, (by omega)⟩ hP hS (by omega) (by omega) (lv_sub hl [0, 1, 2, 3, 4] rfl)
set_option maxHeartbeats 4000000 in
theorem LB_22 (p : Program) (l : Launch) (e : Env) (s : State) (m : MethodId) (below : List Frame) (meth : Method) (c : Code) (b L : Nat) (xs : Nat → Int32) (D : va_G) (cA : Nat → ClassId) (ad : Nat → Nat) (C : LC p l s m meth c b L xs D cA ad) (i : Int32) (ni : Nat) (ei : i.toInt = (ni : Int)) (hL : L ≤ 3072) (hn : ni + 6 ≤ L) (Kc : LK p l e s m below meth c b L xs D cA ad i) : LJ p l e s m below meth c b L xs D cA ad i 937 := by
  obtain ⟨hx, hb, hml, hown, hts, hX, hbl, hK, hI, hA, hV, hl0⟩ := C
  intro σ τ H locs cells slots ls hli hP hS hcc hss hl
  obtain ⟨hR, gRI, gSI, gSIK, gBI, hsz, gTE, gRV, gVK, gVN, hfa⟩ := hli
  have hcl : cells ≤ room_1.cells := (show cells ≤ 601024 by omega)
  have hsl : slots ≤ room_1.slots := (show slots ≤ 7293034 by omega)
  have hcl1 : cells + 1 ≤ room_1.cells := (show cells + 1 ≤ 601024 by omega)
  have hsl1 : slots + 6 ≤ room_1.slots := (show slots + 6 ≤ 7293034 by omega)
  refine lv_aload_n hx hb dL_law_937 rfl (lv_at hl 1 rfl) ?_
  refine lv_aload_n hx hb dL_law_938 rfl (lv_at hl 0 rfl) ?_
  refine lv_iload hx hb dL_law_939 (lv_at hl 4 rfl) ?_
  refine r_iconst hx hb dL_law_941 (by decide) (fun z1 ez1 => ?_)
  refine r_iadd hx hb dL_law_942 (by omega) (fun z2 ez2 => ?_)
  refine q_scr (j := ni + 1) hx hb hX hbl hS (by omega) (by omega) dL_law_943 ?_
  have hs5_3 := rg_8_5 hR (k := 1) (by decide) (by decide)
  refine q_cVi (k := 0) (As := [.int (xs (ni + 1))]) (rest := []) ⟨hx, hb, hml, hown, hts⟩ hK hP hV hA hS (c_X11_due l D cA ad hI σ τ hR (xs (ni + 1))) (cwV 1 hts gL_law_X11_due rfl rfl rfl (by decide +kernel) ⟨by decide, by decide⟩) (rv_X hK hP (by decide) (by decide)) rfl hl.1 rfl (Nat.le_of_ble_eq_true rfl) dL_law_944 hcl hsl (fun r3 u3 H3 locs3 hp3 hP hS => ?_)
  obtain ⟨σ3, τ3⟩ := u3
  obtain ⟨hR, f3, fL3⟩ : P_X11_due σ τ (xs (ni + 1)) r3 σ3 τ3 := hp3
  have hP : va_P D vwCl (gw cA ad σ3 τ3) H3 := hP
  obtain rfl := FrL.nil fL3
  have gRI := RI.fr gRI f3 (by decide)
  have gSI := SI.fr gSI hR f3 (by decide)
  have gSIK := SIK.fr gSIK hR f3 (by decide)
  have gBI := BI.fr gBI f3 (by decide)
  have t3_1_5 := congrArg Int32.toInt (f3.at 1 5 (by decide))
  have t3_387_2 := congrArg Int32.toInt (f3.at 387 2 (by decide))
  have t3_0_18 := congrArg Int32.toInt (f3.at 0 18 (by decide))
  have t3_387_15 := congrArg Int32.toInt (f3.at 387 15 (by decide))
  have gVK := gVK.fr f3 (by decide)
  have gVN := gVN.fr f3 (by decide) fL3 (by decide)
  have gTE := gTE.fr f3 (by decide) (by omega) (by omega)
  refine lv_pop hx hb dL_law_947 rfl ?_
  refine lv_aload_n hx hb dL_law_948 rfl (lv_at hl 2 rfl) ?_
  refine lv_aload_n hx hb dL_law_949 rfl (lv_at hl 0 rfl) ?_
  refine lv_iload hx hb dL_law_950 (lv_at hl 4 rfl) ?_
  refine r_iconst hx hb dL_law_952 (by decide) (fun z4 ez4 => ?_)
  refine r_iadd hx hb dL_law_953 (by omega) (fun z5 ez5 => ?_)
  refine q_scr (j := ni + 1) hx hb hX hbl hS (by omega) (by omega) dL_law_954 ?_
  have hs5_6 := rg_8_5 hR (k := 1) (by decide) (by decide)
  refine q_cVi (k := 387) (As := [.int (xs (ni + 1))]) (rest := []) ⟨hx, hb, hml, hown, hts⟩ hK hP hV hA hS (c_X12_due l D cA ad hI σ3 τ hR (xs (ni + 1))) (cwV 1 hts gL_law_X12_due rfl rfl rfl (by decide +kernel) ⟨by decide, by decide⟩) (rv_M hK hP (by decide) (by decide)) rfl hl.1 rfl (Nat.le_of_ble_eq_true rfl) dL_law_955 hcl hsl (fun r6 u6 H6 locs6 hp6 hP hS => ?_)
  obtain ⟨σ6, τ6⟩ := u6
  obtain ⟨hR, f6, fL6⟩ : P_X12_due σ3 τ (xs (ni + 1)) r6 σ6 τ6 := hp6
  have hP : va_P D vwCl (gw cA ad σ6 τ6) H6 := hP
  obtain rfl := FrL.nil fL6
  have gRI := RI.fr gRI f6 (by decide)
  have gSI := SI.fr gSI hR f6 (by decide)
  have gSIK := SIK.fr gSIK hR f6 (by decide)
  have gBI := BI.fr gBI f6 (by decide)
  have t6_1_5 := congrArg Int32.toInt (f6.at 1 5 (by decide))
  have t6_387_2 := congrArg Int32.toInt (f6.at 387 2 (by decide))
  have t6_0_18 := congrArg Int32.toInt (f6.at 0 18 (by decide))
  have t6_387_15 := congrArg Int32.toInt (f6.at 387 15 (by decide))
  have gVK := gVK.fr f6 (by decide)
  have gVN := gVN.fr f6 (by decide) fL6 (by decide)
  have gTE := gTE.fr f6 (by decide) (by omega) (by omega)
  refine lv_pop hx hb dL_law_958 rfl ?_
  refine lv_goto (tgt := 1492) hx hb dL_law_959 (by decide) ?_
  exact Kc σ6 τ H6 locs6 (cells) (slots) ls ⟨hR, gRI, gSI, gSIK, gBI, (by omega), gTE, gRV, gVK, gVN, (by omega)⟩ hP hS (by omega) (by omega) (lv_sub hl [0, 1, 2, 3, 4] rfl)
set_option maxHeartbeats 4000000 in
theorem LB_23 (p : Program) (l : Launch) (e : Env) (s : State) (m : MethodId) (below : List Frame) (meth : Method) (c : Code) (b L : Nat) (xs : Nat → Int32) (D : va_G) (cA : Nat → ClassId) (ad : Nat → Nat) (C : LC p l s m meth c b L xs D cA ad) (i : Int32) (ni : Nat) (ei : i.toInt = (ni : Int)) (hL : L ≤ 3072) (hn : ni + 6 ≤ L) (Kc : LK p l e s m below meth c b L xs D cA ad i) : LJ p l e s m below meth c b L xs D cA ad i 962 := by
  obtain ⟨hx, hb, hml, hown, hts, hX, hbl, hK, hI, hA, hV, hl0⟩ := C
  intro σ τ H locs cells slots ls hli hP hS hcc hss hl
  obtain ⟨hR, gRI, gSI, gSIK, gBI, hsz, gTE, gRV, gVK, gVN, hfa⟩ := hli
  have hcl : cells ≤ room_1.cells := (show cells ≤ 601024 by omega)
  have hsl : slots ≤ room_1.slots := (show slots ≤ 7293034 by omega)
  have hcl1 : cells + 1 ≤ room_1.cells := (show cells + 1 ≤ 601024 by omega)
  have hsl1 : slots + 6 ≤ room_1.slots := (show slots + 6 ≤ 7293034 by omega)
  refine lv_aload_n hx hb dL_law_962 rfl (lv_at hl 1 rfl) ?_
  refine lv_aload_n hx hb dL_law_963 rfl (lv_at hl 0 rfl) ?_
  refine lv_iload hx hb dL_law_964 (lv_at hl 4 rfl) ?_
  refine r_iconst hx hb dL_law_966 (by decide) (fun z1 ez1 => ?_)
  refine r_iadd hx hb dL_law_967 (by omega) (fun z2 ez2 => ?_)
  refine q_scr (j := ni + 1) hx hb hX hbl hS (by omega) (by omega) dL_law_968 ?_
  refine lv_aload_n hx hb dL_law_969 rfl (lv_at hl 0 rfl) ?_
  refine lv_iload hx hb dL_law_970 (lv_at hl 4 rfl) ?_
  refine r_iconst hx hb dL_law_972 (by decide) (fun z3 ez3 => ?_)
  refine r_iadd hx hb dL_law_973 (by omega) (fun z4 ez4 => ?_)
  refine q_scr (j := ni + 2) hx hb hX hbl hS (by omega) (by omega) dL_law_974 ?_
  have hs5_5 := rg_8_5 hR (k := 1) (by decide) (by decide)
  refine q_cVi (k := 0) (As := [.int (xs (ni + 1)), .int (xs (ni + 2))]) (rest := []) ⟨hx, hb, hml, hown, hts⟩ hK hP hV hA hS (c_X11_honest l D cA ad hI σ τ hR (xs (ni + 1)) (xs (ni + 2))) (cwV 2 hts gL_law_X11_honest rfl rfl rfl (by decide +kernel) ⟨by decide, by decide⟩) (rv_X hK hP (by decide) (by decide)) rfl hl.1 rfl (Nat.le_of_ble_eq_true rfl) dL_law_975 hcl hsl (fun r5 u5 H5 locs5 hp5 hP hS => ?_)
  obtain ⟨σ5, τ5⟩ := u5
  obtain ⟨hR, f5, fL5⟩ : P_X11_honest σ τ (xs (ni + 1)) (xs (ni + 2)) r5 σ5 τ5 := hp5
  have hP : va_P D vwCl (gw cA ad σ5 τ5) H5 := hP
  obtain rfl := FrL.nil fL5
  have gRI := RI.fr gRI f5 (by decide)
  have gSI := SI.fr gSI hR f5 (by decide)
  have gSIK := SIK.fr gSIK hR f5 (by decide)
  have gBI := BI.fr gBI f5 (by decide)
  have t5_1_5 := congrArg Int32.toInt (f5.at 1 5 (by decide))
  have t5_387_2 := congrArg Int32.toInt (f5.at 387 2 (by decide))
  have t5_0_18 := congrArg Int32.toInt (f5.at 0 18 (by decide))
  have t5_387_15 := congrArg Int32.toInt (f5.at 387 15 (by decide))
  have gVK := gVK.fr f5 (by decide)
  have gVN := gVN.fr f5 (by decide) fL5 (by decide)
  have gTE := gTE.fr f5 (by decide) (by omega) (by omega)
  refine lv_pop hx hb dL_law_978 rfl ?_
  refine lv_aload_n hx hb dL_law_979 rfl (lv_at hl 2 rfl) ?_
  refine lv_aload_n hx hb dL_law_980 rfl (lv_at hl 0 rfl) ?_
  refine lv_iload hx hb dL_law_981 (lv_at hl 4 rfl) ?_
  refine r_iconst hx hb dL_law_983 (by decide) (fun z6 ez6 => ?_)
  refine r_iadd hx hb dL_law_984 (by omega) (fun z7 ez7 => ?_)
  refine q_scr (j := ni + 1) hx hb hX hbl hS (by omega) (by omega) dL_law_985 ?_
  refine lv_aload_n hx hb dL_law_986 rfl (lv_at hl 0 rfl) ?_
  refine lv_iload hx hb dL_law_987 (lv_at hl 4 rfl) ?_
  refine r_iconst hx hb dL_law_989 (by decide) (fun z8 ez8 => ?_)
  refine r_iadd hx hb dL_law_990 (by omega) (fun z9 ez9 => ?_)
  refine q_scr (j := ni + 2) hx hb hX hbl hS (by omega) (by omega) dL_law_991 ?_
  have hs5_10 := rg_8_5 hR (k := 1) (by decide) (by decide)
  refine q_cVi (k := 387) (As := [.int (xs (ni + 1)), .int (xs (ni + 2))]) (rest := []) ⟨hx, hb, hml, hown, hts⟩ hK hP hV hA hS (c_X12_honest l D cA ad hI σ5 τ hR (xs (ni + 1)) (xs (ni + 2))) (cwV 2 hts gL_law_X12_honest rfl rfl rfl (by decide +kernel) ⟨by decide, by decide⟩) (rv_M hK hP (by decide) (by decide)) rfl hl.1 rfl (Nat.le_of_ble_eq_true rfl) dL_law_992 hcl hsl (fun r10 u10 H10 locs10 hp10 hP hS => ?_)
  obtain ⟨σ10, τ10⟩ := u10
  obtain ⟨hR, f10, fL10⟩ : P_X12_honest σ5 τ (xs (ni + 1)) (xs (ni + 2)) r10 σ10 τ10 := hp10
  have hP : va_P D vwCl (gw cA ad σ10 τ10) H10 := hP
  obtain rfl := FrL.nil fL10
  have gRI := RI.fr gRI f10 (by decide)
  have gSI := SI.fr gSI hR f10 (by decide)
  have gSIK := SIK.fr gSIK hR f10 (by decide)
  have gBI := BI.fr gBI f10 (by decide)
  have t10_1_5 := congrArg Int32.toInt (f10.at 1 5 (by decide))
  have t10_387_2 := congrArg Int32.toInt (f10.at 387 2 (by decide))
  have t10_0_18 := congrArg Int32.toInt (f10.at 0 18 (by decide))
  have t10_387_15 := congrArg Int32.toInt (f10.at 387 15 (by decide))
  have gVK := gVK.fr f10 (by decide)
  have gVN := gVN.fr f10 (by decide) fL10 (by decide)
  have gTE := gTE.fr f10 (by decide) (by omega) (by omega)
  refine lv_pop hx hb dL_law_995 rfl ?_
  refine lv_goto (tgt := 1492) hx hb dL_law_996 (by decide) ?_
  exact Kc σ10 τ H10 locs10 (cells) (slots) ls ⟨hR, gRI, gSI, gSIK, gBI, (by omega), gTE, gRV, gVK, gVN, (by omega)⟩ hP hS (by omega) (by omega) (lv_sub hl [0, 1, 2, 3, 4] rfl)
set_option maxHeartbeats 4000000 in
theorem LB_24 (p : Program) (l : Launch) (e : Env) (s : State) (m : MethodId) (below : List Frame) (meth : Method) (c : Code) (b L : Nat) (xs : Nat → Int32) (D : va_G) (cA : Nat → ClassId) (ad : Nat → Nat) (C : LC p l s m meth c b L xs D cA ad) (i : Int32) (ni : Nat) (ei : i.toInt = (ni : Int)) (hL : L ≤ 3072) (hn : ni + 6 ≤ L) (Kc : LK p l e s m below meth c b L xs D cA ad i) : LJ p l e s m below meth c b L xs D cA ad i 999 := by
  obtain ⟨hx, hb, hml, hown, hts, hX, hbl, hK, hI, hA, hV, hl0⟩ := C
  intro σ τ H locs cells slots ls hli hP hS hcc hss hl
  obtain ⟨hR, gRI, gSI, gSIK, gBI, hsz, gTE, gRV, gVK, gVN, hfa⟩ := hli
  have hcl : cells ≤ room_1.cells := (show cells ≤ 601024 by omega)
  have hsl : slots ≤ room_1.slots := (show slots ≤ 7293034 by omega)
  have hcl1 : cells + 1 ≤ room_1.cells := (show cells + 1 ≤ 601024 by omega)
  have hsl1 : slots + 6 ≤ room_1.slots := (show slots + 6 ≤ 7293034 by omega)
  refine lv_aload_n hx hb dL_law_999 rfl (lv_at hl 1 rfl) ?_
  refine lv_aload_n hx hb dL_law_1000 rfl (lv_at hl 0 rfl) ?_
  refine lv_iload hx hb dL_law_1001 (lv_at hl 4 rfl) ?_
  refine r_iconst hx hb dL_law_1003 (by decide) (fun z1 ez1 => ?_)
  refine r_iadd hx hb dL_law_1004 (by omega) (fun z2 ez2 => ?_)
  refine q_scr (j := ni + 1) hx hb hX hbl hS (by omega) (by omega) dL_law_1005 ?_
  refine lv_aload_n hx hb dL_law_1006 rfl (lv_at hl 0 rfl) ?_
  refine lv_iload hx hb dL_law_1007 (lv_at hl 4 rfl) ?_
  refine r_iconst hx hb dL_law_1009 (by decide) (fun z3 ez3 => ?_)
  refine r_iadd hx hb dL_law_1010 (by omega) (fun z4 ez4 => ?_)
  refine q_scr (j := ni + 2) hx hb hX hbl hS (by omega) (by omega) dL_law_1011 ?_
  refine lv_aload_n hx hb dL_law_1012 rfl (lv_at hl 3 rfl) ?_
  refine q_xSi (As := [.ref (ad 0), .int (xs (ni + 1)), .int (xs (ni + 2)), .ref (ad 406)]) (rest := []) ⟨hx, hb, hml, hown, hts⟩ hK hP hV hA hS (c_L_mean l hl0 D cA ad hI σ τ hR (xs (ni + 1)) (xs (ni + 2))) (vx_cwSW 4 hts gL_law_L_mean rfl rfl rfl (by decide +kernel) ⟨by decide, by decide⟩) rfl hl.1 rfl (Nat.le_of_ble_eq_true rfl) dL_law_1013 hcl1 hsl1 (fun r5 u5 H5 locs5 hp5 hP hS => ?_)
  have hs5_5 := rg_8_5 hR (k := 1) (by decide) (by decide)
  obtain ⟨σ5, τ5⟩ := u5
  obtain ⟨hR, f5, fL5⟩ : Rg σ5 ∧ Fr L_X11_mean σ σ5 ∧ FrL (LO LL_X11_mean) τ τ5 := hp5
  have hP : va_P D vwCl (gw cA ad σ5 τ5) H5 := hP
  have gRV := gRV.agL (AgrL.fr fL5 (by decide))
  have gRI := RI.fr gRI f5 (by decide)
  have gSI := SI.fr gSI hR f5 (by decide)
  have gSIK := SIK.fr gSIK hR f5 (by decide)
  have gBI := BI.fr gBI f5 (by decide)
  have t5_1_5 := congrArg Int32.toInt (f5.at 1 5 (by decide))
  have t5_387_2 := congrArg Int32.toInt (f5.at 387 2 (by decide))
  have t5_0_18 := congrArg Int32.toInt (f5.at 0 18 (by decide))
  have t5_387_15 := congrArg Int32.toInt (f5.at 387 15 (by decide))
  have gVK := gVK.fr f5 (by decide)
  have gVN := gVN.fr f5 (by decide) fL5 (by decide)
  have gTE := gTE.fr f5 (by decide) (by omega) (by omega)
  have hcl : cells + 1 ≤ room_1.cells := hcl1
  have hsl : slots + 6 ≤ room_1.slots := hsl1
  refine lv_istore (lv' := [(5, .int r5), (0, .ref b), (1, .ref (ad 0)), (2, .ref (ad 387)), (3, .ref (ad 406)), (4, .int i)]) hx hb dL_law_1016 hl (by decide) rfl (fun ls hl => ?_)
  refine lv_aload_n hx hb dL_law_1018 rfl (lv_at hl 3 rfl) ?_
  refine lv_aload_n hx hb dL_law_1019 rfl (lv_at hl 1 rfl) ?_
  refine lv_iload hx hb dL_law_1020 (lv_at hl 5 rfl) ?_
  refine r_iconst hx hb dL_law_1022 (by decide) (fun z6 ez6 => ?_)
  refine r_iadd hx hb dL_law_1023 (by omega) (fun z7 ez7 => ?_)
  refine q_scr (j := ni + 1) hx hb hX hbl hS (by omega) (by omega) dL_law_1024 ?_
  refine lv_aload_n hx hb dL_law_1025 rfl (lv_at hl 1 rfl) ?_
  refine lv_iload hx hb dL_law_1026 (lv_at hl 5 rfl) ?_
  refine r_iconst hx hb dL_law_1028 (by decide) (fun z8 ez8 => ?_)
  refine r_iadd hx hb dL_law_1029 (by omega) (fun z9 ez9 => ?_)
  refine q_scr (j := ni + 2) hx hb hX hbl hS (by omega) (by omega) dL_law_1030 ?_
  have hs5_10 := rg_8_5 hR (k := 1) (by decide) (by decide)
  refine q_cVi (k := 387) (As := [.int (xs (ni + 1)), .int (xs (ni + 2))]) (rest := []) ⟨hx, hb, hml, hown, hts⟩ hK hP hV hA hS (c_X12_mean l D cA ad hI σ5 τ5 hR (xs (ni + 1)) (xs (ni + 2)) gSI) (cwV 2 hts gL_law_X12_mean rfl rfl rfl (by decide +kernel) ⟨by decide, by decide⟩) (rv_M hK hP (by decide) (by decide)) rfl hl.1 rfl (Nat.le_of_ble_eq_true rfl) dL_law_1031 hcl hsl (fun r10 u10 H10 locs10 hp10 hP hS => ?_)
  obtain ⟨σ10, τ10⟩ := u10
  obtain ⟨hR, f10, fL10⟩ : P_X12_mean σ5 τ5 (xs (ni + 1)) (xs (ni + 2)) r10 σ10 τ10 := hp10
  have hP : va_P D vwCl (gw cA ad σ10 τ10) H10 := hP
  obtain rfl := FrL.nil fL10
  have gRI := RI.fr gRI f10 (by decide)
  have gSI := SI.fr gSI hR f10 (by decide)
  have gSIK := SIK.fr gSIK hR f10 (by decide)
  have gBI := BI.fr gBI f10 (by decide)
  have t10_1_5 := congrArg Int32.toInt (f10.at 1 5 (by decide))
  have t10_387_2 := congrArg Int32.toInt (f10.at 387 2 (by decide))
  have t10_0_18 := congrArg Int32.toInt (f10.at 0 18 (by decide))
  have t10_387_15 := congrArg Int32.toInt (f10.at 387 15 (by decide))
  have gVK := gVK.fr f10 (by decide)
  have gVN := gVN.fr f10 (by decide) fL10 (by decide)
  have gTE := gTE.fr f10 (by decide) (by omega) (by omega)
  refine lv_istore (lv' := [(6, .int r10), (5, .int r5), (0, .ref b), (1, .ref (ad 0)), (2, .ref (ad 387)), (3, .ref (ad 406)), (4, .int i)]) hx hb dL_law_1034 hl (by decide) rfl (fun ls hl => ?_)
  refine lv_goto (tgt := 1492) hx hb dL_law_1036 (by decide) ?_
  exact Kc σ10 τ5 H10 locs10 (cells + 1) (slots + 6) ls ⟨hR, gRI, gSI, gSIK, gBI, (by omega), gTE, gRV, gVK, gVN, (by omega)⟩ hP hS (by omega) (by omega) (lv_sub hl [2, 3, 4, 5, 6] rfl)
set_option maxHeartbeats 4000000 in
theorem LB_25 (p : Program) (l : Launch) (e : Env) (s : State) (m : MethodId) (below : List Frame) (meth : Method) (c : Code) (b L : Nat) (xs : Nat → Int32) (D : va_G) (cA : Nat → ClassId) (ad : Nat → Nat) (C : LC p l s m meth c b L xs D cA ad) (i : Int32) (ni : Nat) (ei : i.toInt = (ni : Int)) (hL : L ≤ 3072) (hn : ni + 6 ≤ L) (Kc : LK p l e s m below meth c b L xs D cA ad i) : LJ p l e s m below meth c b L xs D cA ad i 1039 := by
  obtain ⟨hx, hb, hml, hown, hts, hX, hbl, hK, hI, hA, hV, hl0⟩ := C
  intro σ τ H locs cells slots ls hli hP hS hcc hss hl
  obtain ⟨hR, gRI, gSI, gSIK, gBI, hsz, gTE, gRV, gVK, gVN, hfa⟩ := hli
  have hcl : cells ≤ room_1.cells := (show cells ≤ 601024 by omega)
  have hsl : slots ≤ room_1.slots := (show slots ≤ 7293034 by omega)
  have hcl1 : cells + 1 ≤ room_1.cells := (show cells + 1 ≤ 601024 by omega)
  have hsl1 : slots + 6 ≤ room_1.slots := (show slots + 6 ≤ 7293034 by omega)
  refine lv_aload_n hx hb dL_law_1039 rfl (lv_at hl 1 rfl) ?_
  refine lv_aload_n hx hb dL_law_1040 rfl (lv_at hl 0 rfl) ?_
  refine lv_iload hx hb dL_law_1041 (lv_at hl 4 rfl) ?_
  refine r_iconst hx hb dL_law_1043 (by decide) (fun z1 ez1 => ?_)
  refine r_iadd hx hb dL_law_1044 (by omega) (fun z2 ez2 => ?_)
  refine q_scr (j := ni + 1) hx hb hX hbl hS (by omega) (by omega) dL_law_1045 ?_
  have hs5_3 := rg_8_5 hR (k := 1) (by decide) (by decide)
  refine q_cVi (k := 0) (As := [.int (xs (ni + 1))]) (rest := []) ⟨hx, hb, hml, hown, hts⟩ hK hP hV hA hS (c_X11_beside l D cA ad hI σ τ hR (xs (ni + 1))) (cwV 1 hts gL_law_X11_beside rfl rfl rfl (by decide +kernel) ⟨by decide, by decide⟩) (rv_X hK hP (by decide) (by decide)) rfl hl.1 rfl (Nat.le_of_ble_eq_true rfl) dL_law_1046 hcl hsl (fun r3 u3 H3 locs3 hp3 hP hS => ?_)
  obtain ⟨σ3, τ3⟩ := u3
  obtain ⟨hR, f3, fL3, hq3⟩ : P_X11_beside σ τ (xs (ni + 1)) r3 σ3 τ3 := hp3
  have hP : va_P D vwCl (gw cA ad σ3 τ3) H3 := hP
  obtain rfl := FrL.nil fL3
  have gRI := RI.fr gRI f3 (by decide)
  have gSI := SI.fr gSI hR f3 (by decide)
  have gSIK := SIK.fr gSIK hR f3 (by decide)
  have gBI := BI.fr gBI f3 (by decide)
  have t3_1_5 := congrArg Int32.toInt (f3.at 1 5 (by decide))
  have t3_387_2 := congrArg Int32.toInt (f3.at 387 2 (by decide))
  have t3_0_18 := congrArg Int32.toInt (f3.at 0 18 (by decide))
  have t3_387_15 := congrArg Int32.toInt (f3.at 387 15 (by decide))
  have gVK := gVK.fr f3 (by decide)
  have gVN := gVN.fr f3 (by decide) fL3 (by decide)
  have gTE := gTE.fr f3 (by decide) (by omega) (by omega)
  refine lv_pop hx hb dL_law_1049 rfl ?_
  refine lv_aload_n hx hb dL_law_1050 rfl (lv_at hl 2 rfl) ?_
  refine lv_aload_n hx hb dL_law_1051 rfl (lv_at hl 0 rfl) ?_
  refine lv_iload hx hb dL_law_1052 (lv_at hl 4 rfl) ?_
  refine r_iconst hx hb dL_law_1054 (by decide) (fun z4 ez4 => ?_)
  refine r_iadd hx hb dL_law_1055 (by omega) (fun z5 ez5 => ?_)
  refine q_scr (j := ni + 1) hx hb hX hbl hS (by omega) (by omega) dL_law_1056 ?_
  have hs5_6 := rg_8_5 hR (k := 1) (by decide) (by decide)
  refine q_cVi (k := 387) (As := [.int (xs (ni + 1))]) (rest := []) ⟨hx, hb, hml, hown, hts⟩ hK hP hV hA hS (c_X12_beside l D cA ad hI σ3 τ hR (xs (ni + 1)) gSI gBI) (cwV 1 hts gL_law_X12_beside rfl rfl rfl (by decide +kernel) ⟨by decide, by decide⟩) (rv_M hK hP (by decide) (by decide)) rfl hl.1 rfl (Nat.le_of_ble_eq_true rfl) dL_law_1057 hcl hsl (fun r6 u6 H6 locs6 hp6 hP hS => ?_)
  obtain ⟨σ6, τ6⟩ := u6
  obtain ⟨hR, f6, fL6, hq6, gnBI⟩ : P_X12_beside σ3 τ (xs (ni + 1)) r6 σ6 τ6 := hp6
  have hP : va_P D vwCl (gw cA ad σ6 τ6) H6 := hP
  obtain rfl := FrL.nil fL6
  have gRI := RI.fr gRI f6 (by decide)
  have gSI := SI.fr gSI hR f6 (by decide)
  have gSIK := SIK.fr gSIK hR f6 (by decide)
  have gBI := gnBI
  have t6_1_5 := congrArg Int32.toInt (f6.at 1 5 (by decide))
  have t6_387_2 := congrArg Int32.toInt (f6.at 387 2 (by decide))
  have t6_0_18 := congrArg Int32.toInt (f6.at 0 18 (by decide))
  have t6_387_15 := congrArg Int32.toInt (f6.at 387 15 (by decide))
  have gVK := gVK.fr f6 (by decide)
  have gVN := gVN.fr f6 (by decide) fL6 (by decide)
  have gTE := gTE.fr f6 (by decide) (by omega) (by omega)
  refine lv_pop hx hb dL_law_1060 rfl ?_
  refine lv_goto (tgt := 1492) hx hb dL_law_1061 (by decide) ?_
  exact Kc σ6 τ H6 locs6 (cells) (slots) ls ⟨hR, gRI, gSI, gSIK, gBI, (by omega), gTE, gRV, gVK, gVN, (by omega)⟩ hP hS (by omega) (by omega) (lv_sub hl [0, 1, 2, 3, 4] rfl)
set_option maxHeartbeats 4000000 in
theorem LB_26 (p : Program) (l : Launch) (e : Env) (s : State) (m : MethodId) (below : List Frame) (meth : Method) (c : Code) (b L : Nat) (xs : Nat → Int32) (D : va_G) (cA : Nat → ClassId) (ad : Nat → Nat) (C : LC p l s m meth c b L xs D cA ad) (i : Int32) (ni : Nat) (ei : i.toInt = (ni : Int)) (hL : L ≤ 3072) (hn : ni + 6 ≤ L) (Kc : LK p l e s m below meth c b L xs D cA ad i) : LJ p l e s m below meth c b L xs D cA ad i 1064 := by
  obtain ⟨hx, hb, hml, hown, hts, hX, hbl, hK, hI, hA, hV, hl0⟩ := C
  intro σ τ H locs cells slots ls hli hP hS hcc hss hl
  obtain ⟨hR, gRI, gSI, gSIK, gBI, hsz, gTE, gRV, gVK, gVN, hfa⟩ := hli
  have hcl : cells ≤ room_1.cells := (show cells ≤ 601024 by omega)
  have hsl : slots ≤ room_1.slots := (show slots ≤ 7293034 by omega)
  have hcl1 : cells + 1 ≤ room_1.cells := (show cells + 1 ≤ 601024 by omega)
  have hsl1 : slots + 6 ≤ room_1.slots := (show slots + 6 ≤ 7293034 by omega)
  refine lv_aload_n hx hb dL_law_1064 rfl (lv_at hl 1 rfl) ?_
  refine lv_aload_n hx hb dL_law_1065 rfl (lv_at hl 0 rfl) ?_
  refine lv_iload hx hb dL_law_1066 (lv_at hl 4 rfl) ?_
  refine r_iconst hx hb dL_law_1068 (by decide) (fun z1 ez1 => ?_)
  refine r_iadd hx hb dL_law_1069 (by omega) (fun z2 ez2 => ?_)
  refine q_scr (j := ni + 1) hx hb hX hbl hS (by omega) (by omega) dL_law_1070 ?_
  have hs5_3 := rg_8_5 hR (k := 1) (by decide) (by decide)
  refine q_cVi (k := 0) (As := [.int (xs (ni + 1))]) (rest := []) ⟨hx, hb, hml, hown, hts⟩ hK hP hV hA hS (c_X11_hut l D cA ad hI σ τ hR (xs (ni + 1))) (cwV 1 hts gL_law_X11_hut rfl rfl rfl (by decide +kernel) ⟨by decide, by decide⟩) (rv_X hK hP (by decide) (by decide)) rfl hl.1 rfl (Nat.le_of_ble_eq_true rfl) dL_law_1071 hcl hsl (fun r3 u3 H3 locs3 hp3 hP hS => ?_)
  obtain ⟨σ3, τ3⟩ := u3
  obtain ⟨hR, f3, fL3, hq3⟩ : P_X11_hut σ τ (xs (ni + 1)) r3 σ3 τ3 := hp3
  have hP : va_P D vwCl (gw cA ad σ3 τ3) H3 := hP
  obtain rfl := FrL.nil fL3
  have gRI := RI.fr gRI f3 (by decide)
  have gSI := SI.fr gSI hR f3 (by decide)
  have gSIK := SIK.fr gSIK hR f3 (by decide)
  have gBI := BI.fr gBI f3 (by decide)
  have t3_1_5 := congrArg Int32.toInt (f3.at 1 5 (by decide))
  have t3_387_2 := congrArg Int32.toInt (f3.at 387 2 (by decide))
  have t3_0_18 := congrArg Int32.toInt (f3.at 0 18 (by decide))
  have t3_387_15 := congrArg Int32.toInt (f3.at 387 15 (by decide))
  have gVK := gVK.fr f3 (by decide)
  have gVN := gVN.fr f3 (by decide) fL3 (by decide)
  have gTE := gTE.fr f3 (by decide) (by omega) (by omega)
  refine lv_pop hx hb dL_law_1074 rfl ?_
  refine lv_aload_n hx hb dL_law_1075 rfl (lv_at hl 2 rfl) ?_
  refine lv_aload_n hx hb dL_law_1076 rfl (lv_at hl 0 rfl) ?_
  refine lv_iload hx hb dL_law_1077 (lv_at hl 4 rfl) ?_
  refine r_iconst hx hb dL_law_1079 (by decide) (fun z4 ez4 => ?_)
  refine r_iadd hx hb dL_law_1080 (by omega) (fun z5 ez5 => ?_)
  refine q_scr (j := ni + 1) hx hb hX hbl hS (by omega) (by omega) dL_law_1081 ?_
  have hs5_6 := rg_8_5 hR (k := 1) (by decide) (by decide)
  refine q_cVi (k := 387) (As := [.int (xs (ni + 1))]) (rest := []) ⟨hx, hb, hml, hown, hts⟩ hK hP hV hA hS (c_X12_hut l D cA ad hI σ3 τ hR (xs (ni + 1)) gSI gBI) (cwV 1 hts gL_law_X12_hut rfl rfl rfl (by decide +kernel) ⟨by decide, by decide⟩) (rv_M hK hP (by decide) (by decide)) rfl hl.1 rfl (Nat.le_of_ble_eq_true rfl) dL_law_1082 hcl hsl (fun r6 u6 H6 locs6 hp6 hP hS => ?_)
  obtain ⟨σ6, τ6⟩ := u6
  obtain ⟨hR, f6, fL6, hq6, gnBI⟩ : P_X12_hut σ3 τ (xs (ni + 1)) r6 σ6 τ6 := hp6
  have hP : va_P D vwCl (gw cA ad σ6 τ6) H6 := hP
  obtain rfl := FrL.nil fL6
  have gRI := RI.fr gRI f6 (by decide)
  have gSI := SI.fr gSI hR f6 (by decide)
  have gSIK := SIK.fr gSIK hR f6 (by decide)
  have gBI := gnBI
  have t6_1_5 := congrArg Int32.toInt (f6.at 1 5 (by decide))
  have t6_387_2 := congrArg Int32.toInt (f6.at 387 2 (by decide))
  have t6_0_18 := congrArg Int32.toInt (f6.at 0 18 (by decide))
  have t6_387_15 := congrArg Int32.toInt (f6.at 387 15 (by decide))
  have gVK := gVK.fr f6 (by decide)
  have gVN := gVN.fr f6 (by decide) fL6 (by decide)
  have gTE := gTE.fr f6 (by decide) (by omega) (by omega)
  refine lv_pop hx hb dL_law_1085 rfl ?_
  refine lv_goto (tgt := 1492) hx hb dL_law_1086 (by decide) ?_
  exact Kc σ6 τ H6 locs6 (cells) (slots) ls ⟨hR, gRI, gSI, gSIK, gBI, (by omega), gTE, gRV, gVK, gVN, (by omega)⟩ hP hS (by omega) (by omega) (lv_sub hl [0, 1, 2, 3, 4] rfl)
set_option maxHeartbeats 4000000 in
theorem LB_27 (p : Program) (l : Launch) (e : Env) (s : State) (m : MethodId) (below : List Frame) (meth : Method) (c : Code) (b L : Nat) (xs : Nat → Int32) (D : va_G) (cA : Nat → ClassId) (ad : Nat → Nat) (C : LC p l s m meth c b L xs D cA ad) (i : Int32) (ni : Nat) (ei : i.toInt = (ni : Int)) (hL : L ≤ 3072) (hn : ni + 6 ≤ L) (Kc : LK p l e s m below meth c b L xs D cA ad i) : LJ p l e s m below meth c b L xs D cA ad i 1089 := by
  obtain ⟨hx, hb, hml, hown, hts, hX, hbl, hK, hI, hA, hV, hl0⟩ := C
  intro σ τ H locs cells slots ls hli hP hS hcc hss hl
  obtain ⟨hR, gRI, gSI, gSIK, gBI, hsz, gTE, gRV, gVK, gVN, hfa⟩ := hli
  have hcl : cells ≤ room_1.cells := (show cells ≤ 601024 by omega)
  have hsl : slots ≤ room_1.slots := (show slots ≤ 7293034 by omega)
  have hcl1 : cells + 1 ≤ room_1.cells := (show cells + 1 ≤ 601024 by omega)
  have hsl1 : slots + 6 ≤ room_1.slots := (show slots + 6 ≤ 7293034 by omega)
  refine lv_aload_n hx hb dL_law_1089 rfl (lv_at hl 1 rfl) ?_
  refine lv_aload_n hx hb dL_law_1090 rfl (lv_at hl 0 rfl) ?_
  refine lv_iload hx hb dL_law_1091 (lv_at hl 4 rfl) ?_
  refine r_iconst hx hb dL_law_1093 (by decide) (fun z1 ez1 => ?_)
  refine r_iadd hx hb dL_law_1094 (by omega) (fun z2 ez2 => ?_)
  refine q_scr (j := ni + 1) hx hb hX hbl hS (by omega) (by omega) dL_law_1095 ?_
  refine lv_aload_n hx hb dL_law_1096 rfl (lv_at hl 3 rfl) ?_
  refine q_xSi (As := [.ref (ad 0), .int (xs (ni + 1)), .ref (ad 406)]) (rest := []) ⟨hx, hb, hml, hown, hts⟩ hK hP hV hA hS (c_L_better l hl0 D cA ad hI σ τ hR (xs (ni + 1))) (vx_cwSW 3 hts gL_law_L_better rfl rfl rfl (by decide +kernel) ⟨by decide, by decide⟩) rfl hl.1 rfl (Nat.le_of_ble_eq_true rfl) dL_law_1097 hcl1 hsl1 (fun r3 u3 H3 locs3 hp3 hP hS => ?_)
  have hs5_3 := rg_8_5 hR (k := 1) (by decide) (by decide)
  obtain ⟨σ3, τ3⟩ := u3
  obtain ⟨hR, f3, fL3⟩ : Rg σ3 ∧ Fr L_X11_better σ σ3 ∧ FrL (LO LL_X11_better) τ τ3 := hp3
  have hP : va_P D vwCl (gw cA ad σ3 τ3) H3 := hP
  have gRV := gRV.agL (AgrL.fr fL3 (by decide))
  obtain rfl := Fr.nil f3
  have gVN := VN.fr (L := []) gVN Fr.rf (by decide) fL3 (by decide)
  have hcl : cells + 1 ≤ room_1.cells := hcl1
  have hsl : slots + 6 ≤ room_1.slots := hsl1
  refine lv_istore (lv' := [(5, .int r3), (0, .ref b), (1, .ref (ad 0)), (2, .ref (ad 387)), (3, .ref (ad 406)), (4, .int i)]) hx hb dL_law_1100 hl (by decide) rfl (fun ls hl => ?_)
  refine lv_aload_n hx hb dL_law_1102 rfl (lv_at hl 3 rfl) ?_
  refine lv_aload_n hx hb dL_law_1103 rfl (lv_at hl 1 rfl) ?_
  refine lv_iload hx hb dL_law_1104 (lv_at hl 5 rfl) ?_
  refine r_iconst hx hb dL_law_1106 (by decide) (fun z4 ez4 => ?_)
  refine r_iadd hx hb dL_law_1107 (by omega) (fun z5 ez5 => ?_)
  refine q_scr (j := ni + 1) hx hb hX hbl hS (by omega) (by omega) dL_law_1108 ?_
  have hs5_6 := rg_8_5 hR (k := 1) (by decide) (by decide)
  refine q_cVi (k := 387) (As := [.int (xs (ni + 1))]) (rest := []) ⟨hx, hb, hml, hown, hts⟩ hK hP hV hA hS (c_X12_better l D cA ad hI σ τ3 hR (xs (ni + 1)) gBI) (cwV 1 hts gL_law_X12_better rfl rfl rfl (by decide +kernel) ⟨by decide, by decide⟩) (rv_M hK hP (by decide) (by decide)) rfl hl.1 rfl (Nat.le_of_ble_eq_true rfl) dL_law_1109 hcl hsl (fun r6 u6 H6 locs6 hp6 hP hS => ?_)
  obtain ⟨σ6, τ6⟩ := u6
  obtain ⟨hR, f6, fL6⟩ : P_X12_better σ τ3 (xs (ni + 1)) r6 σ6 τ6 := hp6
  have hP : va_P D vwCl (gw cA ad σ6 τ6) H6 := hP
  obtain rfl := FrL.nil fL6
  have gRI := RI.fr gRI f6 (by decide)
  have gSI := SI.fr gSI hR f6 (by decide)
  have gSIK := SIK.fr gSIK hR f6 (by decide)
  have gBI := BI.fr gBI f6 (by decide)
  have t6_1_5 := congrArg Int32.toInt (f6.at 1 5 (by decide))
  have t6_387_2 := congrArg Int32.toInt (f6.at 387 2 (by decide))
  have t6_0_18 := congrArg Int32.toInt (f6.at 0 18 (by decide))
  have t6_387_15 := congrArg Int32.toInt (f6.at 387 15 (by decide))
  have gVK := gVK.fr f6 (by decide)
  have gVN := gVN.fr f6 (by decide) fL6 (by decide)
  have gTE := gTE.fr f6 (by decide) (by omega) (by omega)
  refine lv_istore (lv' := [(6, .int r6), (5, .int r3), (0, .ref b), (1, .ref (ad 0)), (2, .ref (ad 387)), (3, .ref (ad 406)), (4, .int i)]) hx hb dL_law_1112 hl (by decide) rfl (fun ls hl => ?_)
  refine lv_goto (tgt := 1492) hx hb dL_law_1114 (by decide) ?_
  exact Kc σ6 τ3 H6 locs6 (cells + 1) (slots + 6) ls ⟨hR, gRI, gSI, gSIK, gBI, (by omega), gTE, gRV, gVK, gVN, (by omega)⟩ hP hS (by omega) (by omega) (lv_sub hl [2, 3, 4, 5, 6] rfl)
set_option maxHeartbeats 4000000 in
theorem LB_28 (p : Program) (l : Launch) (e : Env) (s : State) (m : MethodId) (below : List Frame) (meth : Method) (c : Code) (b L : Nat) (xs : Nat → Int32) (D : va_G) (cA : Nat → ClassId) (ad : Nat → Nat) (C : LC p l s m meth c b L xs D cA ad) (i : Int32) (ni : Nat) (ei : i.toInt = (ni : Int)) (hL : L ≤ 3072) (hn : ni + 6 ≤ L) (Kc : LK p l e s m below meth c b L xs D cA ad i) : LJ p l e s m below meth c b L xs D cA ad i 1117 := by
  obtain ⟨hx, hb, hml, hown, hts, hX, hbl, hK, hI, hA, hV, hl0⟩ := C
  intro σ τ H locs cells slots ls hli hP hS hcc hss hl
  obtain ⟨hR, gRI, gSI, gSIK, gBI, hsz, gTE, gRV, gVK, gVN, hfa⟩ := hli
  have hcl : cells ≤ room_1.cells := (show cells ≤ 601024 by omega)
  have hsl : slots ≤ room_1.slots := (show slots ≤ 7293034 by omega)
  have hcl1 : cells + 1 ≤ room_1.cells := (show cells + 1 ≤ 601024 by omega)
  have hsl1 : slots + 6 ≤ room_1.slots := (show slots + 6 ≤ 7293034 by omega)
  refine lv_aload_n hx hb dL_law_1117 rfl (lv_at hl 1 rfl) ?_
  have hs5_1 := rg_8_5 hR (k := 1) (by decide) (by decide)
  refine q_cVi (k := 0) (As := []) (rest := []) ⟨hx, hb, hml, hown, hts⟩ hK hP hV hA hS (c_X11_whence l D cA ad hI σ τ hR) (cwV 0 hts gL_law_X11_whence rfl rfl rfl (by decide +kernel) ⟨by decide, by decide⟩) (rv_X hK hP (by decide) (by decide)) rfl hl.1 rfl (Nat.le_of_ble_eq_true rfl) dL_law_1118 hcl hsl (fun r1 u1 H1 locs1 hp1 hP hS => ?_)
  obtain ⟨σ1, τ1⟩ := u1
  obtain ⟨hR, f1, fL1, ho1_0⟩ : P_X11_whence σ τ r1 σ1 τ1 := hp1
  have hP : va_P D vwCl (gw cA ad σ1 τ1) H1 := hP
  obtain rfl := FrL.nil fL1
  have gRI := RI.fr gRI f1 (by decide)
  have gSI := SI.fr gSI hR f1 (by decide)
  have gSIK := SIK.fr gSIK hR f1 (by decide)
  have gBI := BI.fr gBI f1 (by decide)
  have t1_387_2 := congrArg Int32.toInt (f1.at 387 2 (by decide))
  have t1_0_18 := congrArg Int32.toInt (f1.at 0 18 (by decide))
  have t1_387_15 := congrArg Int32.toInt (f1.at 387 15 (by decide))
  have gVK := gVK.fr f1 (by decide)
  have gVN := gVN.fr f1 (by decide) fL1 (by decide)
  have gTE := gTE.fr f1 (by decide) (by omega) (by omega)
  refine lv_pop hx hb dL_law_1121 rfl ?_
  refine lv_aload_n hx hb dL_law_1122 rfl (lv_at hl 2 rfl) ?_
  have hs5_2 := rg_8_5 hR (k := 1) (by decide) (by decide)
  refine q_cVi (k := 387) (As := []) (rest := []) ⟨hx, hb, hml, hown, hts⟩ hK hP hV hA hS (c_X12_whence l D cA ad hI σ1 τ hR) (cwV 0 hts gL_law_X12_whence rfl rfl rfl (by decide +kernel) ⟨by decide, by decide⟩) (rv_M hK hP (by decide) (by decide)) rfl hl.1 rfl (Nat.le_of_ble_eq_true rfl) dL_law_1123 hcl hsl (fun r2 u2 H2 locs2 hp2 hP hS => ?_)
  obtain ⟨σ2, τ2⟩ := u2
  obtain ⟨hR, f2, fL2, ho2_0⟩ : P_X12_whence σ1 τ r2 σ2 τ2 := hp2
  have hP : va_P D vwCl (gw cA ad σ2 τ2) H2 := hP
  obtain rfl := FrL.nil fL2
  have gRI := RI.fr gRI f2 (by decide)
  have gSI := SI.fr gSI hR f2 (by decide)
  have gSIK := SIK.fr gSIK hR f2 (by decide)
  have gBI := BI.fr gBI f2 (by decide)
  have t2_1_5 := congrArg Int32.toInt (f2.at 1 5 (by decide))
  have t2_0_18 := congrArg Int32.toInt (f2.at 0 18 (by decide))
  have t2_387_15 := congrArg Int32.toInt (f2.at 387 15 (by decide))
  have gVK := gVK.fr f2 (by decide)
  have gVN := gVN.fr f2 (by decide) fL2 (by decide)
  have gTE := gTE.fr f2 (by decide) (by omega) (by omega)
  refine lv_pop hx hb dL_law_1126 rfl ?_
  refine lv_goto (tgt := 1492) hx hb dL_law_1127 (by decide) ?_
  exact Kc σ2 τ H2 locs2 (cells) (slots) ls ⟨hR, gRI, gSI, gSIK, gBI, (by omega), gTE, gRV, gVK, gVN, (by omega)⟩ hP hS (by omega) (by omega) (lv_sub hl [0, 1, 2, 3, 4] rfl)
