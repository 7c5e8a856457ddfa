set_option maxHeartbeats 4000000 in
theorem LB_29 (p : Program) (l : Launch) (e : Env) (s : State) (m : MethodId) (below : List Frame) (meth : Method) (c : Code) (b L : Nat) (xs : Nat → Int32) (D : va_G) (cA : Nat → ClassId) (ad : Nat → Nat) (C : LC p l s m meth c b L xs D cA ad) (i : Int32) (ni : Nat) (ei : i.toInt = (ni : Int)) (hL : L ≤ 3072) (hn : ni + 6 ≤ L) (Kc : LK p l e s m below meth c b L xs D cA ad i) : LJ p l e s m below meth c b L xs D cA ad i 1130 := by
  obtain ⟨hx, hb, hml, hown, hts, hX, hbl, hK, hI, hA, hV, hl0⟩ := C
  intro σ τ H locs cells slots ls hli hP hS hcc hss hl
  obtain ⟨hR, gRI, gSI, gSIK, gBI, hsz, gTE, gRV, gVK, gVN, hfa⟩ := hli
  have hcl : cells ≤ room_1.cells := (show cells ≤ 601024 by omega)
  have hsl : slots ≤ room_1.slots := (show slots ≤ 7293034 by omega)
  have hcl1 : cells + 1 ≤ room_1.cells := (show cells + 1 ≤ 601024 by omega)
  have hsl1 : slots + 6 ≤ room_1.slots := (show slots + 6 ≤ 7293034 by omega)
  refine lv_aload_n hx hb dL_law_1130 rfl (lv_at hl 1 rfl) ?_
  refine lv_aload_n hx hb dL_law_1131 rfl (lv_at hl 0 rfl) ?_
  refine lv_iload hx hb dL_law_1132 (lv_at hl 4 rfl) ?_
  refine r_iconst hx hb dL_law_1134 (by decide) (fun z1 ez1 => ?_)
  refine r_iadd hx hb dL_law_1135 (by omega) (fun z2 ez2 => ?_)
  refine q_scr (j := ni + 1) hx hb hX hbl hS (by omega) (by omega) dL_law_1136 ?_
  have hs5_3 := rg_8_5 hR (k := 1) (by decide) (by decide)
  refine q_cVi (k := 0) (As := [.int (xs (ni + 1))]) (rest := []) ⟨hx, hb, hml, hown, hts⟩ hK hP hV hA hS (c_X11_enough l D cA ad hI σ τ hR (xs (ni + 1))) (cwV 1 hts gL_law_X11_enough rfl rfl rfl (by decide +kernel) ⟨by decide, by decide⟩) (rv_X hK hP (by decide) (by decide)) rfl hl.1 rfl (Nat.le_of_ble_eq_true rfl) dL_law_1137 hcl hsl (fun r3 u3 H3 locs3 hp3 hP hS => ?_)
  obtain ⟨σ3, τ3⟩ := u3
  obtain ⟨hR, f3, fL3⟩ : P_X11_enough σ τ (xs (ni + 1)) r3 σ3 τ3 := hp3
  have hP : va_P D vwCl (gw cA ad σ3 τ3) H3 := hP
  obtain rfl := FrL.nil fL3
  have gRI := RI.fr gRI f3 (by decide)
  have gSI := SI.fr gSI hR f3 (by decide)
  have gSIK := SIK.fr gSIK hR f3 (by decide)
  have gBI := BI.fr gBI f3 (by decide)
  have t3_1_5 := congrArg Int32.toInt (f3.at 1 5 (by decide))
  have t3_387_2 := congrArg Int32.toInt (f3.at 387 2 (by decide))
  have t3_0_18 := congrArg Int32.toInt (f3.at 0 18 (by decide))
  have t3_387_15 := congrArg Int32.toInt (f3.at 387 15 (by decide))
  have gVK := gVK.fr f3 (by decide)
  have gVN := gVN.fr f3 (by decide) fL3 (by decide)
  have gTE := gTE.fr f3 (by decide) (by omega) (by omega)
  refine lv_pop hx hb dL_law_1140 rfl ?_
  refine lv_aload_n hx hb dL_law_1141 rfl (lv_at hl 2 rfl) ?_
  refine lv_aload_n hx hb dL_law_1142 rfl (lv_at hl 0 rfl) ?_
  refine lv_iload hx hb dL_law_1143 (lv_at hl 4 rfl) ?_
  refine r_iconst hx hb dL_law_1145 (by decide) (fun z4 ez4 => ?_)
  refine r_iadd hx hb dL_law_1146 (by omega) (fun z5 ez5 => ?_)
  refine q_scr (j := ni + 1) hx hb hX hbl hS (by omega) (by omega) dL_law_1147 ?_
  have hs5_6 := rg_8_5 hR (k := 1) (by decide) (by decide)
  refine q_cVi (k := 387) (As := [.int (xs (ni + 1))]) (rest := []) ⟨hx, hb, hml, hown, hts⟩ hK hP hV hA hS (c_X12_enough l D cA ad hI σ3 τ hR (xs (ni + 1))) (cwV 1 hts gL_law_X12_enough rfl rfl rfl (by decide +kernel) ⟨by decide, by decide⟩) (rv_M hK hP (by decide) (by decide)) rfl hl.1 rfl (Nat.le_of_ble_eq_true rfl) dL_law_1148 hcl hsl (fun r6 u6 H6 locs6 hp6 hP hS => ?_)
  obtain ⟨σ6, τ6⟩ := u6
  obtain ⟨hR, f6, fL6⟩ : P_X12_enough σ3 τ (xs (ni + 1)) r6 σ6 τ6 := hp6
  have hP : va_P D vwCl (gw cA ad σ6 τ6) H6 := hP
  obtain rfl := FrL.nil fL6
  have gRI := RI.fr gRI f6 (by decide)
  have gSI := SI.fr gSI hR f6 (by decide)
  have gSIK := SIK.fr gSIK hR f6 (by decide)
  have gBI := BI.fr gBI f6 (by decide)
  have t6_1_5 := congrArg Int32.toInt (f6.at 1 5 (by decide))
  have t6_387_2 := congrArg Int32.toInt (f6.at 387 2 (by decide))
  have t6_0_18 := congrArg Int32.toInt (f6.at 0 18 (by decide))
  have t6_387_15 := congrArg Int32.toInt (f6.at 387 15 (by decide))
  have gVK := gVK.fr f6 (by decide)
  have gVN := gVN.fr f6 (by decide) fL6 (by decide)
  have gTE := gTE.fr f6 (by decide) (by omega) (by omega)
  refine lv_pop hx hb dL_law_1151 rfl ?_
  refine lv_goto (tgt := 1492) hx hb dL_law_1152 (by decide) ?_
  exact Kc σ6 τ H6 locs6 (cells) (slots) ls ⟨hR, gRI, gSI, gSIK, gBI, (by omega), gTE, gRV, gVK, gVN, (by omega)⟩ hP hS (by omega) (by omega) (lv_sub hl [0, 1, 2, 3, 4] rfl)
set_option maxHeartbeats 4000000 in
theorem LB_30 (p : Program) (l : Launch) (e : Env) (s : State) (m : MethodId) (below : List Frame) (meth : Method) (c : Code) (b L : Nat) (xs : Nat → Int32) (D : va_G) (cA : Nat → ClassId) (ad : Nat → Nat) (C : LC p l s m meth c b L xs D cA ad) (i : Int32) (ni : Nat) (ei : i.toInt = (ni : Int)) (hL : L ≤ 3072) (hn : ni + 6 ≤ L) (Kc : LK p l e s m below meth c b L xs D cA ad i) : LJ p l e s m below meth c b L xs D cA ad i 1155 := by
  obtain ⟨hx, hb, hml, hown, hts, hX, hbl, hK, hI, hA, hV, hl0⟩ := C
  intro σ τ H locs cells slots ls hli hP hS hcc hss hl
  obtain ⟨hR, gRI, gSI, gSIK, gBI, hsz, gTE, gRV, gVK, gVN, hfa⟩ := hli
  have hcl : cells ≤ room_1.cells := (show cells ≤ 601024 by omega)
  have hsl : slots ≤ room_1.slots := (show slots ≤ 7293034 by omega)
  have hcl1 : cells + 1 ≤ room_1.cells := (show cells + 1 ≤ 601024 by omega)
  have hsl1 : slots + 6 ≤ room_1.slots := (show slots + 6 ≤ 7293034 by omega)
  refine lv_aload_n hx hb dL_law_1155 rfl (lv_at hl 1 rfl) ?_
  refine lv_aload_n hx hb dL_law_1156 rfl (lv_at hl 0 rfl) ?_
  refine lv_iload hx hb dL_law_1157 (lv_at hl 4 rfl) ?_
  refine r_iconst hx hb dL_law_1159 (by decide) (fun z1 ez1 => ?_)
  refine r_iadd hx hb dL_law_1160 (by omega) (fun z2 ez2 => ?_)
  refine q_scr (j := ni + 1) hx hb hX hbl hS (by omega) (by omega) dL_law_1161 ?_
  have hs5_3 := rg_8_5 hR (k := 1) (by decide) (by decide)
  refine q_cVi (k := 0) (As := [.int (xs (ni + 1))]) (rest := []) ⟨hx, hb, hml, hown, hts⟩ hK hP hV hA hS (c_X11_least l D cA ad hI σ τ hR (xs (ni + 1))) (cwV 1 hts gL_law_X11_least rfl rfl rfl (by decide +kernel) ⟨by decide, by decide⟩) (rv_X hK hP (by decide) (by decide)) rfl hl.1 rfl (Nat.le_of_ble_eq_true rfl) dL_law_1162 hcl hsl (fun r3 u3 H3 locs3 hp3 hP hS => ?_)
  obtain ⟨σ3, τ3⟩ := u3
  obtain ⟨hR, f3, fL3, hq3⟩ : P_X11_least σ τ (xs (ni + 1)) r3 σ3 τ3 := hp3
  have hP : va_P D vwCl (gw cA ad σ3 τ3) H3 := hP
  obtain rfl := FrL.nil fL3
  have gRI := RI.fr gRI f3 (by decide)
  have gSI := SI.fr gSI hR f3 (by decide)
  have gSIK := SIK.fr gSIK hR f3 (by decide)
  have gBI := BI.fr gBI f3 (by decide)
  have t3_1_5 := congrArg Int32.toInt (f3.at 1 5 (by decide))
  have t3_387_2 := congrArg Int32.toInt (f3.at 387 2 (by decide))
  have t3_0_18 := congrArg Int32.toInt (f3.at 0 18 (by decide))
  have t3_387_15 := congrArg Int32.toInt (f3.at 387 15 (by decide))
  have gVK := gVK.fr f3 (by decide)
  have gVN := gVN.fr f3 (by decide) fL3 (by decide)
  have gTE := gTE.fr f3 (by decide) (by omega) (by omega)
  refine lv_pop hx hb dL_law_1165 rfl ?_
  refine lv_aload_n hx hb dL_law_1166 rfl (lv_at hl 2 rfl) ?_
  refine lv_aload_n hx hb dL_law_1167 rfl (lv_at hl 0 rfl) ?_
  refine lv_iload hx hb dL_law_1168 (lv_at hl 4 rfl) ?_
  refine r_iconst hx hb dL_law_1170 (by decide) (fun z4 ez4 => ?_)
  refine r_iadd hx hb dL_law_1171 (by omega) (fun z5 ez5 => ?_)
  refine q_scr (j := ni + 1) hx hb hX hbl hS (by omega) (by omega) dL_law_1172 ?_
  have hs5_6 := rg_8_5 hR (k := 1) (by decide) (by decide)
  refine q_cVi (k := 387) (As := [.int (xs (ni + 1))]) (rest := []) ⟨hx, hb, hml, hown, hts⟩ hK hP hV hA hS (c_X12_least l D cA ad hI σ3 τ hR (xs (ni + 1))) (cwV 1 hts gL_law_X12_least rfl rfl rfl (by decide +kernel) ⟨by decide, by decide⟩) (rv_M hK hP (by decide) (by decide)) rfl hl.1 rfl (Nat.le_of_ble_eq_true rfl) dL_law_1173 hcl hsl (fun r6 u6 H6 locs6 hp6 hP hS => ?_)
  obtain ⟨σ6, τ6⟩ := u6
  obtain ⟨hR, f6, fL6, hq6⟩ : P_X12_least σ3 τ (xs (ni + 1)) r6 σ6 τ6 := hp6
  have hP : va_P D vwCl (gw cA ad σ6 τ6) H6 := hP
  obtain rfl := FrL.nil fL6
  have gRI := RI.fr gRI f6 (by decide)
  have gSI := SI.fr gSI hR f6 (by decide)
  have gSIK := SIK.fr gSIK hR f6 (by decide)
  have gBI := BI.fr gBI f6 (by decide)
  have t6_1_5 := congrArg Int32.toInt (f6.at 1 5 (by decide))
  have t6_387_2 := congrArg Int32.toInt (f6.at 387 2 (by decide))
  have t6_0_18 := congrArg Int32.toInt (f6.at 0 18 (by decide))
  have t6_387_15 := congrArg Int32.toInt (f6.at 387 15 (by decide))
  have gVK := gVK.fr f6 (by decide)
  have gVN := gVN.fr f6 (by decide) fL6 (by decide)
  have gTE := gTE.fr f6 (by decide) (by omega) (by omega)
  refine lv_pop hx hb dL_law_1176 rfl ?_
  refine lv_goto (tgt := 1492) hx hb dL_law_1177 (by decide) ?_
  exact Kc σ6 τ H6 locs6 (cells) (slots) ls ⟨hR, gRI, gSI, gSIK, gBI, (by omega), gTE, gRV, gVK, gVN, (by omega)⟩ hP hS (by omega) (by omega) (lv_sub hl [0, 1, 2, 3, 4] rfl)
set_option maxHeartbeats 4000000 in
theorem LB_31 (p : Program) (l : Launch) (e : Env) (s : State) (m : MethodId) (below : List Frame) (meth : Method) (c : Code) (b L : Nat) (xs : Nat → Int32) (D : va_G) (cA : Nat → ClassId) (ad : Nat → Nat) (C : LC p l s m meth c b L xs D cA ad) (i : Int32) (ni : Nat) (ei : i.toInt = (ni : Int)) (hL : L ≤ 3072) (hn : ni + 6 ≤ L) (Kc : LK p l e s m below meth c b L xs D cA ad i) : LJ p l e s m below meth c b L xs D cA ad i 1180 := by
  obtain ⟨hx, hb, hml, hown, hts, hX, hbl, hK, hI, hA, hV, hl0⟩ := C
  intro σ τ H locs cells slots ls hli hP hS hcc hss hl
  obtain ⟨hR, gRI, gSI, gSIK, gBI, hsz, gTE, gRV, gVK, gVN, hfa⟩ := hli
  have hcl : cells ≤ room_1.cells := (show cells ≤ 601024 by omega)
  have hsl : slots ≤ room_1.slots := (show slots ≤ 7293034 by omega)
  have hcl1 : cells + 1 ≤ room_1.cells := (show cells + 1 ≤ 601024 by omega)
  have hsl1 : slots + 6 ≤ room_1.slots := (show slots + 6 ≤ 7293034 by omega)
  refine lv_aload_n hx hb dL_law_1180 rfl (lv_at hl 1 rfl) ?_
  have hs5_1 := rg_8_5 hR (k := 1) (by decide) (by decide)
  refine q_cVi (k := 0) (As := []) (rest := []) ⟨hx, hb, hml, hown, hts⟩ hK hP hV hA hS (c_X11_poor l D cA ad hI σ τ hR) (cwV 0 hts gL_law_X11_poor rfl rfl rfl (by decide +kernel) ⟨by decide, by decide⟩) (rv_X hK hP (by decide) (by decide)) rfl hl.1 rfl (Nat.le_of_ble_eq_true rfl) dL_law_1181 hcl hsl (fun r1 u1 H1 locs1 hp1 hP hS => ?_)
  obtain ⟨σ1, τ1⟩ := u1
  obtain ⟨hR, f1, fL1⟩ : P_X11_poor σ τ r1 σ1 τ1 := hp1
  have hP : va_P D vwCl (gw cA ad σ1 τ1) H1 := hP
  obtain rfl := FrL.nil fL1
  have gRI := RI.fr gRI f1 (by decide)
  have gSI := SI.fr gSI hR f1 (by decide)
  have gSIK := SIK.fr gSIK hR f1 (by decide)
  have gBI := BI.fr gBI f1 (by decide)
  have t1_1_5 := congrArg Int32.toInt (f1.at 1 5 (by decide))
  have t1_387_2 := congrArg Int32.toInt (f1.at 387 2 (by decide))
  have t1_0_18 := congrArg Int32.toInt (f1.at 0 18 (by decide))
  have t1_387_15 := congrArg Int32.toInt (f1.at 387 15 (by decide))
  have gVK := gVK.fr f1 (by decide)
  have gVN := gVN.fr f1 (by decide) fL1 (by decide)
  have gTE := gTE.fr f1 (by decide) (by omega) (by omega)
  refine lv_pop hx hb dL_law_1184 rfl ?_
  refine lv_aload_n hx hb dL_law_1185 rfl (lv_at hl 2 rfl) ?_
  have hs5_2 := rg_8_5 hR (k := 1) (by decide) (by decide)
  refine q_cVi (k := 387) (As := []) (rest := []) ⟨hx, hb, hml, hown, hts⟩ hK hP hV hA hS (c_X12_poor l D cA ad hI σ1 τ hR) (cwV 0 hts gL_law_X12_poor rfl rfl rfl (by decide +kernel) ⟨by decide, by decide⟩) (rv_M hK hP (by decide) (by decide)) rfl hl.1 rfl (Nat.le_of_ble_eq_true rfl) dL_law_1186 hcl hsl (fun r2 u2 H2 locs2 hp2 hP hS => ?_)
  obtain ⟨σ2, τ2⟩ := u2
  obtain ⟨hR, f2, fL2⟩ : P_X12_poor σ1 τ r2 σ2 τ2 := hp2
  have hP : va_P D vwCl (gw cA ad σ2 τ2) H2 := hP
  obtain rfl := FrL.nil fL2
  have gRI := RI.fr gRI f2 (by decide)
  have gSI := SI.fr gSI hR f2 (by decide)
  have gSIK := SIK.fr gSIK hR f2 (by decide)
  have gBI := BI.fr gBI f2 (by decide)
  have t2_1_5 := congrArg Int32.toInt (f2.at 1 5 (by decide))
  have t2_387_2 := congrArg Int32.toInt (f2.at 387 2 (by decide))
  have t2_0_18 := congrArg Int32.toInt (f2.at 0 18 (by decide))
  have t2_387_15 := congrArg Int32.toInt (f2.at 387 15 (by decide))
  have gVK := gVK.fr f2 (by decide)
  have gVN := gVN.fr f2 (by decide) fL2 (by decide)
  have gTE := gTE.fr f2 (by decide) (by omega) (by omega)
  refine lv_pop hx hb dL_law_1189 rfl ?_
  refine lv_goto (tgt := 1492) hx hb dL_law_1190 (by decide) ?_
  exact Kc σ2 τ H2 locs2 (cells) (slots) ls ⟨hR, gRI, gSI, gSIK, gBI, (by omega), gTE, gRV, gVK, gVN, (by omega)⟩ hP hS (by omega) (by omega) (lv_sub hl [0, 1, 2, 3, 4] rfl)
set_option maxHeartbeats 4000000 in
theorem LB_32 (p : Program) (l : Launch) (e : Env) (s : State) (m : MethodId) (below : List Frame) (meth : Method) (c : Code) (b L : Nat) (xs : Nat → Int32) (D : va_G) (cA : Nat → ClassId) (ad : Nat → Nat) (C : LC p l s m meth c b L xs D cA ad) (i : Int32) (ni : Nat) (ei : i.toInt = (ni : Int)) (hL : L ≤ 3072) (hn : ni + 6 ≤ L) (Kc : LK p l e s m below meth c b L xs D cA ad i) : LJ p l e s m below meth c b L xs D cA ad i 1193 := by
  obtain ⟨hx, hb, hml, hown, hts, hX, hbl, hK, hI, hA, hV, hl0⟩ := C
  intro σ τ H locs cells slots ls hli hP hS hcc hss hl
  obtain ⟨hR, gRI, gSI, gSIK, gBI, hsz, gTE, gRV, gVK, gVN, hfa⟩ := hli
  have hcl : cells ≤ room_1.cells := (show cells ≤ 601024 by omega)
  have hsl : slots ≤ room_1.slots := (show slots ≤ 7293034 by omega)
  have hcl1 : cells + 1 ≤ room_1.cells := (show cells + 1 ≤ 601024 by omega)
  have hsl1 : slots + 6 ≤ room_1.slots := (show slots + 6 ≤ 7293034 by omega)
  refine lv_aload_n hx hb dL_law_1193 rfl (lv_at hl 1 rfl) ?_
  have hs5_1 := rg_8_5 hR (k := 1) (by decide) (by decide)
  refine q_cVi (k := 0) (As := []) (rest := []) ⟨hx, hb, hml, hown, hts⟩ hK hP hV hA hS (c_X11_crowded l D cA ad hI σ τ hR) (cwV 0 hts gL_law_X11_crowded rfl rfl rfl (by decide +kernel) ⟨by decide, by decide⟩) (rv_X hK hP (by decide) (by decide)) rfl hl.1 rfl (Nat.le_of_ble_eq_true rfl) dL_law_1194 hcl hsl (fun r1 u1 H1 locs1 hp1 hP hS => ?_)
  obtain ⟨σ1, τ1⟩ := u1
  obtain ⟨hR, f1, fL1, hq1⟩ : P_X11_crowded σ τ r1 σ1 τ1 := hp1
  have hP : va_P D vwCl (gw cA ad σ1 τ1) H1 := hP
  obtain rfl := FrL.nil fL1
  have gRI := RI.fr gRI f1 (by decide)
  have gSI := SI.fr gSI hR f1 (by decide)
  have gSIK := SIK.fr gSIK hR f1 (by decide)
  have gBI := BI.fr gBI f1 (by decide)
  have t1_1_5 := congrArg Int32.toInt (f1.at 1 5 (by decide))
  have t1_387_2 := congrArg Int32.toInt (f1.at 387 2 (by decide))
  have t1_0_18 := congrArg Int32.toInt (f1.at 0 18 (by decide))
  have t1_387_15 := congrArg Int32.toInt (f1.at 387 15 (by decide))
  have gVK := gVK.fr f1 (by decide)
  have gVN := gVN.fr f1 (by decide) fL1 (by decide)
  have gTE := gTE.fr f1 (by decide) (by omega) (by omega)
  refine lv_pop hx hb dL_law_1197 rfl ?_
  refine lv_aload_n hx hb dL_law_1198 rfl (lv_at hl 2 rfl) ?_
  have hs5_2 := rg_8_5 hR (k := 1) (by decide) (by decide)
  refine q_cVi (k := 387) (As := []) (rest := []) ⟨hx, hb, hml, hown, hts⟩ hK hP hV hA hS (c_X12_crowded l D cA ad hI σ1 τ hR) (cwV 0 hts gL_law_X12_crowded rfl rfl rfl (by decide +kernel) ⟨by decide, by decide⟩) (rv_M hK hP (by decide) (by decide)) rfl hl.1 rfl (Nat.le_of_ble_eq_true rfl) dL_law_1199 hcl hsl (fun r2 u2 H2 locs2 hp2 hP hS => ?_)
  obtain ⟨σ2, τ2⟩ := u2
  obtain ⟨hR, f2, fL2, hq2⟩ : P_X12_crowded σ1 τ r2 σ2 τ2 := hp2
  have hP : va_P D vwCl (gw cA ad σ2 τ2) H2 := hP
  obtain rfl := FrL.nil fL2
  have gRI := RI.fr gRI f2 (by decide)
  have gSI := SI.fr gSI hR f2 (by decide)
  have gSIK := SIK.fr gSIK hR f2 (by decide)
  have gBI := BI.fr gBI f2 (by decide)
  have t2_1_5 := congrArg Int32.toInt (f2.at 1 5 (by decide))
  have t2_387_2 := congrArg Int32.toInt (f2.at 387 2 (by decide))
  have t2_0_18 := congrArg Int32.toInt (f2.at 0 18 (by decide))
  have t2_387_15 := congrArg Int32.toInt (f2.at 387 15 (by decide))
  have gVK := gVK.fr f2 (by decide)
  have gVN := gVN.fr f2 (by decide) fL2 (by decide)
  have gTE := gTE.fr f2 (by decide) (by omega) (by omega)
  refine lv_pop hx hb dL_law_1202 rfl ?_
  refine lv_goto (tgt := 1492) hx hb dL_law_1203 (by decide) ?_
  exact Kc σ2 τ H2 locs2 (cells) (slots) ls ⟨hR, gRI, gSI, gSIK, gBI, (by omega), gTE, gRV, gVK, gVN, (by omega)⟩ hP hS (by omega) (by omega) (lv_sub hl [0, 1, 2, 3, 4] rfl)
set_option maxHeartbeats 4000000 in
theorem LB_33 (p : Program) (l : Launch) (e : Env) (s : State) (m : MethodId) (below : List Frame) (meth : Method) (c : Code) (b L : Nat) (xs : Nat → Int32) (D : va_G) (cA : Nat → ClassId) (ad : Nat → Nat) (C : LC p l s m meth c b L xs D cA ad) (i : Int32) (ni : Nat) (ei : i.toInt = (ni : Int)) (hL : L ≤ 3072) (hn : ni + 6 ≤ L) (Kc : LK p l e s m below meth c b L xs D cA ad i) : LJ p l e s m below meth c b L xs D cA ad i 1206 := by
  obtain ⟨hx, hb, hml, hown, hts, hX, hbl, hK, hI, hA, hV, hl0⟩ := C
  intro σ τ H locs cells slots ls hli hP hS hcc hss hl
  obtain ⟨hR, gRI, gSI, gSIK, gBI, hsz, gTE, gRV, gVK, gVN, hfa⟩ := hli
  have hcl : cells ≤ room_1.cells := (show cells ≤ 601024 by omega)
  have hsl : slots ≤ room_1.slots := (show slots ≤ 7293034 by omega)
  have hcl1 : cells + 1 ≤ room_1.cells := (show cells + 1 ≤ 601024 by omega)
  have hsl1 : slots + 6 ≤ room_1.slots := (show slots + 6 ≤ 7293034 by omega)
  refine lv_aload_n hx hb dL_law_1206 rfl (lv_at hl 1 rfl) ?_
  refine lv_aload_n hx hb dL_law_1207 rfl (lv_at hl 0 rfl) ?_
  refine lv_iload hx hb dL_law_1208 (lv_at hl 4 rfl) ?_
  refine r_iconst hx hb dL_law_1210 (by decide) (fun z1 ez1 => ?_)
  refine r_iadd hx hb dL_law_1211 (by omega) (fun z2 ez2 => ?_)
  refine q_scr (j := ni + 1) hx hb hX hbl hS (by omega) (by omega) dL_law_1212 ?_
  have hs5_3 := rg_8_5 hR (k := 1) (by decide) (by decide)
  refine q_cVi (k := 0) (As := [.int (xs (ni + 1))]) (rest := []) ⟨hx, hb, hml, hown, hts⟩ hK hP hV hA hS (c_X11_swaps l D cA ad hI σ τ hR (xs (ni + 1))) (cwV 1 hts gL_law_X11_swaps rfl rfl rfl (by decide +kernel) ⟨by decide, by decide⟩) (rv_X hK hP (by decide) (by decide)) rfl hl.1 rfl (Nat.le_of_ble_eq_true rfl) dL_law_1213 hcl hsl (fun r3 u3 H3 locs3 hp3 hP hS => ?_)
  obtain ⟨σ3, τ3⟩ := u3
  obtain ⟨hR, f3, fL3⟩ : P_X11_swaps σ τ (xs (ni + 1)) r3 σ3 τ3 := hp3
  have hP : va_P D vwCl (gw cA ad σ3 τ3) H3 := hP
  obtain rfl := FrL.nil fL3
  have gRI := RI.fr gRI f3 (by decide)
  have gSI := SI.fr gSI hR f3 (by decide)
  have gSIK := SIK.fr gSIK hR f3 (by decide)
  have gBI := BI.fr gBI f3 (by decide)
  have t3_1_5 := congrArg Int32.toInt (f3.at 1 5 (by decide))
  have t3_387_2 := congrArg Int32.toInt (f3.at 387 2 (by decide))
  have t3_0_18 := congrArg Int32.toInt (f3.at 0 18 (by decide))
  have t3_387_15 := congrArg Int32.toInt (f3.at 387 15 (by decide))
  have gVK := gVK.fr f3 (by decide)
  have gVN := gVN.fr f3 (by decide) fL3 (by decide)
  have gTE := gTE.fr f3 (by decide) (by omega) (by omega)
  refine lv_pop hx hb dL_law_1216 rfl ?_
  refine lv_aload_n hx hb dL_law_1217 rfl (lv_at hl 2 rfl) ?_
  refine lv_aload_n hx hb dL_law_1218 rfl (lv_at hl 0 rfl) ?_
  refine lv_iload hx hb dL_law_1219 (lv_at hl 4 rfl) ?_
  refine r_iconst hx hb dL_law_1221 (by decide) (fun z4 ez4 => ?_)
  refine r_iadd hx hb dL_law_1222 (by omega) (fun z5 ez5 => ?_)
  refine q_scr (j := ni + 1) hx hb hX hbl hS (by omega) (by omega) dL_law_1223 ?_
  have hs5_6 := rg_8_5 hR (k := 1) (by decide) (by decide)
  refine q_cVi (k := 387) (As := [.int (xs (ni + 1))]) (rest := []) ⟨hx, hb, hml, hown, hts⟩ hK hP hV hA hS (c_X12_swaps l D cA ad hI σ3 τ hR (xs (ni + 1))) (cwV 1 hts gL_law_X12_swaps rfl rfl rfl (by decide +kernel) ⟨by decide, by decide⟩) (rv_M hK hP (by decide) (by decide)) rfl hl.1 rfl (Nat.le_of_ble_eq_true rfl) dL_law_1224 hcl hsl (fun r6 u6 H6 locs6 hp6 hP hS => ?_)
  obtain ⟨σ6, τ6⟩ := u6
  obtain ⟨hR, f6, fL6⟩ : P_X12_swaps σ3 τ (xs (ni + 1)) r6 σ6 τ6 := hp6
  have hP : va_P D vwCl (gw cA ad σ6 τ6) H6 := hP
  obtain rfl := FrL.nil fL6
  have gRI := RI.fr gRI f6 (by decide)
  have gSI := SI.fr gSI hR f6 (by decide)
  have gSIK := SIK.fr gSIK hR f6 (by decide)
  have gBI := BI.fr gBI f6 (by decide)
  have t6_1_5 := congrArg Int32.toInt (f6.at 1 5 (by decide))
  have t6_387_2 := congrArg Int32.toInt (f6.at 387 2 (by decide))
  have t6_0_18 := congrArg Int32.toInt (f6.at 0 18 (by decide))
  have t6_387_15 := congrArg Int32.toInt (f6.at 387 15 (by decide))
  have gVK := gVK.fr f6 (by decide)
  have gVN := gVN.fr f6 (by decide) fL6 (by decide)
  have gTE := gTE.fr f6 (by decide) (by omega) (by omega)
  refine lv_pop hx hb dL_law_1227 rfl ?_
  refine lv_goto (tgt := 1492) hx hb dL_law_1228 (by decide) ?_
  exact Kc σ6 τ H6 locs6 (cells) (slots) ls ⟨hR, gRI, gSI, gSIK, gBI, (by omega), gTE, gRV, gVK, gVN, (by omega)⟩ hP hS (by omega) (by omega) (lv_sub hl [0, 1, 2, 3, 4] rfl)
set_option maxHeartbeats 4000000 in
theorem LB_34 (p : Program) (l : Launch) (e : Env) (s : State) (m : MethodId) (below : List Frame) (meth : Method) (c : Code) (b L : Nat) (xs : Nat → Int32) (D : va_G) (cA : Nat → ClassId) (ad : Nat → Nat) (C : LC p l s m meth c b L xs D cA ad) (i : Int32) (ni : Nat) (ei : i.toInt = (ni : Int)) (hL : L ≤ 3072) (hn : ni + 6 ≤ L) (Kc : LK p l e s m below meth c b L xs D cA ad i) : LJ p l e s m below meth c b L xs D cA ad i 1231 := by
  obtain ⟨hx, hb, hml, hown, hts, hX, hbl, hK, hI, hA, hV, hl0⟩ := C
  intro σ τ H locs cells slots ls hli hP hS hcc hss hl
  obtain ⟨hR, gRI, gSI, gSIK, gBI, hsz, gTE, gRV, gVK, gVN, hfa⟩ := hli
  have hcl : cells ≤ room_1.cells := (show cells ≤ 601024 by omega)
  have hsl : slots ≤ room_1.slots := (show slots ≤ 7293034 by omega)
  have hcl1 : cells + 1 ≤ room_1.cells := (show cells + 1 ≤ 601024 by omega)
  have hsl1 : slots + 6 ≤ room_1.slots := (show slots + 6 ≤ 7293034 by omega)
  refine lv_aload_n hx hb dL_law_1231 rfl (lv_at hl 1 rfl) ?_
  refine lv_aload_n hx hb dL_law_1232 rfl (lv_at hl 0 rfl) ?_
  refine lv_iload hx hb dL_law_1233 (lv_at hl 4 rfl) ?_
  refine r_iconst hx hb dL_law_1235 (by decide) (fun z1 ez1 => ?_)
  refine r_iadd hx hb dL_law_1236 (by omega) (fun z2 ez2 => ?_)
  refine q_scr (j := ni + 1) hx hb hX hbl hS (by omega) (by omega) dL_law_1237 ?_
  refine lv_aload_n hx hb dL_law_1238 rfl (lv_at hl 0 rfl) ?_
  refine lv_iload hx hb dL_law_1239 (lv_at hl 4 rfl) ?_
  refine r_iconst hx hb dL_law_1241 (by decide) (fun z3 ez3 => ?_)
  refine r_iadd hx hb dL_law_1242 (by omega) (fun z4 ez4 => ?_)
  refine q_scr (j := ni + 2) hx hb hX hbl hS (by omega) (by omega) dL_law_1243 ?_
  have hs5_5 := rg_8_5 hR (k := 1) (by decide) (by decide)
  refine q_cVi (k := 0) (As := [.int (xs (ni + 1)), .int (xs (ni + 2))]) (rest := []) ⟨hx, hb, hml, hown, hts⟩ hK hP hV hA hS (c_X11_drawn l D cA ad hI σ τ hR (xs (ni + 1)) (xs (ni + 2))) (cwV 2 hts gL_law_X11_drawn rfl rfl rfl (by decide +kernel) ⟨by decide, by decide⟩) (rv_X hK hP (by decide) (by decide)) rfl hl.1 rfl (Nat.le_of_ble_eq_true rfl) dL_law_1244 hcl hsl (fun r5 u5 H5 locs5 hp5 hP hS => ?_)
  obtain ⟨σ5, τ5⟩ := u5
  obtain ⟨hR, f5, fL5, hq5⟩ : P_X11_drawn σ τ (xs (ni + 1)) (xs (ni + 2)) r5 σ5 τ5 := hp5
  have hP : va_P D vwCl (gw cA ad σ5 τ5) H5 := hP
  obtain rfl := FrL.nil fL5
  have gRI := RI.fr gRI f5 (by decide)
  have gSI := SI.fr gSI hR f5 (by decide)
  have gSIK := SIK.fr gSIK hR f5 (by decide)
  have gBI := BI.fr gBI f5 (by decide)
  have t5_1_5 := congrArg Int32.toInt (f5.at 1 5 (by decide))
  have t5_387_2 := congrArg Int32.toInt (f5.at 387 2 (by decide))
  have t5_0_18 := congrArg Int32.toInt (f5.at 0 18 (by decide))
  have t5_387_15 := congrArg Int32.toInt (f5.at 387 15 (by decide))
  have gVK := gVK.fr f5 (by decide)
  have gVN := gVN.fr f5 (by decide) fL5 (by decide)
  have gTE := gTE.fr f5 (by decide) (by omega) (by omega)
  refine lv_pop hx hb dL_law_1247 rfl ?_
  refine lv_aload_n hx hb dL_law_1248 rfl (lv_at hl 2 rfl) ?_
  refine lv_aload_n hx hb dL_law_1249 rfl (lv_at hl 0 rfl) ?_
  refine lv_iload hx hb dL_law_1250 (lv_at hl 4 rfl) ?_
  refine r_iconst hx hb dL_law_1252 (by decide) (fun z6 ez6 => ?_)
  refine r_iadd hx hb dL_law_1253 (by omega) (fun z7 ez7 => ?_)
  refine q_scr (j := ni + 1) hx hb hX hbl hS (by omega) (by omega) dL_law_1254 ?_
  refine lv_aload_n hx hb dL_law_1255 rfl (lv_at hl 0 rfl) ?_
  refine lv_iload hx hb dL_law_1256 (lv_at hl 4 rfl) ?_
  refine r_iconst hx hb dL_law_1258 (by decide) (fun z8 ez8 => ?_)
  refine r_iadd hx hb dL_law_1259 (by omega) (fun z9 ez9 => ?_)
  refine q_scr (j := ni + 2) hx hb hX hbl hS (by omega) (by omega) dL_law_1260 ?_
  have hs5_10 := rg_8_5 hR (k := 1) (by decide) (by decide)
  refine q_cVi (k := 387) (As := [.int (xs (ni + 1)), .int (xs (ni + 2))]) (rest := []) ⟨hx, hb, hml, hown, hts⟩ hK hP hV hA hS (c_X12_drawn l D cA ad hI σ5 τ hR (xs (ni + 1)) (xs (ni + 2)) gSI) (cwV 2 hts gL_law_X12_drawn rfl rfl rfl (by decide +kernel) ⟨by decide, by decide⟩) (rv_M hK hP (by decide) (by decide)) rfl hl.1 rfl (Nat.le_of_ble_eq_true rfl) dL_law_1261 hcl hsl (fun r10 u10 H10 locs10 hp10 hP hS => ?_)
  obtain ⟨σ10, τ10⟩ := u10
  obtain ⟨hR, f10, fL10, hq10⟩ : P_X12_drawn σ5 τ (xs (ni + 1)) (xs (ni + 2)) r10 σ10 τ10 := hp10
  have hP : va_P D vwCl (gw cA ad σ10 τ10) H10 := hP
  obtain rfl := FrL.nil fL10
  have gRI := RI.fr gRI f10 (by decide)
  have gSI := SI.fr gSI hR f10 (by decide)
  have gSIK := SIK.fr gSIK hR f10 (by decide)
  have gBI := BI.fr gBI f10 (by decide)
  have t10_1_5 := congrArg Int32.toInt (f10.at 1 5 (by decide))
  have t10_387_2 := congrArg Int32.toInt (f10.at 387 2 (by decide))
  have t10_0_18 := congrArg Int32.toInt (f10.at 0 18 (by decide))
  have t10_387_15 := congrArg Int32.toInt (f10.at 387 15 (by decide))
  have gVK := gVK.fr f10 (by decide)
  have gVN := gVN.fr f10 (by decide) fL10 (by decide)
  have gTE := gTE.fr f10 (by decide) (by omega) (by omega)
  refine lv_pop hx hb dL_law_1264 rfl ?_
  refine lv_goto (tgt := 1492) hx hb dL_law_1265 (by decide) ?_
  exact Kc σ10 τ H10 locs10 (cells) (slots) ls ⟨hR, gRI, gSI, gSIK, gBI, (by omega), gTE, gRV, gVK, gVN, (by omega)⟩ hP hS (by omega) (by omega) (lv_sub hl [0, 1, 2, 3, 4] rfl)
set_option maxHeartbeats 4000000 in
theorem LB_35 (p : Program) (l : Launch) (e : Env) (s : State) (m : MethodId) (below : List Frame) (meth : Method) (c : Code) (b L : Nat) (xs : Nat → Int32) (D : va_G) (cA : Nat → ClassId) (ad : Nat → Nat) (C : LC p l s m meth c b L xs D cA ad) (i : Int32) (ni : Nat) (ei : i.toInt = (ni : Int)) (hL : L ≤ 3072) (hn : ni + 6 ≤ L) (Kc : LK p l e s m below meth c b L xs D cA ad i) : LJ p l e s m below meth c b L xs D cA ad i 1268 := by
  obtain ⟨hx, hb, hml, hown, hts, hX, hbl, hK, hI, hA, hV, hl0⟩ := C
  intro σ τ H locs cells slots ls hli hP hS hcc hss hl
  obtain ⟨hR, gRI, gSI, gSIK, gBI, hsz, gTE, gRV, gVK, gVN, hfa⟩ := hli
  have hcl : cells ≤ room_1.cells := (show cells ≤ 601024 by omega)
  have hsl : slots ≤ room_1.slots := (show slots ≤ 7293034 by omega)
  have hcl1 : cells + 1 ≤ room_1.cells := (show cells + 1 ≤ 601024 by omega)
  have hsl1 : slots + 6 ≤ room_1.slots := (show slots + 6 ≤ 7293034 by omega)
  refine lv_aload_n hx hb dL_law_1268 rfl (lv_at hl 1 rfl) ?_
  refine lv_aload_n hx hb dL_law_1269 rfl (lv_at hl 0 rfl) ?_
  refine lv_iload hx hb dL_law_1270 (lv_at hl 4 rfl) ?_
  refine r_iconst hx hb dL_law_1272 (by decide) (fun z1 ez1 => ?_)
  refine r_iadd hx hb dL_law_1273 (by omega) (fun z2 ez2 => ?_)
  refine q_scr (j := ni + 1) hx hb hX hbl hS (by omega) (by omega) dL_law_1274 ?_
  refine lv_aload_n hx hb dL_law_1275 rfl (lv_at hl 0 rfl) ?_
  refine lv_iload hx hb dL_law_1276 (lv_at hl 4 rfl) ?_
  refine r_iconst hx hb dL_law_1278 (by decide) (fun z3 ez3 => ?_)
  refine r_iadd hx hb dL_law_1279 (by omega) (fun z4 ez4 => ?_)
  refine q_scr (j := ni + 2) hx hb hX hbl hS (by omega) (by omega) dL_law_1280 ?_
  refine lv_aload_n hx hb dL_law_1281 rfl (lv_at hl 0 rfl) ?_
  refine lv_iload hx hb dL_law_1282 (lv_at hl 4 rfl) ?_
  refine r_iconst hx hb dL_law_1284 (by decide) (fun z5 ez5 => ?_)
  refine r_iadd hx hb dL_law_1285 (by omega) (fun z6 ez6 => ?_)
  refine q_scr (j := ni + 3) hx hb hX hbl hS (by omega) (by omega) dL_law_1286 ?_
  refine lv_aload_n hx hb dL_law_1287 rfl (lv_at hl 0 rfl) ?_
  refine lv_iload hx hb dL_law_1288 (lv_at hl 4 rfl) ?_
  refine r_iconst hx hb dL_law_1290 (by decide) (fun z7 ez7 => ?_)
  refine r_iadd hx hb dL_law_1291 (by omega) (fun z8 ez8 => ?_)
  refine q_scr (j := ni + 4) hx hb hX hbl hS (by omega) (by omega) dL_law_1292 ?_
  have hs5_9 := rg_8_5 hR (k := 1) (by decide) (by decide)
  refine q_cVi (k := 0) (As := [.int (xs (ni + 1)), .int (xs (ni + 2)), .int (xs (ni + 3)), .int (xs (ni + 4))]) (rest := []) ⟨hx, hb, hml, hown, hts⟩ hK hP hV hA hS (c_X11_odds l D cA ad hI σ τ hR (xs (ni + 1)) (xs (ni + 2)) (xs (ni + 3)) (xs (ni + 4))) (cwV 4 hts gL_law_X11_odds rfl rfl rfl (by decide +kernel) ⟨by decide, by decide⟩) (rv_X hK hP (by decide) (by decide)) rfl hl.1 rfl (Nat.le_of_ble_eq_true rfl) dL_law_1293 hcl hsl (fun r9 u9 H9 locs9 hp9 hP hS => ?_)
  obtain ⟨σ9, τ9⟩ := u9
  obtain ⟨hR, f9, fL9⟩ : P_X11_odds σ τ (xs (ni + 1)) (xs (ni + 2)) (xs (ni + 3)) (xs (ni + 4)) r9 σ9 τ9 := hp9
  have hP : va_P D vwCl (gw cA ad σ9 τ9) H9 := hP
  obtain rfl := FrL.nil fL9
  have gRI := RI.fr gRI f9 (by decide)
  have gSI := SI.fr gSI hR f9 (by decide)
  have gSIK := SIK.fr gSIK hR f9 (by decide)
  have gBI := BI.fr gBI f9 (by decide)
  have t9_1_5 := congrArg Int32.toInt (f9.at 1 5 (by decide))
  have t9_387_2 := congrArg Int32.toInt (f9.at 387 2 (by decide))
  have t9_0_18 := congrArg Int32.toInt (f9.at 0 18 (by decide))
  have t9_387_15 := congrArg Int32.toInt (f9.at 387 15 (by decide))
  have gVK := gVK.fr f9 (by decide)
  have gVN := gVN.fr f9 (by decide) fL9 (by decide)
  have gTE := gTE.fr f9 (by decide) (by omega) (by omega)
  refine lv_pop hx hb dL_law_1296 rfl ?_
  refine lv_aload_n hx hb dL_law_1297 rfl (lv_at hl 2 rfl) ?_
  refine lv_aload_n hx hb dL_law_1298 rfl (lv_at hl 0 rfl) ?_
  refine lv_iload hx hb dL_law_1299 (lv_at hl 4 rfl) ?_
  refine r_iconst hx hb dL_law_1301 (by decide) (fun z10 ez10 => ?_)
  refine r_iadd hx hb dL_law_1302 (by omega) (fun z11 ez11 => ?_)
  refine q_scr (j := ni + 1) hx hb hX hbl hS (by omega) (by omega) dL_law_1303 ?_
  refine lv_aload_n hx hb dL_law_1304 rfl (lv_at hl 0 rfl) ?_
  refine lv_iload hx hb dL_law_1305 (lv_at hl 4 rfl) ?_
  refine r_iconst hx hb dL_law_1307 (by decide) (fun z12 ez12 => ?_)
  refine r_iadd hx hb dL_law_1308 (by omega) (fun z13 ez13 => ?_)
  refine q_scr (j := ni + 2) hx hb hX hbl hS (by omega) (by omega) dL_law_1309 ?_
  refine lv_aload_n hx hb dL_law_1310 rfl (lv_at hl 0 rfl) ?_
  refine lv_iload hx hb dL_law_1311 (lv_at hl 4 rfl) ?_
  refine r_iconst hx hb dL_law_1313 (by decide) (fun z14 ez14 => ?_)
  refine r_iadd hx hb dL_law_1314 (by omega) (fun z15 ez15 => ?_)
  refine q_scr (j := ni + 3) hx hb hX hbl hS (by omega) (by omega) dL_law_1315 ?_
  refine lv_aload_n hx hb dL_law_1316 rfl (lv_at hl 0 rfl) ?_
  refine lv_iload hx hb dL_law_1317 (lv_at hl 4 rfl) ?_
  refine r_iconst hx hb dL_law_1319 (by decide) (fun z16 ez16 => ?_)
  refine r_iadd hx hb dL_law_1320 (by omega) (fun z17 ez17 => ?_)
  refine q_scr (j := ni + 4) hx hb hX hbl hS (by omega) (by omega) dL_law_1321 ?_
  have hs5_18 := rg_8_5 hR (k := 1) (by decide) (by decide)
  refine q_cVi (k := 387) (As := [.int (xs (ni + 1)), .int (xs (ni + 2)), .int (xs (ni + 3)), .int (xs (ni + 4))]) (rest := []) ⟨hx, hb, hml, hown, hts⟩ hK hP hV hA hS (c_X12_odds l D cA ad hI σ9 τ hR (xs (ni + 1)) (xs (ni + 2)) (xs (ni + 3)) (xs (ni + 4)) gSI) (cwV 4 hts gL_law_X12_odds rfl rfl rfl (by decide +kernel) ⟨by decide, by decide⟩) (rv_M hK hP (by decide) (by decide)) rfl hl.1 rfl (Nat.le_of_ble_eq_true rfl) dL_law_1322 hcl hsl (fun r18 u18 H18 locs18 hp18 hP hS => ?_)
  obtain ⟨σ18, τ18⟩ := u18
  obtain ⟨hR, f18, fL18⟩ : P_X12_odds σ9 τ (xs (ni + 1)) (xs (ni + 2)) (xs (ni + 3)) (xs (ni + 4)) r18 σ18 τ18 := hp18
  have hP : va_P D vwCl (gw cA ad σ18 τ18) H18 := hP
  obtain rfl := FrL.nil fL18
  have gRI := RI.fr gRI f18 (by decide)
  have gSI := SI.fr gSI hR f18 (by decide)
  have gSIK := SIK.fr gSIK hR f18 (by decide)
  have gBI := BI.fr gBI f18 (by decide)
  have t18_1_5 := congrArg Int32.toInt (f18.at 1 5 (by decide))
  have t18_387_2 := congrArg Int32.toInt (f18.at 387 2 (by decide))
  have t18_0_18 := congrArg Int32.toInt (f18.at 0 18 (by decide))
  have t18_387_15 := congrArg Int32.toInt (f18.at 387 15 (by decide))
  have gVK := gVK.fr f18 (by decide)
  have gVN := gVN.fr f18 (by decide) fL18 (by decide)
  have gTE := gTE.fr f18 (by decide) (by omega) (by omega)
  refine lv_pop hx hb dL_law_1325 rfl ?_
  refine lv_goto (tgt := 1492) hx hb dL_law_1326 (by decide) ?_
  exact Kc σ18 τ H18 locs18 (cells) (slots) ls ⟨hR, gRI, gSI, gSIK, gBI, (by omega), gTE, gRV, gVK, gVN, (by omega)⟩ hP hS (by omega) (by omega) (lv_sub hl [0, 1, 2, 3, 4] rfl)
set_option maxHeartbeats 4000000 in
theorem LB_36 (p : Program) (l : Launch) (e : Env) (s : State) (m : MethodId) (below : List Frame) (meth : Method) (c : Code) (b L : Nat) (xs : Nat → Int32) (D : va_G) (cA : Nat → ClassId) (ad : Nat → Nat) (C : LC p l s m meth c b L xs D cA ad) (i : Int32) (ni : Nat) (ei : i.toInt = (ni : Int)) (hL : L ≤ 3072) (hn : ni + 6 ≤ L) (Kc : LK p l e s m below meth c b L xs D cA ad i) : LJ p l e s m below meth c b L xs D cA ad i 1329 := by
  obtain ⟨hx, hb, hml, hown, hts, hX, hbl, hK, hI, hA, hV, hl0⟩ := C
  intro σ τ H locs cells slots ls hli hP hS hcc hss hl
  obtain ⟨hR, gRI, gSI, gSIK, gBI, hsz, gTE, gRV, gVK, gVN, hfa⟩ := hli
  have hcl : cells ≤ room_1.cells := (show cells ≤ 601024 by omega)
  have hsl : slots ≤ room_1.slots := (show slots ≤ 7293034 by omega)
  have hcl1 : cells + 1 ≤ room_1.cells := (show cells + 1 ≤ 601024 by omega)
  have hsl1 : slots + 6 ≤ room_1.slots := (show slots + 6 ≤ 7293034 by omega)
  refine lv_aload_n hx hb dL_law_1329 rfl (lv_at hl 1 rfl) ?_
  refine lv_aload_n hx hb dL_law_1330 rfl (lv_at hl 0 rfl) ?_
  refine lv_iload hx hb dL_law_1331 (lv_at hl 4 rfl) ?_
  refine r_iconst hx hb dL_law_1333 (by decide) (fun z1 ez1 => ?_)
  refine r_iadd hx hb dL_law_1334 (by omega) (fun z2 ez2 => ?_)
  refine q_scr (j := ni + 1) hx hb hX hbl hS (by omega) (by omega) dL_law_1335 ?_
  have hs5_3 := rg_8_5 hR (k := 1) (by decide) (by decide)
  have gTE0 := gTE
  have h389_0 := ra_ms_0 hR (k := 389) (j := 0) (by decide) (by decide) (by decide) (by decide)
  have h389_1 := ra_ms_0 hR (k := 389) (j := 1) (by decide) (by decide) (by decide) (by decide)
  have gWH := gVN.wh gVK h389_0
  have gWM := gVN.wm gVK h389_1
  have gWJ := WJ.rf (σ := σ) (τ := τ) h389_0
  have gWK := WK.rf (σ := σ) (τ := τ) h389_1
  refine q_cVi (k := 0) (As := [.int (xs (ni + 1))]) (rest := []) ⟨hx, hb, hml, hown, hts⟩ hK hP hV hA hS (c_X11_roll l D cA ad hI σ τ hR (xs (ni + 1)) (bC σ) (σ 1 5).toInt.toNat (fun i : Nat => (τ 392 i).toInt) (σ 389 0).toInt.toNat (fun i : Nat => (τ 392 (8 + i)).toInt) (σ 389 1).toInt.toNat gRI ⟨by omega, by omega, fun j hj => rfl⟩ gWH gWM) (cwV 1 hts gL_law_X11_roll rfl rfl rfl (by decide +kernel) ⟨by decide, by decide⟩) (rv_X hK hP (by decide) (by decide)) rfl hl.1 rfl (Nat.le_of_ble_eq_true rfl) dL_law_1336 hcl hsl (fun r3 u3 H3 locs3 hp3 hP hS => ?_)
  obtain ⟨σ3, τ3⟩ := u3
  obtain ⟨hR, f3, fL3, ho3_0, ho3_1, gnRI, gnWH, gnWM⟩ : P_X11_roll σ τ (xs (ni + 1)) (bC σ) (σ 1 5).toInt.toNat (fun i : Nat => (τ 392 i).toInt) (σ 389 0).toInt.toNat (fun i : Nat => (τ 392 (8 + i)).toInt) (σ 389 1).toInt.toNat r3 σ3 τ3 := hp3
  have hP : va_P D vwCl (gw cA ad σ3 τ3) H3 := hP
  have gRV := gRV.agL (AgrL.fr fL3 (by decide))
  have gRI := gnRI
  have gSI := SI.fr gSI hR f3 (by decide)
  have gSIK := SIK.fr gSIK hR f3 (by decide)
  have gBI := BI.fr gBI f3 (by decide)
  have t3_387_2 := congrArg Int32.toInt (f3.at 387 2 (by decide))
  have t3_387_15 := congrArg Int32.toInt (f3.at 387 15 (by decide))
  have gVK := gVK.fr f3 (by decide)
  have gVN := gVN.fr f3 (by decide) fL3 (by decide)
  have gTE := gTE.fr f3 (by decide) (by omega) (by omega)
  refine lv_pop hx hb dL_law_1339 rfl ?_
  refine lv_aload_n hx hb dL_law_1340 rfl (lv_at hl 2 rfl) ?_
  refine lv_aload_n hx hb dL_law_1341 rfl (lv_at hl 0 rfl) ?_
  refine lv_iload hx hb dL_law_1342 (lv_at hl 4 rfl) ?_
  refine r_iconst hx hb dL_law_1344 (by decide) (fun z4 ez4 => ?_)
  refine r_iadd hx hb dL_law_1345 (by omega) (fun z5 ez5 => ?_)
  refine q_scr (j := ni + 1) hx hb hX hbl hS (by omega) (by omega) dL_law_1346 ?_
  have hs5_6 := rg_8_5 hR (k := 1) (by decide) (by decide)
  have gWJ := (gWJ.ag (Agr.fr f3 (by decide))).agL (AgrL.fr fL3 (by decide))
  have gWK := (gWK.ag (Agr.fr f3 (by decide))).agL (AgrL.fr fL3 (by decide))
  refine q_cVi (k := 387) (As := [.int (xs (ni + 1))]) (rest := []) ⟨hx, hb, hml, hown, hts⟩ hK hP hV hA hS (c_X12_roll l D cA ad hI σ3 τ3 hR (xs (ni + 1)) (bC σ) (σ 1 5).toInt.toNat (fun i : Nat => (τ 392 i).toInt) (σ 389 0).toInt.toNat (fun i : Nat => (τ 392 (8 + i)).toInt) (σ 389 1).toInt.toNat ⟨by omega, by omega, fun j hj => gTE0.b f3 (by decide) (by omega) hj⟩ gRV gWJ gWK) (cwV 1 hts gL_law_X12_roll rfl rfl rfl (by decide +kernel) ⟨by decide, by decide⟩) (rv_M hK hP (by decide) (by decide)) rfl hl.1 rfl (Nat.le_of_ble_eq_true rfl) dL_law_1347 hcl hsl (fun r6 u6 H6 locs6 hp6 hP hS => ?_)
  obtain ⟨σ6, τ6⟩ := u6
  obtain ⟨hR, f6, fL6, ho6_0, ho6_1, gnRV, gnWJ, gnWK⟩ : P_X12_roll σ3 τ3 (xs (ni + 1)) (bC σ) (σ 1 5).toInt.toNat (fun i : Nat => (τ 392 i).toInt) (σ 389 0).toInt.toNat (fun i : Nat => (τ 392 (8 + i)).toInt) (σ 389 1).toInt.toNat r6 σ6 τ6 := hp6
  have hP : va_P D vwCl (gw cA ad σ6 τ6) H6 := hP
  have gRV := gRV.agL (AgrL.fr fL6 (by decide))
  have gRI := RI.fr gRI f6 (by decide)
  have gSI := SI.fr gSI hR f6 (by decide)
  have gSIK := SIK.fr gSIK hR f6 (by decide)
  have gBI := BI.fr gBI f6 (by decide)
  have t6_1_5 := congrArg Int32.toInt (f6.at 1 5 (by decide))
  have t6_0_18 := congrArg Int32.toInt (f6.at 0 18 (by decide))
  have gVK := gVK.fr f6 (by decide)
  have gVN := gVN.fr f6 (by decide) fL6 (by decide)
  have gTE := gTE.fr f6 (by decide) (by omega) (by omega)
  refine lv_pop hx hb dL_law_1350 rfl ?_
  refine lv_goto (tgt := 1492) hx hb dL_law_1351 (by decide) ?_
  exact Kc σ6 τ6 H6 locs6 (cells) (slots) ls ⟨hR, gRI, gSI, gSIK, gBI, (by omega), gTE, gRV, gVK, gVN, (by omega)⟩ hP hS (by omega) (by omega) (lv_sub hl [0, 1, 2, 3, 4] rfl)
set_option maxHeartbeats 4000000 in
theorem LB_37 (p : Program) (l : Launch) (e : Env) (s : State) (m : MethodId) (below : List Frame) (meth : Method) (c : Code) (b L : Nat) (xs : Nat → Int32) (D : va_G) (cA : Nat → ClassId) (ad : Nat → Nat) (C : LC p l s m meth c b L xs D cA ad) (i : Int32) (ni : Nat) (ei : i.toInt = (ni : Int)) (hL : L ≤ 3072) (hn : ni + 6 ≤ L) (Kc : LK p l e s m below meth c b L xs D cA ad i) : LJ p l e s m below meth c b L xs D cA ad i 1354 := by
  obtain ⟨hx, hb, hml, hown, hts, hX, hbl, hK, hI, hA, hV, hl0⟩ := C
  intro σ τ H locs cells slots ls hli hP hS hcc hss hl
  obtain ⟨hR, gRI, gSI, gSIK, gBI, hsz, gTE, gRV, gVK, gVN, hfa⟩ := hli
  have hcl : cells ≤ room_1.cells := (show cells ≤ 601024 by omega)
  have hsl : slots ≤ room_1.slots := (show slots ≤ 7293034 by omega)
  have hcl1 : cells + 1 ≤ room_1.cells := (show cells + 1 ≤ 601024 by omega)
  have hsl1 : slots + 6 ≤ room_1.slots := (show slots + 6 ≤ 7293034 by omega)
  refine lv_aload_n hx hb dL_law_1354 rfl (lv_at hl 1 rfl) ?_
  refine lv_aload_n hx hb dL_law_1355 rfl (lv_at hl 0 rfl) ?_
  refine lv_iload hx hb dL_law_1356 (lv_at hl 4 rfl) ?_
  refine r_iconst hx hb dL_law_1358 (by decide) (fun z1 ez1 => ?_)
  refine r_iadd hx hb dL_law_1359 (by omega) (fun z2 ez2 => ?_)
  refine q_scr (j := ni + 1) hx hb hX hbl hS (by omega) (by omega) dL_law_1360 ?_
  have hs5_3 := rg_8_5 hR (k := 1) (by decide) (by decide)
  refine q_cVi (k := 0) (As := [.int (xs (ni + 1))]) (rest := []) ⟨hx, hb, hml, hown, hts⟩ hK hP hV hA hS (c_X11_rolled l D cA ad hI σ τ hR (xs (ni + 1))) (cwV 1 hts gL_law_X11_rolled rfl rfl rfl (by decide +kernel) ⟨by decide, by decide⟩) (rv_X hK hP (by decide) (by decide)) rfl hl.1 rfl (Nat.le_of_ble_eq_true rfl) dL_law_1361 hcl hsl (fun r3 u3 H3 locs3 hp3 hP hS => ?_)
  obtain ⟨σ3, τ3⟩ := u3
  obtain ⟨hR, f3, fL3⟩ : P_X11_rolled σ τ (xs (ni + 1)) r3 σ3 τ3 := hp3
  have hP : va_P D vwCl (gw cA ad σ3 τ3) H3 := hP
  obtain rfl := FrL.nil fL3
  obtain rfl := Fr.nil f3
  refine lv_pop hx hb dL_law_1364 rfl ?_
  refine lv_aload_n hx hb dL_law_1365 rfl (lv_at hl 2 rfl) ?_
  refine lv_aload_n hx hb dL_law_1366 rfl (lv_at hl 0 rfl) ?_
  refine lv_iload hx hb dL_law_1367 (lv_at hl 4 rfl) ?_
  refine r_iconst hx hb dL_law_1369 (by decide) (fun z4 ez4 => ?_)
  refine r_iadd hx hb dL_law_1370 (by omega) (fun z5 ez5 => ?_)
  refine q_scr (j := ni + 1) hx hb hX hbl hS (by omega) (by omega) dL_law_1371 ?_
  have hs5_6 := rg_8_5 hR (k := 1) (by decide) (by decide)
  refine q_cVi (k := 387) (As := [.int (xs (ni + 1))]) (rest := []) ⟨hx, hb, hml, hown, hts⟩ hK hP hV hA hS (c_X12_rolled l D cA ad hI σ τ hR (xs (ni + 1))) (cwV 1 hts gL_law_X12_rolled rfl rfl rfl (by decide +kernel) ⟨by decide, by decide⟩) (rv_M hK hP (by decide) (by decide)) rfl hl.1 rfl (Nat.le_of_ble_eq_true rfl) dL_law_1372 hcl hsl (fun r6 u6 H6 locs6 hp6 hP hS => ?_)
  obtain ⟨σ6, τ6⟩ := u6
  obtain ⟨hR, f6, fL6⟩ : P_X12_rolled σ τ (xs (ni + 1)) r6 σ6 τ6 := hp6
  have hP : va_P D vwCl (gw cA ad σ6 τ6) H6 := hP
  obtain rfl := FrL.nil fL6
  have gRI := RI.fr gRI f6 (by decide)
  have gSI := SI.fr gSI hR f6 (by decide)
  have gSIK := SIK.fr gSIK hR f6 (by decide)
  have gBI := BI.fr gBI f6 (by decide)
  have t6_1_5 := congrArg Int32.toInt (f6.at 1 5 (by decide))
  have t6_387_2 := congrArg Int32.toInt (f6.at 387 2 (by decide))
  have t6_0_18 := congrArg Int32.toInt (f6.at 0 18 (by decide))
  have t6_387_15 := congrArg Int32.toInt (f6.at 387 15 (by decide))
  have gVK := gVK.fr f6 (by decide)
  have gVN := gVN.fr f6 (by decide) fL6 (by decide)
  have gTE := gTE.fr f6 (by decide) (by omega) (by omega)
  refine lv_pop hx hb dL_law_1375 rfl ?_
  refine lv_goto (tgt := 1492) hx hb dL_law_1376 (by decide) ?_
  exact Kc σ6 τ H6 locs6 (cells) (slots) ls ⟨hR, gRI, gSI, gSIK, gBI, (by omega), gTE, gRV, gVK, gVN, (by omega)⟩ hP hS (by omega) (by omega) (lv_sub hl [0, 1, 2, 3, 4] rfl)
set_option maxHeartbeats 4000000 in
theorem LB_38 (p : Program) (l : Launch) (e : Env) (s : State) (m : MethodId) (below : List Frame) (meth : Method) (c : Code) (b L : Nat) (xs : Nat → Int32) (D : va_G) (cA : Nat → ClassId) (ad : Nat → Nat) (C : LC p l s m meth c b L xs D cA ad) (i : Int32) (ni : Nat) (ei : i.toInt = (ni : Int)) (hL : L ≤ 3072) (hn : ni + 6 ≤ L) (Kc : LK p l e s m below meth c b L xs D cA ad i) : LJ p l e s m below meth c b L xs D cA ad i 1379 := by
  obtain ⟨hx, hb, hml, hown, hts, hX, hbl, hK, hI, hA, hV, hl0⟩ := C
  intro σ τ H locs cells slots ls hli hP hS hcc hss hl
  obtain ⟨hR, gRI, gSI, gSIK, gBI, hsz, gTE, gRV, gVK, gVN, hfa⟩ := hli
  have hcl : cells ≤ room_1.cells := (show cells ≤ 601024 by omega)
  have hsl : slots ≤ room_1.slots := (show slots ≤ 7293034 by omega)
  have hcl1 : cells + 1 ≤ room_1.cells := (show cells + 1 ≤ 601024 by omega)
  have hsl1 : slots + 6 ≤ room_1.slots := (show slots + 6 ≤ 7293034 by omega)
  refine lv_aload_n hx hb dL_law_1379 rfl (lv_at hl 1 rfl) ?_
  have hs5_1 := rg_8_5 hR (k := 1) (by decide) (by decide)
  have gTE0 := gTE
  have h389 := ra_ms_0 hR (k := 389) (j := 0) (by decide) (by decide) (by decide) (by decide)
  have gWH := gVN.wh gVK h389
  have gWJ := WJ.rf (σ := σ) (τ := τ) h389
  refine q_cVi (k := 0) (As := []) (rest := []) ⟨hx, hb, hml, hown, hts⟩ hK hP hV hA hS (c_X11_sentence l D cA ad hI σ τ hR (bC σ) (σ 1 5).toInt.toNat (fun i : Nat => (τ 392 i).toInt) (σ 389 0).toInt.toNat ⟨by omega, by omega, fun j hj => rfl⟩ gWH) (cwV 0 hts gL_law_X11_sentence rfl rfl rfl (by decide +kernel) ⟨by decide, by decide⟩) (rv_X hK hP (by decide) (by decide)) rfl hl.1 rfl (Nat.le_of_ble_eq_true rfl) dL_law_1380 hcl hsl (fun r1 u1 H1 locs1 hp1 hP hS => ?_)
  obtain ⟨σ1, τ1⟩ := u1
  obtain ⟨hR, f1, fL1, ho1_0, ho1_1, ho1_2, gnWH⟩ : P_X11_sentence σ τ (bC σ) (σ 1 5).toInt.toNat (fun i : Nat => (τ 392 i).toInt) (σ 389 0).toInt.toNat r1 σ1 τ1 := hp1
  have hP : va_P D vwCl (gw cA ad σ1 τ1) H1 := hP
  have gRV := gRV.agL (AgrL.fr fL1 (by decide))
  have gRI := RI.fr gRI f1 (by decide)
  have gSI := SI.fr gSI hR f1 (by decide)
  have gSIK := SIK.fr gSIK hR f1 (by decide)
  have gBI := BI.fr gBI f1 (by decide)
  have t1_387_2 := congrArg Int32.toInt (f1.at 387 2 (by decide))
  have t1_387_15 := congrArg Int32.toInt (f1.at 387 15 (by decide))
  have gVK := gVK.fr f1 (by decide)
  have gVN := gVN.fr f1 (by decide) fL1 (by decide)
  have gTE := gTE.fr f1 (by decide) (by omega) (by omega)
  refine lv_pop hx hb dL_law_1383 rfl ?_
  refine lv_aload_n hx hb dL_law_1384 rfl (lv_at hl 2 rfl) ?_
  have hs5_2 := rg_8_5 hR (k := 1) (by decide) (by decide)
  have gWJ := (gWJ.ag (Agr.fr f1 (by decide))).agL (AgrL.fr fL1 (by decide))
  refine q_cVi (k := 387) (As := []) (rest := []) ⟨hx, hb, hml, hown, hts⟩ hK hP hV hA hS (c_X12_sentence l D cA ad hI σ1 τ1 hR (bC σ) (σ 1 5).toInt.toNat (fun i : Nat => (τ 392 i).toInt) (σ 389 0).toInt.toNat ⟨by omega, by omega, fun j hj => gTE0.b f1 (by decide) (by omega) hj⟩ gSI gRV gWJ) (cwV 0 hts gL_law_X12_sentence rfl rfl rfl (by decide +kernel) ⟨by decide, by decide⟩) (rv_M hK hP (by decide) (by decide)) rfl hl.1 rfl (Nat.le_of_ble_eq_true rfl) dL_law_1385 hcl hsl (fun r2 u2 H2 locs2 hp2 hP hS => ?_)
  obtain ⟨σ2, τ2⟩ := u2
  obtain ⟨hR, f2, fL2, ho2_0, ho2_1, ho2_2, gnSI, gnRV, gnWJ⟩ : P_X12_sentence σ1 τ1 (bC σ) (σ 1 5).toInt.toNat (fun i : Nat => (τ 392 i).toInt) (σ 389 0).toInt.toNat r2 σ2 τ2 := hp2
  have hP : va_P D vwCl (gw cA ad σ2 τ2) H2 := hP
  have gRV := gRV.agL (AgrL.fr fL2 (by decide))
  have gRI := RI.fr gRI f2 (by decide)
  have gSI := gnSI
  have gSIK := SIK.fr gSIK hR f2 (by decide)
  have gBI := BI.fr gBI f2 (by decide)
  have t2_1_5 := congrArg Int32.toInt (f2.at 1 5 (by decide))
  have t2_0_18 := congrArg Int32.toInt (f2.at 0 18 (by decide))
  have gVK := gVK.fr f2 (by decide)
  have gVN := gVN.fr f2 (by decide) fL2 (by decide)
  have gTE := gTE.fr f2 (by decide) (by omega) (by omega)
  refine lv_pop hx hb dL_law_1388 rfl ?_
  refine lv_goto (tgt := 1492) hx hb dL_law_1389 (by decide) ?_
  exact Kc σ2 τ2 H2 locs2 (cells) (slots) ls ⟨hR, gRI, gSI, gSIK, gBI, (by omega), gTE, gRV, gVK, gVN, (by omega)⟩ hP hS (by omega) (by omega) (lv_sub hl [0, 1, 2, 3, 4] rfl)
set_option maxHeartbeats 4000000 in
theorem LB_39 (p : Program) (l : Launch) (e : Env) (s : State) (m : MethodId) (below : List Frame) (meth : Method) (c : Code) (b L : Nat) (xs : Nat → Int32) (D : va_G) (cA : Nat → ClassId) (ad : Nat → Nat) (C : LC p l s m meth c b L xs D cA ad) (i : Int32) (ni : Nat) (ei : i.toInt = (ni : Int)) (hL : L ≤ 3072) (hn : ni + 6 ≤ L) (Kc : LK p l e s m below meth c b L xs D cA ad i) : LJ p l e s m below meth c b L xs D cA ad i 1392 := by
  obtain ⟨hx, hb, hml, hown, hts, hX, hbl, hK, hI, hA, hV, hl0⟩ := C
  intro σ τ H locs cells slots ls hli hP hS hcc hss hl
  obtain ⟨hR, gRI, gSI, gSIK, gBI, hsz, gTE, gRV, gVK, gVN, hfa⟩ := hli
  have hcl : cells ≤ room_1.cells := (show cells ≤ 601024 by omega)
  have hsl : slots ≤ room_1.slots := (show slots ≤ 7293034 by omega)
  have hcl1 : cells + 1 ≤ room_1.cells := (show cells + 1 ≤ 601024 by omega)
  have hsl1 : slots + 6 ≤ room_1.slots := (show slots + 6 ≤ 7293034 by omega)
  refine lv_aload_n hx hb dL_law_1392 rfl (lv_at hl 1 rfl) ?_
  refine lv_aload_n hx hb dL_law_1393 rfl (lv_at hl 0 rfl) ?_
  refine lv_iload hx hb dL_law_1394 (lv_at hl 4 rfl) ?_
  refine r_iconst hx hb dL_law_1396 (by decide) (fun z1 ez1 => ?_)
  refine r_iadd hx hb dL_law_1397 (by omega) (fun z2 ez2 => ?_)
  refine q_scr (j := ni + 1) hx hb hX hbl hS (by omega) (by omega) dL_law_1398 ?_
  have hs5_3 := rg_8_5 hR (k := 1) (by decide) (by decide)
  refine q_cVi (k := 0) (As := [.int (xs (ni + 1))]) (rest := []) ⟨hx, hb, hml, hown, hts⟩ hK hP hV hA hS (c_X11_said l D cA ad hI σ τ hR (xs (ni + 1))) (cwV 1 hts gL_law_X11_said rfl rfl rfl (by decide +kernel) ⟨by decide, by decide⟩) (rv_X hK hP (by decide) (by decide)) rfl hl.1 rfl (Nat.le_of_ble_eq_true rfl) dL_law_1399 hcl hsl (fun r3 u3 H3 locs3 hp3 hP hS => ?_)
  obtain ⟨σ3, τ3⟩ := u3
  obtain ⟨hR, f3, fL3, hq3⟩ : P_X11_said σ τ (xs (ni + 1)) r3 σ3 τ3 := hp3
  have hP : va_P D vwCl (gw cA ad σ3 τ3) H3 := hP
  obtain rfl := FrL.nil fL3
  have gRI := RI.fr gRI f3 (by decide)
  have gSI := SI.fr gSI hR f3 (by decide)
  have gSIK := SIK.fr gSIK hR f3 (by decide)
  have gBI := BI.fr gBI f3 (by decide)
  have t3_1_5 := congrArg Int32.toInt (f3.at 1 5 (by decide))
  have t3_387_2 := congrArg Int32.toInt (f3.at 387 2 (by decide))
  have t3_0_18 := congrArg Int32.toInt (f3.at 0 18 (by decide))
  have t3_387_15 := congrArg Int32.toInt (f3.at 387 15 (by decide))
  have gVK := gVK.fr f3 (by decide)
  have gVN := gVN.fr f3 (by decide) fL3 (by decide)
  have gTE := gTE.fr f3 (by decide) (by omega) (by omega)
  refine lv_pop hx hb dL_law_1402 rfl ?_
  refine lv_aload_n hx hb dL_law_1403 rfl (lv_at hl 2 rfl) ?_
  refine lv_aload_n hx hb dL_law_1404 rfl (lv_at hl 0 rfl) ?_
  refine lv_iload hx hb dL_law_1405 (lv_at hl 4 rfl) ?_
  refine r_iconst hx hb dL_law_1407 (by decide) (fun z4 ez4 => ?_)
  refine r_iadd hx hb dL_law_1408 (by omega) (fun z5 ez5 => ?_)
  refine q_scr (j := ni + 1) hx hb hX hbl hS (by omega) (by omega) dL_law_1409 ?_
  have hs5_6 := rg_8_5 hR (k := 1) (by decide) (by decide)
  refine q_cVi (k := 387) (As := [.int (xs (ni + 1))]) (rest := []) ⟨hx, hb, hml, hown, hts⟩ hK hP hV hA hS (c_X12_said l D cA ad hI σ3 τ hR (xs (ni + 1)) gSI) (cwV 1 hts gL_law_X12_said rfl rfl rfl (by decide +kernel) ⟨by decide, by decide⟩) (rv_M hK hP (by decide) (by decide)) rfl hl.1 rfl (Nat.le_of_ble_eq_true rfl) dL_law_1410 hcl hsl (fun r6 u6 H6 locs6 hp6 hP hS => ?_)
  obtain ⟨σ6, τ6⟩ := u6
  obtain ⟨hR, f6, fL6⟩ : P_X12_said σ3 τ (xs (ni + 1)) r6 σ6 τ6 := hp6
  have hP : va_P D vwCl (gw cA ad σ6 τ6) H6 := hP
  obtain rfl := FrL.nil fL6
  have gRI := RI.fr gRI f6 (by decide)
  have gSI := SI.fr gSI hR f6 (by decide)
  have gSIK := SIK.fr gSIK hR f6 (by decide)
  have gBI := BI.fr gBI f6 (by decide)
  have t6_1_5 := congrArg Int32.toInt (f6.at 1 5 (by decide))
  have t6_387_2 := congrArg Int32.toInt (f6.at 387 2 (by decide))
  have t6_0_18 := congrArg Int32.toInt (f6.at 0 18 (by decide))
  have t6_387_15 := congrArg Int32.toInt (f6.at 387 15 (by decide))
  have gVK := gVK.fr f6 (by decide)
  have gVN := gVN.fr f6 (by decide) fL6 (by decide)
  have gTE := gTE.fr f6 (by decide) (by omega) (by omega)
  refine lv_pop hx hb dL_law_1413 rfl ?_
  refine lv_goto (tgt := 1492) hx hb dL_law_1414 (by decide) ?_
  exact Kc σ6 τ H6 locs6 (cells) (slots) ls ⟨hR, gRI, gSI, gSIK, gBI, (by omega), gTE, gRV, gVK, gVN, (by omega)⟩ hP hS (by omega) (by omega) (lv_sub hl [0, 1, 2, 3, 4] rfl)
set_option maxHeartbeats 4000000 in
theorem LB_40 (p : Program) (l : Launch) (e : Env) (s : State) (m : MethodId) (below : List Frame) (meth : Method) (c : Code) (b L : Nat) (xs : Nat → Int32) (D : va_G) (cA : Nat → ClassId) (ad : Nat → Nat) (C : LC p l s m meth c b L xs D cA ad) (i : Int32) (ni : Nat) (ei : i.toInt = (ni : Int)) (hL : L ≤ 3072) (hn : ni + 6 ≤ L) (Kc : LK p l e s m below meth c b L xs D cA ad i) : LJ p l e s m below meth c b L xs D cA ad i 1417 := by
  obtain ⟨hx, hb, hml, hown, hts, hX, hbl, hK, hI, hA, hV, hl0⟩ := C
  intro σ τ H locs cells slots ls hli hP hS hcc hss hl
  obtain ⟨hR, gRI, gSI, gSIK, gBI, hsz, gTE, gRV, gVK, gVN, hfa⟩ := hli
  have hcl : cells ≤ room_1.cells := (show cells ≤ 601024 by omega)
  have hsl : slots ≤ room_1.slots := (show slots ≤ 7293034 by omega)
  have hcl1 : cells + 1 ≤ room_1.cells := (show cells + 1 ≤ 601024 by omega)
  have hsl1 : slots + 6 ≤ room_1.slots := (show slots + 6 ≤ 7293034 by omega)
  refine lv_aload_n hx hb dL_law_1417 rfl (lv_at hl 1 rfl) ?_
  refine lv_aload_n hx hb dL_law_1418 rfl (lv_at hl 0 rfl) ?_
  refine lv_iload hx hb dL_law_1419 (lv_at hl 4 rfl) ?_
  refine r_iconst hx hb dL_law_1421 (by decide) (fun z1 ez1 => ?_)
  refine r_iadd hx hb dL_law_1422 (by omega) (fun z2 ez2 => ?_)
  refine q_scr (j := ni + 1) hx hb hX hbl hS (by omega) (by omega) dL_law_1423 ?_
  have hs5_3 := rg_8_5 hR (k := 1) (by decide) (by decide)
  refine q_cVi (k := 0) (As := [.int (xs (ni + 1))]) (rest := []) ⟨hx, hb, hml, hown, hts⟩ hK hP hV hA hS (c_X11_image l D cA ad hI σ τ hR (xs (ni + 1))) (cwV 1 hts gL_law_X11_image rfl rfl rfl (by decide +kernel) ⟨by decide, by decide⟩) (rv_X hK hP (by decide) (by decide)) rfl hl.1 rfl (Nat.le_of_ble_eq_true rfl) dL_law_1424 hcl hsl (fun r3 u3 H3 locs3 hp3 hP hS => ?_)
  obtain ⟨σ3, τ3⟩ := u3
  obtain ⟨hR, f3, fL3, hq3, ho3_0, ho3_1⟩ : P_X11_image σ τ (xs (ni + 1)) r3 σ3 τ3 := hp3
  have hP : va_P D vwCl (gw cA ad σ3 τ3) H3 := hP
  have gRV := gRV.agL (AgrL.fr fL3 (by decide))
  have gRI := RI.fr gRI f3 (by decide)
  have gSI := SI.fr gSI hR f3 (by decide)
  have gSIK := SIK.fr gSIK hR f3 (by decide)
  have gBI := BI.fr gBI f3 (by decide)
  have t3_1_5 := congrArg Int32.toInt (f3.at 1 5 (by decide))
  have t3_387_2 := congrArg Int32.toInt (f3.at 387 2 (by decide))
  have t3_0_18 := congrArg Int32.toInt (f3.at 0 18 (by decide))
  have t3_387_15 := congrArg Int32.toInt (f3.at 387 15 (by decide))
  have gVK0 := gVK
  have gVN0 := gVN
  have gTE := gTE.fr f3 (by decide) (by omega) (by omega)
  refine lv_pop hx hb dL_law_1427 rfl ?_
  refine lv_aload_n hx hb dL_law_1428 rfl (lv_at hl 2 rfl) ?_
  refine lv_aload_n hx hb dL_law_1429 rfl (lv_at hl 0 rfl) ?_
  refine lv_iload hx hb dL_law_1430 (lv_at hl 4 rfl) ?_
  refine r_iconst hx hb dL_law_1432 (by decide) (fun z4 ez4 => ?_)
  refine r_iadd hx hb dL_law_1433 (by omega) (fun z5 ez5 => ?_)
  refine q_scr (j := ni + 1) hx hb hX hbl hS (by omega) (by omega) dL_law_1434 ?_
  have hs5_6 := rg_8_5 hR (k := 1) (by decide) (by decide)
  refine q_cVi (k := 387) (As := [.int (xs (ni + 1))]) (rest := []) ⟨hx, hb, hml, hown, hts⟩ hK hP hV hA hS (c_X12_image l D cA ad hI σ3 τ3 hR (xs (ni + 1)) gSI gSIK) (cwV 1 hts gL_law_X12_image rfl rfl rfl (by decide +kernel) ⟨by decide, by decide⟩) (rv_M hK hP (by decide) (by decide)) rfl hl.1 rfl (Nat.le_of_ble_eq_true rfl) dL_law_1435 hcl hsl (fun r6 u6 H6 locs6 hp6 hP hS => ?_)
  obtain ⟨σ6, τ6⟩ := u6
  obtain ⟨hR, f6, fL6, hq6, ho6_0, ho6_1, gnSI, gnSIK⟩ : P_X12_image σ3 τ3 (xs (ni + 1)) r6 σ6 τ6 := hp6
  have hP : va_P D vwCl (gw cA ad σ6 τ6) H6 := hP
  have gRV := gRV.agL (AgrL.fr fL6 (by decide))
  have gRI := RI.fr gRI f6 (by decide)
  have gSI := gnSI
  have gSIK := gnSIK
  have gBI := BI.fr gBI f6 (by decide)
  have t6_1_5 := congrArg Int32.toInt (f6.at 1 5 (by decide))
  have t6_387_2 := congrArg Int32.toInt (f6.at 387 2 (by decide))
  have t6_0_18 := congrArg Int32.toInt (f6.at 0 18 (by decide))
  have t6_387_15 := congrArg Int32.toInt (f6.at 387 15 (by decide))
  have gVK := gVK0.im ho3_0 f3 (by decide) ho6_0 f6 (by decide)
  have gVN := gVN0.im ho3_1 f3 (by decide) fL3 (by decide) ho6_0 ho6_1 f6 (by decide) fL6 (by decide)
  have gTE := gTE.fr f6 (by decide) (by omega) (by omega)
  refine lv_pop hx hb dL_law_1438 rfl ?_
  refine lv_goto (tgt := 1492) hx hb dL_law_1439 (by decide) ?_
  exact Kc σ6 τ6 H6 locs6 (cells) (slots) ls ⟨hR, gRI, gSI, gSIK, gBI, (by omega), gTE, gRV, gVK, gVN, (by omega)⟩ hP hS (by omega) (by omega) (lv_sub hl [0, 1, 2, 3, 4] rfl)
set_option maxHeartbeats 4000000 in
theorem LB_41 (p : Program) (l : Launch) (e : Env) (s : State) (m : MethodId) (below : List Frame) (meth : Method) (c : Code) (b L : Nat) (xs : Nat → Int32) (D : va_G) (cA : Nat → ClassId) (ad : Nat → Nat) (C : LC p l s m meth c b L xs D cA ad) (i : Int32) (ni : Nat) (ei : i.toInt = (ni : Int)) (hL : L ≤ 3072) (hn : ni + 6 ≤ L) (Kc : LK p l e s m below meth c b L xs D cA ad i) : LJ p l e s m below meth c b L xs D cA ad i 1442 := by
  obtain ⟨hx, hb, hml, hown, hts, hX, hbl, hK, hI, hA, hV, hl0⟩ := C
  intro σ τ H locs cells slots ls hli hP hS hcc hss hl
  obtain ⟨hR, gRI, gSI, gSIK, gBI, hsz, gTE, gRV, gVK, gVN, hfa⟩ := hli
  have hcl : cells ≤ room_1.cells := (show cells ≤ 601024 by omega)
  have hsl : slots ≤ room_1.slots := (show slots ≤ 7293034 by omega)
  have hcl1 : cells + 1 ≤ room_1.cells := (show cells + 1 ≤ 601024 by omega)
  have hsl1 : slots + 6 ≤ room_1.slots := (show slots + 6 ≤ 7293034 by omega)
  refine lv_aload_n hx hb dL_law_1442 rfl (lv_at hl 1 rfl) ?_
  refine lv_aload_n hx hb dL_law_1443 rfl (lv_at hl 0 rfl) ?_
  refine lv_iload hx hb dL_law_1444 (lv_at hl 4 rfl) ?_
  refine r_iconst hx hb dL_law_1446 (by decide) (fun z1 ez1 => ?_)
  refine r_iadd hx hb dL_law_1447 (by omega) (fun z2 ez2 => ?_)
  refine q_scr (j := ni + 1) hx hb hX hbl hS (by omega) (by omega) dL_law_1448 ?_
  have hs5_3 := rg_8_5 hR (k := 1) (by decide) (by decide)
  refine q_cVi (k := 0) (As := [.int (xs (ni + 1))]) (rest := []) ⟨hx, hb, hml, hown, hts⟩ hK hP hV hA hS (c_X11_restore l D cA ad hI σ τ hR (xs (ni + 1))) (cwV 1 hts gL_law_X11_restore rfl rfl rfl (by decide +kernel) ⟨by decide, by decide⟩) (rv_X hK hP (by decide) (by decide)) rfl hl.1 rfl (Nat.le_of_ble_eq_true rfl) dL_law_1449 hcl hsl (fun r3 u3 H3 locs3 hp3 hP hS => ?_)
  obtain ⟨σ3, τ3⟩ := u3
  obtain ⟨hR, f3, fL3, hq3, ho3_0, ho3_1⟩ : P_X11_restore σ τ (xs (ni + 1)) r3 σ3 τ3 := hp3
  have hP : va_P D vwCl (gw cA ad σ3 τ3) H3 := hP
  have gRV := gRV.agL (AgrL.fr fL3 (by decide))
  have gRI := RI.fr gRI f3 (by decide)
  have gSI := SI.fr gSI hR f3 (by decide)
  have gSIK := SIK.fr gSIK hR f3 (by decide)
  have gBI := BI.fr gBI f3 (by decide)
  have t3_1_5 := congrArg Int32.toInt (f3.at 1 5 (by decide))
  have t3_387_2 := congrArg Int32.toInt (f3.at 387 2 (by decide))
  have t3_0_18 := congrArg Int32.toInt (f3.at 0 18 (by decide))
  have t3_387_15 := congrArg Int32.toInt (f3.at 387 15 (by decide))
  have gVK0 := gVK
  have gVN0 := gVN
  have gTE := gTE.fr f3 (by decide) (by omega) (by omega)
  refine lv_pop hx hb dL_law_1452 rfl ?_
  refine lv_aload_n hx hb dL_law_1453 rfl (lv_at hl 2 rfl) ?_
  refine lv_aload_n hx hb dL_law_1454 rfl (lv_at hl 0 rfl) ?_
  refine lv_iload hx hb dL_law_1455 (lv_at hl 4 rfl) ?_
  refine r_iconst hx hb dL_law_1457 (by decide) (fun z4 ez4 => ?_)
  refine r_iadd hx hb dL_law_1458 (by omega) (fun z5 ez5 => ?_)
  refine q_scr (j := ni + 1) hx hb hX hbl hS (by omega) (by omega) dL_law_1459 ?_
  have hs5_6 := rg_8_5 hR (k := 1) (by decide) (by decide)
  refine q_cVi (k := 387) (As := [.int (xs (ni + 1))]) (rest := []) ⟨hx, hb, hml, hown, hts⟩ hK hP hV hA hS (c_X12_restore l D cA ad hI σ3 τ3 hR (xs (ni + 1)) gSI gSIK) (cwV 1 hts gL_law_X12_restore rfl rfl rfl (by decide +kernel) ⟨by decide, by decide⟩) (rv_M hK hP (by decide) (by decide)) rfl hl.1 rfl (Nat.le_of_ble_eq_true rfl) dL_law_1460 hcl hsl (fun r6 u6 H6 locs6 hp6 hP hS => ?_)
  obtain ⟨σ6, τ6⟩ := u6
  obtain ⟨hR, f6, fL6, hq6, ho6_0, ho6_1, gnSI, gnSIK⟩ : P_X12_restore σ3 τ3 (xs (ni + 1)) r6 σ6 τ6 := hp6
  have hP : va_P D vwCl (gw cA ad σ6 τ6) H6 := hP
  have gRV := gRV.agL (AgrL.fr fL6 (by decide))
  have gRI := RI.fr gRI f6 (by decide)
  have gSI := gnSI
  have gSIK := gnSIK
  have gBI := BI.fr gBI f6 (by decide)
  have t6_1_5 := congrArg Int32.toInt (f6.at 1 5 (by decide))
  have t6_387_2 := congrArg Int32.toInt (f6.at 387 2 (by decide))
  have t6_0_18 := congrArg Int32.toInt (f6.at 0 18 (by decide))
  have t6_387_15 := congrArg Int32.toInt (f6.at 387 15 (by decide))
  have gVK := gVK0.rs ho3_0 f3 (by decide) ho6_0 f6 (by decide)
  have gVN := gVN0.rs (fun i hi => (gVK0.2 i hi).1) ho3_1 f3 (by decide) fL3 (by decide) ho6_0 ho6_1 f6 (by decide) fL6 (by decide)
  have gTE := gTE.fr f6 (by decide) (by omega) (by omega)
  refine lv_pop hx hb dL_law_1463 rfl ?_
  refine lv_goto (tgt := 1492) hx hb dL_law_1464 (by decide) ?_
  exact Kc σ6 τ6 H6 locs6 (cells) (slots) ls ⟨hR, gRI, gSI, gSIK, gBI, (by omega), gTE, gRV, gVK, gVN, (by omega)⟩ hP hS (by omega) (by omega) (lv_sub hl [0, 1, 2, 3, 4] rfl)
set_option maxHeartbeats 4000000 in
theorem LB_42 (p : Program) (l : Launch) (e : Env) (s : State) (m : MethodId) (below : List Frame) (meth : Method) (c : Code) (b L : Nat) (xs : Nat → Int32) (D : va_G) (cA : Nat → ClassId) (ad : Nat → Nat) (C : LC p l s m meth c b L xs D cA ad) (i : Int32) (ni : Nat) (ei : i.toInt = (ni : Int)) (hL : L ≤ 3072) (hn : ni + 6 ≤ L) (Kc : LK p l e s m below meth c b L xs D cA ad i) : LJ p l e s m below meth c b L xs D cA ad i 1467 := by
  obtain ⟨hx, hb, hml, hown, hts, hX, hbl, hK, hI, hA, hV, hl0⟩ := C
  intro σ τ H locs cells slots ls hli hP hS hcc hss hl
  obtain ⟨hR, gRI, gSI, gSIK, gBI, hsz, gTE, gRV, gVK, gVN, hfa⟩ := hli
  have hcl : cells ≤ room_1.cells := (show cells ≤ 601024 by omega)
  have hsl : slots ≤ room_1.slots := (show slots ≤ 7293034 by omega)
  have hcl1 : cells + 1 ≤ room_1.cells := (show cells + 1 ≤ 601024 by omega)
  have hsl1 : slots + 6 ≤ room_1.slots := (show slots + 6 ≤ 7293034 by omega)
  refine lv_aload_n hx hb dL_law_1467 rfl (lv_at hl 1 rfl) ?_
  refine lv_aload_n hx hb dL_law_1468 rfl (lv_at hl 0 rfl) ?_
  refine lv_iload hx hb dL_law_1469 (lv_at hl 4 rfl) ?_
  refine r_iconst hx hb dL_law_1471 (by decide) (fun z1 ez1 => ?_)
  refine r_iadd hx hb dL_law_1472 (by omega) (fun z2 ez2 => ?_)
  refine q_scr (j := ni + 1) hx hb hX hbl hS (by omega) (by omega) dL_law_1473 ?_
  have hs5_3 := rg_8_5 hR (k := 1) (by decide) (by decide)
  refine q_cVi (k := 0) (As := [.int (xs (ni + 1))]) (rest := []) ⟨hx, hb, hml, hown, hts⟩ hK hP hV hA hS (c_X11_count l D cA ad hI σ τ hR (xs (ni + 1)) (fun j : Nat => (σ 389 j).toInt) gVK.1 gSI.chb) (cwV 1 hts gL_law_X11_count rfl rfl rfl (by decide +kernel) ⟨by decide, by decide⟩) (rv_X hK hP (by decide) (by decide)) rfl hl.1 rfl (Nat.le_of_ble_eq_true rfl) dL_law_1474 hcl hsl (fun r3 u3 H3 locs3 hp3 hP hS => ?_)
  obtain ⟨σ3, τ3⟩ := u3
  obtain ⟨hR, f3, fL3, ho3_0⟩ : P_X11_count σ τ (xs (ni + 1)) (fun j : Nat => (σ 389 j).toInt) r3 σ3 τ3 := hp3
  have hP : va_P D vwCl (gw cA ad σ3 τ3) H3 := hP
  obtain rfl := FrL.nil fL3
  obtain rfl := Fr.nil f3
  refine lv_pop hx hb dL_law_1477 rfl ?_
  refine lv_aload_n hx hb dL_law_1478 rfl (lv_at hl 2 rfl) ?_
  refine lv_aload_n hx hb dL_law_1479 rfl (lv_at hl 0 rfl) ?_
  refine lv_iload hx hb dL_law_1480 (lv_at hl 4 rfl) ?_
  refine r_iconst hx hb dL_law_1482 (by decide) (fun z4 ez4 => ?_)
  refine r_iadd hx hb dL_law_1483 (by omega) (fun z5 ez5 => ?_)
  refine q_scr (j := ni + 1) hx hb hX hbl hS (by omega) (by omega) dL_law_1484 ?_
  have hs5_6 := rg_8_5 hR (k := 1) (by decide) (by decide)
  refine q_cVi (k := 387) (As := [.int (xs (ni + 1))]) (rest := []) ⟨hx, hb, hml, hown, hts⟩ hK hP hV hA hS (c_X12_count l D cA ad hI σ τ hR (xs (ni + 1)) gSI) (cwV 1 hts gL_law_X12_count rfl rfl rfl (by decide +kernel) ⟨by decide, by decide⟩) (rv_M hK hP (by decide) (by decide)) rfl hl.1 rfl (Nat.le_of_ble_eq_true rfl) dL_law_1485 hcl hsl (fun r6 u6 H6 locs6 hp6 hP hS => ?_)
  obtain ⟨σ6, τ6⟩ := u6
  obtain ⟨hR, f6, fL6, ho6_0⟩ : P_X12_count σ τ (xs (ni + 1)) r6 σ6 τ6 := hp6
  have hP : va_P D vwCl (gw cA ad σ6 τ6) H6 := hP
  obtain rfl := FrL.nil fL6
  have gRI := RI.fr gRI f6 (by decide)
  have gSI := SI.fr gSI hR f6 (by decide)
  have gSIK := SIK.fr gSIK hR f6 (by decide)
  have gBI := BI.fr gBI f6 (by decide)
  have t6_1_5 := congrArg Int32.toInt (f6.at 1 5 (by decide))
  have t6_387_2 := congrArg Int32.toInt (f6.at 387 2 (by decide))
  have t6_0_18 := congrArg Int32.toInt (f6.at 0 18 (by decide))
  have t6_387_15 := congrArg Int32.toInt (f6.at 387 15 (by decide))
  have gVK := gVK.fr f6 (by decide)
  have gVN := gVN.fr f6 (by decide) fL6 (by decide)
  rw [← show (σ 1 5).toInt = (σ 387 2).toInt by omega] at ho6_0
  have gTE := gTE.fr f6 (by decide) (by omega) (by omega)
  refine lv_pop hx hb dL_law_1488 rfl ?_
  refine lv_goto (tgt := 1492) hx hb dL_law_1489 (by decide) ?_
  exact Kc σ6 τ H6 locs6 (cells) (slots) ls ⟨hR, gRI, gSI, gSIK, gBI, (by omega), gTE, gRV, gVK, gVN, (by omega)⟩ hP hS (by omega) (by omega) (lv_sub hl [0, 1, 2, 3, 4] rfl)
set_option maxHeartbeats 8000000 in
theorem LB_loop (p : Program) (l : Launch) (e : Env) (s : State) (m : MethodId) (below : List Frame) (meth : Method) (c : Code) (b L : Nat) (xs : Nat → Int32) (D : va_G) (cA : Nat → ClassId) (ad : Nat → Nat) (C : LC p l s m meth c b L xs D cA ad) (hr : meth.sig.returnType = ret) (hk : meth.locks = false) (hL : L ≤ 3072) : ∀ (n : Nat) (i : Int32) (ni : Nat), i.toInt = (ni : Int) → ni ≤ 3072 → 3100 - ni < n → LJ p l e s m below meth c b L xs D cA ad i 23 := by
  intro n
  induction n with
  | zero => intro i ni _ _ h; exact absurd h (Nat.not_lt_zero _)
  | succ n ih =>
    intro i ni ei hni hm σ τ H locs cells slots ls hli hP hS hcc hss hl
    obtain ⟨hx, hb, hml, hown, hts, hX, hbl, hK, hI, hA, hV, hl0⟩ := id C
    refine lv_iload hx hb dL_law_23 (lv_at hl 4 rfl) ?_
    refine lv_aload_n hx hb dL_law_25 rfl (lv_at hl 0 rfl) ?_
    refine va_slen hx hb hX hbl (Nat.not_le.mpr hbl) hS dL_law_26 ?_
    have eL : (Int32.ofNat L).toInt = (L : Int) := Int32.toInt_ofNat_of_lt (by omega)
    generalize Int32.ofNat L = zL at eL ⊢
    refine r_bipush hx hb dL_law_27 (by decide) (fun z6 e6 => ?_)
    refine r_isub hx hb dL_law_29 (by omega) (fun zm em => ?_)
    refine r_icmp_gt (tgt := 1498) hx hb dL_law_30 (by decide) (fun cq => ?_) (fun cq => ?_)
    · refine lv_iconst (v := 1) hx hb dL_law_1498 (by decide) ?_
      refine va_forget (fun q hq => hS.2.2 q hq) ?_
      refine W.widen (k := 601024) (n := 7293034) (by omega) (by omega) ?_
      exact lw_ret hx hb hr hk dL_law_1499
    have hn6 : ni + 6 ≤ L := by omega
    have Kc : LK p l e s m below meth c b L xs D cA ad i := by
      intro σ1 τ1 H1 locs1 cells1 slots1 ls1 hli1 hP1 hS1 hc1 hs1 hl1
      refine r_iinc (k := 4) (lv1 := fun z => [(4, .int z), (0, .ref b), (1, .ref (ad 0)), (2, .ref (ad 387)), (3, .ref (ad 406))]) hx hb dL_law_1492 hl1 rfl (by decide) (fun _ => rfl) (by decide) (by omega) (fun z ls2 ez hl2 => ?_)
      refine lv_goto (tgt := 23) hx hb dL_law_1495 (by decide) ?_
      exact ih z (ni + 6) (by omega) (by omega) (by omega) σ1 τ1 H1 locs1 cells1 slots1 ls2 hli1 hP1 hS1 (by omega) (by omega) (lv_sub hl2 [1, 2, 3, 4, 0] rfl)
    refine lv_aload_n hx hb dL_law_33 rfl (lv_at hl 0 rfl) ?_
    refine lv_iload hx hb dL_law_34 (lv_at hl 4 rfl) ?_
    refine q_scr (j := ni) hx hb hX hbl hS ei (by omega) dL_law_36 ?_
    refine r_bipush hx hb dL_law_37 (by decide) (fun z63 e63 => ?_)
    refine r_iand (w := 63) hx hb 6 dL_law_39 (by omega) (by decide) (fun zs es => ?_)
    by_cases c0 : zs.toInt = 0
    · refine lv_tableIn (off := 188) (tgt := 228) hx hb dL_law_40 (by omega) (by omega) (by rw [c0]; rfl) (by decide) ?_
      exact LB_0 p l e s m below meth c b L xs D cA ad C i ni ei hL hn6 Kc σ τ H locs cells slots ls hli hP hS hcc hss hl
    by_cases c1 : zs.toInt = 1
    · refine lv_tableIn (off := 261) (tgt := 301) hx hb dL_law_40 (by omega) (by omega) (by rw [c1]; rfl) (by decide) ?_
      exact LB_1 p l e s m below meth c b L xs D cA ad C i ni ei hL hn6 Kc σ τ H locs cells slots ls hli hP hS hcc hss hl
    by_cases c2 : zs.toInt = 2
    · refine lv_tableIn (off := 286) (tgt := 326) hx hb dL_law_40 (by omega) (by omega) (by rw [c2]; rfl) (by decide) ?_
      exact LB_2 p l e s m below meth c b L xs D cA ad C i ni ei hL hn6 Kc σ τ H locs cells slots ls hli hP hS hcc hss hl
    by_cases c3 : zs.toInt = 3
    · refine lv_tableIn (off := 299) (tgt := 339) hx hb dL_law_40 (by omega) (by omega) (by rw [c3]; rfl) (by decide) ?_
      exact LB_3 p l e s m below meth c b L xs D cA ad C i ni ei hL hn6 Kc σ τ H locs cells slots ls hli hP hS hcc hss hl
    by_cases c4 : zs.toInt = 4
    · refine lv_tableIn (off := 312) (tgt := 352) hx hb dL_law_40 (by omega) (by omega) (by rw [c4]; rfl) (by decide) ?_
      exact LB_4 p l e s m below meth c b L xs D cA ad C i ni ei hL hn6 Kc σ τ H locs cells slots ls hli hP hS hcc hss hl
    by_cases c5 : zs.toInt = 5
    · refine lv_tableIn (off := 349) (tgt := 389) hx hb dL_law_40 (by omega) (by omega) (by rw [c5]; rfl) (by decide) ?_
      exact LB_5 p l e s m below meth c b L xs D cA ad C i ni ei hL hn6 Kc σ τ H locs cells slots ls hli hP hS hcc hss hl
    by_cases c6 : zs.toInt = 6
    · refine lv_tableIn (off := 389) (tgt := 429) hx hb dL_law_40 (by omega) (by omega) (by rw [c6]; rfl) (by decide) ?_
      exact LB_6 p l e s m below meth c b L xs D cA ad C i ni ei hL hn6 Kc σ τ H locs cells slots ls hli hP hS hcc hss hl
    by_cases c7 : zs.toInt = 7
    · refine lv_tableIn (off := 426) (tgt := 466) hx hb dL_law_40 (by omega) (by omega) (by rw [c7]; rfl) (by decide) ?_
      exact LB_7 p l e s m below meth c b L xs D cA ad C i ni ei hL hn6 Kc σ τ H locs cells slots ls hli hP hS hcc hss hl
    by_cases c8 : zs.toInt = 8
    · refine lv_tableIn (off := 475) (tgt := 515) hx hb dL_law_40 (by omega) (by omega) (by rw [c8]; rfl) (by decide) ?_
      exact LB_8 p l e s m below meth c b L xs D cA ad C i ni ei hL hn6 Kc σ τ H locs cells slots ls hli hP hS hcc hss hl
    by_cases c9 : zs.toInt = 9
    · refine lv_tableIn (off := 500) (tgt := 540) hx hb dL_law_40 (by omega) (by omega) (by rw [c9]; rfl) (by decide) ?_
      exact LB_9 p l e s m below meth c b L xs D cA ad C i ni ei hL hn6 Kc σ τ H locs cells slots ls hli hP hS hcc hss hl
    by_cases c10 : zs.toInt = 10
    · refine lv_tableIn (off := 525) (tgt := 565) hx hb dL_law_40 (by omega) (by omega) (by rw [c10]; rfl) (by decide) ?_
      exact LB_10 p l e s m below meth c b L xs D cA ad C i ni ei hL hn6 Kc σ τ H locs cells slots ls hli hP hS hcc hss hl
    by_cases c11 : zs.toInt = 11
    · refine lv_tableIn (off := 550) (tgt := 590) hx hb dL_law_40 (by omega) (by omega) (by rw [c11]; rfl) (by decide) ?_
      exact LB_11 p l e s m below meth c b L xs D cA ad C i ni ei hL hn6 Kc σ τ H locs cells slots ls hli hP hS hcc hss hl
    by_cases c12 : zs.toInt = 12
    · refine lv_tableIn (off := 587) (tgt := 627) hx hb dL_law_40 (by omega) (by omega) (by rw [c12]; rfl) (by decide) ?_
      exact LB_12 p l e s m below meth c b L xs D cA ad C i ni ei hL hn6 Kc σ τ H locs cells slots ls hli hP hS hcc hss hl
    by_cases c13 : zs.toInt = 13
    · refine lv_tableIn (off := 624) (tgt := 664) hx hb dL_law_40 (by omega) (by omega) (by rw [c13]; rfl) (by decide) ?_
      exact LB_13 p l e s m below meth c b L xs D cA ad C i ni ei hL hn6 Kc σ τ H locs cells slots ls hli hP hS hcc hss hl
    by_cases c14 : zs.toInt = 14
    · refine lv_tableIn (off := 661) (tgt := 701) hx hb dL_law_40 (by omega) (by omega) (by rw [c14]; rfl) (by decide) ?_
      exact LB_14 p l e s m below meth c b L xs D cA ad C i ni ei hL hn6 Kc σ τ H locs cells slots ls hli hP hS hcc hss hl
    by_cases c15 : zs.toInt = 15
    · refine lv_tableIn (off := 674) (tgt := 714) hx hb dL_law_40 (by omega) (by omega) (by rw [c15]; rfl) (by decide) ?_
      exact LB_15 p l e s m below meth c b L xs D cA ad C i ni ei hL hn6 Kc σ τ H locs cells slots ls hli hP hS hcc hss hl
    by_cases c16 : zs.toInt = 16
    · refine lv_tableIn (off := 687) (tgt := 727) hx hb dL_law_40 (by omega) (by omega) (by rw [c16]; rfl) (by decide) ?_
      exact LB_16 p l e s m below meth c b L xs D cA ad C i ni ei hL hn6 Kc σ τ H locs cells slots ls hli hP hS hcc hss hl
    by_cases c17 : zs.toInt = 17
    · refine lv_tableIn (off := 736) (tgt := 776) hx hb dL_law_40 (by omega) (by omega) (by rw [c17]; rfl) (by decide) ?_
      exact LB_17 p l e s m below meth c b L xs D cA ad C i ni ei hL hn6 Kc σ τ H locs cells slots ls hli hP hS hcc hss hl
    by_cases c18 : zs.toInt = 18
    · refine lv_tableIn (off := 785) (tgt := 825) hx hb dL_law_40 (by omega) (by omega) (by rw [c18]; rfl) (by decide) ?_
      exact LB_18 p l e s m below meth c b L xs D cA ad C i ni ei hL hn6 Kc σ τ H locs cells slots ls hli hP hS hcc hss hl
    by_cases c19 : zs.toInt = 19
    · refine lv_tableIn (off := 822) (tgt := 862) hx hb dL_law_40 (by omega) (by omega) (by rw [c19]; rfl) (by decide) ?_
      exact LB_19 p l e s m below meth c b L xs D cA ad C i ni ei hL hn6 Kc σ τ H locs cells slots ls hli hP hS hcc hss hl
    by_cases c20 : zs.toInt = 20
    · refine lv_tableIn (off := 859) (tgt := 899) hx hb dL_law_40 (by omega) (by omega) (by rw [c20]; rfl) (by decide) ?_
      exact LB_20 p l e s m below meth c b L xs D cA ad C i ni ei hL hn6 Kc σ τ H locs cells slots ls hli hP hS hcc hss hl
    by_cases c21 : zs.toInt = 21
    · refine lv_tableIn (off := 872) (tgt := 912) hx hb dL_law_40 (by omega) (by omega) (by rw [c21]; rfl) (by decide) ?_
      exact LB_21 p l e s m below meth c b L xs D cA ad C i ni ei hL hn6 Kc σ τ H locs cells slots ls hli hP hS hcc hss hl
    by_cases c22 : zs.toInt = 22
    · refine lv_tableIn (off := 897) (tgt := 937) hx hb dL_law_40 (by omega) (by omega) (by rw [c22]; rfl) (by decide) ?_
      exact LB_22 p l e s m below meth c b L xs D cA ad C i ni ei hL hn6 Kc σ τ H locs cells slots ls hli hP hS hcc hss hl
    by_cases c23 : zs.toInt = 23
    · refine lv_tableIn (off := 922) (tgt := 962) hx hb dL_law_40 (by omega) (by omega) (by rw [c23]; rfl) (by decide) ?_
      exact LB_23 p l e s m below meth c b L xs D cA ad C i ni ei hL hn6 Kc σ τ H locs cells slots ls hli hP hS hcc hss hl
    by_cases c24 : zs.toInt = 24
    · refine lv_tableIn (off := 959) (tgt := 999) hx hb dL_law_40 (by omega) (by omega) (by rw [c24]; rfl) (by decide) ?_
      exact LB_24 p l e s m below meth c b L xs D cA ad C i ni ei hL hn6 Kc σ τ H locs cells slots ls hli hP hS hcc hss hl
    by_cases c25 : zs.toInt = 25
    · refine lv_tableIn (off := 999) (tgt := 1039) hx hb dL_law_40 (by omega) (by omega) (by rw [c25]; rfl) (by decide) ?_
      exact LB_25 p l e s m below meth c b L xs D cA ad C i ni ei hL hn6 Kc σ τ H locs cells slots ls hli hP hS hcc hss hl
    by_cases c26 : zs.toInt = 26
    · refine lv_tableIn (off := 1024) (tgt := 1064) hx hb dL_law_40 (by omega) (by omega) (by rw [c26]; rfl) (by decide) ?_
      exact LB_26 p l e s m below meth c b L xs D cA ad C i ni ei hL hn6 Kc σ τ H locs cells slots ls hli hP hS hcc hss hl
    by_cases c27 : zs.toInt = 27
    · refine lv_tableIn (off := 1049) (tgt := 1089) hx hb dL_law_40 (by omega) (by omega) (by rw [c27]; rfl) (by decide) ?_
      exact LB_27 p l e s m below meth c b L xs D cA ad C i ni ei hL hn6 Kc σ τ H locs cells slots ls hli hP hS hcc hss hl
    by_cases c28 : zs.toInt = 28
    · refine lv_tableIn (off := 1077) (tgt := 1117) hx hb dL_law_40 (by omega) (by omega) (by rw [c28]; rfl) (by decide) ?_
      exact LB_28 p l e s m below meth c b L xs D cA ad C i ni ei hL hn6 Kc σ τ H locs cells slots ls hli hP hS hcc hss hl
    by_cases c29 : zs.toInt = 29
    · refine lv_tableIn (off := 1090) (tgt := 1130) hx hb dL_law_40 (by omega) (by omega) (by rw [c29]; rfl) (by decide) ?_
      exact LB_29 p l e s m below meth c b L xs D cA ad C i ni ei hL hn6 Kc σ τ H locs cells slots ls hli hP hS hcc hss hl
    by_cases c30 : zs.toInt = 30
    · refine lv_tableIn (off := 1115) (tgt := 1155) hx hb dL_law_40 (by omega) (by omega) (by rw [c30]; rfl) (by decide) ?_
      exact LB_30 p l e s m below meth c b L xs D cA ad C i ni ei hL hn6 Kc σ τ H locs cells slots ls hli hP hS hcc hss hl
    by_cases c31 : zs.toInt = 31
    · refine lv_tableIn (off := 1140) (tgt := 1180) hx hb dL_law_40 (by omega) (by omega) (by rw [c31]; rfl) (by decide) ?_
      exact LB_31 p l e s m below meth c b L xs D cA ad C i ni ei hL hn6 Kc σ τ H locs cells slots ls hli hP hS hcc hss hl
    by_cases c32 : zs.toInt = 32
    · refine lv_tableIn (off := 1153) (tgt := 1193) hx hb dL_law_40 (by omega) (by omega) (by rw [c32]; rfl) (by decide) ?_
      exact LB_32 p l e s m below meth c b L xs D cA ad C i ni ei hL hn6 Kc σ τ H locs cells slots ls hli hP hS hcc hss hl
    by_cases c33 : zs.toInt = 33
    · refine lv_tableIn (off := 1166) (tgt := 1206) hx hb dL_law_40 (by omega) (by omega) (by rw [c33]; rfl) (by decide) ?_
      exact LB_33 p l e s m below meth c b L xs D cA ad C i ni ei hL hn6 Kc σ τ H locs cells slots ls hli hP hS hcc hss hl
    by_cases c34 : zs.toInt = 34
    · refine lv_tableIn (off := 1191) (tgt := 1231) hx hb dL_law_40 (by omega) (by omega) (by rw [c34]; rfl) (by decide) ?_
      exact LB_34 p l e s m below meth c b L xs D cA ad C i ni ei hL hn6 Kc σ τ H locs cells slots ls hli hP hS hcc hss hl
    by_cases c35 : zs.toInt = 35
    · refine lv_tableIn (off := 1228) (tgt := 1268) hx hb dL_law_40 (by omega) (by omega) (by rw [c35]; rfl) (by decide) ?_
      exact LB_35 p l e s m below meth c b L xs D cA ad C i ni ei hL hn6 Kc σ τ H locs cells slots ls hli hP hS hcc hss hl
    by_cases c36 : zs.toInt = 36
    · refine lv_tableIn (off := 1289) (tgt := 1329) hx hb dL_law_40 (by omega) (by omega) (by rw [c36]; rfl) (by decide) ?_
      exact LB_36 p l e s m below meth c b L xs D cA ad C i ni ei hL hn6 Kc σ τ H locs cells slots ls hli hP hS hcc hss hl
    by_cases c37 : zs.toInt = 37
    · refine lv_tableIn (off := 1314) (tgt := 1354) hx hb dL_law_40 (by omega) (by omega) (by rw [c37]; rfl) (by decide) ?_
      exact LB_37 p l e s m below meth c b L xs D cA ad C i ni ei hL hn6 Kc σ τ H locs cells slots ls hli hP hS hcc hss hl
    by_cases c38 : zs.toInt = 38
    · refine lv_tableIn (off := 1339) (tgt := 1379) hx hb dL_law_40 (by omega) (by omega) (by rw [c38]; rfl) (by decide) ?_
      exact LB_38 p l e s m below meth c b L xs D cA ad C i ni ei hL hn6 Kc σ τ H locs cells slots ls hli hP hS hcc hss hl
    by_cases c39 : zs.toInt = 39
    · refine lv_tableIn (off := 1352) (tgt := 1392) hx hb dL_law_40 (by omega) (by omega) (by rw [c39]; rfl) (by decide) ?_
      exact LB_39 p l e s m below meth c b L xs D cA ad C i ni ei hL hn6 Kc σ τ H locs cells slots ls hli hP hS hcc hss hl
    by_cases c40 : zs.toInt = 40
    · refine lv_tableIn (off := 1377) (tgt := 1417) hx hb dL_law_40 (by omega) (by omega) (by rw [c40]; rfl) (by decide) ?_
      exact LB_40 p l e s m below meth c b L xs D cA ad C i ni ei hL hn6 Kc σ τ H locs cells slots ls hli hP hS hcc hss hl
    by_cases c41 : zs.toInt = 41
    · refine lv_tableIn (off := 1402) (tgt := 1442) hx hb dL_law_40 (by omega) (by omega) (by rw [c41]; rfl) (by decide) ?_
      exact LB_41 p l e s m below meth c b L xs D cA ad C i ni ei hL hn6 Kc σ τ H locs cells slots ls hli hP hS hcc hss hl
    by_cases c42 : zs.toInt = 42
    · refine lv_tableIn (off := 1427) (tgt := 1467) hx hb dL_law_40 (by omega) (by omega) (by rw [c42]; rfl) (by decide) ?_
      exact LB_42 p l e s m below meth c b L xs D cA ad C i ni ei hL hn6 Kc σ τ H locs cells slots ls hli hP hS hcc hss hl
    refine lv_tableOut (tgt := 1492) hx hb dL_law_40 (by omega) (by decide) ?_
    exact Kc σ τ H locs cells slots ls hli hP hS (by omega) (by omega) hl
