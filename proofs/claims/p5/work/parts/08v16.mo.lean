abbrev L_X12_looksAt_x : List Rc := [(387, 387, 15, 16), (387, 387, 18, 18)]
abbrev LL_X12_looksAt_x : List Rc := []
def P_X12_looksAt_x (σ0 : Nat → Nat → Int32) (τ0 : Nat → Nat → Int64) (a1 : Int32) (a2 : Int32) (b : Nat → Int) (N : Nat) (mo : Nat) (q : Nat) (nm : Nat → Int) (hc : Nat) (mm : Nat → Int) (mc : Nat) (lk : Nat → Int) (n0 : Nat) (oo : Nat) (r : Int32) (σ : Nat → Nat → Int32) (τ : Nat → Nat → Int64) : Prop := Rg σ ∧ Fr L_X12_looksAt_x σ0 σ ∧ FrL LL_X12_looksAt_x τ0 τ ∧ (0 ≤ r.toInt ∧ r.toInt ≤ 1) ∧ (r.toInt = 0 ∨ (0 ≤ (σ 387 18).toInt ∧ (σ 387 18).toInt ≤ 7)) ∧ (r.toInt = 0 ∨ 1 ≤ a2.toInt) ∧ (MO r σ (lokP b N mo lk n0 q) (fun k => (σ 387 18).toInt = k)) ∧ (r.toInt = 0 ∨ (σ 387 15).toInt = (σ0 387 15).toInt) ∧ MK σ τ b N mo q ∧ RV τ  ∧ WJ σ τ nm hc ∧ WK σ τ mm mc
set_option maxHeartbeats 4000000 in
theorem c_X12_looksAt_x (l : Launch) (D : va_G) (cA : Nat → ClassId) (ad : Nat → Nat) (hI : Inj ad) (σ0 : Nat → Nat → Int32) (τ0 : Nat → Nat → Int64) (hR : Rg σ0) (a1 : Int32) (a2 : Int32) (b : Nat → Int) (N : Nat) (mo : Nat) (q : Nat) (nm : Nat → Int) (hc : Nat) (mm : Nat → Int) (mc : Nat) (lk : Nat → Int) (n0 : Nat) (oo : Nat) (ha1 : 0 ≤ a1.toInt ∧ a1.toInt ≤ 8) (ha2 : 0 ≤ a2.toInt ∧ a2.toInt ≤ 8) (hpre0 : (oo = 0 ∧ lk = nm ∧ n0 = hc ∧ a2.toInt = (hc : Int)) ∨ (oo = 8 ∧ lk = mm ∧ n0 = mc ∧ a2.toInt = (mc : Int))) (hpre1 : a1.toInt = (oo : Int)) (hpre2 : 0 ≤ a2.toInt ∧ a2.toInt ≤ 8) (gMK0 : MK σ0 τ0 b N mo q) (gRV0 : RV τ0 ) (gWJ0 : WJ σ0 τ0 nm hc) (gWK0 : WK σ0 τ0 mm mc) : Met l yX12_looksAt wsX12_looksAt ({ frames := 1, cells := 0, slots := 0, locals := 23 } : Room) (WQc D cA ad [.ref (ad 387), .int a1, .int a2] σ0 τ0) (va_Qi (fun (r : Int32) (u : SS) => P_X12_looksAt_x σ0 τ0 a1 a2 b N mo q nm hc mm mc lk n0 oo r u.1 u.2) (WB D cA ad) (AA ad)) 0 0 (AA ad) := by
  refine Met.ofW (cc := cX12_looksAt) (maxL := 3) (ret := (some .boolean)) (by decide) rfl ?_
  intro p e s m args below meth c s₁ B hml hv
  obtain ⟨rfl, hP, hK, hN⟩ := hv
  have C : Cy p s m _ meth c cX12_looksAt 3 wsX12_looksAt RX12 D cA ad (some .boolean) := ⟨B.exec, B.bytes, hml, findClass_of_methodNamed B.named, atoms_spec (ws := wsX12_looksAt) B.pre, hK, B.notSynchronized, B.returns, hI, hN⟩
  have hl := lv_entry ([.ref (ad 387), .int a1, .int a2]) (n := 3) (Nat.le_of_ble_eq_true rfl)
  rw [lg_entry_eq]
  generalize (lg_sl ([.ref (ad 387), .int a1, .int a2]) ++ List.replicate (3 - (lg_sl ([.ref (ad 387), .int a1, .int a2])).length) Slot.unset).toArray = ls at hl ⊢
  have hl : lv_has ls 3 [(0, .ref (ad 387)), (1, .int a1), (2, .int a2)] := hl
  have hS : va_S (AA ad) s.heap s.heap [] := va_S.rf
  have hF : Fr L_X12_looksAt_x σ0 σ0 := Fr.rf
  have hFL : FrL LL_X12_looksAt_x τ0 τ0 := FrL.rf
  have gMK := gMK0
  have gRV := gRV0
  have gWJ := gWJ0
  have gWK := gWK0
  obtain ⟨hx, hb, _, hown, hts, _, hk, hr, _, _⟩ := C
  refine lv_aload_n hx hb dX12_looksAt_0 rfl (lv_at hl 0 rfl) ?_
  refine r_cVi (k := 387) (As := []) (rest := []) ⟨hx, hb, hml, hown, hts⟩ hK hP hN hS (c_X12_isName_v l D cA ad hI σ0 τ0 hR _ _ _ _ gMK gRV) (cwV 0 hts gX12_looksAt_X12_isName rfl rfl rfl (by decide +kernel) ⟨by decide, by decide⟩) (rv_M hK hP (by decide) (by decide)) rfl hl.1 rfl (Nat.le_of_ble_eq_true rfl) dX12_looksAt_1 (Nat.zero_le _) (Nat.zero_le _) (fun r1 u1 H1 locs1 hp1 hP hS => ?_)
  obtain ⟨σ1, τ1⟩ := u1
  obtain ⟨hR, f1, fL1, hq1, hp1_0, gnMK, gnRV⟩ : P_X12_isName_v σ0 τ0 _ _ _ _ r1 σ1 τ1 := hp1
  have hP : va_P D vwCl (gw cA ad σ1 τ1) H1 := hP
  obtain rfl := FrL.nil fL1
  obtain rfl := Fr.nil f1
  refine r_if_ne (tgt := 13) hx hb dX12_looksAt_4 (by decide) (fun c2 => ?_) (fun c2 => ?_)
  · refine lv_aload_n hx hb dX12_looksAt_13 rfl (lv_at hl 0 rfl) ?_
    refine lv_aload_n hx hb dX12_looksAt_14 rfl (lv_at hl 0 rfl) ?_
    refine lv_iload_n hx hb dX12_looksAt_15 rfl (lv_at hl 1 rfl) ?_
    refine lv_iload_n hx hb dX12_looksAt_16 rfl (lv_at hl 2 rfl) ?_
    refine r_cVi (k := 387) (As := [.int a1, .int a2]) (rest := [.ref (ad 387)]) ⟨hx, hb, hml, hown, hts⟩ hK hP hN hS (c_X12_find_x l D cA ad hI σ0 τ0 hR a1 a2 (by omega) (by omega)) (cwV 2 hts gX12_looksAt_X12_find rfl rfl rfl (by decide +kernel) ⟨by decide, by decide⟩) (rv_M hK hP (by decide) (by decide)) rfl hl.1 rfl (Nat.le_of_ble_eq_true rfl) dX12_looksAt_17 (Nat.zero_le _) (Nat.zero_le _) (fun r3 u3 H3 locs3 hp3 hP hS => ?_)
    obtain ⟨σ3, τ3⟩ := u3
    obtain ⟨hR, f3, fL3, hq3, hp3_0, hp3_1⟩ : P_X12_find_x σ0 τ0 a1 a2 r3 σ3 τ3 := hp3
    have hP : va_P D vwCl (gw cA ad σ3 τ3) H3 := hP
    obtain rfl := FrL.nil fL3
    obtain rfl := Fr.nil f3
    have hfd := WK.fa (y := a2.toInt) gWJ gWK gMK (by omega) hpre0 (by omega) rfl hp3_1
    have hfr := fndq_rg lk (wdq b N q) n0
    refine fp_12_18 (k := 387) hx hb hts in_X12_looksAt_12 hown hK hP (by decide) (by decide) (hts _ lk_X12_looksAt_195) hI hR hS dX12_looksAt_20 (fun σ4 H4 locs4 u4 v4 hR hP hS => ?_)
    have hF := hF.puts u4 1 rfl (by decide) (by decide) (by decide) (by decide)
    have gMK := gMK.ag (Agr.put u4 (by decide))
    have gWJ := gWJ.ag (Agr.put u4 (by decide))
    have gWK := gWK.ag (Agr.put u4 (by decide))
    have t5 : (σ4 387 15).toInt = (σ0 387 15).toInt := congrArg Int32.toInt (u4 387 15 (by omega))
    refine lv_aload_n hx hb dX12_looksAt_23 rfl (lv_at hl 0 rfl) ?_
    refine fg_12_18 (k := 387) hx hb hts in_X12_looksAt_12 hown hK hP (by decide) (by decide) (hts _ lk_X12_looksAt_195) dX12_looksAt_24 ?_
    refine r_if_ge (tgt := 38) hx hb dX12_looksAt_27 (by decide) (fun c6 => ?_) (fun c6 => ?_)
    · refine r_iconst hx hb dX12_looksAt_38 (by decide) (fun z7 ez7 => ?_)
      refine lv_goto (tgt := 43) hx hb dX12_looksAt_39 (by decide) ?_
      exact r_zret hx hb hr hK hP hS hk (by omega) dX12_looksAt_43 (show P_X12_looksAt_x σ0 τ0 a1 a2 b N mo q nm hc mm mc lk n0 oo z7 σ4 τ0 from ⟨hR, hF, hFL, by omega, by omega, by omega, by first | exact MO.ofk (by unfold lokP; rw [if_pos (by omega)]) (by omega) (by omega) (by omega) | exact MO.ofk (by unfold lokP; rw [if_neg (by omega), if_pos (by omega)]) (by omega) (by omega) (by omega) | exact MO.ofr (by unfold lokP; rw [if_neg (by omega), if_neg (by omega)]) (by omega) (by omega), by omega, gMK, gRV, gWJ, gWK⟩)
    · refine lv_aload_n hx hb dX12_looksAt_30 rfl (lv_at hl 0 rfl) ?_
      refine r_iconst hx hb dX12_looksAt_31 (by decide) (fun z8 ez8 => ?_)
      refine r_cVi (k := 387) (As := [.int z8]) (rest := []) ⟨hx, hb, hml, hown, hts⟩ hK hP hN hS (c_X12_bad_v l D cA ad hI σ4 τ0 hR z8 _ _ _ _ (by omega) gMK) (cwV 1 hts gX12_looksAt_X12_bad rfl rfl rfl (by decide +kernel) ⟨by decide, by decide⟩) (rv_M hK hP (by decide) (by decide)) rfl hl.1 rfl (Nat.le_of_ble_eq_true rfl) dX12_looksAt_32 (Nat.zero_le _) (Nat.zero_le _) (fun r9 u9 H9 locs9 hp9 hP hS => ?_)
      obtain ⟨σ9, τ9⟩ := u9
      obtain ⟨hR, f9, fL9, hq9, hp9_0, hp9_1, hp9_2, gnMK⟩ : P_X12_bad_v σ4 τ0 z8 _ _ _ _ r9 σ9 τ9 := hp9
      have hP : va_P D vwCl (gw cA ad σ9 τ9) H9 := hP
      obtain rfl := FrL.nil fL9
      have hF := hF.step f9 (by decide)
      have gMK := gMK.ag (Agr.fr f9 (by decide))
      have gWJ := gWJ.ag (Agr.fr f9 (by decide))
      have gWK := gWK.ag (Agr.fr f9 (by decide))
      have t10 : (σ9 387 18).toInt = (σ4 387 18).toInt := congrArg Int32.toInt (f9.at 387 18 (by decide))
      refine r_if_eq (tgt := 42) hx hb dX12_looksAt_35 (by decide) (fun c11 => ?_) (fun c11 => ?_)
      · refine r_iconst hx hb dX12_looksAt_42 (by decide) (fun z12 ez12 => ?_)
        exact r_zret hx hb hr hK hP hS hk (by omega) dX12_looksAt_43 (show P_X12_looksAt_x σ0 τ0 a1 a2 b N mo q nm hc mm mc lk n0 oo z12 σ9 τ0 from ⟨hR, hF, hFL, by omega, by omega, by omega, by first | exact MO.ofk (by unfold lokP; rw [if_pos (by omega)]) (by omega) (by omega) (by omega) | exact MO.ofk (by unfold lokP; rw [if_neg (by omega), if_pos (by omega)]) (by omega) (by omega) (by omega) | exact MO.ofr (by unfold lokP; rw [if_neg (by omega), if_neg (by omega)]) (by omega) (by omega), by omega, gMK, gRV, gWJ, gWK⟩)
      · exfalso; omega
  · refine lv_aload_n hx hb dX12_looksAt_7 rfl (lv_at hl 0 rfl) ?_
    refine r_iconst hx hb dX12_looksAt_8 (by decide) (fun z13 ez13 => ?_)
    refine r_cVi (k := 387) (As := [.int z13]) (rest := []) ⟨hx, hb, hml, hown, hts⟩ hK hP hN hS (c_X12_bad_v l D cA ad hI σ0 τ0 hR z13 _ _ _ _ (by omega) gMK) (cwV 1 hts gX12_looksAt_X12_bad rfl rfl rfl (by decide +kernel) ⟨by decide, by decide⟩) (rv_M hK hP (by decide) (by decide)) rfl hl.1 rfl (Nat.le_of_ble_eq_true rfl) dX12_looksAt_9 (Nat.zero_le _) (Nat.zero_le _) (fun r14 u14 H14 locs14 hp14 hP hS => ?_)
    obtain ⟨σ14, τ14⟩ := u14
    obtain ⟨hR, f14, fL14, hq14, hp14_0, hp14_1, hp14_2, gnMK⟩ : P_X12_bad_v σ0 τ0 z13 _ _ _ _ r14 σ14 τ14 := hp14
    have hP : va_P D vwCl (gw cA ad σ14 τ14) H14 := hP
    obtain rfl := FrL.nil fL14
    have hF := hF.step f14 (by decide)
    have gMK := gMK.ag (Agr.fr f14 (by decide))
    have gWJ := gWJ.ag (Agr.fr f14 (by decide))
    have gWK := gWK.ag (Agr.fr f14 (by decide))
    have t15 : (σ14 387 18).toInt = (σ0 387 18).toInt := congrArg Int32.toInt (f14.at 387 18 (by decide))
    exact r_zret hx hb hr hK hP hS hk (by omega) dX12_looksAt_12 (show P_X12_looksAt_x σ0 τ0 a1 a2 b N mo q nm hc mm mc lk n0 oo r14 σ14 τ0 from ⟨hR, hF, hFL, by omega, by omega, by omega, by first | exact MO.ofk (by unfold lokP; rw [if_pos (by omega)]) (by omega) (by omega) (by omega) | exact MO.ofk (by unfold lokP; rw [if_neg (by omega), if_pos (by omega)]) (by omega) (by omega) (by omega) | exact MO.ofr (by unfold lokP; rw [if_neg (by omega), if_neg (by omega)]) (by omega) (by omega), by omega, gMK, gRV, gWJ, gWK⟩)
abbrev L_X12_takesName_x : List Rc := [(387, 387, 18, 18), (387, 387, 4, 4), (387, 387, 11, 16)]
abbrev LL_X12_takesName_x : List Rc := [(387, 387, 17, 17)]
def P_X12_takesName_x (σ0 : Nat → Nat → Int32) (τ0 : Nat → Nat → Int64) (a1 : Int32) (a2 : Int32) (b : Nat → Int) (N : Nat) (mo : Nat) (q : Nat) (nm : Nat → Int) (hc : Nat) (mm : Nat → Int) (mc : Nat) (lk : Nat → Int) (n0 : Nat) (oo : Nat) (r : Int32) (σ : Nat → Nat → Int32) (τ : Nat → Nat → Int64) : Prop := Rg σ ∧ Fr L_X12_takesName_x σ0 σ ∧ FrL LL_X12_takesName_x τ0 τ ∧ (0 ≤ r.toInt ∧ r.toInt ≤ 1) ∧ ((σ0 387 4).toInt ≤ (σ 387 4).toInt) ∧ (r.toInt = 0 ∨ (σ 387 11).toInt ≠ 3 ∨ (σ0 387 4).toInt < (σ 387 4).toInt) ∧ (r.toInt = 0 ∨ (0 ≤ (σ 387 18).toInt ∧ (σ 387 18).toInt ≤ 7)) ∧ (r.toInt = 0 ∨ 1 ≤ a2.toInt) ∧ (MO r σ (lokP b N mo lk n0 q) (fun k => (σ 387 18).toInt = k ∧ MK σ τ b N mo (nxq b N mo q))) ∧ (r.toInt = 0 ∨ (σ 387 15).toInt = (σ0 387 15).toInt) ∧ MT σ b N mo ∧ RV τ  ∧ WJ σ τ nm hc ∧ WK σ τ mm mc
set_option maxHeartbeats 4000000 in
theorem c_X12_takesName_x (l : Launch) (D : va_G) (cA : Nat → ClassId) (ad : Nat → Nat) (hI : Inj ad) (σ0 : Nat → Nat → Int32) (τ0 : Nat → Nat → Int64) (hR : Rg σ0) (a1 : Int32) (a2 : Int32) (b : Nat → Int) (N : Nat) (mo : Nat) (q : Nat) (nm : Nat → Int) (hc : Nat) (mm : Nat → Int) (mc : Nat) (lk : Nat → Int) (n0 : Nat) (oo : Nat) (ha1 : 0 ≤ a1.toInt ∧ a1.toInt ≤ 8) (ha2 : 0 ≤ a2.toInt ∧ a2.toInt ≤ 8) (hpre0 : (oo = 0 ∧ lk = nm ∧ n0 = hc ∧ a2.toInt = (hc : Int)) ∨ (oo = 8 ∧ lk = mm ∧ n0 = mc ∧ a2.toInt = (mc : Int))) (hpre1 : a1.toInt = (oo : Int)) (hpre2 : 0 ≤ a2.toInt ∧ a2.toInt ≤ 8) (gMT0 : MT σ0 b N mo) (gMK0 : MK σ0 τ0 b N mo q) (gRV0 : RV τ0 ) (gWJ0 : WJ σ0 τ0 nm hc) (gWK0 : WK σ0 τ0 mm mc) : Met l yX12_takesName wsX12_takesName ({ frames := 2, cells := 0, slots := 0, locals := 45 } : Room) (WQc D cA ad [.ref (ad 387), .int a1, .int a2] σ0 τ0) (va_Qi (fun (r : Int32) (u : SS) => P_X12_takesName_x σ0 τ0 a1 a2 b N mo q nm hc mm mc lk n0 oo r u.1 u.2) (WB D cA ad) (AA ad)) 0 0 (AA ad) := by
  refine Met.ofW (cc := cX12_takesName) (maxL := 3) (ret := (some .boolean)) (by decide) rfl ?_
  intro p e s m args below meth c s₁ B hml hv
  obtain ⟨rfl, hP, hK, hN⟩ := hv
  have C : Cy p s m _ meth c cX12_takesName 3 wsX12_takesName RX12 D cA ad (some .boolean) := ⟨B.exec, B.bytes, hml, findClass_of_methodNamed B.named, atoms_spec (ws := wsX12_takesName) B.pre, hK, B.notSynchronized, B.returns, hI, hN⟩
  have hl := lv_entry ([.ref (ad 387), .int a1, .int a2]) (n := 3) (Nat.le_of_ble_eq_true rfl)
  rw [lg_entry_eq]
  generalize (lg_sl ([.ref (ad 387), .int a1, .int a2]) ++ List.replicate (3 - (lg_sl ([.ref (ad 387), .int a1, .int a2])).length) Slot.unset).toArray = ls at hl ⊢
  have hl : lv_has ls 3 [(0, .ref (ad 387)), (1, .int a1), (2, .int a2)] := hl
  have hS : va_S (AA ad) s.heap s.heap [] := va_S.rf
  have hF : Fr L_X12_takesName_x σ0 σ0 := Fr.rf
  have hFL : FrL LL_X12_takesName_x τ0 τ0 := FrL.rf
  have gMT := gMT0
  have gMK := gMK0
  have gRV := gRV0
  have gWJ := gWJ0
  have gWK := gWK0
  obtain ⟨hx, hb, _, hown, hts, _, hk, hr, _, _⟩ := C
  have hrt4 := rg_12_4 hR (k := 387) (by decide) (by decide)
  have hrt3 := rg_12_3 hR (k := 387) (by decide) (by decide)
  refine lv_aload_n hx hb dX12_takesName_0 rfl (lv_at hl 0 rfl) ?_
  refine lv_iload_n hx hb dX12_takesName_1 rfl (lv_at hl 1 rfl) ?_
  refine lv_iload_n hx hb dX12_takesName_2 rfl (lv_at hl 2 rfl) ?_
  refine r_cVi (k := 387) (As := [.int a1, .int a2]) (rest := []) ⟨hx, hb, hml, hown, hts⟩ hK hP hN hS (c_X12_looksAt_x l D cA ad hI σ0 τ0 hR a1 a2 b N mo _ nm hc mm mc lk n0 oo (by omega) (by omega) hpre0 (by omega) (by omega) gMK gRV gWJ gWK) (cwV 2 hts gX12_takesName_X12_looksAt rfl rfl rfl (by decide +kernel) ⟨by decide, by decide⟩) (rv_M hK hP (by decide) (by decide)) rfl hl.1 rfl (Nat.le_of_ble_eq_true rfl) dX12_takesName_3 (Nat.zero_le _) (Nat.zero_le _) (fun r1 u1 H1 locs1 hp1 hP hS => ?_)
  obtain ⟨σ1, τ1⟩ := u1
  obtain ⟨hR, f1, fL1, hq1, hp1_0, hp1_1, hp1_2, hp1_3, gnMK, gnRV, gnWJ, gnWK⟩ : P_X12_looksAt_x σ0 τ0 a1 a2 b N mo _ nm hc mm mc lk n0 oo r1 σ1 τ1 := hp1
  have o1 := hp1_2
  have hP : va_P D vwCl (gw cA ad σ1 τ1) H1 := hP
  obtain rfl := FrL.nil fL1
  have hF := hF.step f1 (by decide)
  have gMK := gMK.ag (Agr.fr f1 (by decide))
  have gMT := gMT.ag (Agr.fr f1 (by decide))
  have gWJ := gWJ.ag (Agr.fr f1 (by decide))
  have gWK := gWK.ag (Agr.fr f1 (by decide))
  have t2 : (σ1 387 4).toInt = (σ0 387 4).toInt := congrArg Int32.toInt (f1.at 387 4 (by decide))
  have t3 : (σ1 387 3).toInt = (σ0 387 3).toInt := congrArg Int32.toInt (f1.at 387 3 (by decide))
  have t4 : (σ1 387 11).toInt = (σ0 387 11).toInt := congrArg Int32.toInt (f1.at 387 11 (by decide))
  refine r_if_ne (tgt := 11) hx hb dX12_takesName_6 (by decide) (fun c5 => ?_) (fun c5 => ?_)
  · replace hp1_0 := hp1_0.resolve_left (by omega)
    replace hp1_1 := hp1_1.resolve_left (by omega)
    replace hp1_3 := hp1_3.resolve_left (by omega)
    obtain ⟨k1, e1, ek⟩ := o1.ye (by omega)
    refine lv_aload_n hx hb dX12_takesName_11 rfl (lv_at hl 0 rfl) ?_
    refine r_cVv (k := 387) (As := []) (rest := []) ⟨hx, hb, hml, hown, hts⟩ hK hP hN hS (c_X12_next_v l D cA ad hI σ1 τ0 hR _ _ _ _ gMK.mp gMT) (cwV 0 hts gX12_takesName_X12_next rfl rfl rfl (by decide +kernel) ⟨by decide, by decide⟩) (rv_M hK hP (by decide) (by decide)) rfl hl.1 rfl (Nat.le_of_ble_eq_true rfl) dX12_takesName_12 (Nat.zero_le _) (Nat.zero_le _) (fun u6 H6 locs6 hp6 hP hS => ?_)
    obtain ⟨σ6, τ6⟩ := u6
    obtain ⟨hR, f6, fL6, hp6_0, hp6_1, hp6_2, hp6_3, gnMT⟩ : P_X12_next_v σ1 τ0 _ _ _ _ σ6 τ6 := hp6
    have hP : va_P D vwCl (gw cA ad σ6 τ6) H6 := hP
    have hFL := hFL.step fL6 (by decide)
    have gRV := gRV.agL (AgrL.fr fL6 (by decide))
    have gWJ := gWJ.agL (AgrL.fr fL6 (by decide))
    have gWK := gWK.agL (AgrL.fr fL6 (by decide))
    have hF := hF.step f6 (by decide)
    have gMT := gMT.ag (Agr.fr f6 (by decide))
    have gWJ := gWJ.ag (Agr.fr f6 (by decide))
    have gWK := gWK.ag (Agr.fr f6 (by decide))
    have t7 : (σ6 387 3).toInt = (σ1 387 3).toInt := congrArg Int32.toInt (f6.at 387 3 (by decide))
    have t8 : (σ6 387 18).toInt = (σ1 387 18).toInt := congrArg Int32.toInt (f6.at 387 18 (by decide))
    have t9 : (σ6 387 15).toInt = (σ1 387 15).toInt := congrArg Int32.toInt (f6.at 387 15 (by decide))
    have hr10 := rg_12_4 hR (k := 387) (by decide) (by decide)
    have gMK := hp6_3
    refine r_iconst hx hb dX12_takesName_15 (by decide) (fun z11 ez11 => ?_)
    exact r_zret hx hb hr hK hP hS hk (by omega) dX12_takesName_16 (show P_X12_takesName_x σ0 τ0 a1 a2 b N mo q nm hc mm mc lk n0 oo z11 σ6 τ6 from ⟨hR, hF, hFL, by omega, by omega, by omega, by omega, by omega, by first | exact MO.ofr e1 (by omega) ⟨by omega, gMK⟩ | (obtain ⟨f, e1, x1, x2⟩ := o1.no (by omega); exact MO.ofl e1 (by omega) x1 x2), by omega, gMT, gRV, gWJ, gWK⟩)
  · clear hp1_0 hp1_1 hp1_3
    refine r_iconst hx hb dX12_takesName_9 (by decide) (fun z12 ez12 => ?_)
    exact r_zret hx hb hr hK hP hS hk (by omega) dX12_takesName_10 (show P_X12_takesName_x σ0 τ0 a1 a2 b N mo q nm hc mm mc lk n0 oo z12 σ1 τ0 from ⟨hR, hF, hFL, by omega, by omega, by omega, by omega, by omega, by first | exact MO.ofr e1 (by omega) ⟨by omega, gMK⟩ | (obtain ⟨f, e1, x1, x2⟩ := o1.no (by omega); exact MO.ofl e1 (by omega) x1 x2), by omega, gMT, gRV, gWJ, gWK⟩)
theorem in_X12_rollLine_12 : ∀ w ∈ u_ws RX12 TX12 47, w ∈ wsX12_rollLine := by decide +kernel
theorem lk_X12_rollLine_115 : Cond.constantLong RX12 115 (427071202675) ∈ wsX12_rollLine := by decide +kernel
theorem lk_X12_rollLine_117 : Cond.constantLong RX12 117 (1752135026) ∈ wsX12_rollLine := by decide +kernel
theorem lk_X12_rollLine_119 : Cond.constantLong RX12 119 (470021465459) ∈ wsX12_rollLine := by decide +kernel
theorem lk_X12_rollLine_121 : Cond.constantLong RX12 121 (126956639187571) ∈ wsX12_rollLine := by decide +kernel
theorem lk_X12_rollLine_123 : Cond.constantLong RX12 123 (426836257907) ∈ wsX12_rollLine := by decide +kernel
theorem lk_X12_rollLine_125 : Cond.constantLong RX12 125 (126892148680051) ∈ wsX12_rollLine := by decide +kernel
theorem lk_X12_rollLine_195 : Cond.fieldLink RX12 195 "CuckooSharesModel" "got" "I" ∈ wsX12_rollLine := by decide +kernel
theorem lk_X12_rollLine_33 : Cond.fieldLink RX12 33 "CuckooSharesModel" "s" "[I" ∈ wsX12_rollLine := by decide +kernel
theorem lk_X12_rollLine_40 : Cond.fieldLink RX12 40 "CuckooSharesModel" "read" "[I" ∈ wsX12_rollLine := by decide +kernel
theorem lk_X12_rollLine_416 : Cond.fieldLink RX12 416 "CuckooSharesModel" "told" "I" ∈ wsX12_rollLine := by decide +kernel
abbrev L_X12_rollLine : List Rc := [(387, 387, 4, 4), (387, 387, 18, 18), (387, 387, 11, 16), (391, 391, 0, 122)]
abbrev LL_X12_rollLine : List Rc := [(387, 387, 17, 17)]
def P_X12_rollLine (σ0 : Nat → Nat → Int32) (τ0 : Nat → Nat → Int64) (b : Nat → Int) (N : Nat) (mo : Nat) (q : Nat) (nm : Nat → Int) (hc : Nat) (mm : Nat → Int) (mc : Nat) (nn : Nat) (r : Int32) (σ : Nat → Nat → Int32) (τ : Nat → Nat → Int64) : Prop := Rg σ ∧ Fr L_X12_rollLine σ0 σ ∧ FrL LL_X12_rollLine τ0 τ ∧ (0 ≤ r.toInt ∧ r.toInt ≤ 1) ∧ ((σ0 387 4).toInt ≤ (σ 387 4).toInt) ∧ (r.toInt = 0 ∨ (σ 387 11).toInt ≠ 3 ∨ (σ0 387 4).toInt < (σ 387 4).toInt) ∧ (r.toInt = 0 ∨ ((σ0 387 34).toInt ≤ 39 ∧ RLs σ0 σ)) ∧ (MO r σ (rolL b N mo nm hc mm mc nn q) (fun q1 => MK σ τ b N mo q1)) ∧ (r.toInt = 0 ∨ (σ 387 15).toInt = (σ0 387 15).toInt) ∧ MT σ b N mo ∧ RV τ  ∧ WJ σ τ nm hc ∧ WK σ τ mm mc
set_option maxHeartbeats 4000000 in
theorem c_X12_rollLine (l : Launch) (D : va_G) (cA : Nat → ClassId) (ad : Nat → Nat) (hI : Inj ad) (σ0 : Nat → Nat → Int32) (τ0 : Nat → Nat → Int64) (hR : Rg σ0) (b : Nat → Int) (N : Nat) (mo : Nat) (q : Nat) (nm : Nat → Int) (hc : Nat) (mm : Nat → Int) (mc : Nat) (nn : Nat) (hpre0 : (σ0 387 34).toInt = (nn : Int)) (hpre1 : nn ≤ 40) (gMT0 : MT σ0 b N mo) (gMK0 : MK σ0 τ0 b N mo q) (gRV0 : RV τ0 ) (gWJ0 : WJ σ0 τ0 nm hc) (gWK0 : WK σ0 τ0 mm mc) : Met l yX12_rollLine wsX12_rollLine ({ frames := 3, cells := 0, slots := 0, locals := 67 } : Room) (WQc D cA ad [.ref (ad 387)] σ0 τ0) (va_Qi (fun (r : Int32) (u : SS) => P_X12_rollLine σ0 τ0 b N mo q nm hc mm mc nn r u.1 u.2) (WB D cA ad) (AA ad)) 0 0 (AA ad) := by
  refine Met.ofW (cc := cX12_rollLine) (maxL := 4) (ret := (some .boolean)) (by decide) rfl ?_
  intro p e s m args below meth c s₁ B hml hv
  obtain ⟨rfl, hP, hK, hN⟩ := hv
  have C : Cy p s m _ meth c cX12_rollLine 4 wsX12_rollLine RX12 D cA ad (some .boolean) := ⟨B.exec, B.bytes, hml, findClass_of_methodNamed B.named, atoms_spec (ws := wsX12_rollLine) B.pre, hK, B.notSynchronized, B.returns, hI, hN⟩
  have hl := lv_entry ([.ref (ad 387)]) (n := 4) (Nat.le_of_ble_eq_true rfl)
  rw [lg_entry_eq]
  generalize (lg_sl ([.ref (ad 387)]) ++ List.replicate (4 - (lg_sl ([.ref (ad 387)])).length) Slot.unset).toArray = ls at hl ⊢
  have hl : lv_has ls 4 [(0, .ref (ad 387))] := hl
  have hS : va_S (AA ad) s.heap s.heap [] := va_S.rf
  have hF : Fr L_X12_rollLine σ0 σ0 := Fr.rf
  have hFL : FrL LL_X12_rollLine τ0 τ0 := FrL.rf
  have gMT := gMT0
  have gMK := gMK0
  have gRV := gRV0
  have gWJ := gWJ0
  have gWK := gWK0
  obtain ⟨hx, hb, _, hown, hts, _, hk, hr, _, _⟩ := C
  have hrt4 := rg_12_4 hR (k := 387) (by decide) (by decide)
  have hrt3 := rg_12_3 hR (k := 387) (by decide) (by decide)
  have hrt34 := rg_12_34 hR (k := 387) (by decide) (by decide)
  have gRXp : RXp σ0 σ0 := fun _ _ => rfl
  have hr34 := rg_12_34 hR (k := 387) (by decide) (by decide)
  have hwj := gWJ.1
  have hwk := gWK.1
  have hwj8 := gWJ.2.1
  have hwk8 := gWK.2.1
  refine r_iconst hx hb dX12_rollLine_0 (by decide) (fun z1 ez1 => ?_)
  refine lv_aload_n hx hb dX12_rollLine_1 rfl (lv_at hl 0 rfl) ?_
  refine fg_12_34 (k := 387) hx hb hts in_X12_rollLine_12 hown hK hP (by decide) (by decide) (hts _ lk_X12_rollLine_416) dX12_rollLine_2 ?_
  refine r_imulL (n := 3) hx hb dX12_rollLine_5 (by omega) (by omega) (fun z2 ez2 => ?_)
  refine lv_istore_n (lv' := [(1, .int z2), (0, .ref (ad 387))]) hx hb dX12_rollLine_6 rfl hl (by decide) rfl (fun ls hl => ?_)
  refine lv_aload_n hx hb dX12_rollLine_7 rfl (lv_at hl 1 rfl) ?_
  refine lv_ldc2 (v := 427071202675) hx hb hown (hts _ lk_X12_rollLine_115) dX12_rollLine_8 ?_
  refine r_cVi (k := 387) (As := [.long (427071202675)]) (rest := []) ⟨hx, hb, hml, hown, hts⟩ hK hP hN hS (c_X12_isWord_v l D cA ad hI σ0 τ0 hR (427071202675) _ _ _ _ 14 (by decide) (by decide) gMK) (cwV 1 hts gX12_rollLine_X12_isWord rfl rfl rfl (by decide +kernel) ⟨by decide, by decide⟩) (rv_M hK hP (by decide) (by decide)) rfl hl.1 rfl (Nat.le_of_ble_eq_true rfl) dX12_rollLine_11 (Nat.zero_le _) (Nat.zero_le _) (fun r3 u3 H3 locs3 hp3 hP hS => ?_)
  obtain ⟨σ3, τ3⟩ := u3
  obtain ⟨hR, f3, fL3, hq3, hp3_0, hp3_1, gnMK⟩ : P_X12_isWord_v σ0 τ0 (427071202675) _ _ _ _ 14 r3 σ3 τ3 := hp3
  have ia1 := hp3_1
  have hP : va_P D vwCl (gw cA ad σ3 τ3) H3 := hP
  obtain rfl := FrL.nil fL3
  obtain rfl := Fr.nil f3
  replace hp3_1 : True := trivial
  refine r_if_eq (tgt := 21) hx hb dX12_rollLine_14 (by decide) (fun c4 => ?_) (fun c4 => ?_)
  · clear hp3_0
    have nia1 := (ia1.resolve_left (fun c => by omega)).2
    clear ia1
    refine lv_aload_n hx hb dX12_rollLine_21 rfl (lv_at hl 1 rfl) ?_
    refine lv_ldc2 (v := 126892148680051) hx hb hown (hts _ lk_X12_rollLine_125) dX12_rollLine_22 ?_
    refine r_cVi (k := 387) (As := [.long (126892148680051)]) (rest := []) ⟨hx, hb, hml, hown, hts⟩ hK hP hN hS (c_X12_isWord_v l D cA ad hI σ0 τ0 hR (126892148680051) _ _ _ _ 19 (by decide) (by decide) gMK) (cwV 1 hts gX12_rollLine_X12_isWord rfl rfl rfl (by decide +kernel) ⟨by decide, by decide⟩) (rv_M hK hP (by decide) (by decide)) rfl hl.1 rfl (Nat.le_of_ble_eq_true rfl) dX12_rollLine_25 (Nat.zero_le _) (Nat.zero_le _) (fun r5 u5 H5 locs5 hp5 hP hS => ?_)
    obtain ⟨σ5, τ5⟩ := u5
    obtain ⟨hR, f5, fL5, hq5, hp5_0, hp5_1, gnMK⟩ : P_X12_isWord_v σ0 τ0 (126892148680051) _ _ _ _ 19 r5 σ5 τ5 := hp5
    have ia2 := hp5_1
    have hP : va_P D vwCl (gw cA ad σ5 τ5) H5 := hP
    obtain rfl := FrL.nil fL5
    obtain rfl := Fr.nil f5
    replace hp5_1 : True := trivial
    refine r_if_eq (tgt := 35) hx hb dX12_rollLine_28 (by decide) (fun c6 => ?_) (fun c6 => ?_)
    · clear hp5_0
      have nia2 := (ia2.resolve_left (fun c => by omega)).2
      clear ia2
      refine lv_aload_n hx hb dX12_rollLine_35 rfl (lv_at hl 1 rfl) ?_
      refine lv_ldc2 (v := 1752135026) hx hb hown (hts _ lk_X12_rollLine_117) dX12_rollLine_36 ?_
      refine r_cVi (k := 387) (As := [.long (1752135026)]) (rest := []) ⟨hx, hb, hml, hown, hts⟩ hK hP hN hS (c_X12_isWord_v l D cA ad hI σ0 τ0 hR (1752135026) _ _ _ _ 15 (by decide) (by decide) gMK) (cwV 1 hts gX12_rollLine_X12_isWord rfl rfl rfl (by decide +kernel) ⟨by decide, by decide⟩) (rv_M hK hP (by decide) (by decide)) rfl hl.1 rfl (Nat.le_of_ble_eq_true rfl) dX12_rollLine_39 (Nat.zero_le _) (Nat.zero_le _) (fun r7 u7 H7 locs7 hp7 hP hS => ?_)
      obtain ⟨σ7, τ7⟩ := u7
      obtain ⟨hR, f7, fL7, hq7, hp7_0, hp7_1, gnMK⟩ : P_X12_isWord_v σ0 τ0 (1752135026) _ _ _ _ 15 r7 σ7 τ7 := hp7
      have ia3 := hp7_1
      have hP : va_P D vwCl (gw cA ad σ7 τ7) H7 := hP
      obtain rfl := FrL.nil fL7
      obtain rfl := Fr.nil f7
      replace hp7_1 : True := trivial
      refine r_if_eq (tgt := 49) hx hb dX12_rollLine_42 (by decide) (fun c8 => ?_) (fun c8 => ?_)
      · clear hp7_0
        have nia3 := (ia3.resolve_left (fun c => by omega)).2
        clear ia3
        refine r_iconst hx hb dX12_rollLine_49 (by decide) (fun z9 ez9 => ?_)
        refine lv_istore_n (lv' := [(2, .int z9), (1, .int z2), (0, .ref (ad 387))]) hx hb dX12_rollLine_50 rfl hl (by decide) rfl (fun ls hl => ?_)
        refine lv_iload_n hx hb dX12_rollLine_51 rfl (lv_at hl 0 rfl) ?_
        refine r_if_lt (tgt := 130) hx hb dX12_rollLine_52 (by decide) (fun c10 => ?_) (fun c10 => ?_)
        · refine lv_aload_n hx hb dX12_rollLine_130 rfl (lv_at hl 2 rfl) ?_
          refine r_bipush hx hb dX12_rollLine_131 (by decide) (fun z11 ez11 => ?_)
          refine lv_aload_n hx hb dX12_rollLine_133 rfl (lv_at hl 2 rfl) ?_
          refine fg_12_6 (k := 387) hx hb hts in_X12_rollLine_12 hown hK hP (by decide) (by decide) (hts _ lk_X12_rollLine_33) dX12_rollLine_134 ?_
          refine r_iconst hx hb dX12_rollLine_137 (by decide) (fun z12 ez12 => ?_)
          refine ad_ms (k := 389) (j := 1) hx hb hK hP (by decide) (by decide) (by omega) (by omega) dX12_rollLine_138 ?_
          have hr13 := ra_ms_0 hR (k := 389) (j := 1) (by decide) (by decide) (by decide) (by decide)
          have hwk := gWK.1
          refine r_cVi (k := 387) (As := [.int z11, .int (σ0 389 1)]) (rest := []) ⟨hx, hb, hml, hown, hts⟩ hK hP hN hS (c_X12_looksAt_x l D cA ad hI σ0 τ0 hR z11 (σ0 389 1) b N mo _ nm hc mm mc mm mc 8 (by omega) (by omega) (by first | exact Or.inl ⟨rfl, rfl, rfl, by omega⟩ | exact Or.inr ⟨rfl, rfl, rfl, by omega⟩) (by omega) (by omega) gMK gRV gWJ gWK) (cwV 2 hts gX12_rollLine_X12_looksAt rfl rfl rfl (by decide +kernel) ⟨by decide, by decide⟩) (rv_M hK hP (by decide) (by decide)) rfl hl.1 rfl (Nat.le_of_ble_eq_true rfl) dX12_rollLine_139 (Nat.zero_le _) (Nat.zero_le _) (fun r14 u14 H14 locs14 hp14 hP hS => ?_)
          obtain ⟨σ14, τ14⟩ := u14
          obtain ⟨hR, f14, fL14, hq14, hp14_0, hp14_1, hp14_2, hp14_3, gnMK, gnRV, gnWJ, gnWK⟩ : P_X12_looksAt_x σ0 τ0 z11 (σ0 389 1) b N mo _ nm hc mm mc mm mc 8 r14 σ14 τ14 := hp14
          have o1 := hp14_2
          have hP : va_P D vwCl (gw cA ad σ14 τ14) H14 := hP
          obtain rfl := FrL.nil fL14
          have hF := hF.step f14 (by decide)
          have gMK := gMK.ag (Agr.fr f14 (by decide))
          have gMT := gMT.ag (Agr.fr f14 (by decide))
          have gRXp := RXp.fr gRXp (by omega) f14 (by decide)
          have gWJ := gWJ.ag (Agr.fr f14 (by decide))
          have gWK := gWK.ag (Agr.fr f14 (by decide))
          have t15 : (σ14 387 4).toInt = (σ0 387 4).toInt := congrArg Int32.toInt (f14.at 387 4 (by decide))
          have t16 : (σ14 387 3).toInt = (σ0 387 3).toInt := congrArg Int32.toInt (f14.at 387 3 (by decide))
          have t17 : (σ14 387 11).toInt = (σ0 387 11).toInt := congrArg Int32.toInt (f14.at 387 11 (by decide))
          have t18 : (σ14 387 34).toInt = (σ0 387 34).toInt := congrArg Int32.toInt (f14.at 387 34 (by decide))
          have t19 : (σ14 389 1).toInt = (σ0 389 1).toInt := congrArg Int32.toInt (f14.at 389 1 (by decide))
          refine r_if_ne (tgt := 147) hx hb dX12_rollLine_142 (by decide) (fun c20 => ?_) (fun c20 => ?_)
          · replace hp14_0 := hp14_0.resolve_left (by omega)
            replace hp14_1 := hp14_1.resolve_left (by omega)
            replace hp14_3 := hp14_3.resolve_left (by omega)
            obtain ⟨k1, e1, ek1⟩ := o1.ye (by omega)
            refine lv_aload_n hx hb dX12_rollLine_147 rfl (lv_at hl 2 rfl) ?_
            refine fg_12_34 (k := 387) hx hb hts in_X12_rollLine_12 hown hK hP (by decide) (by decide) (hts _ lk_X12_rollLine_416) dX12_rollLine_148 ?_
            refine r_bipush hx hb dX12_rollLine_151 (by decide) (fun z21 ez21 => ?_)
            refine r_icmp_ne (tgt := 162) hx hb dX12_rollLine_153 (by decide) (fun c22 => ?_) (fun c22 => ?_)
            · refine lv_aload_n hx hb dX12_rollLine_162 rfl (lv_at hl 2 rfl) ?_
              refine fg_12_8 (k := 387) hx hb hts in_X12_rollLine_12 hown hK hP (by decide) (by decide) (hts _ lk_X12_rollLine_40) dX12_rollLine_163 ?_
              refine lv_iload_n hx hb dX12_rollLine_166 rfl (lv_at hl 1 rfl) ?_
              refine r_iconst hx hb dX12_rollLine_167 (by decide) (fun z23 ez23 => ?_)
              refine r_iadd hx hb dX12_rollLine_168 (by omega) (fun z24 ez24 => ?_)
              refine lv_aload_n hx hb dX12_rollLine_169 rfl (lv_at hl 2 rfl) ?_
              refine fg_12_18 (k := 387) hx hb hts in_X12_rollLine_12 hown hK hP (by decide) (by decide) (hts _ lk_X12_rollLine_195) dX12_rollLine_170 ?_
              obtain ⟨j25, ej25⟩ : ∃ j : Nat, z24.toInt = (j : Int) := ⟨_, ti_nat (by omega)⟩
              refine as_mread (k := 391) (j := j25) hx hb hK hP hI hR hS (by decide) (by decide) ej25 (by omega) dX12_rollLine_173 (fun σ26 H26 locs26 u26 v26 hR hP hS => ?_)
              have hF := hF.puts u26 3 rfl (by decide) (by decide) (by omega) (by omega)
              have gMK := gMK.ag (Agr.putV u26 (by intro q hq; simp only [Gd_MK, List.mem_cons, List.not_mem_nil, or_false] at hq; rcases hq with rfl | rfl | rfl <;> dsimp only [inRc] <;> omega))
              have gMT := gMT.ag (Agr.putV u26 (by intro q hq; simp only [Gd_MT, List.mem_cons, List.not_mem_nil, or_false] at hq; rcases hq with rfl | rfl | rfl <;> dsimp only [inRc] <;> omega))
              have gRXp := RXp.st gRXp u26 (by omega)
              have gWJ := gWJ.ag (Agr.putV u26 (by intro q hq; simp only [Gd_WJ, List.mem_cons, List.not_mem_nil, or_false] at hq; rcases hq with rfl <;> dsimp only [inRc] <;> omega))
              have gWK := gWK.ag (Agr.putV u26 (by intro q hq; simp only [Gd_WK, List.mem_cons, List.not_mem_nil, or_false] at hq; rcases hq with rfl <;> dsimp only [inRc] <;> omega))
              have t27 : (σ26 387 4).toInt = (σ14 387 4).toInt := congrArg Int32.toInt (u26 387 4 (by omega))
              have t28 : (σ26 387 3).toInt = (σ14 387 3).toInt := congrArg Int32.toInt (u26 387 3 (by omega))
              have t29 : (σ26 387 11).toInt = (σ14 387 11).toInt := congrArg Int32.toInt (u26 387 11 (by omega))
              have t30 : (σ26 387 34).toInt = (σ14 387 34).toInt := congrArg Int32.toInt (u26 387 34 (by omega))
              have t31 : (σ26 389 1).toInt = (σ14 389 1).toInt := congrArg Int32.toInt (u26 389 1 (by omega))
              have t32 : (σ26 387 18).toInt = (σ14 387 18).toInt := congrArg Int32.toInt (u26 387 18 (by omega))
              have t33 : (σ26 387 15).toInt = (σ14 387 15).toInt := congrArg Int32.toInt (u26 387 15 (by omega))
              refine lv_aload_n hx hb dX12_rollLine_174 rfl (lv_at hl 2 rfl) ?_
              refine r_cVv (k := 387) (As := []) (rest := []) ⟨hx, hb, hml, hown, hts⟩ hK hP hN hS (c_X12_next_v l D cA ad hI σ26 τ0 hR _ _ _ _ gMK.mp gMT) (cwV 0 hts gX12_rollLine_X12_next rfl rfl rfl (by decide +kernel) ⟨by decide, by decide⟩) (rv_M hK hP (by decide) (by decide)) rfl hl.1 rfl (Nat.le_of_ble_eq_true rfl) dX12_rollLine_175 (Nat.zero_le _) (Nat.zero_le _) (fun u34 H34 locs34 hp34 hP hS => ?_)
              obtain ⟨σ34, τ34⟩ := u34
              obtain ⟨hR, f34, fL34, hp34_0, hp34_1, hp34_2, hp34_3, gnMT⟩ : P_X12_next_v σ26 τ0 _ _ _ _ σ34 τ34 := hp34
              have hP : va_P D vwCl (gw cA ad σ34 τ34) H34 := hP
              have hFL := hFL.step fL34 (by decide)
              have gRV := gRV.agL (AgrL.fr fL34 (by decide))
              have gWJ := gWJ.agL (AgrL.fr fL34 (by decide))
              have gWK := gWK.agL (AgrL.fr fL34 (by decide))
              have hF := hF.step f34 (by decide)
              have gMT := gMT.ag (Agr.fr f34 (by decide))
              have gRXp := RXp.fr gRXp (by omega) f34 (by decide)
              have gWJ := gWJ.ag (Agr.fr f34 (by decide))
              have gWK := gWK.ag (Agr.fr f34 (by decide))
              have t35 : (σ34 387 3).toInt = (σ26 387 3).toInt := congrArg Int32.toInt (f34.at 387 3 (by decide))
              have t36 : (σ34 387 34).toInt = (σ26 387 34).toInt := congrArg Int32.toInt (f34.at 387 34 (by decide))
              have t37 : (σ34 389 1).toInt = (σ26 389 1).toInt := congrArg Int32.toInt (f34.at 389 1 (by decide))
              have t38 : (σ34 387 18).toInt = (σ26 387 18).toInt := congrArg Int32.toInt (f34.at 387 18 (by decide))
              have t39 : (σ34 387 15).toInt = (σ26 387 15).toInt := congrArg Int32.toInt (f34.at 387 15 (by decide))
              have t40 : (σ34 391 j25).toInt = (σ26 391 j25).toInt := congrArg Int32.toInt (f34.atV 391 j25 (by intro q hq; simp only [L_X12_next_v, List.mem_cons, List.not_mem_nil, or_false] at hq; rcases hq with rfl | rfl <;> dsimp only <;> omega))
              have hr41 := rg_12_4 hR (k := 387) (by decide) (by decide)
              have gMK := hp34_3
              refine lv_aload_n hx hb dX12_rollLine_178 rfl (lv_at hl 2 rfl) ?_
              refine lv_ldc2 (v := 470021465459) hx hb hown (hts _ lk_X12_rollLine_119) dX12_rollLine_179 ?_
              refine r_cVi (k := 387) (As := [.long (470021465459)]) (rest := []) ⟨hx, hb, hml, hown, hts⟩ hK hP hN hS (c_X12_isWord_v l D cA ad hI σ34 τ34 hR (470021465459) _ _ _ _ 16 (by decide) (by decide) gMK) (cwV 1 hts gX12_rollLine_X12_isWord rfl rfl rfl (by decide +kernel) ⟨by decide, by decide⟩) (rv_M hK hP (by decide) (by decide)) rfl hl.1 rfl (Nat.le_of_ble_eq_true rfl) dX12_rollLine_182 (Nat.zero_le _) (Nat.zero_le _) (fun r42 u42 H42 locs42 hp42 hP hS => ?_)
              obtain ⟨σ42, τ42⟩ := u42
              obtain ⟨hR, f42, fL42, hq42, hp42_0, hp42_1, gnMK⟩ : P_X12_isWord_v σ34 τ34 (470021465459) _ _ _ _ 16 r42 σ42 τ42 := hp42
              have ia4 := hp42_1
              have hP : va_P D vwCl (gw cA ad σ42 τ42) H42 := hP
              obtain rfl := FrL.nil fL42
              obtain rfl := Fr.nil f42
              replace hp42_1 : True := trivial
              refine r_if_eq (tgt := 192) hx hb dX12_rollLine_185 (by decide) (fun c43 => ?_) (fun c43 => ?_)
              · clear hp42_0
                have nia4 := (ia4.resolve_left (fun c => by omega)).2
                clear ia4
                refine lv_aload_n hx hb dX12_rollLine_192 rfl (lv_at hl 2 rfl) ?_
                refine lv_ldc2 (v := 126956639187571) hx hb hown (hts _ lk_X12_rollLine_121) dX12_rollLine_193 ?_
                refine r_cVi (k := 387) (As := [.long (126956639187571)]) (rest := []) ⟨hx, hb, hml, hown, hts⟩ hK hP hN hS (c_X12_isWord_v l D cA ad hI σ34 τ34 hR (126956639187571) _ _ _ _ 17 (by decide) (by decide) gMK) (cwV 1 hts gX12_rollLine_X12_isWord rfl rfl rfl (by decide +kernel) ⟨by decide, by decide⟩) (rv_M hK hP (by decide) (by decide)) rfl hl.1 rfl (Nat.le_of_ble_eq_true rfl) dX12_rollLine_196 (Nat.zero_le _) (Nat.zero_le _) (fun r44 u44 H44 locs44 hp44 hP hS => ?_)
                obtain ⟨σ44, τ44⟩ := u44
                obtain ⟨hR, f44, fL44, hq44, hp44_0, hp44_1, gnMK⟩ : P_X12_isWord_v σ34 τ34 (126956639187571) _ _ _ _ 17 r44 σ44 τ44 := hp44
                have ia5 := hp44_1
                have hP : va_P D vwCl (gw cA ad σ44 τ44) H44 := hP
                obtain rfl := FrL.nil fL44
                obtain rfl := Fr.nil f44
                replace hp44_1 : True := trivial
                refine r_if_eq (tgt := 206) hx hb dX12_rollLine_199 (by decide) (fun c45 => ?_) (fun c45 => ?_)
                · clear hp44_0
                  have nia5 := (ia5.resolve_left (fun c => by omega)).2
                  clear ia5
                  refine lv_aload_n hx hb dX12_rollLine_206 rfl (lv_at hl 2 rfl) ?_
                  refine lv_ldc2 (v := 426836257907) hx hb hown (hts _ lk_X12_rollLine_123) dX12_rollLine_207 ?_
                  refine r_cVi (k := 387) (As := [.long (426836257907)]) (rest := []) ⟨hx, hb, hml, hown, hts⟩ hK hP hN hS (c_X12_isWord_v l D cA ad hI σ34 τ34 hR (426836257907) _ _ _ _ 18 (by decide) (by decide) gMK) (cwV 1 hts gX12_rollLine_X12_isWord rfl rfl rfl (by decide +kernel) ⟨by decide, by decide⟩) (rv_M hK hP (by decide) (by decide)) rfl hl.1 rfl (Nat.le_of_ble_eq_true rfl) dX12_rollLine_210 (Nat.zero_le _) (Nat.zero_le _) (fun r46 u46 H46 locs46 hp46 hP hS => ?_)
                  obtain ⟨σ46, τ46⟩ := u46
                  obtain ⟨hR, f46, fL46, hq46, hp46_0, hp46_1, gnMK⟩ : P_X12_isWord_v σ34 τ34 (426836257907) _ _ _ _ 18 r46 σ46 τ46 := hp46
                  have ia6 := hp46_1
                  have hP : va_P D vwCl (gw cA ad σ46 τ46) H46 := hP
                  obtain rfl := FrL.nil fL46
                  obtain rfl := Fr.nil f46
                  replace hp46_1 : True := trivial
                  refine r_if_eq (tgt := 220) hx hb dX12_rollLine_213 (by decide) (fun c47 => ?_) (fun c47 => ?_)
                  · clear hp46_0
                    have nia6 := (ia6.resolve_left (fun c => by omega)).2
                    clear ia6
                    refine r_iconst hx hb dX12_rollLine_220 (by decide) (fun z48 ez48 => ?_)
                    refine lv_istore_n (lv' := [(3, .int z48), (2, .int z9), (1, .int z2), (0, .ref (ad 387))]) hx hb dX12_rollLine_221 rfl hl (by decide) rfl (fun ls hl => ?_)
                    refine lv_iload_n hx hb dX12_rollLine_222 rfl (lv_at hl 0 rfl) ?_
                    refine r_if_ge (tgt := 232) hx hb dX12_rollLine_223 (by decide) (fun c49 => ?_) (fun c49 => ?_)
                    · exfalso; omega
                    · refine lv_aload_n hx hb dX12_rollLine_226 rfl (lv_at hl 3 rfl) ?_
                      refine r_iconst hx hb dX12_rollLine_227 (by decide) (fun z50 ez50 => ?_)
                      refine r_cVi (k := 387) (As := [.int z50]) (rest := []) ⟨hx, hb, hml, hown, hts⟩ hK hP hN hS (c_X12_bad_v l D cA ad hI σ34 τ34 hR z50 _ _ _ _ (by omega) gMK) (cwV 1 hts gX12_rollLine_X12_bad rfl rfl rfl (by decide +kernel) ⟨by decide, by decide⟩) (rv_M hK hP (by decide) (by decide)) rfl hl.1 rfl (Nat.le_of_ble_eq_true rfl) dX12_rollLine_228 (Nat.zero_le _) (Nat.zero_le _) (fun r51 u51 H51 locs51 hp51 hP hS => ?_)
                      obtain ⟨σ51, τ51⟩ := u51
                      obtain ⟨hR, f51, fL51, hq51, hp51_0, hp51_1, hp51_2, gnMK⟩ : P_X12_bad_v σ34 τ34 z50 _ _ _ _ r51 σ51 τ51 := hp51
                      have hP : va_P D vwCl (gw cA ad σ51 τ51) H51 := hP
                      obtain rfl := FrL.nil fL51
                      have hF := hF.step f51 (by decide)
                      have gMK := gMK.ag (Agr.fr f51 (by decide))
                      have gMT := gMT.ag (Agr.fr f51 (by decide))
                      have gRXp := RXp.fr gRXp (by omega) f51 (by decide)
                      have gWJ := gWJ.ag (Agr.fr f51 (by decide))
                      have gWK := gWK.ag (Agr.fr f51 (by decide))
                      have t52 : (σ51 387 3).toInt = (σ34 387 3).toInt := congrArg Int32.toInt (f51.at 387 3 (by decide))
                      have t53 : (σ51 387 34).toInt = (σ34 387 34).toInt := congrArg Int32.toInt (f51.at 387 34 (by decide))
                      have t54 : (σ51 389 1).toInt = (σ34 389 1).toInt := congrArg Int32.toInt (f51.at 389 1 (by decide))
                      have t55 : (σ51 387 18).toInt = (σ34 387 18).toInt := congrArg Int32.toInt (f51.at 387 18 (by decide))
                      have t56 : (σ51 391 j25).toInt = (σ34 391 j25).toInt := congrArg Int32.toInt (f51.atV 391 j25 (by intro q hq; simp only [L_X12_bad_v, List.mem_cons, List.not_mem_nil, or_false] at hq; rcases hq with rfl <;> dsimp only <;> omega))
                      have t57 : (σ51 387 4).toInt = (σ34 387 4).toInt := congrArg Int32.toInt (f51.at 387 4 (by decide))
                      have t58 : (σ51 387 11).toInt = (σ34 387 11).toInt := congrArg Int32.toInt (f51.at 387 11 (by decide))
                      exact r_zret hx hb hr hK hP hS hk (by omega) dX12_rollLine_231 (show P_X12_rollLine σ0 τ0 b N mo q nm hc mm mc nn r51 σ51 τ34 from ⟨hR, hF, hFL, by omega, by omega, by omega, by first | exact Or.inl (by omega) | exact Or.inr ⟨by omega, gRXp, fun t ht => OKL.of_w (j := 0) (by omega) (by omega)⟩ | exact Or.inr ⟨by omega, gRXp, fun t ht => OKL.of3 (j1 := 0) (j2 := j25) (j3 := 0) (by omega) (by omega) (by omega) (by omega) (by omega) (by omega)⟩, by first | (exfalso; omega) | exact MO.ofk (rol_4 (by omega) (by omega)) (by omega) (by omega) (by omega) | exact MO.ofr (rol_19 (by omega) (by omega)) (by omega) gMK | (obtain ⟨f, e3, x1, x2⟩ := o3.no (by omega); exact MO.ofl (by rw [rol_14 (by omega) (by omega), numP_cg (lo := 0) (hi := 3) e3 (by omega) (by omega), bnd_l]) (by omega) x1 x2) | exact MO.ofr (by rw [rol_14 (by omega) (by omega), numP_cg (lo := 0) (hi := 3) e3 (by omega) (by omega), bnd_r]) (by omega) gMK | (obtain ⟨f, e3, x1, x2⟩ := o3.no (by omega); exact MO.ofl (by rw [rol_15 (by omega) (by omega), numP_cg (lo := 1) (hi := 99) e3 (by omega) (by omega), bnd_l]) (by omega) x1 x2) | exact MO.ofr (by rw [rol_15 (by omega) (by omega), numP_cg (lo := 1) (hi := 99) e3 (by omega) (by omega), bnd_r]) (by omega) gMK | (obtain ⟨f, e1, x1, x2⟩ := o1.no (by omega); exact MO.ofl (by rw [rol_m (by omega), e1, bnd_l]) (by omega) x1 x2) | exact MO.ofk (by rw [rol_m (by omega), e1, bnd_r, if_pos (by omega)]) (by omega) (by omega) (by omega) | exact MO.ofk (by rw [rol_m (by omega), e1, bnd_r, if_neg (by omega), act_x (by omega)]) (by omega) (by omega) (by omega) | (obtain ⟨f, e4, x1, x2⟩ := o4.no (by omega); exact MO.ofl (by rw [rol_m (by omega), e1, bnd_r, if_neg (by omega), act_17 (by omega), e4, bnd_l]) (by omega) x1 x2) | exact MO.ofr (by rw [rol_m (by omega), e1, bnd_r, if_neg (by omega), act_17 (by omega), e4, bnd_r]) (by omega) gMK | (obtain ⟨f, e5, x1, x2⟩ := o5.no (by omega); exact MO.ofl (by rw [rol_m (by omega), e1, bnd_r, if_neg (by omega), act_16 (by omega), e5, bnd_l]) (by omega) x1 x2) | exact MO.ofr (by rw [rol_m (by omega), e1, bnd_r, if_neg (by omega), act_16 (by omega), e5, bnd_r]) (by omega) gMK | (obtain ⟨f, e5, x1, x2⟩ := o5.no (by omega); exact MO.ofl (by rw [rol_m (by omega), e1, bnd_r, if_neg (by omega), act_18 (by omega), e5, bnd_l]) (by omega) x1 x2) | exact MO.ofr (by rw [rol_m (by omega), e1, bnd_r, if_neg (by omega), act_18 (by omega), e5, bnd_r]) (by omega) gMK, by omega, gMT, gRV, gWJ, gWK⟩)
                  · replace hp46_0 := hp46_0.resolve_left (by omega)
                    have eia6 := (ia6.resolve_right (fun c => by omega)).2
                    clear ia6
                    refine r_iconst hx hb dX12_rollLine_216 (by decide) (fun z59 ez59 => ?_)
                    refine lv_goto (tgt := 221) hx hb dX12_rollLine_217 (by decide) ?_
                    refine lv_istore_n (lv' := [(3, .int z59), (2, .int z9), (1, .int z2), (0, .ref (ad 387))]) hx hb dX12_rollLine_221 rfl hl (by decide) rfl (fun ls hl => ?_)
                    refine lv_iload_n hx hb dX12_rollLine_222 rfl (lv_at hl 0 rfl) ?_
                    refine r_if_ge (tgt := 232) hx hb dX12_rollLine_223 (by decide) (fun c60 => ?_) (fun c60 => ?_)
                    · refine lv_aload_n hx hb dX12_rollLine_232 rfl (lv_at hl 3 rfl) ?_
                      refine fg_12_8 (k := 387) hx hb hts in_X12_rollLine_12 hown hK hP (by decide) (by decide) (hts _ lk_X12_rollLine_40) dX12_rollLine_233 ?_
                      refine lv_iload_n hx hb dX12_rollLine_236 rfl (lv_at hl 2 rfl) ?_
                      refine lv_iload_n hx hb dX12_rollLine_237 rfl (lv_at hl 0 rfl) ?_
                      obtain ⟨j61, ej61⟩ : ∃ j : Nat, z2.toInt = (j : Int) := ⟨_, ti_nat (by omega)⟩
                      refine as_mread (k := 391) (j := j61) hx hb hK hP hI hR hS (by decide) (by decide) ej61 (by omega) dX12_rollLine_238 (fun σ62 H62 locs62 u62 v62 hR hP hS => ?_)
                      have hF := hF.puts u62 3 rfl (by decide) (by decide) (by omega) (by omega)
                      have gMK := gMK.ag (Agr.putV u62 (by intro q hq; simp only [Gd_MK, List.mem_cons, List.not_mem_nil, or_false] at hq; rcases hq with rfl | rfl | rfl <;> dsimp only [inRc] <;> omega))
                      have gMT := gMT.ag (Agr.putV u62 (by intro q hq; simp only [Gd_MT, List.mem_cons, List.not_mem_nil, or_false] at hq; rcases hq with rfl | rfl | rfl <;> dsimp only [inRc] <;> omega))
                      have gRXp := RXp.st gRXp u62 (by omega)
                      have gWJ := gWJ.ag (Agr.putV u62 (by intro q hq; simp only [Gd_WJ, List.mem_cons, List.not_mem_nil, or_false] at hq; rcases hq with rfl <;> dsimp only [inRc] <;> omega))
                      have gWK := gWK.ag (Agr.putV u62 (by intro q hq; simp only [Gd_WK, List.mem_cons, List.not_mem_nil, or_false] at hq; rcases hq with rfl <;> dsimp only [inRc] <;> omega))
                      have t63 : (σ62 387 3).toInt = (σ34 387 3).toInt := congrArg Int32.toInt (u62 387 3 (by omega))
                      have t64 : (σ62 387 34).toInt = (σ34 387 34).toInt := congrArg Int32.toInt (u62 387 34 (by omega))
                      have t65 : (σ62 389 1).toInt = (σ34 389 1).toInt := congrArg Int32.toInt (u62 389 1 (by omega))
                      have t66 : (σ62 387 18).toInt = (σ34 387 18).toInt := congrArg Int32.toInt (u62 387 18 (by omega))
                      have t67 : (σ62 387 15).toInt = (σ34 387 15).toInt := congrArg Int32.toInt (u62 387 15 (by omega))
                      have t68 : (σ62 391 j25).toInt = (σ34 391 j25).toInt := congrArg Int32.toInt (u62 391 j25 (by omega))
                      have t69 : (σ62 387 4).toInt = (σ34 387 4).toInt := congrArg Int32.toInt (u62 387 4 (by omega))
                      have t70 : (σ62 387 11).toInt = (σ34 387 11).toInt := congrArg Int32.toInt (u62 387 11 (by omega))
                      refine lv_aload_n hx hb dX12_rollLine_239 rfl (lv_at hl 3 rfl) ?_
                      refine r_cVv (k := 387) (As := []) (rest := []) ⟨hx, hb, hml, hown, hts⟩ hK hP hN hS (c_X12_next_v l D cA ad hI σ62 τ34 hR _ _ _ _ gMK.mp gMT) (cwV 0 hts gX12_rollLine_X12_next rfl rfl rfl (by decide +kernel) ⟨by decide, by decide⟩) (rv_M hK hP (by decide) (by decide)) rfl hl.1 rfl (Nat.le_of_ble_eq_true rfl) dX12_rollLine_240 (Nat.zero_le _) (Nat.zero_le _) (fun u71 H71 locs71 hp71 hP hS => ?_)
                      obtain ⟨σ71, τ71⟩ := u71
                      obtain ⟨hR, f71, fL71, hp71_0, hp71_1, hp71_2, hp71_3, gnMT⟩ : P_X12_next_v σ62 τ34 _ _ _ _ σ71 τ71 := hp71
                      have hP : va_P D vwCl (gw cA ad σ71 τ71) H71 := hP
                      clear hp34_1
                      have hFL := hFL.step fL71 (by decide)
                      have gRV := gRV.agL (AgrL.fr fL71 (by decide))
                      have gWJ := gWJ.agL (AgrL.fr fL71 (by decide))
                      have gWK := gWK.agL (AgrL.fr fL71 (by decide))
                      have hF := hF.step f71 (by decide)
                      have gMT := gMT.ag (Agr.fr f71 (by decide))
                      have gRXp := RXp.fr gRXp (by omega) f71 (by decide)
                      have gWJ := gWJ.ag (Agr.fr f71 (by decide))
                      have gWK := gWK.ag (Agr.fr f71 (by decide))
                      have t72 : (σ71 387 3).toInt = (σ62 387 3).toInt := congrArg Int32.toInt (f71.at 387 3 (by decide))
                      have t73 : (σ71 387 34).toInt = (σ62 387 34).toInt := congrArg Int32.toInt (f71.at 387 34 (by decide))
                      have t74 : (σ71 389 1).toInt = (σ62 389 1).toInt := congrArg Int32.toInt (f71.at 389 1 (by decide))
                      have t75 : (σ71 387 18).toInt = (σ62 387 18).toInt := congrArg Int32.toInt (f71.at 387 18 (by decide))
                      have t76 : (σ71 387 15).toInt = (σ62 387 15).toInt := congrArg Int32.toInt (f71.at 387 15 (by decide))
                      have t77 : (σ71 391 j25).toInt = (σ62 391 j25).toInt := congrArg Int32.toInt (f71.atV 391 j25 (by intro q hq; simp only [L_X12_next_v, List.mem_cons, List.not_mem_nil, or_false] at hq; rcases hq with rfl | rfl <;> dsimp only <;> omega))
                      have t78 : (σ71 391 j61).toInt = (σ62 391 j61).toInt := congrArg Int32.toInt (f71.atV 391 j61 (by intro q hq; simp only [L_X12_next_v, List.mem_cons, List.not_mem_nil, or_false] at hq; rcases hq with rfl | rfl <;> dsimp only <;> omega))
                      have hr79 := rg_12_4 hR (k := 387) (by decide) (by decide)
                      have gMK := hp71_3
                      refine lv_iload_n hx hb dX12_rollLine_243 rfl (lv_at hl 0 rfl) ?_
                      refine r_iconst hx hb dX12_rollLine_244 (by decide) (fun z80 ez80 => ?_)
                      refine r_icmp_ne (tgt := 261) hx hb dX12_rollLine_245 (by decide) (fun c81 => ?_) (fun c81 => ?_)
                      · refine lv_aload_n hx hb dX12_rollLine_261 rfl (lv_at hl 3 rfl) ?_
                        refine lv_iload_n hx hb dX12_rollLine_262 rfl (lv_at hl 0 rfl) ?_
                        refine r_iconst hx hb dX12_rollLine_263 (by decide) (fun z82 ez82 => ?_)
                        refine r_icmp_ne (tgt := 271) hx hb dX12_rollLine_264 (by decide) (fun c83 => ?_) (fun c83 => ?_)
                        · refine r_bipush hx hb dX12_rollLine_271 (by decide) (fun z84 ez84 => ?_)
                          refine lv_aload_n hx hb dX12_rollLine_273 rfl (lv_at hl 3 rfl) ?_
                          refine fg_12_6 (k := 387) hx hb hts in_X12_rollLine_12 hown hK hP (by decide) (by decide) (hts _ lk_X12_rollLine_33) dX12_rollLine_274 ?_
                          refine lv_iload_n hx hb dX12_rollLine_277 rfl (lv_at hl 0 rfl) ?_
                          refine r_iconst hx hb dX12_rollLine_278 (by decide) (fun z85 ez85 => ?_)
                          refine r_icmp_ne (tgt := 286) hx hb dX12_rollLine_279 (by decide) (fun c86 => ?_) (fun c86 => ?_)
                          · refine r_iconst hx hb dX12_rollLine_286 (by decide) (fun z87 ez87 => ?_)
                            refine ad_ms (k := 389) (j := 1) hx hb hK hP (by decide) (by decide) (by omega) (by omega) dX12_rollLine_287 ?_
                            have hr88 := ra_ms_0 hR (k := 389) (j := 1) (by decide) (by decide) (by decide) (by decide)
                            have hwj := gWJ.1
                            have hwk := gWK.1
                            refine r_cVi (k := 387) (As := [.int z84, .int (σ71 389 1)]) (rest := []) ⟨hx, hb, hml, hown, hts⟩ hK hP hN hS (c_X12_takesName_x l D cA ad hI σ71 τ71 hR z84 (σ71 389 1) b N mo _ nm hc mm mc _ _ _ (by omega) (by omega) (by first | exact Or.inl ⟨rfl, rfl, rfl, by omega⟩ | exact Or.inr ⟨rfl, rfl, rfl, by omega⟩) (by omega) (by omega) gMT gMK gRV gWJ gWK) (cwV 2 hts gX12_rollLine_X12_takesName rfl rfl rfl (by decide +kernel) ⟨by decide, by decide⟩) (rv_M hK hP (by decide) (by decide)) rfl hl.1 rfl (Nat.le_of_ble_eq_true rfl) dX12_rollLine_288 (Nat.zero_le _) (Nat.zero_le _) (fun r89 u89 H89 locs89 hp89 hP hS => ?_)
                            obtain ⟨σ89, τ89⟩ := u89
                            obtain ⟨hR, f89, fL89, hq89, hp89_0, hp89_1, hp89_2, hp89_3, hp89_4, hp89_5, gnMT, gnRV, gnWJ, gnWK⟩ : P_X12_takesName_x σ71 τ71 z84 (σ71 389 1) b N mo _ nm hc mm mc _ _ _ r89 σ89 τ89 := hp89
                            have o5 := hp89_4
                            have hP : va_P D vwCl (gw cA ad σ89 τ89) H89 := hP
                            clear hp71_1
                            have hFL := hFL.step fL89 (by decide)
                            have gRV := gRV.agL (AgrL.fr fL89 (by decide))
                            have gWJ := gWJ.agL (AgrL.fr fL89 (by decide))
                            have gWK := gWK.agL (AgrL.fr fL89 (by decide))
                            have hF := hF.step f89 (by decide)
                            have gMT := gMT.ag (Agr.fr f89 (by decide))
                            have gRXp := RXp.fr gRXp (by omega) f89 (by decide)
                            have gWJ := gWJ.ag (Agr.fr f89 (by decide))
                            have gWK := gWK.ag (Agr.fr f89 (by decide))
                            have t90 : (σ89 387 3).toInt = (σ71 387 3).toInt := congrArg Int32.toInt (f89.at 387 3 (by decide))
                            have t91 : (σ89 387 34).toInt = (σ71 387 34).toInt := congrArg Int32.toInt (f89.at 387 34 (by decide))
                            have t92 : (σ89 389 1).toInt = (σ71 389 1).toInt := congrArg Int32.toInt (f89.at 389 1 (by decide))
                            have t93 : (σ89 391 j25).toInt = (σ71 391 j25).toInt := congrArg Int32.toInt (f89.atV 391 j25 (by intro q hq; simp only [L_X12_takesName_x, List.mem_cons, List.not_mem_nil, or_false] at hq; rcases hq with rfl | rfl | rfl <;> dsimp only <;> omega))
                            have t94 : (σ89 391 j61).toInt = (σ71 391 j61).toInt := congrArg Int32.toInt (f89.atV 391 j61 (by intro q hq; simp only [L_X12_takesName_x, List.mem_cons, List.not_mem_nil, or_false] at hq; rcases hq with rfl | rfl | rfl <;> dsimp only <;> omega))
                            have hr95 := rg_12_4 hR (k := 387) (by decide) (by decide)
                            refine r_if_ne (tgt := 296) hx hb dX12_rollLine_291 (by decide) (fun c96 => ?_) (fun c96 => ?_)
                            · replace hp89_1 := hp89_1.resolve_left (by omega)
                              replace hp89_2 := hp89_2.resolve_left (by omega)
                              replace hp89_3 := hp89_3.resolve_left (by omega)
                              replace hp89_5 := hp89_5.resolve_left (by omega)
                              first | (obtain ⟨y, e4, gMK, gvy⟩ := o4.ye (by omega)) | (obtain ⟨k2, e5, gv5, gMK⟩ := o5.ye (by omega))
                              refine lv_aload_n hx hb dX12_rollLine_296 rfl (lv_at hl 3 rfl) ?_
                              refine fg_12_8 (k := 387) hx hb hts in_X12_rollLine_12 hown hK hP (by decide) (by decide) (hts _ lk_X12_rollLine_40) dX12_rollLine_297 ?_
                              refine lv_iload_n hx hb dX12_rollLine_300 rfl (lv_at hl 2 rfl) ?_
                              refine r_iconst hx hb dX12_rollLine_301 (by decide) (fun z97 ez97 => ?_)
                              refine r_iadd hx hb dX12_rollLine_302 (by omega) (fun z98 ez98 => ?_)
                              refine lv_aload_n hx hb dX12_rollLine_303 rfl (lv_at hl 3 rfl) ?_
                              refine fg_12_18 (k := 387) hx hb hts in_X12_rollLine_12 hown hK hP (by decide) (by decide) (hts _ lk_X12_rollLine_195) dX12_rollLine_304 ?_
                              obtain ⟨j99, ej99⟩ : ∃ j : Nat, z98.toInt = (j : Int) := ⟨_, ti_nat (by omega)⟩
                              refine as_mread (k := 391) (j := j99) hx hb hK hP hI hR hS (by decide) (by decide) ej99 (by omega) dX12_rollLine_307 (fun σ100 H100 locs100 u100 v100 hR hP hS => ?_)
                              have hF := hF.puts u100 3 rfl (by decide) (by decide) (by omega) (by omega)
                              have gMK := gMK.ag (Agr.putV u100 (by intro q hq; simp only [Gd_MK, List.mem_cons, List.not_mem_nil, or_false] at hq; rcases hq with rfl | rfl | rfl <;> dsimp only [inRc] <;> omega))
                              have gMT := gMT.ag (Agr.putV u100 (by intro q hq; simp only [Gd_MT, List.mem_cons, List.not_mem_nil, or_false] at hq; rcases hq with rfl | rfl | rfl <;> dsimp only [inRc] <;> omega))
                              have gRXp := RXp.st gRXp u100 (by omega)
                              have gWJ := gWJ.ag (Agr.putV u100 (by intro q hq; simp only [Gd_WJ, List.mem_cons, List.not_mem_nil, or_false] at hq; rcases hq with rfl <;> dsimp only [inRc] <;> omega))
                              have gWK := gWK.ag (Agr.putV u100 (by intro q hq; simp only [Gd_WK, List.mem_cons, List.not_mem_nil, or_false] at hq; rcases hq with rfl <;> dsimp only [inRc] <;> omega))
                              have t101 : (σ100 387 3).toInt = (σ89 387 3).toInt := congrArg Int32.toInt (u100 387 3 (by omega))
                              have t102 : (σ100 387 34).toInt = (σ89 387 34).toInt := congrArg Int32.toInt (u100 387 34 (by omega))
                              have t103 : (σ100 389 1).toInt = (σ89 389 1).toInt := congrArg Int32.toInt (u100 389 1 (by omega))
                              have t104 : (σ100 391 j25).toInt = (σ89 391 j25).toInt := congrArg Int32.toInt (u100 391 j25 (by omega))
                              have t105 : (σ100 391 j61).toInt = (σ89 391 j61).toInt := congrArg Int32.toInt (u100 391 j61 (by omega))
                              have t106 : (σ100 387 4).toInt = (σ89 387 4).toInt := congrArg Int32.toInt (u100 387 4 (by omega))
                              have t107 : (σ100 387 11).toInt = (σ89 387 11).toInt := congrArg Int32.toInt (u100 387 11 (by omega))
                              have t108 : (σ100 387 18).toInt = (σ89 387 18).toInt := congrArg Int32.toInt (u100 387 18 (by omega))
                              have t109 : (σ100 387 15).toInt = (σ89 387 15).toInt := congrArg Int32.toInt (u100 387 15 (by omega))
                              refine r_iconst hx hb dX12_rollLine_308 (by decide) (fun z110 ez110 => ?_)
                              exact r_zret hx hb hr hK hP hS hk (by omega) dX12_rollLine_309 (show P_X12_rollLine σ0 τ0 b N mo q nm hc mm mc nn z110 σ100 τ89 from ⟨hR, hF, hFL, by omega, by omega, by omega, by first | exact Or.inl (by omega) | exact Or.inr ⟨by omega, gRXp, fun t ht => OKL.of_w (j := j61) (by omega) (by omega)⟩ | exact Or.inr ⟨by omega, gRXp, fun t ht => OKL.of3 (j1 := j61) (j2 := j25) (j3 := j99) (by omega) (by omega) (by omega) (by omega) (by omega) (by omega)⟩, by first | (exfalso; omega) | exact MO.ofk (rol_4 (by omega) (by omega)) (by omega) (by omega) (by omega) | exact MO.ofr (rol_19 (by omega) (by omega)) (by omega) gMK | (obtain ⟨f, e3, x1, x2⟩ := o3.no (by omega); exact MO.ofl (by rw [rol_14 (by omega) (by omega), numP_cg (lo := 0) (hi := 3) e3 (by omega) (by omega), bnd_l]) (by omega) x1 x2) | exact MO.ofr (by rw [rol_14 (by omega) (by omega), numP_cg (lo := 0) (hi := 3) e3 (by omega) (by omega), bnd_r]) (by omega) gMK | (obtain ⟨f, e3, x1, x2⟩ := o3.no (by omega); exact MO.ofl (by rw [rol_15 (by omega) (by omega), numP_cg (lo := 1) (hi := 99) e3 (by omega) (by omega), bnd_l]) (by omega) x1 x2) | exact MO.ofr (by rw [rol_15 (by omega) (by omega), numP_cg (lo := 1) (hi := 99) e3 (by omega) (by omega), bnd_r]) (by omega) gMK | (obtain ⟨f, e1, x1, x2⟩ := o1.no (by omega); exact MO.ofl (by rw [rol_m (by omega), e1, bnd_l]) (by omega) x1 x2) | exact MO.ofk (by rw [rol_m (by omega), e1, bnd_r, if_pos (by omega)]) (by omega) (by omega) (by omega) | exact MO.ofk (by rw [rol_m (by omega), e1, bnd_r, if_neg (by omega), act_x (by omega)]) (by omega) (by omega) (by omega) | (obtain ⟨f, e4, x1, x2⟩ := o4.no (by omega); exact MO.ofl (by rw [rol_m (by omega), e1, bnd_r, if_neg (by omega), act_17 (by omega), e4, bnd_l]) (by omega) x1 x2) | exact MO.ofr (by rw [rol_m (by omega), e1, bnd_r, if_neg (by omega), act_17 (by omega), e4, bnd_r]) (by omega) gMK | (obtain ⟨f, e5, x1, x2⟩ := o5.no (by omega); exact MO.ofl (by rw [rol_m (by omega), e1, bnd_r, if_neg (by omega), act_16 (by omega), e5, bnd_l]) (by omega) x1 x2) | exact MO.ofr (by rw [rol_m (by omega), e1, bnd_r, if_neg (by omega), act_16 (by omega), e5, bnd_r]) (by omega) gMK | (obtain ⟨f, e5, x1, x2⟩ := o5.no (by omega); exact MO.ofl (by rw [rol_m (by omega), e1, bnd_r, if_neg (by omega), act_18 (by omega), e5, bnd_l]) (by omega) x1 x2) | exact MO.ofr (by rw [rol_m (by omega), e1, bnd_r, if_neg (by omega), act_18 (by omega), e5, bnd_r]) (by omega) gMK, by omega, gMT, gRV, gWJ, gWK⟩)
                            · clear hp89_1 hp89_2 hp89_3 hp89_5
                              refine r_iconst hx hb dX12_rollLine_294 (by decide) (fun z111 ez111 => ?_)
                              exact r_zret hx hb hr hK hP hS hk (by omega) dX12_rollLine_295 (show P_X12_rollLine σ0 τ0 b N mo q nm hc mm mc nn z111 σ89 τ89 from ⟨hR, hF, hFL, by omega, by omega, by omega, by first | exact Or.inl (by omega) | exact Or.inr ⟨by omega, gRXp, fun t ht => OKL.of_w (j := j61) (by omega) (by omega)⟩ | exact Or.inr ⟨by omega, gRXp, fun t ht => OKL.of3 (j1 := j61) (j2 := j25) (j3 := 0) (by omega) (by omega) (by omega) (by omega) (by omega) (by omega)⟩, by first | (exfalso; omega) | exact MO.ofk (rol_4 (by omega) (by omega)) (by omega) (by omega) (by omega) | exact MO.ofr (rol_19 (by omega) (by omega)) (by omega) gMK | (obtain ⟨f, e3, x1, x2⟩ := o3.no (by omega); exact MO.ofl (by rw [rol_14 (by omega) (by omega), numP_cg (lo := 0) (hi := 3) e3 (by omega) (by omega), bnd_l]) (by omega) x1 x2) | exact MO.ofr (by rw [rol_14 (by omega) (by omega), numP_cg (lo := 0) (hi := 3) e3 (by omega) (by omega), bnd_r]) (by omega) gMK | (obtain ⟨f, e3, x1, x2⟩ := o3.no (by omega); exact MO.ofl (by rw [rol_15 (by omega) (by omega), numP_cg (lo := 1) (hi := 99) e3 (by omega) (by omega), bnd_l]) (by omega) x1 x2) | exact MO.ofr (by rw [rol_15 (by omega) (by omega), numP_cg (lo := 1) (hi := 99) e3 (by omega) (by omega), bnd_r]) (by omega) gMK | (obtain ⟨f, e1, x1, x2⟩ := o1.no (by omega); exact MO.ofl (by rw [rol_m (by omega), e1, bnd_l]) (by omega) x1 x2) | exact MO.ofk (by rw [rol_m (by omega), e1, bnd_r, if_pos (by omega)]) (by omega) (by omega) (by omega) | exact MO.ofk (by rw [rol_m (by omega), e1, bnd_r, if_neg (by omega), act_x (by omega)]) (by omega) (by omega) (by omega) | (obtain ⟨f, e4, x1, x2⟩ := o4.no (by omega); exact MO.ofl (by rw [rol_m (by omega), e1, bnd_r, if_neg (by omega), act_17 (by omega), e4, bnd_l]) (by omega) x1 x2) | exact MO.ofr (by rw [rol_m (by omega), e1, bnd_r, if_neg (by omega), act_17 (by omega), e4, bnd_r]) (by omega) gMK | (obtain ⟨f, e5, x1, x2⟩ := o5.no (by omega); exact MO.ofl (by rw [rol_m (by omega), e1, bnd_r, if_neg (by omega), act_16 (by omega), e5, bnd_l]) (by omega) x1 x2) | exact MO.ofr (by rw [rol_m (by omega), e1, bnd_r, if_neg (by omega), act_16 (by omega), e5, bnd_r]) (by omega) gMK | (obtain ⟨f, e5, x1, x2⟩ := o5.no (by omega); exact MO.ofl (by rw [rol_m (by omega), e1, bnd_r, if_neg (by omega), act_18 (by omega), e5, bnd_l]) (by omega) x1 x2) | exact MO.ofr (by rw [rol_m (by omega), e1, bnd_r, if_neg (by omega), act_18 (by omega), e5, bnd_r]) (by omega) gMK, by omega, gMT, gRV, gWJ, gWK⟩)
                          · exfalso; omega
                        · exfalso; omega
                      · exfalso; omega
                    · exfalso; omega
                · replace hp44_0 := hp44_0.resolve_left (by omega)
                  have eia5 := (ia5.resolve_right (fun c => by omega)).2
                  clear ia5
                  refine r_iconst hx hb dX12_rollLine_202 (by decide) (fun z112 ez112 => ?_)
                  refine lv_goto (tgt := 221) hx hb dX12_rollLine_203 (by decide) ?_
                  refine lv_istore_n (lv' := [(3, .int z112), (2, .int z9), (1, .int z2), (0, .ref (ad 387))]) hx hb dX12_rollLine_221 rfl hl (by decide) rfl (fun ls hl => ?_)
                  refine lv_iload_n hx hb dX12_rollLine_222 rfl (lv_at hl 0 rfl) ?_
                  refine r_if_ge (tgt := 232) hx hb dX12_rollLine_223 (by decide) (fun c113 => ?_) (fun c113 => ?_)
                  · refine lv_aload_n hx hb dX12_rollLine_232 rfl (lv_at hl 3 rfl) ?_
                    refine fg_12_8 (k := 387) hx hb hts in_X12_rollLine_12 hown hK hP (by decide) (by decide) (hts _ lk_X12_rollLine_40) dX12_rollLine_233 ?_
                    refine lv_iload_n hx hb dX12_rollLine_236 rfl (lv_at hl 2 rfl) ?_
                    refine lv_iload_n hx hb dX12_rollLine_237 rfl (lv_at hl 0 rfl) ?_
                    obtain ⟨j114, ej114⟩ : ∃ j : Nat, z2.toInt = (j : Int) := ⟨_, ti_nat (by omega)⟩
                    refine as_mread (k := 391) (j := j114) hx hb hK hP hI hR hS (by decide) (by decide) ej114 (by omega) dX12_rollLine_238 (fun σ115 H115 locs115 u115 v115 hR hP hS => ?_)
                    have hF := hF.puts u115 3 rfl (by decide) (by decide) (by omega) (by omega)
                    have gMK := gMK.ag (Agr.putV u115 (by intro q hq; simp only [Gd_MK, List.mem_cons, List.not_mem_nil, or_false] at hq; rcases hq with rfl | rfl | rfl <;> dsimp only [inRc] <;> omega))
                    have gMT := gMT.ag (Agr.putV u115 (by intro q hq; simp only [Gd_MT, List.mem_cons, List.not_mem_nil, or_false] at hq; rcases hq with rfl | rfl | rfl <;> dsimp only [inRc] <;> omega))
                    have gRXp := RXp.st gRXp u115 (by omega)
                    have gWJ := gWJ.ag (Agr.putV u115 (by intro q hq; simp only [Gd_WJ, List.mem_cons, List.not_mem_nil, or_false] at hq; rcases hq with rfl <;> dsimp only [inRc] <;> omega))
                    have gWK := gWK.ag (Agr.putV u115 (by intro q hq; simp only [Gd_WK, List.mem_cons, List.not_mem_nil, or_false] at hq; rcases hq with rfl <;> dsimp only [inRc] <;> omega))
                    have t116 : (σ115 387 3).toInt = (σ34 387 3).toInt := congrArg Int32.toInt (u115 387 3 (by omega))
                    have t117 : (σ115 387 34).toInt = (σ34 387 34).toInt := congrArg Int32.toInt (u115 387 34 (by omega))
                    have t118 : (σ115 389 1).toInt = (σ34 389 1).toInt := congrArg Int32.toInt (u115 389 1 (by omega))
                    have t119 : (σ115 387 18).toInt = (σ34 387 18).toInt := congrArg Int32.toInt (u115 387 18 (by omega))
                    have t120 : (σ115 387 15).toInt = (σ34 387 15).toInt := congrArg Int32.toInt (u115 387 15 (by omega))
                    have t121 : (σ115 391 j25).toInt = (σ34 391 j25).toInt := congrArg Int32.toInt (u115 391 j25 (by omega))
                    have t122 : (σ115 387 4).toInt = (σ34 387 4).toInt := congrArg Int32.toInt (u115 387 4 (by omega))
                    have t123 : (σ115 387 11).toInt = (σ34 387 11).toInt := congrArg Int32.toInt (u115 387 11 (by omega))
                    refine lv_aload_n hx hb dX12_rollLine_239 rfl (lv_at hl 3 rfl) ?_
                    refine r_cVv (k := 387) (As := []) (rest := []) ⟨hx, hb, hml, hown, hts⟩ hK hP hN hS (c_X12_next_v l D cA ad hI σ115 τ34 hR _ _ _ _ gMK.mp gMT) (cwV 0 hts gX12_rollLine_X12_next rfl rfl rfl (by decide +kernel) ⟨by decide, by decide⟩) (rv_M hK hP (by decide) (by decide)) rfl hl.1 rfl (Nat.le_of_ble_eq_true rfl) dX12_rollLine_240 (Nat.zero_le _) (Nat.zero_le _) (fun u124 H124 locs124 hp124 hP hS => ?_)
                    obtain ⟨σ124, τ124⟩ := u124
                    obtain ⟨hR, f124, fL124, hp124_0, hp124_1, hp124_2, hp124_3, gnMT⟩ : P_X12_next_v σ115 τ34 _ _ _ _ σ124 τ124 := hp124
                    have hP : va_P D vwCl (gw cA ad σ124 τ124) H124 := hP
                    clear hp34_1
                    have hFL := hFL.step fL124 (by decide)
                    have gRV := gRV.agL (AgrL.fr fL124 (by decide))
                    have gWJ := gWJ.agL (AgrL.fr fL124 (by decide))
                    have gWK := gWK.agL (AgrL.fr fL124 (by decide))
                    have hF := hF.step f124 (by decide)
                    have gMT := gMT.ag (Agr.fr f124 (by decide))
                    have gRXp := RXp.fr gRXp (by omega) f124 (by decide)
                    have gWJ := gWJ.ag (Agr.fr f124 (by decide))
                    have gWK := gWK.ag (Agr.fr f124 (by decide))
                    have t125 : (σ124 387 3).toInt = (σ115 387 3).toInt := congrArg Int32.toInt (f124.at 387 3 (by decide))
                    have t126 : (σ124 387 34).toInt = (σ115 387 34).toInt := congrArg Int32.toInt (f124.at 387 34 (by decide))
                    have t127 : (σ124 389 1).toInt = (σ115 389 1).toInt := congrArg Int32.toInt (f124.at 389 1 (by decide))
                    have t128 : (σ124 387 18).toInt = (σ115 387 18).toInt := congrArg Int32.toInt (f124.at 387 18 (by decide))
                    have t129 : (σ124 387 15).toInt = (σ115 387 15).toInt := congrArg Int32.toInt (f124.at 387 15 (by decide))
                    have t130 : (σ124 391 j25).toInt = (σ115 391 j25).toInt := congrArg Int32.toInt (f124.atV 391 j25 (by intro q hq; simp only [L_X12_next_v, List.mem_cons, List.not_mem_nil, or_false] at hq; rcases hq with rfl | rfl <;> dsimp only <;> omega))
                    have t131 : (σ124 391 j114).toInt = (σ115 391 j114).toInt := congrArg Int32.toInt (f124.atV 391 j114 (by intro q hq; simp only [L_X12_next_v, List.mem_cons, List.not_mem_nil, or_false] at hq; rcases hq with rfl | rfl <;> dsimp only <;> omega))
                    have hr132 := rg_12_4 hR (k := 387) (by decide) (by decide)
                    have gMK := hp124_3
                    refine lv_iload_n hx hb dX12_rollLine_243 rfl (lv_at hl 0 rfl) ?_
                    refine r_iconst hx hb dX12_rollLine_244 (by decide) (fun z133 ez133 => ?_)
                    refine r_icmp_ne (tgt := 261) hx hb dX12_rollLine_245 (by decide) (fun c134 => ?_) (fun c134 => ?_)
                    · exfalso; omega
                    · refine lv_aload_n hx hb dX12_rollLine_248 rfl (lv_at hl 3 rfl) ?_
                      refine r_iconst hx hb dX12_rollLine_249 (by decide) (fun z135 ez135 => ?_)
                      refine r_bipush hx hb dX12_rollLine_250 (by decide) (fun z136 ez136 => ?_)
                      refine r_cVi (k := 387) (As := [.int z135, .int z136]) (rest := []) ⟨hx, hb, hml, hown, hts⟩ hK hP hN hS (c_X12_takes_v l D cA ad hI σ124 τ124 hR z135 z136 b N mo _ 0 9 (by omega) (by omega) (by omega) (by omega) gMT gMK) (cwV 2 hts gX12_rollLine_X12_takes rfl rfl rfl (by decide +kernel) ⟨by decide, by decide⟩) (rv_M hK hP (by decide) (by decide)) rfl hl.1 rfl (Nat.le_of_ble_eq_true rfl) dX12_rollLine_252 (Nat.zero_le _) (Nat.zero_le _) (fun r137 u137 H137 locs137 hp137 hP hS => ?_)
                      obtain ⟨σ137, τ137⟩ := u137
                      obtain ⟨hR, f137, fL137, hq137, hp137_0, hp137_1, hp137_2, hp137_3, hp137_4, gnMT⟩ : P_X12_takes_v σ124 τ124 z135 z136 b N mo _ 0 9 r137 σ137 τ137 := hp137
                      have o4 := hp137_3
                      have hP : va_P D vwCl (gw cA ad σ137 τ137) H137 := hP
                      clear hp124_1
                      have hFL := hFL.step fL137 (by decide)
                      have gRV := gRV.agL (AgrL.fr fL137 (by decide))
                      have gWJ := gWJ.agL (AgrL.fr fL137 (by decide))
                      have gWK := gWK.agL (AgrL.fr fL137 (by decide))
                      have hF := hF.step f137 (by decide)
                      have gMT := gMT.ag (Agr.fr f137 (by decide))
                      have gRXp := RXp.fr gRXp (by omega) f137 (by decide)
                      have gWJ := gWJ.ag (Agr.fr f137 (by decide))
                      have gWK := gWK.ag (Agr.fr f137 (by decide))
                      have t138 : (σ137 387 3).toInt = (σ124 387 3).toInt := congrArg Int32.toInt (f137.at 387 3 (by decide))
                      have t139 : (σ137 387 34).toInt = (σ124 387 34).toInt := congrArg Int32.toInt (f137.at 387 34 (by decide))
                      have t140 : (σ137 389 1).toInt = (σ124 389 1).toInt := congrArg Int32.toInt (f137.at 389 1 (by decide))
                      have t141 : (σ137 391 j25).toInt = (σ124 391 j25).toInt := congrArg Int32.toInt (f137.atV 391 j25 (by intro q hq; simp only [L_X12_takes_v, List.mem_cons, List.not_mem_nil, or_false] at hq; rcases hq with rfl | rfl | rfl <;> dsimp only <;> omega))
                      have t142 : (σ137 391 j114).toInt = (σ124 391 j114).toInt := congrArg Int32.toInt (f137.atV 391 j114 (by intro q hq; simp only [L_X12_takes_v, List.mem_cons, List.not_mem_nil, or_false] at hq; rcases hq with rfl | rfl | rfl <;> dsimp only <;> omega))
                      have hr143 := rg_12_4 hR (k := 387) (by decide) (by decide)
                      refine r_if_ne (tgt := 296) hx hb dX12_rollLine_255 (by decide) (fun c144 => ?_) (fun c144 => ?_)
                      · replace hp137_1 := hp137_1.resolve_left (by omega)
                        replace hp137_2 := hp137_2.resolve_left (by omega)
                        replace hp137_4 := hp137_4.resolve_left (by omega)
                        first | (obtain ⟨y, e4, gMK, gvy⟩ := o4.ye (by omega)) | (obtain ⟨k2, e5, gv5, gMK⟩ := o5.ye (by omega))
                        refine lv_aload_n hx hb dX12_rollLine_296 rfl (lv_at hl 3 rfl) ?_
                        refine fg_12_8 (k := 387) hx hb hts in_X12_rollLine_12 hown hK hP (by decide) (by decide) (hts _ lk_X12_rollLine_40) dX12_rollLine_297 ?_
                        refine lv_iload_n hx hb dX12_rollLine_300 rfl (lv_at hl 2 rfl) ?_
                        refine r_iconst hx hb dX12_rollLine_301 (by decide) (fun z145 ez145 => ?_)
                        refine r_iadd hx hb dX12_rollLine_302 (by omega) (fun z146 ez146 => ?_)
                        refine lv_aload_n hx hb dX12_rollLine_303 rfl (lv_at hl 3 rfl) ?_
                        refine fg_12_18 (k := 387) hx hb hts in_X12_rollLine_12 hown hK hP (by decide) (by decide) (hts _ lk_X12_rollLine_195) dX12_rollLine_304 ?_
                        obtain ⟨j147, ej147⟩ : ∃ j : Nat, z146.toInt = (j : Int) := ⟨_, ti_nat (by omega)⟩
                        refine as_mread (k := 391) (j := j147) hx hb hK hP hI hR hS (by decide) (by decide) ej147 (by omega) dX12_rollLine_307 (fun σ148 H148 locs148 u148 v148 hR hP hS => ?_)
                        have hF := hF.puts u148 3 rfl (by decide) (by decide) (by omega) (by omega)
                        have gMK := gMK.ag (Agr.putV u148 (by intro q hq; simp only [Gd_MK, List.mem_cons, List.not_mem_nil, or_false] at hq; rcases hq with rfl | rfl | rfl <;> dsimp only [inRc] <;> omega))
                        have gMT := gMT.ag (Agr.putV u148 (by intro q hq; simp only [Gd_MT, List.mem_cons, List.not_mem_nil, or_false] at hq; rcases hq with rfl | rfl | rfl <;> dsimp only [inRc] <;> omega))
                        have gRXp := RXp.st gRXp u148 (by omega)
                        have gWJ := gWJ.ag (Agr.putV u148 (by intro q hq; simp only [Gd_WJ, List.mem_cons, List.not_mem_nil, or_false] at hq; rcases hq with rfl <;> dsimp only [inRc] <;> omega))
                        have gWK := gWK.ag (Agr.putV u148 (by intro q hq; simp only [Gd_WK, List.mem_cons, List.not_mem_nil, or_false] at hq; rcases hq with rfl <;> dsimp only [inRc] <;> omega))
                        have t149 : (σ148 387 3).toInt = (σ137 387 3).toInt := congrArg Int32.toInt (u148 387 3 (by omega))
                        have t150 : (σ148 387 34).toInt = (σ137 387 34).toInt := congrArg Int32.toInt (u148 387 34 (by omega))
                        have t151 : (σ148 389 1).toInt = (σ137 389 1).toInt := congrArg Int32.toInt (u148 389 1 (by omega))
                        have t152 : (σ148 391 j25).toInt = (σ137 391 j25).toInt := congrArg Int32.toInt (u148 391 j25 (by omega))
                        have t153 : (σ148 391 j114).toInt = (σ137 391 j114).toInt := congrArg Int32.toInt (u148 391 j114 (by omega))
                        have t154 : (σ148 387 4).toInt = (σ137 387 4).toInt := congrArg Int32.toInt (u148 387 4 (by omega))
                        have t155 : (σ148 387 11).toInt = (σ137 387 11).toInt := congrArg Int32.toInt (u148 387 11 (by omega))
                        have t156 : (σ148 387 18).toInt = (σ137 387 18).toInt := congrArg Int32.toInt (u148 387 18 (by omega))
                        have t157 : (σ148 387 15).toInt = (σ137 387 15).toInt := congrArg Int32.toInt (u148 387 15 (by omega))
                        refine r_iconst hx hb dX12_rollLine_308 (by decide) (fun z158 ez158 => ?_)
                        exact r_zret hx hb hr hK hP hS hk (by omega) dX12_rollLine_309 (show P_X12_rollLine σ0 τ0 b N mo q nm hc mm mc nn z158 σ148 τ137 from ⟨hR, hF, hFL, by omega, by omega, by omega, by first | exact Or.inl (by omega) | exact Or.inr ⟨by omega, gRXp, fun t ht => OKL.of_w (j := j114) (by omega) (by omega)⟩ | exact Or.inr ⟨by omega, gRXp, fun t ht => OKL.of3 (j1 := j114) (j2 := j25) (j3 := j147) (by omega) (by omega) (by omega) (by omega) (by omega) (by omega)⟩, by first | (exfalso; omega) | exact MO.ofk (rol_4 (by omega) (by omega)) (by omega) (by omega) (by omega) | exact MO.ofr (rol_19 (by omega) (by omega)) (by omega) gMK | (obtain ⟨f, e3, x1, x2⟩ := o3.no (by omega); exact MO.ofl (by rw [rol_14 (by omega) (by omega), numP_cg (lo := 0) (hi := 3) e3 (by omega) (by omega), bnd_l]) (by omega) x1 x2) | exact MO.ofr (by rw [rol_14 (by omega) (by omega), numP_cg (lo := 0) (hi := 3) e3 (by omega) (by omega), bnd_r]) (by omega) gMK | (obtain ⟨f, e3, x1, x2⟩ := o3.no (by omega); exact MO.ofl (by rw [rol_15 (by omega) (by omega), numP_cg (lo := 1) (hi := 99) e3 (by omega) (by omega), bnd_l]) (by omega) x1 x2) | exact MO.ofr (by rw [rol_15 (by omega) (by omega), numP_cg (lo := 1) (hi := 99) e3 (by omega) (by omega), bnd_r]) (by omega) gMK | (obtain ⟨f, e1, x1, x2⟩ := o1.no (by omega); exact MO.ofl (by rw [rol_m (by omega), e1, bnd_l]) (by omega) x1 x2) | exact MO.ofk (by rw [rol_m (by omega), e1, bnd_r, if_pos (by omega)]) (by omega) (by omega) (by omega) | exact MO.ofk (by rw [rol_m (by omega), e1, bnd_r, if_neg (by omega), act_x (by omega)]) (by omega) (by omega) (by omega) | (obtain ⟨f, e4, x1, x2⟩ := o4.no (by omega); exact MO.ofl (by rw [rol_m (by omega), e1, bnd_r, if_neg (by omega), act_17 (by omega), e4, bnd_l]) (by omega) x1 x2) | exact MO.ofr (by rw [rol_m (by omega), e1, bnd_r, if_neg (by omega), act_17 (by omega), e4, bnd_r]) (by omega) gMK | (obtain ⟨f, e5, x1, x2⟩ := o5.no (by omega); exact MO.ofl (by rw [rol_m (by omega), e1, bnd_r, if_neg (by omega), act_16 (by omega), e5, bnd_l]) (by omega) x1 x2) | exact MO.ofr (by rw [rol_m (by omega), e1, bnd_r, if_neg (by omega), act_16 (by omega), e5, bnd_r]) (by omega) gMK | (obtain ⟨f, e5, x1, x2⟩ := o5.no (by omega); exact MO.ofl (by rw [rol_m (by omega), e1, bnd_r, if_neg (by omega), act_18 (by omega), e5, bnd_l]) (by omega) x1 x2) | exact MO.ofr (by rw [rol_m (by omega), e1, bnd_r, if_neg (by omega), act_18 (by omega), e5, bnd_r]) (by omega) gMK, by omega, gMT, gRV, gWJ, gWK⟩)
                      · clear hp137_1 hp137_2 hp137_4
                        refine lv_goto (tgt := 294) hx hb dX12_rollLine_258 (by decide) ?_
                        refine r_iconst hx hb dX12_rollLine_294 (by decide) (fun z159 ez159 => ?_)
                        exact r_zret hx hb hr hK hP hS hk (by omega) dX12_rollLine_295 (show P_X12_rollLine σ0 τ0 b N mo q nm hc mm mc nn z159 σ137 τ137 from ⟨hR, hF, hFL, by omega, by omega, by omega, by first | exact Or.inl (by omega) | exact Or.inr ⟨by omega, gRXp, fun t ht => OKL.of_w (j := j114) (by omega) (by omega)⟩ | exact Or.inr ⟨by omega, gRXp, fun t ht => OKL.of3 (j1 := j114) (j2 := j25) (j3 := 0) (by omega) (by omega) (by omega) (by omega) (by omega) (by omega)⟩, by first | (exfalso; omega) | exact MO.ofk (rol_4 (by omega) (by omega)) (by omega) (by omega) (by omega) | exact MO.ofr (rol_19 (by omega) (by omega)) (by omega) gMK | (obtain ⟨f, e3, x1, x2⟩ := o3.no (by omega); exact MO.ofl (by rw [rol_14 (by omega) (by omega), numP_cg (lo := 0) (hi := 3) e3 (by omega) (by omega), bnd_l]) (by omega) x1 x2) | exact MO.ofr (by rw [rol_14 (by omega) (by omega), numP_cg (lo := 0) (hi := 3) e3 (by omega) (by omega), bnd_r]) (by omega) gMK | (obtain ⟨f, e3, x1, x2⟩ := o3.no (by omega); exact MO.ofl (by rw [rol_15 (by omega) (by omega), numP_cg (lo := 1) (hi := 99) e3 (by omega) (by omega), bnd_l]) (by omega) x1 x2) | exact MO.ofr (by rw [rol_15 (by omega) (by omega), numP_cg (lo := 1) (hi := 99) e3 (by omega) (by omega), bnd_r]) (by omega) gMK | (obtain ⟨f, e1, x1, x2⟩ := o1.no (by omega); exact MO.ofl (by rw [rol_m (by omega), e1, bnd_l]) (by omega) x1 x2) | exact MO.ofk (by rw [rol_m (by omega), e1, bnd_r, if_pos (by omega)]) (by omega) (by omega) (by omega) | exact MO.ofk (by rw [rol_m (by omega), e1, bnd_r, if_neg (by omega), act_x (by omega)]) (by omega) (by omega) (by omega) | (obtain ⟨f, e4, x1, x2⟩ := o4.no (by omega); exact MO.ofl (by rw [rol_m (by omega), e1, bnd_r, if_neg (by omega), act_17 (by omega), e4, bnd_l]) (by omega) x1 x2) | exact MO.ofr (by rw [rol_m (by omega), e1, bnd_r, if_neg (by omega), act_17 (by omega), e4, bnd_r]) (by omega) gMK | (obtain ⟨f, e5, x1, x2⟩ := o5.no (by omega); exact MO.ofl (by rw [rol_m (by omega), e1, bnd_r, if_neg (by omega), act_16 (by omega), e5, bnd_l]) (by omega) x1 x2) | exact MO.ofr (by rw [rol_m (by omega), e1, bnd_r, if_neg (by omega), act_16 (by omega), e5, bnd_r]) (by omega) gMK | (obtain ⟨f, e5, x1, x2⟩ := o5.no (by omega); exact MO.ofl (by rw [rol_m (by omega), e1, bnd_r, if_neg (by omega), act_18 (by omega), e5, bnd_l]) (by omega) x1 x2) | exact MO.ofr (by rw [rol_m (by omega), e1, bnd_r, if_neg (by omega), act_18 (by omega), e5, bnd_r]) (by omega) gMK, by omega, gMT, gRV, gWJ, gWK⟩)
                  · exfalso; omega
              · replace hp42_0 := hp42_0.resolve_left (by omega)
                have eia4 := (ia4.resolve_right (fun c => by omega)).2
                clear ia4
                refine r_iconst hx hb dX12_rollLine_188 (by decide) (fun z160 ez160 => ?_)
                refine lv_goto (tgt := 221) hx hb dX12_rollLine_189 (by decide) ?_
                refine lv_istore_n (lv' := [(3, .int z160), (2, .int z9), (1, .int z2), (0, .ref (ad 387))]) hx hb dX12_rollLine_221 rfl hl (by decide) rfl (fun ls hl => ?_)
                refine lv_iload_n hx hb dX12_rollLine_222 rfl (lv_at hl 0 rfl) ?_
                refine r_if_ge (tgt := 232) hx hb dX12_rollLine_223 (by decide) (fun c161 => ?_) (fun c161 => ?_)
                · refine lv_aload_n hx hb dX12_rollLine_232 rfl (lv_at hl 3 rfl) ?_
                  refine fg_12_8 (k := 387) hx hb hts in_X12_rollLine_12 hown hK hP (by decide) (by decide) (hts _ lk_X12_rollLine_40) dX12_rollLine_233 ?_
                  refine lv_iload_n hx hb dX12_rollLine_236 rfl (lv_at hl 2 rfl) ?_
                  refine lv_iload_n hx hb dX12_rollLine_237 rfl (lv_at hl 0 rfl) ?_
                  obtain ⟨j162, ej162⟩ : ∃ j : Nat, z2.toInt = (j : Int) := ⟨_, ti_nat (by omega)⟩
                  refine as_mread (k := 391) (j := j162) hx hb hK hP hI hR hS (by decide) (by decide) ej162 (by omega) dX12_rollLine_238 (fun σ163 H163 locs163 u163 v163 hR hP hS => ?_)
                  have hF := hF.puts u163 3 rfl (by decide) (by decide) (by omega) (by omega)
                  have gMK := gMK.ag (Agr.putV u163 (by intro q hq; simp only [Gd_MK, List.mem_cons, List.not_mem_nil, or_false] at hq; rcases hq with rfl | rfl | rfl <;> dsimp only [inRc] <;> omega))
                  have gMT := gMT.ag (Agr.putV u163 (by intro q hq; simp only [Gd_MT, List.mem_cons, List.not_mem_nil, or_false] at hq; rcases hq with rfl | rfl | rfl <;> dsimp only [inRc] <;> omega))
                  have gRXp := RXp.st gRXp u163 (by omega)
                  have gWJ := gWJ.ag (Agr.putV u163 (by intro q hq; simp only [Gd_WJ, List.mem_cons, List.not_mem_nil, or_false] at hq; rcases hq with rfl <;> dsimp only [inRc] <;> omega))
                  have gWK := gWK.ag (Agr.putV u163 (by intro q hq; simp only [Gd_WK, List.mem_cons, List.not_mem_nil, or_false] at hq; rcases hq with rfl <;> dsimp only [inRc] <;> omega))
                  have t164 : (σ163 387 3).toInt = (σ34 387 3).toInt := congrArg Int32.toInt (u163 387 3 (by omega))
                  have t165 : (σ163 387 34).toInt = (σ34 387 34).toInt := congrArg Int32.toInt (u163 387 34 (by omega))
                  have t166 : (σ163 389 1).toInt = (σ34 389 1).toInt := congrArg Int32.toInt (u163 389 1 (by omega))
                  have t167 : (σ163 387 18).toInt = (σ34 387 18).toInt := congrArg Int32.toInt (u163 387 18 (by omega))
                  have t168 : (σ163 387 15).toInt = (σ34 387 15).toInt := congrArg Int32.toInt (u163 387 15 (by omega))
                  have t169 : (σ163 391 j25).toInt = (σ34 391 j25).toInt := congrArg Int32.toInt (u163 391 j25 (by omega))
                  have t170 : (σ163 387 4).toInt = (σ34 387 4).toInt := congrArg Int32.toInt (u163 387 4 (by omega))
                  have t171 : (σ163 387 11).toInt = (σ34 387 11).toInt := congrArg Int32.toInt (u163 387 11 (by omega))
                  refine lv_aload_n hx hb dX12_rollLine_239 rfl (lv_at hl 3 rfl) ?_
                  refine r_cVv (k := 387) (As := []) (rest := []) ⟨hx, hb, hml, hown, hts⟩ hK hP hN hS (c_X12_next_v l D cA ad hI σ163 τ34 hR _ _ _ _ gMK.mp gMT) (cwV 0 hts gX12_rollLine_X12_next rfl rfl rfl (by decide +kernel) ⟨by decide, by decide⟩) (rv_M hK hP (by decide) (by decide)) rfl hl.1 rfl (Nat.le_of_ble_eq_true rfl) dX12_rollLine_240 (Nat.zero_le _) (Nat.zero_le _) (fun u172 H172 locs172 hp172 hP hS => ?_)
                  obtain ⟨σ172, τ172⟩ := u172
                  obtain ⟨hR, f172, fL172, hp172_0, hp172_1, hp172_2, hp172_3, gnMT⟩ : P_X12_next_v σ163 τ34 _ _ _ _ σ172 τ172 := hp172
                  have hP : va_P D vwCl (gw cA ad σ172 τ172) H172 := hP
                  clear hp34_1
                  have hFL := hFL.step fL172 (by decide)
                  have gRV := gRV.agL (AgrL.fr fL172 (by decide))
                  have gWJ := gWJ.agL (AgrL.fr fL172 (by decide))
                  have gWK := gWK.agL (AgrL.fr fL172 (by decide))
                  have hF := hF.step f172 (by decide)
                  have gMT := gMT.ag (Agr.fr f172 (by decide))
                  have gRXp := RXp.fr gRXp (by omega) f172 (by decide)
                  have gWJ := gWJ.ag (Agr.fr f172 (by decide))
                  have gWK := gWK.ag (Agr.fr f172 (by decide))
                  have t173 : (σ172 387 3).toInt = (σ163 387 3).toInt := congrArg Int32.toInt (f172.at 387 3 (by decide))
                  have t174 : (σ172 387 34).toInt = (σ163 387 34).toInt := congrArg Int32.toInt (f172.at 387 34 (by decide))
                  have t175 : (σ172 389 1).toInt = (σ163 389 1).toInt := congrArg Int32.toInt (f172.at 389 1 (by decide))
                  have t176 : (σ172 387 18).toInt = (σ163 387 18).toInt := congrArg Int32.toInt (f172.at 387 18 (by decide))
                  have t177 : (σ172 387 15).toInt = (σ163 387 15).toInt := congrArg Int32.toInt (f172.at 387 15 (by decide))
                  have t178 : (σ172 391 j25).toInt = (σ163 391 j25).toInt := congrArg Int32.toInt (f172.atV 391 j25 (by intro q hq; simp only [L_X12_next_v, List.mem_cons, List.not_mem_nil, or_false] at hq; rcases hq with rfl | rfl <;> dsimp only <;> omega))
                  have t179 : (σ172 391 j162).toInt = (σ163 391 j162).toInt := congrArg Int32.toInt (f172.atV 391 j162 (by intro q hq; simp only [L_X12_next_v, List.mem_cons, List.not_mem_nil, or_false] at hq; rcases hq with rfl | rfl <;> dsimp only <;> omega))
                  have hr180 := rg_12_4 hR (k := 387) (by decide) (by decide)
                  have gMK := hp172_3
                  refine lv_iload_n hx hb dX12_rollLine_243 rfl (lv_at hl 0 rfl) ?_
                  refine r_iconst hx hb dX12_rollLine_244 (by decide) (fun z181 ez181 => ?_)
                  refine r_icmp_ne (tgt := 261) hx hb dX12_rollLine_245 (by decide) (fun c182 => ?_) (fun c182 => ?_)
                  · refine lv_aload_n hx hb dX12_rollLine_261 rfl (lv_at hl 3 rfl) ?_
                    refine lv_iload_n hx hb dX12_rollLine_262 rfl (lv_at hl 0 rfl) ?_
                    refine r_iconst hx hb dX12_rollLine_263 (by decide) (fun z183 ez183 => ?_)
                    refine r_icmp_ne (tgt := 271) hx hb dX12_rollLine_264 (by decide) (fun c184 => ?_) (fun c184 => ?_)
                    · exfalso; omega
                    · refine r_iconst hx hb dX12_rollLine_267 (by decide) (fun z185 ez185 => ?_)
                      refine lv_goto (tgt := 273) hx hb dX12_rollLine_268 (by decide) ?_
                      refine lv_aload_n hx hb dX12_rollLine_273 rfl (lv_at hl 3 rfl) ?_
                      refine fg_12_6 (k := 387) hx hb hts in_X12_rollLine_12 hown hK hP (by decide) (by decide) (hts _ lk_X12_rollLine_33) dX12_rollLine_274 ?_
                      refine lv_iload_n hx hb dX12_rollLine_277 rfl (lv_at hl 0 rfl) ?_
                      refine r_iconst hx hb dX12_rollLine_278 (by decide) (fun z186 ez186 => ?_)
                      refine r_icmp_ne (tgt := 286) hx hb dX12_rollLine_279 (by decide) (fun c187 => ?_) (fun c187 => ?_)
                      · exfalso; omega
                      · refine r_iconst hx hb dX12_rollLine_282 (by decide) (fun z188 ez188 => ?_)
                        refine lv_goto (tgt := 287) hx hb dX12_rollLine_283 (by decide) ?_
                        refine ad_ms (k := 389) (j := 0) hx hb hK hP (by decide) (by decide) (by omega) (by omega) dX12_rollLine_287 ?_
                        have hr189 := ra_ms_0 hR (k := 389) (j := 0) (by decide) (by decide) (by decide) (by decide)
                        have hwj := gWJ.1
                        have hwk := gWK.1
                        refine r_cVi (k := 387) (As := [.int z185, .int (σ172 389 0)]) (rest := []) ⟨hx, hb, hml, hown, hts⟩ hK hP hN hS (c_X12_takesName_x l D cA ad hI σ172 τ172 hR z185 (σ172 389 0) b N mo _ nm hc mm mc _ _ _ (by omega) (by omega) (by first | exact Or.inl ⟨rfl, rfl, rfl, by omega⟩ | exact Or.inr ⟨rfl, rfl, rfl, by omega⟩) (by omega) (by omega) gMT gMK gRV gWJ gWK) (cwV 2 hts gX12_rollLine_X12_takesName rfl rfl rfl (by decide +kernel) ⟨by decide, by decide⟩) (rv_M hK hP (by decide) (by decide)) rfl hl.1 rfl (Nat.le_of_ble_eq_true rfl) dX12_rollLine_288 (Nat.zero_le _) (Nat.zero_le _) (fun r190 u190 H190 locs190 hp190 hP hS => ?_)
                        obtain ⟨σ190, τ190⟩ := u190
                        obtain ⟨hR, f190, fL190, hq190, hp190_0, hp190_1, hp190_2, hp190_3, hp190_4, hp190_5, gnMT, gnRV, gnWJ, gnWK⟩ : P_X12_takesName_x σ172 τ172 z185 (σ172 389 0) b N mo _ nm hc mm mc _ _ _ r190 σ190 τ190 := hp190
                        have o5 := hp190_4
                        have hP : va_P D vwCl (gw cA ad σ190 τ190) H190 := hP
                        clear hp172_1
                        have hFL := hFL.step fL190 (by decide)
                        have gRV := gRV.agL (AgrL.fr fL190 (by decide))
                        have gWJ := gWJ.agL (AgrL.fr fL190 (by decide))
                        have gWK := gWK.agL (AgrL.fr fL190 (by decide))
                        have hF := hF.step f190 (by decide)
                        have gMT := gMT.ag (Agr.fr f190 (by decide))
                        have gRXp := RXp.fr gRXp (by omega) f190 (by decide)
                        have gWJ := gWJ.ag (Agr.fr f190 (by decide))
                        have gWK := gWK.ag (Agr.fr f190 (by decide))
                        have t191 : (σ190 387 3).toInt = (σ172 387 3).toInt := congrArg Int32.toInt (f190.at 387 3 (by decide))
                        have t192 : (σ190 387 34).toInt = (σ172 387 34).toInt := congrArg Int32.toInt (f190.at 387 34 (by decide))
                        have t193 : (σ190 389 1).toInt = (σ172 389 1).toInt := congrArg Int32.toInt (f190.at 389 1 (by decide))
                        have t194 : (σ190 391 j25).toInt = (σ172 391 j25).toInt := congrArg Int32.toInt (f190.atV 391 j25 (by intro q hq; simp only [L_X12_takesName_x, List.mem_cons, List.not_mem_nil, or_false] at hq; rcases hq with rfl | rfl | rfl <;> dsimp only <;> omega))
                        have t195 : (σ190 391 j162).toInt = (σ172 391 j162).toInt := congrArg Int32.toInt (f190.atV 391 j162 (by intro q hq; simp only [L_X12_takesName_x, List.mem_cons, List.not_mem_nil, or_false] at hq; rcases hq with rfl | rfl | rfl <;> dsimp only <;> omega))
                        have t196 : (σ190 389 0).toInt = (σ172 389 0).toInt := congrArg Int32.toInt (f190.at 389 0 (by decide))
                        have hr197 := rg_12_4 hR (k := 387) (by decide) (by decide)
                        refine r_if_ne (tgt := 296) hx hb dX12_rollLine_291 (by decide) (fun c198 => ?_) (fun c198 => ?_)
                        · replace hp190_1 := hp190_1.resolve_left (by omega)
                          replace hp190_2 := hp190_2.resolve_left (by omega)
                          replace hp190_3 := hp190_3.resolve_left (by omega)
                          replace hp190_5 := hp190_5.resolve_left (by omega)
                          first | (obtain ⟨y, e4, gMK, gvy⟩ := o4.ye (by omega)) | (obtain ⟨k2, e5, gv5, gMK⟩ := o5.ye (by omega))
                          refine lv_aload_n hx hb dX12_rollLine_296 rfl (lv_at hl 3 rfl) ?_
                          refine fg_12_8 (k := 387) hx hb hts in_X12_rollLine_12 hown hK hP (by decide) (by decide) (hts _ lk_X12_rollLine_40) dX12_rollLine_297 ?_
                          refine lv_iload_n hx hb dX12_rollLine_300 rfl (lv_at hl 2 rfl) ?_
                          refine r_iconst hx hb dX12_rollLine_301 (by decide) (fun z199 ez199 => ?_)
                          refine r_iadd hx hb dX12_rollLine_302 (by omega) (fun z200 ez200 => ?_)
                          refine lv_aload_n hx hb dX12_rollLine_303 rfl (lv_at hl 3 rfl) ?_
                          refine fg_12_18 (k := 387) hx hb hts in_X12_rollLine_12 hown hK hP (by decide) (by decide) (hts _ lk_X12_rollLine_195) dX12_rollLine_304 ?_
                          obtain ⟨j201, ej201⟩ : ∃ j : Nat, z200.toInt = (j : Int) := ⟨_, ti_nat (by omega)⟩
                          refine as_mread (k := 391) (j := j201) hx hb hK hP hI hR hS (by decide) (by decide) ej201 (by omega) dX12_rollLine_307 (fun σ202 H202 locs202 u202 v202 hR hP hS => ?_)
                          have hF := hF.puts u202 3 rfl (by decide) (by decide) (by omega) (by omega)
                          have gMK := gMK.ag (Agr.putV u202 (by intro q hq; simp only [Gd_MK, List.mem_cons, List.not_mem_nil, or_false] at hq; rcases hq with rfl | rfl | rfl <;> dsimp only [inRc] <;> omega))
                          have gMT := gMT.ag (Agr.putV u202 (by intro q hq; simp only [Gd_MT, List.mem_cons, List.not_mem_nil, or_false] at hq; rcases hq with rfl | rfl | rfl <;> dsimp only [inRc] <;> omega))
                          have gRXp := RXp.st gRXp u202 (by omega)
                          have gWJ := gWJ.ag (Agr.putV u202 (by intro q hq; simp only [Gd_WJ, List.mem_cons, List.not_mem_nil, or_false] at hq; rcases hq with rfl <;> dsimp only [inRc] <;> omega))
                          have gWK := gWK.ag (Agr.putV u202 (by intro q hq; simp only [Gd_WK, List.mem_cons, List.not_mem_nil, or_false] at hq; rcases hq with rfl <;> dsimp only [inRc] <;> omega))
                          have t203 : (σ202 387 3).toInt = (σ190 387 3).toInt := congrArg Int32.toInt (u202 387 3 (by omega))
                          have t204 : (σ202 387 34).toInt = (σ190 387 34).toInt := congrArg Int32.toInt (u202 387 34 (by omega))
                          have t205 : (σ202 389 1).toInt = (σ190 389 1).toInt := congrArg Int32.toInt (u202 389 1 (by omega))
                          have t206 : (σ202 391 j25).toInt = (σ190 391 j25).toInt := congrArg Int32.toInt (u202 391 j25 (by omega))
                          have t207 : (σ202 391 j162).toInt = (σ190 391 j162).toInt := congrArg Int32.toInt (u202 391 j162 (by omega))
                          have t208 : (σ202 389 0).toInt = (σ190 389 0).toInt := congrArg Int32.toInt (u202 389 0 (by omega))
                          have t209 : (σ202 387 4).toInt = (σ190 387 4).toInt := congrArg Int32.toInt (u202 387 4 (by omega))
                          have t210 : (σ202 387 11).toInt = (σ190 387 11).toInt := congrArg Int32.toInt (u202 387 11 (by omega))
                          have t211 : (σ202 387 18).toInt = (σ190 387 18).toInt := congrArg Int32.toInt (u202 387 18 (by omega))
                          have t212 : (σ202 387 15).toInt = (σ190 387 15).toInt := congrArg Int32.toInt (u202 387 15 (by omega))
                          refine r_iconst hx hb dX12_rollLine_308 (by decide) (fun z213 ez213 => ?_)
                          exact r_zret hx hb hr hK hP hS hk (by omega) dX12_rollLine_309 (show P_X12_rollLine σ0 τ0 b N mo q nm hc mm mc nn z213 σ202 τ190 from ⟨hR, hF, hFL, by omega, by omega, by omega, by first | exact Or.inl (by omega) | exact Or.inr ⟨by omega, gRXp, fun t ht => OKL.of_w (j := j162) (by omega) (by omega)⟩ | exact Or.inr ⟨by omega, gRXp, fun t ht => OKL.of3 (j1 := j162) (j2 := j25) (j3 := j201) (by omega) (by omega) (by omega) (by omega) (by omega) (by omega)⟩, by first | (exfalso; omega) | exact MO.ofk (rol_4 (by omega) (by omega)) (by omega) (by omega) (by omega) | exact MO.ofr (rol_19 (by omega) (by omega)) (by omega) gMK | (obtain ⟨f, e3, x1, x2⟩ := o3.no (by omega); exact MO.ofl (by rw [rol_14 (by omega) (by omega), numP_cg (lo := 0) (hi := 3) e3 (by omega) (by omega), bnd_l]) (by omega) x1 x2) | exact MO.ofr (by rw [rol_14 (by omega) (by omega), numP_cg (lo := 0) (hi := 3) e3 (by omega) (by omega), bnd_r]) (by omega) gMK | (obtain ⟨f, e3, x1, x2⟩ := o3.no (by omega); exact MO.ofl (by rw [rol_15 (by omega) (by omega), numP_cg (lo := 1) (hi := 99) e3 (by omega) (by omega), bnd_l]) (by omega) x1 x2) | exact MO.ofr (by rw [rol_15 (by omega) (by omega), numP_cg (lo := 1) (hi := 99) e3 (by omega) (by omega), bnd_r]) (by omega) gMK | (obtain ⟨f, e1, x1, x2⟩ := o1.no (by omega); exact MO.ofl (by rw [rol_m (by omega), e1, bnd_l]) (by omega) x1 x2) | exact MO.ofk (by rw [rol_m (by omega), e1, bnd_r, if_pos (by omega)]) (by omega) (by omega) (by omega) | exact MO.ofk (by rw [rol_m (by omega), e1, bnd_r, if_neg (by omega), act_x (by omega)]) (by omega) (by omega) (by omega) | (obtain ⟨f, e4, x1, x2⟩ := o4.no (by omega); exact MO.ofl (by rw [rol_m (by omega), e1, bnd_r, if_neg (by omega), act_17 (by omega), e4, bnd_l]) (by omega) x1 x2) | exact MO.ofr (by rw [rol_m (by omega), e1, bnd_r, if_neg (by omega), act_17 (by omega), e4, bnd_r]) (by omega) gMK | (obtain ⟨f, e5, x1, x2⟩ := o5.no (by omega); exact MO.ofl (by rw [rol_m (by omega), e1, bnd_r, if_neg (by omega), act_16 (by omega), e5, bnd_l]) (by omega) x1 x2) | exact MO.ofr (by rw [rol_m (by omega), e1, bnd_r, if_neg (by omega), act_16 (by omega), e5, bnd_r]) (by omega) gMK | (obtain ⟨f, e5, x1, x2⟩ := o5.no (by omega); exact MO.ofl (by rw [rol_m (by omega), e1, bnd_r, if_neg (by omega), act_18 (by omega), e5, bnd_l]) (by omega) x1 x2) | exact MO.ofr (by rw [rol_m (by omega), e1, bnd_r, if_neg (by omega), act_18 (by omega), e5, bnd_r]) (by omega) gMK, by omega, gMT, gRV, gWJ, gWK⟩)
                        · clear hp190_1 hp190_2 hp190_3 hp190_5
                          refine r_iconst hx hb dX12_rollLine_294 (by decide) (fun z214 ez214 => ?_)
                          exact r_zret hx hb hr hK hP hS hk (by omega) dX12_rollLine_295 (show P_X12_rollLine σ0 τ0 b N mo q nm hc mm mc nn z214 σ190 τ190 from ⟨hR, hF, hFL, by omega, by omega, by omega, by first | exact Or.inl (by omega) | exact Or.inr ⟨by omega, gRXp, fun t ht => OKL.of_w (j := j162) (by omega) (by omega)⟩ | exact Or.inr ⟨by omega, gRXp, fun t ht => OKL.of3 (j1 := j162) (j2 := j25) (j3 := 0) (by omega) (by omega) (by omega) (by omega) (by omega) (by omega)⟩, by first | (exfalso; omega) | exact MO.ofk (rol_4 (by omega) (by omega)) (by omega) (by omega) (by omega) | exact MO.ofr (rol_19 (by omega) (by omega)) (by omega) gMK | (obtain ⟨f, e3, x1, x2⟩ := o3.no (by omega); exact MO.ofl (by rw [rol_14 (by omega) (by omega), numP_cg (lo := 0) (hi := 3) e3 (by omega) (by omega), bnd_l]) (by omega) x1 x2) | exact MO.ofr (by rw [rol_14 (by omega) (by omega), numP_cg (lo := 0) (hi := 3) e3 (by omega) (by omega), bnd_r]) (by omega) gMK | (obtain ⟨f, e3, x1, x2⟩ := o3.no (by omega); exact MO.ofl (by rw [rol_15 (by omega) (by omega), numP_cg (lo := 1) (hi := 99) e3 (by omega) (by omega), bnd_l]) (by omega) x1 x2) | exact MO.ofr (by rw [rol_15 (by omega) (by omega), numP_cg (lo := 1) (hi := 99) e3 (by omega) (by omega), bnd_r]) (by omega) gMK | (obtain ⟨f, e1, x1, x2⟩ := o1.no (by omega); exact MO.ofl (by rw [rol_m (by omega), e1, bnd_l]) (by omega) x1 x2) | exact MO.ofk (by rw [rol_m (by omega), e1, bnd_r, if_pos (by omega)]) (by omega) (by omega) (by omega) | exact MO.ofk (by rw [rol_m (by omega), e1, bnd_r, if_neg (by omega), act_x (by omega)]) (by omega) (by omega) (by omega) | (obtain ⟨f, e4, x1, x2⟩ := o4.no (by omega); exact MO.ofl (by rw [rol_m (by omega), e1, bnd_r, if_neg (by omega), act_17 (by omega), e4, bnd_l]) (by omega) x1 x2) | exact MO.ofr (by rw [rol_m (by omega), e1, bnd_r, if_neg (by omega), act_17 (by omega), e4, bnd_r]) (by omega) gMK | (obtain ⟨f, e5, x1, x2⟩ := o5.no (by omega); exact MO.ofl (by rw [rol_m (by omega), e1, bnd_r, if_neg (by omega), act_16 (by omega), e5, bnd_l]) (by omega) x1 x2) | exact MO.ofr (by rw [rol_m (by omega), e1, bnd_r, if_neg (by omega), act_16 (by omega), e5, bnd_r]) (by omega) gMK | (obtain ⟨f, e5, x1, x2⟩ := o5.no (by omega); exact MO.ofl (by rw [rol_m (by omega), e1, bnd_r, if_neg (by omega), act_18 (by omega), e5, bnd_l]) (by omega) x1 x2) | exact MO.ofr (by rw [rol_m (by omega), e1, bnd_r, if_neg (by omega), act_18 (by omega), e5, bnd_r]) (by omega) gMK, by omega, gMT, gRV, gWJ, gWK⟩)
                  · exfalso; omega
                · exfalso; omega
            · refine lv_aload_n hx hb dX12_rollLine_156 rfl (lv_at hl 2 rfl) ?_
              refine r_iconst hx hb dX12_rollLine_157 (by decide) (fun z215 ez215 => ?_)
              refine r_cVi (k := 387) (As := [.int z215]) (rest := []) ⟨hx, hb, hml, hown, hts⟩ hK hP hN hS (c_X12_bad_v l D cA ad hI σ14 τ0 hR z215 _ _ _ _ (by omega) gMK) (cwV 1 hts gX12_rollLine_X12_bad rfl rfl rfl (by decide +kernel) ⟨by decide, by decide⟩) (rv_M hK hP (by decide) (by decide)) rfl hl.1 rfl (Nat.le_of_ble_eq_true rfl) dX12_rollLine_158 (Nat.zero_le _) (Nat.zero_le _) (fun r216 u216 H216 locs216 hp216 hP hS => ?_)
              obtain ⟨σ216, τ216⟩ := u216
              obtain ⟨hR, f216, fL216, hq216, hp216_0, hp216_1, hp216_2, gnMK⟩ : P_X12_bad_v σ14 τ0 z215 _ _ _ _ r216 σ216 τ216 := hp216
              have hP : va_P D vwCl (gw cA ad σ216 τ216) H216 := hP
              obtain rfl := FrL.nil fL216
              have hF := hF.step f216 (by decide)
              have gMK := gMK.ag (Agr.fr f216 (by decide))
              have gMT := gMT.ag (Agr.fr f216 (by decide))
              have gRXp := RXp.fr gRXp (by omega) f216 (by decide)
              have gWJ := gWJ.ag (Agr.fr f216 (by decide))
              have gWK := gWK.ag (Agr.fr f216 (by decide))
              have t217 : (σ216 387 4).toInt = (σ14 387 4).toInt := congrArg Int32.toInt (f216.at 387 4 (by decide))
              have t218 : (σ216 387 3).toInt = (σ14 387 3).toInt := congrArg Int32.toInt (f216.at 387 3 (by decide))
              have t219 : (σ216 387 11).toInt = (σ14 387 11).toInt := congrArg Int32.toInt (f216.at 387 11 (by decide))
              have t220 : (σ216 387 34).toInt = (σ14 387 34).toInt := congrArg Int32.toInt (f216.at 387 34 (by decide))
              have t221 : (σ216 389 1).toInt = (σ14 389 1).toInt := congrArg Int32.toInt (f216.at 389 1 (by decide))
              have t222 : (σ216 387 18).toInt = (σ14 387 18).toInt := congrArg Int32.toInt (f216.at 387 18 (by decide))
              exact r_zret hx hb hr hK hP hS hk (by omega) dX12_rollLine_161 (show P_X12_rollLine σ0 τ0 b N mo q nm hc mm mc nn r216 σ216 τ0 from ⟨hR, hF, hFL, by omega, by omega, by omega, by first | exact Or.inl (by omega) | exact Or.inr ⟨by omega, gRXp, fun t ht => OKL.of_w (j := 0) (by omega) (by omega)⟩ | exact Or.inr ⟨by omega, gRXp, fun t ht => OKL.of3 (j1 := 0) (j2 := 0) (j3 := 0) (by omega) (by omega) (by omega) (by omega) (by omega) (by omega)⟩, by first | (exfalso; omega) | exact MO.ofk (rol_4 (by omega) (by omega)) (by omega) (by omega) (by omega) | exact MO.ofr (rol_19 (by omega) (by omega)) (by omega) gMK | (obtain ⟨f, e3, x1, x2⟩ := o3.no (by omega); exact MO.ofl (by rw [rol_14 (by omega) (by omega), numP_cg (lo := 0) (hi := 3) e3 (by omega) (by omega), bnd_l]) (by omega) x1 x2) | exact MO.ofr (by rw [rol_14 (by omega) (by omega), numP_cg (lo := 0) (hi := 3) e3 (by omega) (by omega), bnd_r]) (by omega) gMK | (obtain ⟨f, e3, x1, x2⟩ := o3.no (by omega); exact MO.ofl (by rw [rol_15 (by omega) (by omega), numP_cg (lo := 1) (hi := 99) e3 (by omega) (by omega), bnd_l]) (by omega) x1 x2) | exact MO.ofr (by rw [rol_15 (by omega) (by omega), numP_cg (lo := 1) (hi := 99) e3 (by omega) (by omega), bnd_r]) (by omega) gMK | (obtain ⟨f, e1, x1, x2⟩ := o1.no (by omega); exact MO.ofl (by rw [rol_m (by omega), e1, bnd_l]) (by omega) x1 x2) | exact MO.ofk (by rw [rol_m (by omega), e1, bnd_r, if_pos (by omega)]) (by omega) (by omega) (by omega) | exact MO.ofk (by rw [rol_m (by omega), e1, bnd_r, if_neg (by omega), act_x (by omega)]) (by omega) (by omega) (by omega) | (obtain ⟨f, e4, x1, x2⟩ := o4.no (by omega); exact MO.ofl (by rw [rol_m (by omega), e1, bnd_r, if_neg (by omega), act_17 (by omega), e4, bnd_l]) (by omega) x1 x2) | exact MO.ofr (by rw [rol_m (by omega), e1, bnd_r, if_neg (by omega), act_17 (by omega), e4, bnd_r]) (by omega) gMK | (obtain ⟨f, e5, x1, x2⟩ := o5.no (by omega); exact MO.ofl (by rw [rol_m (by omega), e1, bnd_r, if_neg (by omega), act_16 (by omega), e5, bnd_l]) (by omega) x1 x2) | exact MO.ofr (by rw [rol_m (by omega), e1, bnd_r, if_neg (by omega), act_16 (by omega), e5, bnd_r]) (by omega) gMK | (obtain ⟨f, e5, x1, x2⟩ := o5.no (by omega); exact MO.ofl (by rw [rol_m (by omega), e1, bnd_r, if_neg (by omega), act_18 (by omega), e5, bnd_l]) (by omega) x1 x2) | exact MO.ofr (by rw [rol_m (by omega), e1, bnd_r, if_neg (by omega), act_18 (by omega), e5, bnd_r]) (by omega) gMK, by omega, gMT, gRV, gWJ, gWK⟩)
          · clear hp14_0 hp14_1 hp14_3
            refine r_iconst hx hb dX12_rollLine_145 (by decide) (fun z223 ez223 => ?_)
            exact r_zret hx hb hr hK hP hS hk (by omega) dX12_rollLine_146 (show P_X12_rollLine σ0 τ0 b N mo q nm hc mm mc nn z223 σ14 τ0 from ⟨hR, hF, hFL, by omega, by omega, by omega, by first | exact Or.inl (by omega) | exact Or.inr ⟨by omega, gRXp, fun t ht => OKL.of_w (j := 0) (by omega) (by omega)⟩ | exact Or.inr ⟨by omega, gRXp, fun t ht => OKL.of3 (j1 := 0) (j2 := 0) (j3 := 0) (by omega) (by omega) (by omega) (by omega) (by omega) (by omega)⟩, by first | (exfalso; omega) | exact MO.ofk (rol_4 (by omega) (by omega)) (by omega) (by omega) (by omega) | exact MO.ofr (rol_19 (by omega) (by omega)) (by omega) gMK | (obtain ⟨f, e3, x1, x2⟩ := o3.no (by omega); exact MO.ofl (by rw [rol_14 (by omega) (by omega), numP_cg (lo := 0) (hi := 3) e3 (by omega) (by omega), bnd_l]) (by omega) x1 x2) | exact MO.ofr (by rw [rol_14 (by omega) (by omega), numP_cg (lo := 0) (hi := 3) e3 (by omega) (by omega), bnd_r]) (by omega) gMK | (obtain ⟨f, e3, x1, x2⟩ := o3.no (by omega); exact MO.ofl (by rw [rol_15 (by omega) (by omega), numP_cg (lo := 1) (hi := 99) e3 (by omega) (by omega), bnd_l]) (by omega) x1 x2) | exact MO.ofr (by rw [rol_15 (by omega) (by omega), numP_cg (lo := 1) (hi := 99) e3 (by omega) (by omega), bnd_r]) (by omega) gMK | (obtain ⟨f, e1, x1, x2⟩ := o1.no (by omega); exact MO.ofl (by rw [rol_m (by omega), e1, bnd_l]) (by omega) x1 x2) | exact MO.ofk (by rw [rol_m (by omega), e1, bnd_r, if_pos (by omega)]) (by omega) (by omega) (by omega) | exact MO.ofk (by rw [rol_m (by omega), e1, bnd_r, if_neg (by omega), act_x (by omega)]) (by omega) (by omega) (by omega) | (obtain ⟨f, e4, x1, x2⟩ := o4.no (by omega); exact MO.ofl (by rw [rol_m (by omega), e1, bnd_r, if_neg (by omega), act_17 (by omega), e4, bnd_l]) (by omega) x1 x2) | exact MO.ofr (by rw [rol_m (by omega), e1, bnd_r, if_neg (by omega), act_17 (by omega), e4, bnd_r]) (by omega) gMK | (obtain ⟨f, e5, x1, x2⟩ := o5.no (by omega); exact MO.ofl (by rw [rol_m (by omega), e1, bnd_r, if_neg (by omega), act_16 (by omega), e5, bnd_l]) (by omega) x1 x2) | exact MO.ofr (by rw [rol_m (by omega), e1, bnd_r, if_neg (by omega), act_16 (by omega), e5, bnd_r]) (by omega) gMK | (obtain ⟨f, e5, x1, x2⟩ := o5.no (by omega); exact MO.ofl (by rw [rol_m (by omega), e1, bnd_r, if_neg (by omega), act_18 (by omega), e5, bnd_l]) (by omega) x1 x2) | exact MO.ofr (by rw [rol_m (by omega), e1, bnd_r, if_neg (by omega), act_18 (by omega), e5, bnd_r]) (by omega) gMK, by omega, gMT, gRV, gWJ, gWK⟩)
        · exfalso; omega
      · replace hp7_0 := hp7_0.resolve_left (by omega)
        have eia3 := (ia3.resolve_right (fun c => by omega)).2
        clear ia3
        refine r_iconst hx hb dX12_rollLine_45 (by decide) (fun z224 ez224 => ?_)
        refine lv_goto (tgt := 50) hx hb dX12_rollLine_46 (by decide) ?_
        refine lv_istore_n (lv' := [(2, .int z224), (1, .int z2), (0, .ref (ad 387))]) hx hb dX12_rollLine_50 rfl hl (by decide) rfl (fun ls hl => ?_)
        refine lv_iload_n hx hb dX12_rollLine_51 rfl (lv_at hl 0 rfl) ?_
        refine r_if_lt (tgt := 130) hx hb dX12_rollLine_52 (by decide) (fun c225 => ?_) (fun c225 => ?_)
        · exfalso; omega
        · refine lv_aload_n hx hb dX12_rollLine_55 rfl (lv_at hl 2 rfl) ?_
          refine fg_12_34 (k := 387) hx hb hts in_X12_rollLine_12 hown hK hP (by decide) (by decide) (hts _ lk_X12_rollLine_416) dX12_rollLine_56 ?_
          refine r_bipush hx hb dX12_rollLine_59 (by decide) (fun z226 ez226 => ?_)
          refine r_icmp_ne (tgt := 70) hx hb dX12_rollLine_61 (by decide) (fun c227 => ?_) (fun c227 => ?_)
          · refine lv_aload_n hx hb dX12_rollLine_70 rfl (lv_at hl 2 rfl) ?_
            refine fg_12_8 (k := 387) hx hb hts in_X12_rollLine_12 hown hK hP (by decide) (by decide) (hts _ lk_X12_rollLine_40) dX12_rollLine_71 ?_
            refine lv_iload_n hx hb dX12_rollLine_74 rfl (lv_at hl 1 rfl) ?_
            refine lv_iload_n hx hb dX12_rollLine_75 rfl (lv_at hl 0 rfl) ?_
            obtain ⟨j228, ej228⟩ : ∃ j : Nat, z2.toInt = (j : Int) := ⟨_, ti_nat (by omega)⟩
            refine as_mread (k := 391) (j := j228) hx hb hK hP hI hR hS (by decide) (by decide) ej228 (by omega) dX12_rollLine_76 (fun σ229 H229 locs229 u229 v229 hR hP hS => ?_)
            have hF := hF.puts u229 3 rfl (by decide) (by decide) (by omega) (by omega)
            have gMK := gMK.ag (Agr.putV u229 (by intro q hq; simp only [Gd_MK, List.mem_cons, List.not_mem_nil, or_false] at hq; rcases hq with rfl | rfl | rfl <;> dsimp only [inRc] <;> omega))
            have gMT := gMT.ag (Agr.putV u229 (by intro q hq; simp only [Gd_MT, List.mem_cons, List.not_mem_nil, or_false] at hq; rcases hq with rfl | rfl | rfl <;> dsimp only [inRc] <;> omega))
            have gRXp := RXp.st gRXp u229 (by omega)
            have gWJ := gWJ.ag (Agr.putV u229 (by intro q hq; simp only [Gd_WJ, List.mem_cons, List.not_mem_nil, or_false] at hq; rcases hq with rfl <;> dsimp only [inRc] <;> omega))
            have gWK := gWK.ag (Agr.putV u229 (by intro q hq; simp only [Gd_WK, List.mem_cons, List.not_mem_nil, or_false] at hq; rcases hq with rfl <;> dsimp only [inRc] <;> omega))
            have t230 : (σ229 387 4).toInt = (σ0 387 4).toInt := congrArg Int32.toInt (u229 387 4 (by omega))
            have t231 : (σ229 387 3).toInt = (σ0 387 3).toInt := congrArg Int32.toInt (u229 387 3 (by omega))
            have t232 : (σ229 387 11).toInt = (σ0 387 11).toInt := congrArg Int32.toInt (u229 387 11 (by omega))
            have t233 : (σ229 387 18).toInt = (σ0 387 18).toInt := congrArg Int32.toInt (u229 387 18 (by omega))
            have t234 : (σ229 387 34).toInt = (σ0 387 34).toInt := congrArg Int32.toInt (u229 387 34 (by omega))
            have t235 : (σ229 387 15).toInt = (σ0 387 15).toInt := congrArg Int32.toInt (u229 387 15 (by omega))
            refine lv_aload_n hx hb dX12_rollLine_77 rfl (lv_at hl 2 rfl) ?_
            refine r_cVv (k := 387) (As := []) (rest := []) ⟨hx, hb, hml, hown, hts⟩ hK hP hN hS (c_X12_next_v l D cA ad hI σ229 τ0 hR _ _ _ _ gMK.mp gMT) (cwV 0 hts gX12_rollLine_X12_next rfl rfl rfl (by decide +kernel) ⟨by decide, by decide⟩) (rv_M hK hP (by decide) (by decide)) rfl hl.1 rfl (Nat.le_of_ble_eq_true rfl) dX12_rollLine_78 (Nat.zero_le _) (Nat.zero_le _) (fun u236 H236 locs236 hp236 hP hS => ?_)
            obtain ⟨σ236, τ236⟩ := u236
            obtain ⟨hR, f236, fL236, hp236_0, hp236_1, hp236_2, hp236_3, gnMT⟩ : P_X12_next_v σ229 τ0 _ _ _ _ σ236 τ236 := hp236
            have hP : va_P D vwCl (gw cA ad σ236 τ236) H236 := hP
            have hFL := hFL.step fL236 (by decide)
            have gRV := gRV.agL (AgrL.fr fL236 (by decide))
            have gWJ := gWJ.agL (AgrL.fr fL236 (by decide))
            have gWK := gWK.agL (AgrL.fr fL236 (by decide))
            have hF := hF.step f236 (by decide)
            have gMT := gMT.ag (Agr.fr f236 (by decide))
            have gRXp := RXp.fr gRXp (by omega) f236 (by decide)
            have gWJ := gWJ.ag (Agr.fr f236 (by decide))
            have gWK := gWK.ag (Agr.fr f236 (by decide))
            have t237 : (σ236 387 3).toInt = (σ229 387 3).toInt := congrArg Int32.toInt (f236.at 387 3 (by decide))
            have t238 : (σ236 387 18).toInt = (σ229 387 18).toInt := congrArg Int32.toInt (f236.at 387 18 (by decide))
            have t239 : (σ236 387 34).toInt = (σ229 387 34).toInt := congrArg Int32.toInt (f236.at 387 34 (by decide))
            have t240 : (σ236 387 15).toInt = (σ229 387 15).toInt := congrArg Int32.toInt (f236.at 387 15 (by decide))
            have t241 : (σ236 391 j228).toInt = (σ229 391 j228).toInt := congrArg Int32.toInt (f236.atV 391 j228 (by intro q hq; simp only [L_X12_next_v, List.mem_cons, List.not_mem_nil, or_false] at hq; rcases hq with rfl | rfl <;> dsimp only <;> omega))
            have hr242 := rg_12_4 hR (k := 387) (by decide) (by decide)
            have gMK := hp236_3
            refine lv_iload_n hx hb dX12_rollLine_81 rfl (lv_at hl 0 rfl) ?_
            refine r_iconst hx hb dX12_rollLine_82 (by decide) (fun z243 ez243 => ?_)
            refine r_icmp_ne (tgt := 88) hx hb dX12_rollLine_83 (by decide) (fun c244 => ?_) (fun c244 => ?_)
            · refine lv_aload_n hx hb dX12_rollLine_88 rfl (lv_at hl 2 rfl) ?_
              refine lv_iload_n hx hb dX12_rollLine_89 rfl (lv_at hl 0 rfl) ?_
              refine r_if_ne (tgt := 97) hx hb dX12_rollLine_90 (by decide) (fun c245 => ?_) (fun c245 => ?_)
              · refine r_iconst hx hb dX12_rollLine_97 (by decide) (fun z246 ez246 => ?_)
                refine lv_iload_n hx hb dX12_rollLine_98 rfl (lv_at hl 0 rfl) ?_
                refine r_if_ne (tgt := 106) hx hb dX12_rollLine_99 (by decide) (fun c247 => ?_) (fun c247 => ?_)
                · refine r_bipush hx hb dX12_rollLine_106 (by decide) (fun z248 ez248 => ?_)
                  refine r_cVi (k := 387) (As := [.int z246, .int z248]) (rest := []) ⟨hx, hb, hml, hown, hts⟩ hK hP hN hS (c_X12_takes_v l D cA ad hI σ236 τ236 hR z246 z248 b N mo _ _ _ (by omega) (by omega) rfl rfl gMT gMK) (cwV 2 hts gX12_rollLine_X12_takes rfl rfl rfl (by decide +kernel) ⟨by decide, by decide⟩) (rv_M hK hP (by decide) (by decide)) rfl hl.1 rfl (Nat.le_of_ble_eq_true rfl) dX12_rollLine_108 (Nat.zero_le _) (Nat.zero_le _) (fun r249 u249 H249 locs249 hp249 hP hS => ?_)
                  obtain ⟨σ249, τ249⟩ := u249
                  obtain ⟨hR, f249, fL249, hq249, hp249_0, hp249_1, hp249_2, hp249_3, hp249_4, gnMT⟩ : P_X12_takes_v σ236 τ236 z246 z248 b N mo _ _ _ r249 σ249 τ249 := hp249
                  have o3 := hp249_3
                  have hP : va_P D vwCl (gw cA ad σ249 τ249) H249 := hP
                  clear hp236_1
                  have hFL := hFL.step fL249 (by decide)
                  have gRV := gRV.agL (AgrL.fr fL249 (by decide))
                  have gWJ := gWJ.agL (AgrL.fr fL249 (by decide))
                  have gWK := gWK.agL (AgrL.fr fL249 (by decide))
                  have hF := hF.step f249 (by decide)
                  have gMT := gMT.ag (Agr.fr f249 (by decide))
                  have gRXp := RXp.fr gRXp (by omega) f249 (by decide)
                  have gWJ := gWJ.ag (Agr.fr f249 (by decide))
                  have gWK := gWK.ag (Agr.fr f249 (by decide))
                  have t250 : (σ249 387 3).toInt = (σ236 387 3).toInt := congrArg Int32.toInt (f249.at 387 3 (by decide))
                  have t251 : (σ249 387 34).toInt = (σ236 387 34).toInt := congrArg Int32.toInt (f249.at 387 34 (by decide))
                  have t252 : (σ249 391 j228).toInt = (σ236 391 j228).toInt := congrArg Int32.toInt (f249.atV 391 j228 (by intro q hq; simp only [L_X12_takes_v, List.mem_cons, List.not_mem_nil, or_false] at hq; rcases hq with rfl | rfl | rfl <;> dsimp only <;> omega))
                  have hr253 := rg_12_4 hR (k := 387) (by decide) (by decide)
                  refine r_if_ne (tgt := 116) hx hb dX12_rollLine_111 (by decide) (fun c254 => ?_) (fun c254 => ?_)
                  · replace hp249_1 := hp249_1.resolve_left (by omega)
                    replace hp249_2 := hp249_2.resolve_left (by omega)
                    replace hp249_4 := hp249_4.resolve_left (by omega)
                    obtain ⟨y, e3, gMK, gvy⟩ := o3.ye (by omega)
                    refine lv_aload_n hx hb dX12_rollLine_116 rfl (lv_at hl 2 rfl) ?_
                    refine fg_12_8 (k := 387) hx hb hts in_X12_rollLine_12 hown hK hP (by decide) (by decide) (hts _ lk_X12_rollLine_40) dX12_rollLine_117 ?_
                    refine lv_iload_n hx hb dX12_rollLine_120 rfl (lv_at hl 1 rfl) ?_
                    refine r_iconst hx hb dX12_rollLine_121 (by decide) (fun z255 ez255 => ?_)
                    refine r_iadd hx hb dX12_rollLine_122 (by omega) (fun z256 ez256 => ?_)
                    refine lv_aload_n hx hb dX12_rollLine_123 rfl (lv_at hl 2 rfl) ?_
                    refine fg_12_18 (k := 387) hx hb hts in_X12_rollLine_12 hown hK hP (by decide) (by decide) (hts _ lk_X12_rollLine_195) dX12_rollLine_124 ?_
                    obtain ⟨j257, ej257⟩ : ∃ j : Nat, z256.toInt = (j : Int) := ⟨_, ti_nat (by omega)⟩
                    refine as_mread (k := 391) (j := j257) hx hb hK hP hI hR hS (by decide) (by decide) ej257 (by omega) dX12_rollLine_127 (fun σ258 H258 locs258 u258 v258 hR hP hS => ?_)
                    have hF := hF.puts u258 3 rfl (by decide) (by decide) (by omega) (by omega)
                    have gMK := gMK.ag (Agr.putV u258 (by intro q hq; simp only [Gd_MK, List.mem_cons, List.not_mem_nil, or_false] at hq; rcases hq with rfl | rfl | rfl <;> dsimp only [inRc] <;> omega))
                    have gMT := gMT.ag (Agr.putV u258 (by intro q hq; simp only [Gd_MT, List.mem_cons, List.not_mem_nil, or_false] at hq; rcases hq with rfl | rfl | rfl <;> dsimp only [inRc] <;> omega))
                    have gRXp := RXp.st gRXp u258 (by omega)
                    have gWJ := gWJ.ag (Agr.putV u258 (by intro q hq; simp only [Gd_WJ, List.mem_cons, List.not_mem_nil, or_false] at hq; rcases hq with rfl <;> dsimp only [inRc] <;> omega))
                    have gWK := gWK.ag (Agr.putV u258 (by intro q hq; simp only [Gd_WK, List.mem_cons, List.not_mem_nil, or_false] at hq; rcases hq with rfl <;> dsimp only [inRc] <;> omega))
                    have t259 : (σ258 387 3).toInt = (σ249 387 3).toInt := congrArg Int32.toInt (u258 387 3 (by omega))
                    have t260 : (σ258 387 34).toInt = (σ249 387 34).toInt := congrArg Int32.toInt (u258 387 34 (by omega))
                    have t261 : (σ258 391 j228).toInt = (σ249 391 j228).toInt := congrArg Int32.toInt (u258 391 j228 (by omega))
                    have t262 : (σ258 387 4).toInt = (σ249 387 4).toInt := congrArg Int32.toInt (u258 387 4 (by omega))
                    have t263 : (σ258 387 11).toInt = (σ249 387 11).toInt := congrArg Int32.toInt (u258 387 11 (by omega))
                    have t264 : (σ258 387 18).toInt = (σ249 387 18).toInt := congrArg Int32.toInt (u258 387 18 (by omega))
                    have t265 : (σ258 387 15).toInt = (σ249 387 15).toInt := congrArg Int32.toInt (u258 387 15 (by omega))
                    refine r_iconst hx hb dX12_rollLine_128 (by decide) (fun z266 ez266 => ?_)
                    exact r_zret hx hb hr hK hP hS hk (by omega) dX12_rollLine_129 (show P_X12_rollLine σ0 τ0 b N mo q nm hc mm mc nn z266 σ258 τ249 from ⟨hR, hF, hFL, by omega, by omega, by omega, by first | exact Or.inl (by omega) | exact Or.inr ⟨by omega, gRXp, fun t ht => OKL.of_w (j := j228) (by omega) (by omega)⟩ | exact Or.inr ⟨by omega, gRXp, fun t ht => OKL.of3 (j1 := j228) (j2 := j257) (j3 := 0) (by omega) (by omega) (by omega) (by omega) (by omega) (by omega)⟩, by first | (exfalso; omega) | exact MO.ofk (rol_4 (by omega) (by omega)) (by omega) (by omega) (by omega) | exact MO.ofr (rol_19 (by omega) (by omega)) (by omega) gMK | (obtain ⟨f, e3, x1, x2⟩ := o3.no (by omega); exact MO.ofl (by rw [rol_14 (by omega) (by omega), numP_cg (lo := 0) (hi := 3) e3 (by omega) (by omega), bnd_l]) (by omega) x1 x2) | exact MO.ofr (by rw [rol_14 (by omega) (by omega), numP_cg (lo := 0) (hi := 3) e3 (by omega) (by omega), bnd_r]) (by omega) gMK | (obtain ⟨f, e3, x1, x2⟩ := o3.no (by omega); exact MO.ofl (by rw [rol_15 (by omega) (by omega), numP_cg (lo := 1) (hi := 99) e3 (by omega) (by omega), bnd_l]) (by omega) x1 x2) | exact MO.ofr (by rw [rol_15 (by omega) (by omega), numP_cg (lo := 1) (hi := 99) e3 (by omega) (by omega), bnd_r]) (by omega) gMK | (obtain ⟨f, e1, x1, x2⟩ := o1.no (by omega); exact MO.ofl (by rw [rol_m (by omega), e1, bnd_l]) (by omega) x1 x2) | exact MO.ofk (by rw [rol_m (by omega), e1, bnd_r, if_pos (by omega)]) (by omega) (by omega) (by omega) | exact MO.ofk (by rw [rol_m (by omega), e1, bnd_r, if_neg (by omega), act_x (by omega)]) (by omega) (by omega) (by omega) | (obtain ⟨f, e4, x1, x2⟩ := o4.no (by omega); exact MO.ofl (by rw [rol_m (by omega), e1, bnd_r, if_neg (by omega), act_17 (by omega), e4, bnd_l]) (by omega) x1 x2) | exact MO.ofr (by rw [rol_m (by omega), e1, bnd_r, if_neg (by omega), act_17 (by omega), e4, bnd_r]) (by omega) gMK | (obtain ⟨f, e5, x1, x2⟩ := o5.no (by omega); exact MO.ofl (by rw [rol_m (by omega), e1, bnd_r, if_neg (by omega), act_16 (by omega), e5, bnd_l]) (by omega) x1 x2) | exact MO.ofr (by rw [rol_m (by omega), e1, bnd_r, if_neg (by omega), act_16 (by omega), e5, bnd_r]) (by omega) gMK | (obtain ⟨f, e5, x1, x2⟩ := o5.no (by omega); exact MO.ofl (by rw [rol_m (by omega), e1, bnd_r, if_neg (by omega), act_18 (by omega), e5, bnd_l]) (by omega) x1 x2) | exact MO.ofr (by rw [rol_m (by omega), e1, bnd_r, if_neg (by omega), act_18 (by omega), e5, bnd_r]) (by omega) gMK, by omega, gMT, gRV, gWJ, gWK⟩)
                  · clear hp249_1 hp249_2 hp249_4
                    refine r_iconst hx hb dX12_rollLine_114 (by decide) (fun z267 ez267 => ?_)
                    exact r_zret hx hb hr hK hP hS hk (by omega) dX12_rollLine_115 (show P_X12_rollLine σ0 τ0 b N mo q nm hc mm mc nn z267 σ249 τ249 from ⟨hR, hF, hFL, by omega, by omega, by omega, by first | exact Or.inl (by omega) | exact Or.inr ⟨by omega, gRXp, fun t ht => OKL.of_w (j := j228) (by omega) (by omega)⟩ | exact Or.inr ⟨by omega, gRXp, fun t ht => OKL.of3 (j1 := j228) (j2 := 0) (j3 := 0) (by omega) (by omega) (by omega) (by omega) (by omega) (by omega)⟩, by first | (exfalso; omega) | exact MO.ofk (rol_4 (by omega) (by omega)) (by omega) (by omega) (by omega) | exact MO.ofr (rol_19 (by omega) (by omega)) (by omega) gMK | (obtain ⟨f, e3, x1, x2⟩ := o3.no (by omega); exact MO.ofl (by rw [rol_14 (by omega) (by omega), numP_cg (lo := 0) (hi := 3) e3 (by omega) (by omega), bnd_l]) (by omega) x1 x2) | exact MO.ofr (by rw [rol_14 (by omega) (by omega), numP_cg (lo := 0) (hi := 3) e3 (by omega) (by omega), bnd_r]) (by omega) gMK | (obtain ⟨f, e3, x1, x2⟩ := o3.no (by omega); exact MO.ofl (by rw [rol_15 (by omega) (by omega), numP_cg (lo := 1) (hi := 99) e3 (by omega) (by omega), bnd_l]) (by omega) x1 x2) | exact MO.ofr (by rw [rol_15 (by omega) (by omega), numP_cg (lo := 1) (hi := 99) e3 (by omega) (by omega), bnd_r]) (by omega) gMK | (obtain ⟨f, e1, x1, x2⟩ := o1.no (by omega); exact MO.ofl (by rw [rol_m (by omega), e1, bnd_l]) (by omega) x1 x2) | exact MO.ofk (by rw [rol_m (by omega), e1, bnd_r, if_pos (by omega)]) (by omega) (by omega) (by omega) | exact MO.ofk (by rw [rol_m (by omega), e1, bnd_r, if_neg (by omega), act_x (by omega)]) (by omega) (by omega) (by omega) | (obtain ⟨f, e4, x1, x2⟩ := o4.no (by omega); exact MO.ofl (by rw [rol_m (by omega), e1, bnd_r, if_neg (by omega), act_17 (by omega), e4, bnd_l]) (by omega) x1 x2) | exact MO.ofr (by rw [rol_m (by omega), e1, bnd_r, if_neg (by omega), act_17 (by omega), e4, bnd_r]) (by omega) gMK | (obtain ⟨f, e5, x1, x2⟩ := o5.no (by omega); exact MO.ofl (by rw [rol_m (by omega), e1, bnd_r, if_neg (by omega), act_16 (by omega), e5, bnd_l]) (by omega) x1 x2) | exact MO.ofr (by rw [rol_m (by omega), e1, bnd_r, if_neg (by omega), act_16 (by omega), e5, bnd_r]) (by omega) gMK | (obtain ⟨f, e5, x1, x2⟩ := o5.no (by omega); exact MO.ofl (by rw [rol_m (by omega), e1, bnd_r, if_neg (by omega), act_18 (by omega), e5, bnd_l]) (by omega) x1 x2) | exact MO.ofr (by rw [rol_m (by omega), e1, bnd_r, if_neg (by omega), act_18 (by omega), e5, bnd_r]) (by omega) gMK, by omega, gMT, gRV, gWJ, gWK⟩)
                · exfalso; omega
              · exfalso; omega
            · exfalso; omega
          · refine lv_aload_n hx hb dX12_rollLine_64 rfl (lv_at hl 2 rfl) ?_
            refine r_iconst hx hb dX12_rollLine_65 (by decide) (fun z268 ez268 => ?_)
            refine r_cVi (k := 387) (As := [.int z268]) (rest := []) ⟨hx, hb, hml, hown, hts⟩ hK hP hN hS (c_X12_bad_v l D cA ad hI σ0 τ0 hR z268 _ _ _ _ (by omega) gMK) (cwV 1 hts gX12_rollLine_X12_bad rfl rfl rfl (by decide +kernel) ⟨by decide, by decide⟩) (rv_M hK hP (by decide) (by decide)) rfl hl.1 rfl (Nat.le_of_ble_eq_true rfl) dX12_rollLine_66 (Nat.zero_le _) (Nat.zero_le _) (fun r269 u269 H269 locs269 hp269 hP hS => ?_)
            obtain ⟨σ269, τ269⟩ := u269
            obtain ⟨hR, f269, fL269, hq269, hp269_0, hp269_1, hp269_2, gnMK⟩ : P_X12_bad_v σ0 τ0 z268 _ _ _ _ r269 σ269 τ269 := hp269
            have hP : va_P D vwCl (gw cA ad σ269 τ269) H269 := hP
            obtain rfl := FrL.nil fL269
            have hF := hF.step f269 (by decide)
            have gMK := gMK.ag (Agr.fr f269 (by decide))
            have gMT := gMT.ag (Agr.fr f269 (by decide))
            have gRXp := RXp.fr gRXp (by omega) f269 (by decide)
            have gWJ := gWJ.ag (Agr.fr f269 (by decide))
            have gWK := gWK.ag (Agr.fr f269 (by decide))
            have t270 : (σ269 387 4).toInt = (σ0 387 4).toInt := congrArg Int32.toInt (f269.at 387 4 (by decide))
            have t271 : (σ269 387 3).toInt = (σ0 387 3).toInt := congrArg Int32.toInt (f269.at 387 3 (by decide))
            have t272 : (σ269 387 11).toInt = (σ0 387 11).toInt := congrArg Int32.toInt (f269.at 387 11 (by decide))
            have t273 : (σ269 387 18).toInt = (σ0 387 18).toInt := congrArg Int32.toInt (f269.at 387 18 (by decide))
            have t274 : (σ269 387 34).toInt = (σ0 387 34).toInt := congrArg Int32.toInt (f269.at 387 34 (by decide))
            exact r_zret hx hb hr hK hP hS hk (by omega) dX12_rollLine_69 (show P_X12_rollLine σ0 τ0 b N mo q nm hc mm mc nn r269 σ269 τ0 from ⟨hR, hF, hFL, by omega, by omega, by omega, by first | exact Or.inl (by omega) | exact Or.inr ⟨by omega, gRXp, fun t ht => OKL.of_w (j := 0) (by omega) (by omega)⟩ | exact Or.inr ⟨by omega, gRXp, fun t ht => OKL.of3 (j1 := 0) (j2 := 0) (j3 := 0) (by omega) (by omega) (by omega) (by omega) (by omega) (by omega)⟩, by first | (exfalso; omega) | exact MO.ofk (rol_4 (by omega) (by omega)) (by omega) (by omega) (by omega) | exact MO.ofr (rol_19 (by omega) (by omega)) (by omega) gMK | (obtain ⟨f, e3, x1, x2⟩ := o3.no (by omega); exact MO.ofl (by rw [rol_14 (by omega) (by omega), numP_cg (lo := 0) (hi := 3) e3 (by omega) (by omega), bnd_l]) (by omega) x1 x2) | exact MO.ofr (by rw [rol_14 (by omega) (by omega), numP_cg (lo := 0) (hi := 3) e3 (by omega) (by omega), bnd_r]) (by omega) gMK | (obtain ⟨f, e3, x1, x2⟩ := o3.no (by omega); exact MO.ofl (by rw [rol_15 (by omega) (by omega), numP_cg (lo := 1) (hi := 99) e3 (by omega) (by omega), bnd_l]) (by omega) x1 x2) | exact MO.ofr (by rw [rol_15 (by omega) (by omega), numP_cg (lo := 1) (hi := 99) e3 (by omega) (by omega), bnd_r]) (by omega) gMK | (obtain ⟨f, e1, x1, x2⟩ := o1.no (by omega); exact MO.ofl (by rw [rol_m (by omega), e1, bnd_l]) (by omega) x1 x2) | exact MO.ofk (by rw [rol_m (by omega), e1, bnd_r, if_pos (by omega)]) (by omega) (by omega) (by omega) | exact MO.ofk (by rw [rol_m (by omega), e1, bnd_r, if_neg (by omega), act_x (by omega)]) (by omega) (by omega) (by omega) | (obtain ⟨f, e4, x1, x2⟩ := o4.no (by omega); exact MO.ofl (by rw [rol_m (by omega), e1, bnd_r, if_neg (by omega), act_17 (by omega), e4, bnd_l]) (by omega) x1 x2) | exact MO.ofr (by rw [rol_m (by omega), e1, bnd_r, if_neg (by omega), act_17 (by omega), e4, bnd_r]) (by omega) gMK | (obtain ⟨f, e5, x1, x2⟩ := o5.no (by omega); exact MO.ofl (by rw [rol_m (by omega), e1, bnd_r, if_neg (by omega), act_16 (by omega), e5, bnd_l]) (by omega) x1 x2) | exact MO.ofr (by rw [rol_m (by omega), e1, bnd_r, if_neg (by omega), act_16 (by omega), e5, bnd_r]) (by omega) gMK | (obtain ⟨f, e5, x1, x2⟩ := o5.no (by omega); exact MO.ofl (by rw [rol_m (by omega), e1, bnd_r, if_neg (by omega), act_18 (by omega), e5, bnd_l]) (by omega) x1 x2) | exact MO.ofr (by rw [rol_m (by omega), e1, bnd_r, if_neg (by omega), act_18 (by omega), e5, bnd_r]) (by omega) gMK, by omega, gMT, gRV, gWJ, gWK⟩)
    · replace hp5_0 := hp5_0.resolve_left (by omega)
      have eia2 := (ia2.resolve_right (fun c => by omega)).2
      clear ia2
      refine r_iconst hx hb dX12_rollLine_31 (by decide) (fun z275 ez275 => ?_)
      refine lv_goto (tgt := 50) hx hb dX12_rollLine_32 (by decide) ?_
      refine lv_istore_n (lv' := [(2, .int z275), (1, .int z2), (0, .ref (ad 387))]) hx hb dX12_rollLine_50 rfl hl (by decide) rfl (fun ls hl => ?_)
      refine lv_iload_n hx hb dX12_rollLine_51 rfl (lv_at hl 0 rfl) ?_
      refine r_if_lt (tgt := 130) hx hb dX12_rollLine_52 (by decide) (fun c276 => ?_) (fun c276 => ?_)
      · exfalso; omega
      · refine lv_aload_n hx hb dX12_rollLine_55 rfl (lv_at hl 2 rfl) ?_
        refine fg_12_34 (k := 387) hx hb hts in_X12_rollLine_12 hown hK hP (by decide) (by decide) (hts _ lk_X12_rollLine_416) dX12_rollLine_56 ?_
        refine r_bipush hx hb dX12_rollLine_59 (by decide) (fun z277 ez277 => ?_)
        refine r_icmp_ne (tgt := 70) hx hb dX12_rollLine_61 (by decide) (fun c278 => ?_) (fun c278 => ?_)
        · refine lv_aload_n hx hb dX12_rollLine_70 rfl (lv_at hl 2 rfl) ?_
          refine fg_12_8 (k := 387) hx hb hts in_X12_rollLine_12 hown hK hP (by decide) (by decide) (hts _ lk_X12_rollLine_40) dX12_rollLine_71 ?_
          refine lv_iload_n hx hb dX12_rollLine_74 rfl (lv_at hl 1 rfl) ?_
          refine lv_iload_n hx hb dX12_rollLine_75 rfl (lv_at hl 0 rfl) ?_
          obtain ⟨j279, ej279⟩ : ∃ j : Nat, z2.toInt = (j : Int) := ⟨_, ti_nat (by omega)⟩
          refine as_mread (k := 391) (j := j279) hx hb hK hP hI hR hS (by decide) (by decide) ej279 (by omega) dX12_rollLine_76 (fun σ280 H280 locs280 u280 v280 hR hP hS => ?_)
          have hF := hF.puts u280 3 rfl (by decide) (by decide) (by omega) (by omega)
          have gMK := gMK.ag (Agr.putV u280 (by intro q hq; simp only [Gd_MK, List.mem_cons, List.not_mem_nil, or_false] at hq; rcases hq with rfl | rfl | rfl <;> dsimp only [inRc] <;> omega))
          have gMT := gMT.ag (Agr.putV u280 (by intro q hq; simp only [Gd_MT, List.mem_cons, List.not_mem_nil, or_false] at hq; rcases hq with rfl | rfl | rfl <;> dsimp only [inRc] <;> omega))
          have gRXp := RXp.st gRXp u280 (by omega)
          have gWJ := gWJ.ag (Agr.putV u280 (by intro q hq; simp only [Gd_WJ, List.mem_cons, List.not_mem_nil, or_false] at hq; rcases hq with rfl <;> dsimp only [inRc] <;> omega))
          have gWK := gWK.ag (Agr.putV u280 (by intro q hq; simp only [Gd_WK, List.mem_cons, List.not_mem_nil, or_false] at hq; rcases hq with rfl <;> dsimp only [inRc] <;> omega))
          have t281 : (σ280 387 4).toInt = (σ0 387 4).toInt := congrArg Int32.toInt (u280 387 4 (by omega))
          have t282 : (σ280 387 3).toInt = (σ0 387 3).toInt := congrArg Int32.toInt (u280 387 3 (by omega))
          have t283 : (σ280 387 11).toInt = (σ0 387 11).toInt := congrArg Int32.toInt (u280 387 11 (by omega))
          have t284 : (σ280 387 18).toInt = (σ0 387 18).toInt := congrArg Int32.toInt (u280 387 18 (by omega))
          have t285 : (σ280 387 34).toInt = (σ0 387 34).toInt := congrArg Int32.toInt (u280 387 34 (by omega))
          have t286 : (σ280 387 15).toInt = (σ0 387 15).toInt := congrArg Int32.toInt (u280 387 15 (by omega))
          refine lv_aload_n hx hb dX12_rollLine_77 rfl (lv_at hl 2 rfl) ?_
          refine r_cVv (k := 387) (As := []) (rest := []) ⟨hx, hb, hml, hown, hts⟩ hK hP hN hS (c_X12_next_v l D cA ad hI σ280 τ0 hR _ _ _ _ gMK.mp gMT) (cwV 0 hts gX12_rollLine_X12_next rfl rfl rfl (by decide +kernel) ⟨by decide, by decide⟩) (rv_M hK hP (by decide) (by decide)) rfl hl.1 rfl (Nat.le_of_ble_eq_true rfl) dX12_rollLine_78 (Nat.zero_le _) (Nat.zero_le _) (fun u287 H287 locs287 hp287 hP hS => ?_)
          obtain ⟨σ287, τ287⟩ := u287
          obtain ⟨hR, f287, fL287, hp287_0, hp287_1, hp287_2, hp287_3, gnMT⟩ : P_X12_next_v σ280 τ0 _ _ _ _ σ287 τ287 := hp287
          have hP : va_P D vwCl (gw cA ad σ287 τ287) H287 := hP
          have hFL := hFL.step fL287 (by decide)
          have gRV := gRV.agL (AgrL.fr fL287 (by decide))
          have gWJ := gWJ.agL (AgrL.fr fL287 (by decide))
          have gWK := gWK.agL (AgrL.fr fL287 (by decide))
          have hF := hF.step f287 (by decide)
          have gMT := gMT.ag (Agr.fr f287 (by decide))
          have gRXp := RXp.fr gRXp (by omega) f287 (by decide)
          have gWJ := gWJ.ag (Agr.fr f287 (by decide))
          have gWK := gWK.ag (Agr.fr f287 (by decide))
          have t288 : (σ287 387 3).toInt = (σ280 387 3).toInt := congrArg Int32.toInt (f287.at 387 3 (by decide))
          have t289 : (σ287 387 18).toInt = (σ280 387 18).toInt := congrArg Int32.toInt (f287.at 387 18 (by decide))
          have t290 : (σ287 387 34).toInt = (σ280 387 34).toInt := congrArg Int32.toInt (f287.at 387 34 (by decide))
          have t291 : (σ287 387 15).toInt = (σ280 387 15).toInt := congrArg Int32.toInt (f287.at 387 15 (by decide))
          have t292 : (σ287 391 j279).toInt = (σ280 391 j279).toInt := congrArg Int32.toInt (f287.atV 391 j279 (by intro q hq; simp only [L_X12_next_v, List.mem_cons, List.not_mem_nil, or_false] at hq; rcases hq with rfl | rfl <;> dsimp only <;> omega))
          have hr293 := rg_12_4 hR (k := 387) (by decide) (by decide)
          have gMK := hp287_3
          refine lv_iload_n hx hb dX12_rollLine_81 rfl (lv_at hl 0 rfl) ?_
          refine r_iconst hx hb dX12_rollLine_82 (by decide) (fun z294 ez294 => ?_)
          refine r_icmp_ne (tgt := 88) hx hb dX12_rollLine_83 (by decide) (fun c295 => ?_) (fun c295 => ?_)
          · exfalso; omega
          · refine r_iconst hx hb dX12_rollLine_86 (by decide) (fun z296 ez296 => ?_)
            exact r_zret hx hb hr hK hP hS hk (by omega) dX12_rollLine_87 (show P_X12_rollLine σ0 τ0 b N mo q nm hc mm mc nn z296 σ287 τ287 from ⟨hR, hF, hFL, by omega, by omega, by omega, by first | exact Or.inl (by omega) | exact Or.inr ⟨by omega, gRXp, fun t ht => OKL.of_w (j := j279) (by omega) (by omega)⟩ | exact Or.inr ⟨by omega, gRXp, fun t ht => OKL.of3 (j1 := j279) (j2 := 0) (j3 := 0) (by omega) (by omega) (by omega) (by omega) (by omega) (by omega)⟩, by first | (exfalso; omega) | exact MO.ofk (rol_4 (by omega) (by omega)) (by omega) (by omega) (by omega) | exact MO.ofr (rol_19 (by omega) (by omega)) (by omega) gMK | (obtain ⟨f, e3, x1, x2⟩ := o3.no (by omega); exact MO.ofl (by rw [rol_14 (by omega) (by omega), numP_cg (lo := 0) (hi := 3) e3 (by omega) (by omega), bnd_l]) (by omega) x1 x2) | exact MO.ofr (by rw [rol_14 (by omega) (by omega), numP_cg (lo := 0) (hi := 3) e3 (by omega) (by omega), bnd_r]) (by omega) gMK | (obtain ⟨f, e3, x1, x2⟩ := o3.no (by omega); exact MO.ofl (by rw [rol_15 (by omega) (by omega), numP_cg (lo := 1) (hi := 99) e3 (by omega) (by omega), bnd_l]) (by omega) x1 x2) | exact MO.ofr (by rw [rol_15 (by omega) (by omega), numP_cg (lo := 1) (hi := 99) e3 (by omega) (by omega), bnd_r]) (by omega) gMK | (obtain ⟨f, e1, x1, x2⟩ := o1.no (by omega); exact MO.ofl (by rw [rol_m (by omega), e1, bnd_l]) (by omega) x1 x2) | exact MO.ofk (by rw [rol_m (by omega), e1, bnd_r, if_pos (by omega)]) (by omega) (by omega) (by omega) | exact MO.ofk (by rw [rol_m (by omega), e1, bnd_r, if_neg (by omega), act_x (by omega)]) (by omega) (by omega) (by omega) | (obtain ⟨f, e4, x1, x2⟩ := o4.no (by omega); exact MO.ofl (by rw [rol_m (by omega), e1, bnd_r, if_neg (by omega), act_17 (by omega), e4, bnd_l]) (by omega) x1 x2) | exact MO.ofr (by rw [rol_m (by omega), e1, bnd_r, if_neg (by omega), act_17 (by omega), e4, bnd_r]) (by omega) gMK | (obtain ⟨f, e5, x1, x2⟩ := o5.no (by omega); exact MO.ofl (by rw [rol_m (by omega), e1, bnd_r, if_neg (by omega), act_16 (by omega), e5, bnd_l]) (by omega) x1 x2) | exact MO.ofr (by rw [rol_m (by omega), e1, bnd_r, if_neg (by omega), act_16 (by omega), e5, bnd_r]) (by omega) gMK | (obtain ⟨f, e5, x1, x2⟩ := o5.no (by omega); exact MO.ofl (by rw [rol_m (by omega), e1, bnd_r, if_neg (by omega), act_18 (by omega), e5, bnd_l]) (by omega) x1 x2) | exact MO.ofr (by rw [rol_m (by omega), e1, bnd_r, if_neg (by omega), act_18 (by omega), e5, bnd_r]) (by omega) gMK, by omega, gMT, gRV, gWJ, gWK⟩)
        · refine lv_aload_n hx hb dX12_rollLine_64 rfl (lv_at hl 2 rfl) ?_
          refine r_iconst hx hb dX12_rollLine_65 (by decide) (fun z297 ez297 => ?_)
          refine r_cVi (k := 387) (As := [.int z297]) (rest := []) ⟨hx, hb, hml, hown, hts⟩ hK hP hN hS (c_X12_bad_v l D cA ad hI σ0 τ0 hR z297 _ _ _ _ (by omega) gMK) (cwV 1 hts gX12_rollLine_X12_bad rfl rfl rfl (by decide +kernel) ⟨by decide, by decide⟩) (rv_M hK hP (by decide) (by decide)) rfl hl.1 rfl (Nat.le_of_ble_eq_true rfl) dX12_rollLine_66 (Nat.zero_le _) (Nat.zero_le _) (fun r298 u298 H298 locs298 hp298 hP hS => ?_)
          obtain ⟨σ298, τ298⟩ := u298
          obtain ⟨hR, f298, fL298, hq298, hp298_0, hp298_1, hp298_2, gnMK⟩ : P_X12_bad_v σ0 τ0 z297 _ _ _ _ r298 σ298 τ298 := hp298
          have hP : va_P D vwCl (gw cA ad σ298 τ298) H298 := hP
          obtain rfl := FrL.nil fL298
          have hF := hF.step f298 (by decide)
          have gMK := gMK.ag (Agr.fr f298 (by decide))
          have gMT := gMT.ag (Agr.fr f298 (by decide))
          have gRXp := RXp.fr gRXp (by omega) f298 (by decide)
          have gWJ := gWJ.ag (Agr.fr f298 (by decide))
          have gWK := gWK.ag (Agr.fr f298 (by decide))
          have t299 : (σ298 387 4).toInt = (σ0 387 4).toInt := congrArg Int32.toInt (f298.at 387 4 (by decide))
          have t300 : (σ298 387 3).toInt = (σ0 387 3).toInt := congrArg Int32.toInt (f298.at 387 3 (by decide))
          have t301 : (σ298 387 11).toInt = (σ0 387 11).toInt := congrArg Int32.toInt (f298.at 387 11 (by decide))
          have t302 : (σ298 387 18).toInt = (σ0 387 18).toInt := congrArg Int32.toInt (f298.at 387 18 (by decide))
          have t303 : (σ298 387 34).toInt = (σ0 387 34).toInt := congrArg Int32.toInt (f298.at 387 34 (by decide))
          exact r_zret hx hb hr hK hP hS hk (by omega) dX12_rollLine_69 (show P_X12_rollLine σ0 τ0 b N mo q nm hc mm mc nn r298 σ298 τ0 from ⟨hR, hF, hFL, by omega, by omega, by omega, by first | exact Or.inl (by omega) | exact Or.inr ⟨by omega, gRXp, fun t ht => OKL.of_w (j := 0) (by omega) (by omega)⟩ | exact Or.inr ⟨by omega, gRXp, fun t ht => OKL.of3 (j1 := 0) (j2 := 0) (j3 := 0) (by omega) (by omega) (by omega) (by omega) (by omega) (by omega)⟩, by first | (exfalso; omega) | exact MO.ofk (rol_4 (by omega) (by omega)) (by omega) (by omega) (by omega) | exact MO.ofr (rol_19 (by omega) (by omega)) (by omega) gMK | (obtain ⟨f, e3, x1, x2⟩ := o3.no (by omega); exact MO.ofl (by rw [rol_14 (by omega) (by omega), numP_cg (lo := 0) (hi := 3) e3 (by omega) (by omega), bnd_l]) (by omega) x1 x2) | exact MO.ofr (by rw [rol_14 (by omega) (by omega), numP_cg (lo := 0) (hi := 3) e3 (by omega) (by omega), bnd_r]) (by omega) gMK | (obtain ⟨f, e3, x1, x2⟩ := o3.no (by omega); exact MO.ofl (by rw [rol_15 (by omega) (by omega), numP_cg (lo := 1) (hi := 99) e3 (by omega) (by omega), bnd_l]) (by omega) x1 x2) | exact MO.ofr (by rw [rol_15 (by omega) (by omega), numP_cg (lo := 1) (hi := 99) e3 (by omega) (by omega), bnd_r]) (by omega) gMK | (obtain ⟨f, e1, x1, x2⟩ := o1.no (by omega); exact MO.ofl (by rw [rol_m (by omega), e1, bnd_l]) (by omega) x1 x2) | exact MO.ofk (by rw [rol_m (by omega), e1, bnd_r, if_pos (by omega)]) (by omega) (by omega) (by omega) | exact MO.ofk (by rw [rol_m (by omega), e1, bnd_r, if_neg (by omega), act_x (by omega)]) (by omega) (by omega) (by omega) | (obtain ⟨f, e4, x1, x2⟩ := o4.no (by omega); exact MO.ofl (by rw [rol_m (by omega), e1, bnd_r, if_neg (by omega), act_17 (by omega), e4, bnd_l]) (by omega) x1 x2) | exact MO.ofr (by rw [rol_m (by omega), e1, bnd_r, if_neg (by omega), act_17 (by omega), e4, bnd_r]) (by omega) gMK | (obtain ⟨f, e5, x1, x2⟩ := o5.no (by omega); exact MO.ofl (by rw [rol_m (by omega), e1, bnd_r, if_neg (by omega), act_16 (by omega), e5, bnd_l]) (by omega) x1 x2) | exact MO.ofr (by rw [rol_m (by omega), e1, bnd_r, if_neg (by omega), act_16 (by omega), e5, bnd_r]) (by omega) gMK | (obtain ⟨f, e5, x1, x2⟩ := o5.no (by omega); exact MO.ofl (by rw [rol_m (by omega), e1, bnd_r, if_neg (by omega), act_18 (by omega), e5, bnd_l]) (by omega) x1 x2) | exact MO.ofr (by rw [rol_m (by omega), e1, bnd_r, if_neg (by omega), act_18 (by omega), e5, bnd_r]) (by omega) gMK, by omega, gMT, gRV, gWJ, gWK⟩)
  · replace hp3_0 := hp3_0.resolve_left (by omega)
    have eia1 := (ia1.resolve_right (fun c => by omega)).2
    clear ia1
    refine r_iconst hx hb dX12_rollLine_17 (by decide) (fun z304 ez304 => ?_)
    refine lv_goto (tgt := 50) hx hb dX12_rollLine_18 (by decide) ?_
    refine lv_istore_n (lv' := [(2, .int z304), (1, .int z2), (0, .ref (ad 387))]) hx hb dX12_rollLine_50 rfl hl (by decide) rfl (fun ls hl => ?_)
    refine lv_iload_n hx hb dX12_rollLine_51 rfl (lv_at hl 0 rfl) ?_
    refine r_if_lt (tgt := 130) hx hb dX12_rollLine_52 (by decide) (fun c305 => ?_) (fun c305 => ?_)
    · exfalso; omega
    · refine lv_aload_n hx hb dX12_rollLine_55 rfl (lv_at hl 2 rfl) ?_
      refine fg_12_34 (k := 387) hx hb hts in_X12_rollLine_12 hown hK hP (by decide) (by decide) (hts _ lk_X12_rollLine_416) dX12_rollLine_56 ?_
      refine r_bipush hx hb dX12_rollLine_59 (by decide) (fun z306 ez306 => ?_)
      refine r_icmp_ne (tgt := 70) hx hb dX12_rollLine_61 (by decide) (fun c307 => ?_) (fun c307 => ?_)
      · refine lv_aload_n hx hb dX12_rollLine_70 rfl (lv_at hl 2 rfl) ?_
        refine fg_12_8 (k := 387) hx hb hts in_X12_rollLine_12 hown hK hP (by decide) (by decide) (hts _ lk_X12_rollLine_40) dX12_rollLine_71 ?_
        refine lv_iload_n hx hb dX12_rollLine_74 rfl (lv_at hl 1 rfl) ?_
        refine lv_iload_n hx hb dX12_rollLine_75 rfl (lv_at hl 0 rfl) ?_
        obtain ⟨j308, ej308⟩ : ∃ j : Nat, z2.toInt = (j : Int) := ⟨_, ti_nat (by omega)⟩
        refine as_mread (k := 391) (j := j308) hx hb hK hP hI hR hS (by decide) (by decide) ej308 (by omega) dX12_rollLine_76 (fun σ309 H309 locs309 u309 v309 hR hP hS => ?_)
        have hF := hF.puts u309 3 rfl (by decide) (by decide) (by omega) (by omega)
        have gMK := gMK.ag (Agr.putV u309 (by intro q hq; simp only [Gd_MK, List.mem_cons, List.not_mem_nil, or_false] at hq; rcases hq with rfl | rfl | rfl <;> dsimp only [inRc] <;> omega))
        have gMT := gMT.ag (Agr.putV u309 (by intro q hq; simp only [Gd_MT, List.mem_cons, List.not_mem_nil, or_false] at hq; rcases hq with rfl | rfl | rfl <;> dsimp only [inRc] <;> omega))
        have gRXp := RXp.st gRXp u309 (by omega)
        have gWJ := gWJ.ag (Agr.putV u309 (by intro q hq; simp only [Gd_WJ, List.mem_cons, List.not_mem_nil, or_false] at hq; rcases hq with rfl <;> dsimp only [inRc] <;> omega))
        have gWK := gWK.ag (Agr.putV u309 (by intro q hq; simp only [Gd_WK, List.mem_cons, List.not_mem_nil, or_false] at hq; rcases hq with rfl <;> dsimp only [inRc] <;> omega))
        have t310 : (σ309 387 4).toInt = (σ0 387 4).toInt := congrArg Int32.toInt (u309 387 4 (by omega))
        have t311 : (σ309 387 3).toInt = (σ0 387 3).toInt := congrArg Int32.toInt (u309 387 3 (by omega))
        have t312 : (σ309 387 11).toInt = (σ0 387 11).toInt := congrArg Int32.toInt (u309 387 11 (by omega))
        have t313 : (σ309 387 18).toInt = (σ0 387 18).toInt := congrArg Int32.toInt (u309 387 18 (by omega))
        have t314 : (σ309 387 34).toInt = (σ0 387 34).toInt := congrArg Int32.toInt (u309 387 34 (by omega))
        have t315 : (σ309 387 15).toInt = (σ0 387 15).toInt := congrArg Int32.toInt (u309 387 15 (by omega))
        refine lv_aload_n hx hb dX12_rollLine_77 rfl (lv_at hl 2 rfl) ?_
        refine r_cVv (k := 387) (As := []) (rest := []) ⟨hx, hb, hml, hown, hts⟩ hK hP hN hS (c_X12_next_v l D cA ad hI σ309 τ0 hR _ _ _ _ gMK.mp gMT) (cwV 0 hts gX12_rollLine_X12_next rfl rfl rfl (by decide +kernel) ⟨by decide, by decide⟩) (rv_M hK hP (by decide) (by decide)) rfl hl.1 rfl (Nat.le_of_ble_eq_true rfl) dX12_rollLine_78 (Nat.zero_le _) (Nat.zero_le _) (fun u316 H316 locs316 hp316 hP hS => ?_)
        obtain ⟨σ316, τ316⟩ := u316
        obtain ⟨hR, f316, fL316, hp316_0, hp316_1, hp316_2, hp316_3, gnMT⟩ : P_X12_next_v σ309 τ0 _ _ _ _ σ316 τ316 := hp316
        have hP : va_P D vwCl (gw cA ad σ316 τ316) H316 := hP
        have hFL := hFL.step fL316 (by decide)
        have gRV := gRV.agL (AgrL.fr fL316 (by decide))
        have gWJ := gWJ.agL (AgrL.fr fL316 (by decide))
        have gWK := gWK.agL (AgrL.fr fL316 (by decide))
        have hF := hF.step f316 (by decide)
        have gMT := gMT.ag (Agr.fr f316 (by decide))
        have gRXp := RXp.fr gRXp (by omega) f316 (by decide)
        have gWJ := gWJ.ag (Agr.fr f316 (by decide))
        have gWK := gWK.ag (Agr.fr f316 (by decide))
        have t317 : (σ316 387 3).toInt = (σ309 387 3).toInt := congrArg Int32.toInt (f316.at 387 3 (by decide))
        have t318 : (σ316 387 18).toInt = (σ309 387 18).toInt := congrArg Int32.toInt (f316.at 387 18 (by decide))
        have t319 : (σ316 387 34).toInt = (σ309 387 34).toInt := congrArg Int32.toInt (f316.at 387 34 (by decide))
        have t320 : (σ316 387 15).toInt = (σ309 387 15).toInt := congrArg Int32.toInt (f316.at 387 15 (by decide))
        have t321 : (σ316 391 j308).toInt = (σ309 391 j308).toInt := congrArg Int32.toInt (f316.atV 391 j308 (by intro q hq; simp only [L_X12_next_v, List.mem_cons, List.not_mem_nil, or_false] at hq; rcases hq with rfl | rfl <;> dsimp only <;> omega))
        have hr322 := rg_12_4 hR (k := 387) (by decide) (by decide)
        have gMK := hp316_3
        refine lv_iload_n hx hb dX12_rollLine_81 rfl (lv_at hl 0 rfl) ?_
        refine r_iconst hx hb dX12_rollLine_82 (by decide) (fun z323 ez323 => ?_)
        refine r_icmp_ne (tgt := 88) hx hb dX12_rollLine_83 (by decide) (fun c324 => ?_) (fun c324 => ?_)
        · refine lv_aload_n hx hb dX12_rollLine_88 rfl (lv_at hl 2 rfl) ?_
          refine lv_iload_n hx hb dX12_rollLine_89 rfl (lv_at hl 0 rfl) ?_
          refine r_if_ne (tgt := 97) hx hb dX12_rollLine_90 (by decide) (fun c325 => ?_) (fun c325 => ?_)
          · exfalso; omega
          · refine r_iconst hx hb dX12_rollLine_93 (by decide) (fun z326 ez326 => ?_)
            refine lv_goto (tgt := 98) hx hb dX12_rollLine_94 (by decide) ?_
            refine lv_iload_n hx hb dX12_rollLine_98 rfl (lv_at hl 0 rfl) ?_
            refine r_if_ne (tgt := 106) hx hb dX12_rollLine_99 (by decide) (fun c327 => ?_) (fun c327 => ?_)
            · exfalso; omega
            · refine r_iconst hx hb dX12_rollLine_102 (by decide) (fun z328 ez328 => ?_)
              refine lv_goto (tgt := 108) hx hb dX12_rollLine_103 (by decide) ?_
              refine r_cVi (k := 387) (As := [.int z326, .int z328]) (rest := []) ⟨hx, hb, hml, hown, hts⟩ hK hP hN hS (c_X12_takes_v l D cA ad hI σ316 τ316 hR z326 z328 b N mo _ _ _ (by omega) (by omega) rfl rfl gMT gMK) (cwV 2 hts gX12_rollLine_X12_takes rfl rfl rfl (by decide +kernel) ⟨by decide, by decide⟩) (rv_M hK hP (by decide) (by decide)) rfl hl.1 rfl (Nat.le_of_ble_eq_true rfl) dX12_rollLine_108 (Nat.zero_le _) (Nat.zero_le _) (fun r329 u329 H329 locs329 hp329 hP hS => ?_)
              obtain ⟨σ329, τ329⟩ := u329
              obtain ⟨hR, f329, fL329, hq329, hp329_0, hp329_1, hp329_2, hp329_3, hp329_4, gnMT⟩ : P_X12_takes_v σ316 τ316 z326 z328 b N mo _ _ _ r329 σ329 τ329 := hp329
              have o3 := hp329_3
              have hP : va_P D vwCl (gw cA ad σ329 τ329) H329 := hP
              clear hp316_1
              have hFL := hFL.step fL329 (by decide)
              have gRV := gRV.agL (AgrL.fr fL329 (by decide))
              have gWJ := gWJ.agL (AgrL.fr fL329 (by decide))
              have gWK := gWK.agL (AgrL.fr fL329 (by decide))
              have hF := hF.step f329 (by decide)
              have gMT := gMT.ag (Agr.fr f329 (by decide))
              have gRXp := RXp.fr gRXp (by omega) f329 (by decide)
              have gWJ := gWJ.ag (Agr.fr f329 (by decide))
              have gWK := gWK.ag (Agr.fr f329 (by decide))
              have t330 : (σ329 387 3).toInt = (σ316 387 3).toInt := congrArg Int32.toInt (f329.at 387 3 (by decide))
              have t331 : (σ329 387 34).toInt = (σ316 387 34).toInt := congrArg Int32.toInt (f329.at 387 34 (by decide))
              have t332 : (σ329 391 j308).toInt = (σ316 391 j308).toInt := congrArg Int32.toInt (f329.atV 391 j308 (by intro q hq; simp only [L_X12_takes_v, List.mem_cons, List.not_mem_nil, or_false] at hq; rcases hq with rfl | rfl | rfl <;> dsimp only <;> omega))
              have hr333 := rg_12_4 hR (k := 387) (by decide) (by decide)
              refine r_if_ne (tgt := 116) hx hb dX12_rollLine_111 (by decide) (fun c334 => ?_) (fun c334 => ?_)
              · replace hp329_1 := hp329_1.resolve_left (by omega)
                replace hp329_2 := hp329_2.resolve_left (by omega)
                replace hp329_4 := hp329_4.resolve_left (by omega)
                obtain ⟨y, e3, gMK, gvy⟩ := o3.ye (by omega)
                refine lv_aload_n hx hb dX12_rollLine_116 rfl (lv_at hl 2 rfl) ?_
                refine fg_12_8 (k := 387) hx hb hts in_X12_rollLine_12 hown hK hP (by decide) (by decide) (hts _ lk_X12_rollLine_40) dX12_rollLine_117 ?_
                refine lv_iload_n hx hb dX12_rollLine_120 rfl (lv_at hl 1 rfl) ?_
                refine r_iconst hx hb dX12_rollLine_121 (by decide) (fun z335 ez335 => ?_)
                refine r_iadd hx hb dX12_rollLine_122 (by omega) (fun z336 ez336 => ?_)
                refine lv_aload_n hx hb dX12_rollLine_123 rfl (lv_at hl 2 rfl) ?_
                refine fg_12_18 (k := 387) hx hb hts in_X12_rollLine_12 hown hK hP (by decide) (by decide) (hts _ lk_X12_rollLine_195) dX12_rollLine_124 ?_
                obtain ⟨j337, ej337⟩ : ∃ j : Nat, z336.toInt = (j : Int) := ⟨_, ti_nat (by omega)⟩
                refine as_mread (k := 391) (j := j337) hx hb hK hP hI hR hS (by decide) (by decide) ej337 (by omega) dX12_rollLine_127 (fun σ338 H338 locs338 u338 v338 hR hP hS => ?_)
                have hF := hF.puts u338 3 rfl (by decide) (by decide) (by omega) (by omega)
                have gMK := gMK.ag (Agr.putV u338 (by intro q hq; simp only [Gd_MK, List.mem_cons, List.not_mem_nil, or_false] at hq; rcases hq with rfl | rfl | rfl <;> dsimp only [inRc] <;> omega))
                have gMT := gMT.ag (Agr.putV u338 (by intro q hq; simp only [Gd_MT, List.mem_cons, List.not_mem_nil, or_false] at hq; rcases hq with rfl | rfl | rfl <;> dsimp only [inRc] <;> omega))
                have gRXp := RXp.st gRXp u338 (by omega)
                have gWJ := gWJ.ag (Agr.putV u338 (by intro q hq; simp only [Gd_WJ, List.mem_cons, List.not_mem_nil, or_false] at hq; rcases hq with rfl <;> dsimp only [inRc] <;> omega))
                have gWK := gWK.ag (Agr.putV u338 (by intro q hq; simp only [Gd_WK, List.mem_cons, List.not_mem_nil, or_false] at hq; rcases hq with rfl <;> dsimp only [inRc] <;> omega))
                have t339 : (σ338 387 3).toInt = (σ329 387 3).toInt := congrArg Int32.toInt (u338 387 3 (by omega))
                have t340 : (σ338 387 34).toInt = (σ329 387 34).toInt := congrArg Int32.toInt (u338 387 34 (by omega))
                have t341 : (σ338 391 j308).toInt = (σ329 391 j308).toInt := congrArg Int32.toInt (u338 391 j308 (by omega))
                have t342 : (σ338 387 4).toInt = (σ329 387 4).toInt := congrArg Int32.toInt (u338 387 4 (by omega))
                have t343 : (σ338 387 11).toInt = (σ329 387 11).toInt := congrArg Int32.toInt (u338 387 11 (by omega))
                have t344 : (σ338 387 18).toInt = (σ329 387 18).toInt := congrArg Int32.toInt (u338 387 18 (by omega))
                have t345 : (σ338 387 15).toInt = (σ329 387 15).toInt := congrArg Int32.toInt (u338 387 15 (by omega))
                refine r_iconst hx hb dX12_rollLine_128 (by decide) (fun z346 ez346 => ?_)
                exact r_zret hx hb hr hK hP hS hk (by omega) dX12_rollLine_129 (show P_X12_rollLine σ0 τ0 b N mo q nm hc mm mc nn z346 σ338 τ329 from ⟨hR, hF, hFL, by omega, by omega, by omega, by first | exact Or.inl (by omega) | exact Or.inr ⟨by omega, gRXp, fun t ht => OKL.of_w (j := j308) (by omega) (by omega)⟩ | exact Or.inr ⟨by omega, gRXp, fun t ht => OKL.of3 (j1 := j308) (j2 := j337) (j3 := 0) (by omega) (by omega) (by omega) (by omega) (by omega) (by omega)⟩, by first | (exfalso; omega) | exact MO.ofk (rol_4 (by omega) (by omega)) (by omega) (by omega) (by omega) | exact MO.ofr (rol_19 (by omega) (by omega)) (by omega) gMK | (obtain ⟨f, e3, x1, x2⟩ := o3.no (by omega); exact MO.ofl (by rw [rol_14 (by omega) (by omega), numP_cg (lo := 0) (hi := 3) e3 (by omega) (by omega), bnd_l]) (by omega) x1 x2) | exact MO.ofr (by rw [rol_14 (by omega) (by omega), numP_cg (lo := 0) (hi := 3) e3 (by omega) (by omega), bnd_r]) (by omega) gMK | (obtain ⟨f, e3, x1, x2⟩ := o3.no (by omega); exact MO.ofl (by rw [rol_15 (by omega) (by omega), numP_cg (lo := 1) (hi := 99) e3 (by omega) (by omega), bnd_l]) (by omega) x1 x2) | exact MO.ofr (by rw [rol_15 (by omega) (by omega), numP_cg (lo := 1) (hi := 99) e3 (by omega) (by omega), bnd_r]) (by omega) gMK | (obtain ⟨f, e1, x1, x2⟩ := o1.no (by omega); exact MO.ofl (by rw [rol_m (by omega), e1, bnd_l]) (by omega) x1 x2) | exact MO.ofk (by rw [rol_m (by omega), e1, bnd_r, if_pos (by omega)]) (by omega) (by omega) (by omega) | exact MO.ofk (by rw [rol_m (by omega), e1, bnd_r, if_neg (by omega), act_x (by omega)]) (by omega) (by omega) (by omega) | (obtain ⟨f, e4, x1, x2⟩ := o4.no (by omega); exact MO.ofl (by rw [rol_m (by omega), e1, bnd_r, if_neg (by omega), act_17 (by omega), e4, bnd_l]) (by omega) x1 x2) | exact MO.ofr (by rw [rol_m (by omega), e1, bnd_r, if_neg (by omega), act_17 (by omega), e4, bnd_r]) (by omega) gMK | (obtain ⟨f, e5, x1, x2⟩ := o5.no (by omega); exact MO.ofl (by rw [rol_m (by omega), e1, bnd_r, if_neg (by omega), act_16 (by omega), e5, bnd_l]) (by omega) x1 x2) | exact MO.ofr (by rw [rol_m (by omega), e1, bnd_r, if_neg (by omega), act_16 (by omega), e5, bnd_r]) (by omega) gMK | (obtain ⟨f, e5, x1, x2⟩ := o5.no (by omega); exact MO.ofl (by rw [rol_m (by omega), e1, bnd_r, if_neg (by omega), act_18 (by omega), e5, bnd_l]) (by omega) x1 x2) | exact MO.ofr (by rw [rol_m (by omega), e1, bnd_r, if_neg (by omega), act_18 (by omega), e5, bnd_r]) (by omega) gMK, by omega, gMT, gRV, gWJ, gWK⟩)
              · clear hp329_1 hp329_2 hp329_4
                refine r_iconst hx hb dX12_rollLine_114 (by decide) (fun z347 ez347 => ?_)
                exact r_zret hx hb hr hK hP hS hk (by omega) dX12_rollLine_115 (show P_X12_rollLine σ0 τ0 b N mo q nm hc mm mc nn z347 σ329 τ329 from ⟨hR, hF, hFL, by omega, by omega, by omega, by first | exact Or.inl (by omega) | exact Or.inr ⟨by omega, gRXp, fun t ht => OKL.of_w (j := j308) (by omega) (by omega)⟩ | exact Or.inr ⟨by omega, gRXp, fun t ht => OKL.of3 (j1 := j308) (j2 := 0) (j3 := 0) (by omega) (by omega) (by omega) (by omega) (by omega) (by omega)⟩, by first | (exfalso; omega) | exact MO.ofk (rol_4 (by omega) (by omega)) (by omega) (by omega) (by omega) | exact MO.ofr (rol_19 (by omega) (by omega)) (by omega) gMK | (obtain ⟨f, e3, x1, x2⟩ := o3.no (by omega); exact MO.ofl (by rw [rol_14 (by omega) (by omega), numP_cg (lo := 0) (hi := 3) e3 (by omega) (by omega), bnd_l]) (by omega) x1 x2) | exact MO.ofr (by rw [rol_14 (by omega) (by omega), numP_cg (lo := 0) (hi := 3) e3 (by omega) (by omega), bnd_r]) (by omega) gMK | (obtain ⟨f, e3, x1, x2⟩ := o3.no (by omega); exact MO.ofl (by rw [rol_15 (by omega) (by omega), numP_cg (lo := 1) (hi := 99) e3 (by omega) (by omega), bnd_l]) (by omega) x1 x2) | exact MO.ofr (by rw [rol_15 (by omega) (by omega), numP_cg (lo := 1) (hi := 99) e3 (by omega) (by omega), bnd_r]) (by omega) gMK | (obtain ⟨f, e1, x1, x2⟩ := o1.no (by omega); exact MO.ofl (by rw [rol_m (by omega), e1, bnd_l]) (by omega) x1 x2) | exact MO.ofk (by rw [rol_m (by omega), e1, bnd_r, if_pos (by omega)]) (by omega) (by omega) (by omega) | exact MO.ofk (by rw [rol_m (by omega), e1, bnd_r, if_neg (by omega), act_x (by omega)]) (by omega) (by omega) (by omega) | (obtain ⟨f, e4, x1, x2⟩ := o4.no (by omega); exact MO.ofl (by rw [rol_m (by omega), e1, bnd_r, if_neg (by omega), act_17 (by omega), e4, bnd_l]) (by omega) x1 x2) | exact MO.ofr (by rw [rol_m (by omega), e1, bnd_r, if_neg (by omega), act_17 (by omega), e4, bnd_r]) (by omega) gMK | (obtain ⟨f, e5, x1, x2⟩ := o5.no (by omega); exact MO.ofl (by rw [rol_m (by omega), e1, bnd_r, if_neg (by omega), act_16 (by omega), e5, bnd_l]) (by omega) x1 x2) | exact MO.ofr (by rw [rol_m (by omega), e1, bnd_r, if_neg (by omega), act_16 (by omega), e5, bnd_r]) (by omega) gMK | (obtain ⟨f, e5, x1, x2⟩ := o5.no (by omega); exact MO.ofl (by rw [rol_m (by omega), e1, bnd_r, if_neg (by omega), act_18 (by omega), e5, bnd_l]) (by omega) x1 x2) | exact MO.ofr (by rw [rol_m (by omega), e1, bnd_r, if_neg (by omega), act_18 (by omega), e5, bnd_r]) (by omega) gMK, by omega, gMT, gRV, gWJ, gWK⟩)
        · exfalso; omega
      · refine lv_aload_n hx hb dX12_rollLine_64 rfl (lv_at hl 2 rfl) ?_
        refine r_iconst hx hb dX12_rollLine_65 (by decide) (fun z348 ez348 => ?_)
        refine r_cVi (k := 387) (As := [.int z348]) (rest := []) ⟨hx, hb, hml, hown, hts⟩ hK hP hN hS (c_X12_bad_v l D cA ad hI σ0 τ0 hR z348 _ _ _ _ (by omega) gMK) (cwV 1 hts gX12_rollLine_X12_bad rfl rfl rfl (by decide +kernel) ⟨by decide, by decide⟩) (rv_M hK hP (by decide) (by decide)) rfl hl.1 rfl (Nat.le_of_ble_eq_true rfl) dX12_rollLine_66 (Nat.zero_le _) (Nat.zero_le _) (fun r349 u349 H349 locs349 hp349 hP hS => ?_)
        obtain ⟨σ349, τ349⟩ := u349
        obtain ⟨hR, f349, fL349, hq349, hp349_0, hp349_1, hp349_2, gnMK⟩ : P_X12_bad_v σ0 τ0 z348 _ _ _ _ r349 σ349 τ349 := hp349
        have hP : va_P D vwCl (gw cA ad σ349 τ349) H349 := hP
        obtain rfl := FrL.nil fL349
        have hF := hF.step f349 (by decide)
        have gMK := gMK.ag (Agr.fr f349 (by decide))
        have gMT := gMT.ag (Agr.fr f349 (by decide))
        have gRXp := RXp.fr gRXp (by omega) f349 (by decide)
        have gWJ := gWJ.ag (Agr.fr f349 (by decide))
        have gWK := gWK.ag (Agr.fr f349 (by decide))
        have t350 : (σ349 387 4).toInt = (σ0 387 4).toInt := congrArg Int32.toInt (f349.at 387 4 (by decide))
        have t351 : (σ349 387 3).toInt = (σ0 387 3).toInt := congrArg Int32.toInt (f349.at 387 3 (by decide))
        have t352 : (σ349 387 11).toInt = (σ0 387 11).toInt := congrArg Int32.toInt (f349.at 387 11 (by decide))
        have t353 : (σ349 387 18).toInt = (σ0 387 18).toInt := congrArg Int32.toInt (f349.at 387 18 (by decide))
        have t354 : (σ349 387 34).toInt = (σ0 387 34).toInt := congrArg Int32.toInt (f349.at 387 34 (by decide))
        exact r_zret hx hb hr hK hP hS hk (by omega) dX12_rollLine_69 (show P_X12_rollLine σ0 τ0 b N mo q nm hc mm mc nn r349 σ349 τ0 from ⟨hR, hF, hFL, by omega, by omega, by omega, by first | exact Or.inl (by omega) | exact Or.inr ⟨by omega, gRXp, fun t ht => OKL.of_w (j := 0) (by omega) (by omega)⟩ | exact Or.inr ⟨by omega, gRXp, fun t ht => OKL.of3 (j1 := 0) (j2 := 0) (j3 := 0) (by omega) (by omega) (by omega) (by omega) (by omega) (by omega)⟩, by first | (exfalso; omega) | exact MO.ofk (rol_4 (by omega) (by omega)) (by omega) (by omega) (by omega) | exact MO.ofr (rol_19 (by omega) (by omega)) (by omega) gMK | (obtain ⟨f, e3, x1, x2⟩ := o3.no (by omega); exact MO.ofl (by rw [rol_14 (by omega) (by omega), numP_cg (lo := 0) (hi := 3) e3 (by omega) (by omega), bnd_l]) (by omega) x1 x2) | exact MO.ofr (by rw [rol_14 (by omega) (by omega), numP_cg (lo := 0) (hi := 3) e3 (by omega) (by omega), bnd_r]) (by omega) gMK | (obtain ⟨f, e3, x1, x2⟩ := o3.no (by omega); exact MO.ofl (by rw [rol_15 (by omega) (by omega), numP_cg (lo := 1) (hi := 99) e3 (by omega) (by omega), bnd_l]) (by omega) x1 x2) | exact MO.ofr (by rw [rol_15 (by omega) (by omega), numP_cg (lo := 1) (hi := 99) e3 (by omega) (by omega), bnd_r]) (by omega) gMK | (obtain ⟨f, e1, x1, x2⟩ := o1.no (by omega); exact MO.ofl (by rw [rol_m (by omega), e1, bnd_l]) (by omega) x1 x2) | exact MO.ofk (by rw [rol_m (by omega), e1, bnd_r, if_pos (by omega)]) (by omega) (by omega) (by omega) | exact MO.ofk (by rw [rol_m (by omega), e1, bnd_r, if_neg (by omega), act_x (by omega)]) (by omega) (by omega) (by omega) | (obtain ⟨f, e4, x1, x2⟩ := o4.no (by omega); exact MO.ofl (by rw [rol_m (by omega), e1, bnd_r, if_neg (by omega), act_17 (by omega), e4, bnd_l]) (by omega) x1 x2) | exact MO.ofr (by rw [rol_m (by omega), e1, bnd_r, if_neg (by omega), act_17 (by omega), e4, bnd_r]) (by omega) gMK | (obtain ⟨f, e5, x1, x2⟩ := o5.no (by omega); exact MO.ofl (by rw [rol_m (by omega), e1, bnd_r, if_neg (by omega), act_16 (by omega), e5, bnd_l]) (by omega) x1 x2) | exact MO.ofr (by rw [rol_m (by omega), e1, bnd_r, if_neg (by omega), act_16 (by omega), e5, bnd_r]) (by omega) gMK | (obtain ⟨f, e5, x1, x2⟩ := o5.no (by omega); exact MO.ofl (by rw [rol_m (by omega), e1, bnd_r, if_neg (by omega), act_18 (by omega), e5, bnd_l]) (by omega) x1 x2) | exact MO.ofr (by rw [rol_m (by omega), e1, bnd_r, if_neg (by omega), act_18 (by omega), e5, bnd_r]) (by omega) gMK, by omega, gMT, gRV, gWJ, gWK⟩)
