theorem in_X12_fresh_12 : ∀ w ∈ u_ws RX12 TX12 47, w ∈ wsX12_fresh := by decide +kernel
theorem lk_X12_fresh_172 : Cond.fieldLink RX12 172 "CuckooSharesModel" "word" "J" ∈ wsX12_fresh := by decide +kernel
theorem lk_X12_fresh_37 : Cond.fieldLink RX12 37 "CuckooSharesModel" "h" "[I" ∈ wsX12_fresh := by decide +kernel
theorem lk_X12_fresh_43 : Cond.fieldLink RX12 43 "CuckooSharesModel" "names" "[J" ∈ wsX12_fresh := by decide +kernel
abbrev L_X12_fresh : List Rc := [(387, 387, 4, 4), (387, 387, 11, 16)]
abbrev LL_X12_fresh : List Rc := [(392, 392, 16, 31), (387, 387, 17, 17)]
def P_X12_fresh (σ0 : Nat → Nat → Int32) (τ0 : Nat → Nat → Int64) (a1 : Int32) (b : Nat → Int) (N : Nat) (mo : Nat) (q : Nat) (h : Nat → Int) (nm : Nat → Int) (jt : Nat) (r : Int32) (σ : Nat → Nat → Int32) (τ : Nat → Nat → Int64) : Prop := Rg σ ∧ Fr L_X12_fresh σ0 σ ∧ FrL LL_X12_fresh τ0 τ ∧ (0 ≤ r.toInt ∧ r.toInt ≤ 1) ∧ ((σ0 387 4).toInt ≤ (σ 387 4).toInt) ∧ (r.toInt = 0 ∨ (σ 387 11).toInt ≠ 3 ∨ (σ0 387 4).toInt < (σ 387 4).toInt) ∧ (MO r σ (newP b N mo h nm q) (fun _ => MK σ τ b N mo (nxq b N mo q) ∧ (∀ j : Nat, j ≠ jt → τ 392 j = τ0 392 j) ∧ (τ 392 jt).toInt = wdq b N q)) ∧ (r.toInt = 0 ∨ (σ 387 15).toInt = (σ0 387 15).toInt) ∧ MT σ b N mo ∧ RV τ  ∧ MH σ h
set_option maxHeartbeats 4000000 in
theorem c_X12_fresh (l : Launch) (D : va_G) (cA : Nat → ClassId) (ad : Nat → Nat) (hI : Inj ad) (σ0 : Nat → Nat → Int32) (τ0 : Nat → Nat → Int64) (hR : Rg σ0) (a1 : Int32) (b : Nat → Int) (N : Nat) (mo : Nat) (q : Nat) (h : Nat → Int) (nm : Nat → Int) (jt : Nat) (ha1 : 16 ≤ a1.toInt ∧ a1.toInt ≤ 31) (hpre0 : a1.toInt = (jt : Int)) (hpre1 : 0 ≤ h 0 ∧ h 0 ≤ 8 ∧ 0 ≤ h 1 ∧ h 1 ≤ 8) (gMT0 : MT σ0 b N mo) (gMK0 : MK σ0 τ0 b N mo q) (gRV0 : RV τ0 ) (gMN0 : MN τ0 h nm) (gMH0 : MH σ0 h) : Met l yX12_fresh wsX12_fresh ({ frames := 2, cells := 0, slots := 0, locals := 43 } : Room) (WQc D cA ad [.ref (ad 387), .int a1] σ0 τ0) (va_Qi (fun (r : Int32) (u : SS) => P_X12_fresh σ0 τ0 a1 b N mo q h nm jt r u.1 u.2) (WB D cA ad) (AA ad)) 0 0 (AA ad) := by
  refine Met.ofW (cc := cX12_fresh) (maxL := 2) (ret := (some .boolean)) (by decide) rfl ?_
  intro p e s m args below meth c s₁ B hml hv
  obtain ⟨rfl, hP, hK, hN⟩ := hv
  have C : Cy p s m _ meth c cX12_fresh 2 wsX12_fresh RX12 D cA ad (some .boolean) := ⟨B.exec, B.bytes, hml, findClass_of_methodNamed B.named, atoms_spec (ws := wsX12_fresh) B.pre, hK, B.notSynchronized, B.returns, hI, hN⟩
  have hl := lv_entry ([.ref (ad 387), .int a1]) (n := 2) (Nat.le_of_ble_eq_true rfl)
  rw [lg_entry_eq]
  generalize (lg_sl ([.ref (ad 387), .int a1]) ++ List.replicate (2 - (lg_sl ([.ref (ad 387), .int a1])).length) Slot.unset).toArray = ls at hl ⊢
  have hl : lv_has ls 2 [(0, .ref (ad 387)), (1, .int a1)] := hl
  have hS : va_S (AA ad) s.heap s.heap [] := va_S.rf
  have hF : Fr L_X12_fresh σ0 σ0 := Fr.rf
  have hFL : FrL LL_X12_fresh τ0 τ0 := FrL.rf
  have gMT := gMT0
  have gMK := gMK0
  have gRV := gRV0
  have gMN := gMN0
  have gMH := gMH0
  obtain ⟨hx, hb, _, hown, hts, _, hk, hr, _, _⟩ := C
  have hrt4 := rg_12_4 hR (k := 387) (by decide) (by decide)
  have hrt3 := rg_12_3 hR (k := 387) (by decide) (by decide)
  refine lv_aload_n hx hb dX12_fresh_0 rfl (lv_at hl 0 rfl) ?_
  refine r_cVi (k := 387) (As := []) (rest := []) ⟨hx, hb, hml, hown, hts⟩ hK hP hN hS (c_X12_isName_v l D cA ad hI σ0 τ0 hR _ _ _ _ gMK gRV) (cwV 0 hts gX12_fresh_X12_isName rfl rfl rfl (by decide +kernel) ⟨by decide, by decide⟩) (rv_M hK hP (by decide) (by decide)) rfl hl.1 rfl (Nat.le_of_ble_eq_true rfl) dX12_fresh_1 (Nat.zero_le _) (Nat.zero_le _) (fun r1 u1 H1 locs1 hp1 hP hS => ?_)
  obtain ⟨σ1, τ1⟩ := u1
  obtain ⟨hR, f1, fL1, hq1, hp1_0, gnMK, gnRV⟩ : P_X12_isName_v σ0 τ0 _ _ _ _ r1 σ1 τ1 := hp1
  have hP : va_P D vwCl (gw cA ad σ1 τ1) H1 := hP
  obtain rfl := FrL.nil fL1
  obtain rfl := Fr.nil f1
  refine r_if_ne (tgt := 13) hx hb dX12_fresh_4 (by decide) (fun c2 => ?_) (fun c2 => ?_)
  · have hh0 := gMH 0 (by omega)
    have hh1 := gMH 1 (by omega)
    have hwq := gMK.wq (by omega)
    refine lv_aload_n hx hb dX12_fresh_13 rfl (lv_at hl 0 rfl) ?_
    refine r_bipush hx hb dX12_fresh_14 (by decide) (fun z3 ez3 => ?_)
    refine lv_aload_n hx hb dX12_fresh_16 rfl (lv_at hl 0 rfl) ?_
    refine fg_12_7 (k := 387) hx hb hts in_X12_fresh_12 hown hK hP (by decide) (by decide) (hts _ lk_X12_fresh_37) dX12_fresh_17 ?_
    refine r_iconst hx hb dX12_fresh_20 (by decide) (fun z4 ez4 => ?_)
    refine ad_mh (k := 390) (j := 0) hx hb hK hP (by decide) (by decide) (by omega) (by omega) dX12_fresh_21 ?_
    have hr5 := ra_mh_0 hR (k := 390) (j := 0) (by decide) (by decide) (by decide) (by decide)
    refine r_cVi (k := 387) (As := [.int z3, .int (σ0 390 0)]) (rest := []) ⟨hx, hb, hml, hown, hts⟩ hK hP hN hS (c_X12_find_v l D cA ad hI σ0 τ0 hR z3 (σ0 390 0) (by omega) (by omega)) (cwV 2 hts gX12_fresh_X12_find rfl rfl rfl (by decide +kernel) ⟨by decide, by decide⟩) (rv_M hK hP (by decide) (by decide)) rfl hl.1 rfl (Nat.le_of_ble_eq_true rfl) dX12_fresh_22 (Nat.zero_le _) (Nat.zero_le _) (fun r6 u6 H6 locs6 hp6 hP hS => ?_)
    obtain ⟨σ6, τ6⟩ := u6
    obtain ⟨hR, f6, fL6, hq6, hp6_0, hp6_1⟩ : P_X12_find_v σ0 τ0 z3 (σ0 390 0) r6 σ6 τ6 := hp6
    have hP : va_P D vwCl (gw cA ad σ6 τ6) H6 := hP
    obtain rfl := FrL.nil fL6
    obtain rfl := Fr.nil f6
    have hf0 := MN.fb gMN (by omega) (by omega) hwq hp6_1
    refine r_if_ge (tgt := 43) hx hb dX12_fresh_25 (by decide) (fun c7 => ?_) (fun c7 => ?_)
    · refine lv_aload_n hx hb dX12_fresh_43 rfl (lv_at hl 0 rfl) ?_
      refine r_iconst hx hb dX12_fresh_44 (by decide) (fun z8 ez8 => ?_)
      refine r_cVi (k := 387) (As := [.int z8]) (rest := []) ⟨hx, hb, hml, hown, hts⟩ hK hP hN hS (c_X12_bad_v l D cA ad hI σ0 τ0 hR z8 _ _ _ _ (by omega) gMK) (cwV 1 hts gX12_fresh_X12_bad rfl rfl rfl (by decide +kernel) ⟨by decide, by decide⟩) (rv_M hK hP (by decide) (by decide)) rfl hl.1 rfl (Nat.le_of_ble_eq_true rfl) dX12_fresh_45 (Nat.zero_le _) (Nat.zero_le _) (fun r9 u9 H9 locs9 hp9 hP hS => ?_)
      obtain ⟨σ9, τ9⟩ := u9
      obtain ⟨hR, f9, fL9, hq9, hp9_0, hp9_1, hp9_2, gnMK⟩ : P_X12_bad_v σ0 τ0 z8 _ _ _ _ r9 σ9 τ9 := hp9
      have hP : va_P D vwCl (gw cA ad σ9 τ9) H9 := hP
      obtain rfl := FrL.nil fL9
      have hF := hF.step f9 (by decide)
      have gMH := gMH.ag (Agr.fr f9 (by decide))
      have gMK := gMK.ag (Agr.fr f9 (by decide))
      have gMT := gMT.ag (Agr.fr f9 (by decide))
      have t10 : (σ9 387 4).toInt = (σ0 387 4).toInt := congrArg Int32.toInt (f9.at 387 4 (by decide))
      have t11 : (σ9 387 3).toInt = (σ0 387 3).toInt := congrArg Int32.toInt (f9.at 387 3 (by decide))
      have t12 : (σ9 387 11).toInt = (σ0 387 11).toInt := congrArg Int32.toInt (f9.at 387 11 (by decide))
      have t13 : (σ9 390 0).toInt = (σ0 390 0).toInt := congrArg Int32.toInt (f9.at 390 0 (by decide))
      exact r_zret hx hb hr hK hP hS hk (by omega) dX12_fresh_48 (show P_X12_fresh σ0 τ0 a1 b N mo q h nm jt r9 σ9 τ0 from ⟨hR, hF, hFL, by omega, by omega, by omega, by first | exact MO.ofk (by unfold newP; rw [if_pos (by omega)]) (by omega) (by omega) (by omega) | exact MO.ofk (by unfold newP; rw [if_neg (by omega), if_pos (by omega)]) (by omega) (by omega) (by omega) | exact MO.ofr (a := ()) (by unfold newP; rw [if_neg (by omega), if_neg (by omega)]) (by omega) ⟨gMK, fun j hj => (fnL.at2 392 j (by decide)).trans (un 392 j (by omega)), by rw [show jt = 0 by omega, fnL.at2 392 _ (by decide), vn]; exact hwq⟩, by omega, gMT, gRV, gMH⟩)
    · refine lv_aload_n hx hb dX12_fresh_28 rfl (lv_at hl 0 rfl) ?_
      refine r_bipush hx hb dX12_fresh_29 (by decide) (fun z14 ez14 => ?_)
      refine lv_aload_n hx hb dX12_fresh_31 rfl (lv_at hl 0 rfl) ?_
      refine fg_12_7 (k := 387) hx hb hts in_X12_fresh_12 hown hK hP (by decide) (by decide) (hts _ lk_X12_fresh_37) dX12_fresh_32 ?_
      refine r_iconst hx hb dX12_fresh_35 (by decide) (fun z15 ez15 => ?_)
      refine ad_mh (k := 390) (j := 1) hx hb hK hP (by decide) (by decide) (by omega) (by omega) dX12_fresh_36 ?_
      have hr16 := ra_mh_0 hR (k := 390) (j := 1) (by decide) (by decide) (by decide) (by decide)
      refine r_cVi (k := 387) (As := [.int z14, .int (σ0 390 1)]) (rest := []) ⟨hx, hb, hml, hown, hts⟩ hK hP hN hS (c_X12_find_v l D cA ad hI σ0 τ0 hR z14 (σ0 390 1) (by omega) (by omega)) (cwV 2 hts gX12_fresh_X12_find rfl rfl rfl (by decide +kernel) ⟨by decide, by decide⟩) (rv_M hK hP (by decide) (by decide)) rfl hl.1 rfl (Nat.le_of_ble_eq_true rfl) dX12_fresh_37 (Nat.zero_le _) (Nat.zero_le _) (fun r17 u17 H17 locs17 hp17 hP hS => ?_)
      obtain ⟨σ17, τ17⟩ := u17
      obtain ⟨hR, f17, fL17, hq17, hp17_0, hp17_1⟩ : P_X12_find_v σ0 τ0 z14 (σ0 390 1) r17 σ17 τ17 := hp17
      have hP : va_P D vwCl (gw cA ad σ17 τ17) H17 := hP
      obtain rfl := FrL.nil fL17
      obtain rfl := Fr.nil f17
      have hf1 := MN.fc gMN (by omega) (by omega) hwq hp17_1
      refine r_if_lt (tgt := 49) hx hb dX12_fresh_40 (by decide) (fun c18 => ?_) (fun c18 => ?_)
      · refine lv_aload_n hx hb dX12_fresh_49 rfl (lv_at hl 0 rfl) ?_
        refine fg_12_9 (k := 387) hx hb hts in_X12_fresh_12 hown hK hP (by decide) (by decide) (hts _ lk_X12_fresh_43) dX12_fresh_50 ?_
        refine lv_iload_n hx hb dX12_fresh_53 rfl (lv_at hl 1 rfl) ?_
        refine lv_aload_n hx hb dX12_fresh_54 rfl (lv_at hl 0 rfl) ?_
        refine fg_12_17 (k := 387) hx hb hts in_X12_fresh_12 hown hK hP (by decide) (by decide) (hts _ lk_X12_fresh_172) dX12_fresh_55 ?_
        obtain ⟨j19, ej19⟩ : ∃ j : Nat, a1.toInt = (j : Int) := ⟨_, ti_nat (by omega)⟩
        refine asL_mnames (k := 392) (j := j19) hx hb hK hP hI hS (by decide) (by decide) ej19 (by omega) dX12_fresh_58 (fun τ20 H20 locs20 uL20 vL20 hP hS => ?_)
        have un := uL20
        have vn := vL20
        have hFL := hFL.puts uL20 0 rfl (by decide) (by decide) (by omega) (by omega)
        have gMK := gMK.agL (AgrL.putV uL20 (by intro q hq; simp only [GdL_MK, List.mem_cons, List.not_mem_nil, or_false] at hq; rcases hq with rfl <;> dsimp only [inRc] <;> omega))
        have gRV := gRV.agL (AgrL.putV uL20 (by intro q hq; simp only [GdL_RV, List.mem_cons, List.not_mem_nil, or_false] at hq; rcases hq with rfl <;> dsimp only [inRc] <;> omega))
        refine lv_aload_n hx hb dX12_fresh_59 rfl (lv_at hl 0 rfl) ?_
        refine r_cVv (k := 387) (As := []) (rest := []) ⟨hx, hb, hml, hown, hts⟩ hK hP hN hS (c_X12_next_v l D cA ad hI σ0 τ20 hR _ _ _ _ gMK.mp gMT) (cwV 0 hts gX12_fresh_X12_next rfl rfl rfl (by decide +kernel) ⟨by decide, by decide⟩) (rv_M hK hP (by decide) (by decide)) rfl hl.1 rfl (Nat.le_of_ble_eq_true rfl) dX12_fresh_60 (Nat.zero_le _) (Nat.zero_le _) (fun u21 H21 locs21 hp21 hP hS => ?_)
        obtain ⟨σ21, τ21⟩ := u21
        obtain ⟨hR, f21, fL21, hp21_0, hp21_1, hp21_2, hp21_3, gnMT⟩ : P_X12_next_v σ0 τ20 _ _ _ _ σ21 τ21 := hp21
        have hP : va_P D vwCl (gw cA ad σ21 τ21) H21 := hP
        have fnL := fL21
        have hFL := hFL.step fL21 (by decide)
        have gRV := gRV.agL (AgrL.fr fL21 (by decide))
        have hF := hF.step f21 (by decide)
        have gMH := gMH.ag (Agr.fr f21 (by decide))
        have gMT := gMT.ag (Agr.fr f21 (by decide))
        have t22 : (σ21 387 3).toInt = (σ0 387 3).toInt := congrArg Int32.toInt (f21.at 387 3 (by decide))
        have t23 : (σ21 387 15).toInt = (σ0 387 15).toInt := congrArg Int32.toInt (f21.at 387 15 (by decide))
        have t24 : (σ21 390 0).toInt = (σ0 390 0).toInt := congrArg Int32.toInt (f21.at 390 0 (by decide))
        have t25 : (σ21 390 1).toInt = (σ0 390 1).toInt := congrArg Int32.toInt (f21.at 390 1 (by decide))
        have hr26 := rg_12_4 hR (k := 387) (by decide) (by decide)
        have gMK := hp21_3
        refine r_iconst hx hb dX12_fresh_63 (by decide) (fun z27 ez27 => ?_)
        exact r_zret hx hb hr hK hP hS hk (by omega) dX12_fresh_64 (show P_X12_fresh σ0 τ0 a1 b N mo q h nm jt z27 σ21 τ21 from ⟨hR, hF, hFL, by omega, by omega, by omega, by first | exact MO.ofk (by unfold newP; rw [if_pos (by omega)]) (by omega) (by omega) (by omega) | exact MO.ofk (by unfold newP; rw [if_neg (by omega), if_pos (by omega)]) (by omega) (by omega) (by omega) | exact MO.ofr (a := ()) (by unfold newP; rw [if_neg (by omega), if_neg (by omega)]) (by omega) ⟨gMK, fun j hj => (fnL.at2 392 j (by decide)).trans (un 392 j (by omega)), by rw [show jt = j19 by omega, fnL.at2 392 _ (by decide), vn]; exact hwq⟩, by omega, gMT, gRV, gMH⟩)
      · refine lv_aload_n hx hb dX12_fresh_43 rfl (lv_at hl 0 rfl) ?_
        refine r_iconst hx hb dX12_fresh_44 (by decide) (fun z28 ez28 => ?_)
        refine r_cVi (k := 387) (As := [.int z28]) (rest := []) ⟨hx, hb, hml, hown, hts⟩ hK hP hN hS (c_X12_bad_v l D cA ad hI σ0 τ0 hR z28 _ _ _ _ (by omega) gMK) (cwV 1 hts gX12_fresh_X12_bad rfl rfl rfl (by decide +kernel) ⟨by decide, by decide⟩) (rv_M hK hP (by decide) (by decide)) rfl hl.1 rfl (Nat.le_of_ble_eq_true rfl) dX12_fresh_45 (Nat.zero_le _) (Nat.zero_le _) (fun r29 u29 H29 locs29 hp29 hP hS => ?_)
        obtain ⟨σ29, τ29⟩ := u29
        obtain ⟨hR, f29, fL29, hq29, hp29_0, hp29_1, hp29_2, gnMK⟩ : P_X12_bad_v σ0 τ0 z28 _ _ _ _ r29 σ29 τ29 := hp29
        have hP : va_P D vwCl (gw cA ad σ29 τ29) H29 := hP
        obtain rfl := FrL.nil fL29
        have hF := hF.step f29 (by decide)
        have gMH := gMH.ag (Agr.fr f29 (by decide))
        have gMK := gMK.ag (Agr.fr f29 (by decide))
        have gMT := gMT.ag (Agr.fr f29 (by decide))
        have t30 : (σ29 387 4).toInt = (σ0 387 4).toInt := congrArg Int32.toInt (f29.at 387 4 (by decide))
        have t31 : (σ29 387 3).toInt = (σ0 387 3).toInt := congrArg Int32.toInt (f29.at 387 3 (by decide))
        have t32 : (σ29 387 11).toInt = (σ0 387 11).toInt := congrArg Int32.toInt (f29.at 387 11 (by decide))
        have t33 : (σ29 390 0).toInt = (σ0 390 0).toInt := congrArg Int32.toInt (f29.at 390 0 (by decide))
        have t34 : (σ29 390 1).toInt = (σ0 390 1).toInt := congrArg Int32.toInt (f29.at 390 1 (by decide))
        exact r_zret hx hb hr hK hP hS hk (by omega) dX12_fresh_48 (show P_X12_fresh σ0 τ0 a1 b N mo q h nm jt r29 σ29 τ0 from ⟨hR, hF, hFL, by omega, by omega, by omega, by first | exact MO.ofk (by unfold newP; rw [if_pos (by omega)]) (by omega) (by omega) (by omega) | exact MO.ofk (by unfold newP; rw [if_neg (by omega), if_pos (by omega)]) (by omega) (by omega) (by omega) | exact MO.ofr (a := ()) (by unfold newP; rw [if_neg (by omega), if_neg (by omega)]) (by omega) ⟨gMK, fun j hj => (fnL.at2 392 j (by decide)).trans (un 392 j (by omega)), by rw [show jt = 0 by omega, fnL.at2 392 _ (by decide), vn]; exact hwq⟩, by omega, gMT, gRV, gMH⟩)
  · refine lv_aload_n hx hb dX12_fresh_7 rfl (lv_at hl 0 rfl) ?_
    refine r_iconst hx hb dX12_fresh_8 (by decide) (fun z35 ez35 => ?_)
    refine r_cVi (k := 387) (As := [.int z35]) (rest := []) ⟨hx, hb, hml, hown, hts⟩ hK hP hN hS (c_X12_bad_v l D cA ad hI σ0 τ0 hR z35 _ _ _ _ (by omega) gMK) (cwV 1 hts gX12_fresh_X12_bad rfl rfl rfl (by decide +kernel) ⟨by decide, by decide⟩) (rv_M hK hP (by decide) (by decide)) rfl hl.1 rfl (Nat.le_of_ble_eq_true rfl) dX12_fresh_9 (Nat.zero_le _) (Nat.zero_le _) (fun r36 u36 H36 locs36 hp36 hP hS => ?_)
    obtain ⟨σ36, τ36⟩ := u36
    obtain ⟨hR, f36, fL36, hq36, hp36_0, hp36_1, hp36_2, gnMK⟩ : P_X12_bad_v σ0 τ0 z35 _ _ _ _ r36 σ36 τ36 := hp36
    have hP : va_P D vwCl (gw cA ad σ36 τ36) H36 := hP
    obtain rfl := FrL.nil fL36
    have hF := hF.step f36 (by decide)
    have gMH := gMH.ag (Agr.fr f36 (by decide))
    have gMK := gMK.ag (Agr.fr f36 (by decide))
    have gMT := gMT.ag (Agr.fr f36 (by decide))
    have t37 : (σ36 387 4).toInt = (σ0 387 4).toInt := congrArg Int32.toInt (f36.at 387 4 (by decide))
    have t38 : (σ36 387 3).toInt = (σ0 387 3).toInt := congrArg Int32.toInt (f36.at 387 3 (by decide))
    have t39 : (σ36 387 11).toInt = (σ0 387 11).toInt := congrArg Int32.toInt (f36.at 387 11 (by decide))
    exact r_zret hx hb hr hK hP hS hk (by omega) dX12_fresh_12 (show P_X12_fresh σ0 τ0 a1 b N mo q h nm jt r36 σ36 τ0 from ⟨hR, hF, hFL, by omega, by omega, by omega, by first | exact MO.ofk (by unfold newP; rw [if_pos (by omega)]) (by omega) (by omega) (by omega) | exact MO.ofk (by unfold newP; rw [if_neg (by omega), if_pos (by omega)]) (by omega) (by omega) (by omega) | exact MO.ofr (a := ()) (by unfold newP; rw [if_neg (by omega), if_neg (by omega)]) (by omega) ⟨gMK, fun j hj => (fnL.at2 392 j (by decide)).trans (un 392 j (by omega)), by rw [show jt = 0 by omega, fnL.at2 392 _ (by decide), vn]; exact hwq⟩, by omega, gMT, gRV, gMH⟩)
theorem in_X12_isOnce_12 : ∀ w ∈ u_ws RX12 TX12 47, w ∈ wsX12_isOnce := by decide +kernel
theorem lk_X12_isOnce_213 : Cond.fieldLink RX12 213 "CuckooSharesModel" "onces" "I" ∈ wsX12_isOnce := by decide +kernel
abbrev L_X12_isOnce : List Rc := [(387, 387, 20, 20), (387, 387, 4, 4), (387, 387, 11, 16)]
abbrev LL_X12_isOnce : List Rc := [(387, 387, 17, 17)]
def P_X12_isOnce (σ0 : Nat → Nat → Int32) (τ0 : Nat → Nat → Int64) (a1 : Int32) (b : Nat → Int) (N : Nat) (mo : Nat) (q : Nat) (kw : Nat) (r : Int32) (σ : Nat → Nat → Int32) (τ : Nat → Nat → Int64) : Prop := Rg σ ∧ Fr L_X12_isOnce σ0 σ ∧ FrL LL_X12_isOnce τ0 τ ∧ (0 ≤ r.toInt ∧ r.toInt ≤ 1) ∧ ((σ0 387 4).toInt ≤ (σ 387 4).toInt) ∧ (r.toInt = 0 ∨ (σ 387 11).toInt ≠ 3 ∨ (σ0 387 4).toInt < (σ 387 4).toInt) ∧ (MO r σ (oncP b N mo (σ0 387 20) kw q) (fun q1 => MK σ τ b N mo q1 ∧ σ 387 20 = sbq (σ0 387 20) kw)) ∧ (r.toInt = 0 ∨ (σ 387 15).toInt = (σ0 387 15).toInt) ∧ MT σ b N mo
set_option maxHeartbeats 4000000 in
theorem c_X12_isOnce (l : Launch) (D : va_G) (cA : Nat → ClassId) (ad : Nat → Nat) (hI : Inj ad) (σ0 : Nat → Nat → Int32) (τ0 : Nat → Nat → Int64) (hR : Rg σ0) (a1 : Int32) (b : Nat → Int) (N : Nat) (mo : Nat) (q : Nat) (kw : Nat) (ha1 : 0 ≤ a1.toInt ∧ a1.toInt ≤ 2) (hpre0 : a1.toInt = (kw : Int)) (hpre1 : kw ≤ 2) (gMT0 : MT σ0 b N mo) (gMK0 : MK σ0 τ0 b N mo q) : Met l yX12_isOnce wsX12_isOnce ({ frames := 2, cells := 0, slots := 0, locals := 43 } : Room) (WQc D cA ad [.ref (ad 387), .int a1] σ0 τ0) (va_Qi (fun (r : Int32) (u : SS) => P_X12_isOnce σ0 τ0 a1 b N mo q kw r u.1 u.2) (WB D cA ad) (AA ad)) 0 0 (AA ad) := by
  refine Met.ofW (cc := cX12_isOnce) (maxL := 2) (ret := (some .boolean)) (by decide) rfl ?_
  intro p e s m args below meth c s₁ B hml hv
  obtain ⟨rfl, hP, hK, hN⟩ := hv
  have C : Cy p s m _ meth c cX12_isOnce 2 wsX12_isOnce RX12 D cA ad (some .boolean) := ⟨B.exec, B.bytes, hml, findClass_of_methodNamed B.named, atoms_spec (ws := wsX12_isOnce) B.pre, hK, B.notSynchronized, B.returns, hI, hN⟩
  have hl := lv_entry ([.ref (ad 387), .int a1]) (n := 2) (Nat.le_of_ble_eq_true rfl)
  rw [lg_entry_eq]
  generalize (lg_sl ([.ref (ad 387), .int a1]) ++ List.replicate (2 - (lg_sl ([.ref (ad 387), .int a1])).length) Slot.unset).toArray = ls at hl ⊢
  have hl : lv_has ls 2 [(0, .ref (ad 387)), (1, .int a1)] := hl
  have hS : va_S (AA ad) s.heap s.heap [] := va_S.rf
  have hF : Fr L_X12_isOnce σ0 σ0 := Fr.rf
  have hFL : FrL LL_X12_isOnce τ0 τ0 := FrL.rf
  have gMT := gMT0
  have gMK := gMK0
  obtain ⟨hx, hb, _, hown, hts, _, hk, hr, _, _⟩ := C
  have hrt4 := rg_12_4 hR (k := 387) (by decide) (by decide)
  have hrt3 := rg_12_3 hR (k := 387) (by decide) (by decide)
  refine lv_aload_n hx hb dX12_isOnce_0 rfl (lv_at hl 0 rfl) ?_
  refine fg_12_20 (k := 387) hx hb hts in_X12_isOnce_12 hown hK hP (by decide) (by decide) (hts _ lk_X12_isOnce_213) dX12_isOnce_1 ?_
  refine lv_iload_n hx hb dX12_isOnce_4 rfl (lv_at hl 1 rfl) ?_
  refine r_cSi (As := [.int (σ0 387 20), .int a1]) (rest := []) ⟨hx, hb, hml, hown, hts⟩ hK hP hN hS (c_X12_bitOf l D cA ad hI σ0 τ0 hR (σ0 387 20) a1 (by omega)) (va_cwS 2 hts gX12_isOnce_X12_bitOf rfl rfl rfl (by decide +kernel) ⟨by decide, by decide⟩) rfl hl.1 rfl (Nat.le_of_ble_eq_true rfl) dX12_isOnce_5 (Nat.zero_le _) (Nat.zero_le _) (fun r1 u1 H1 locs1 hp1 hP hS => ?_)
  obtain ⟨σ1, τ1⟩ := u1
  obtain ⟨hR, f1, fL1, hq1, hp1_0⟩ : P_X12_bitOf σ0 τ0 (σ0 387 20) a1 r1 σ1 τ1 := hp1
  have hbt := hp1_0
  have hP : va_P D vwCl (gw cA ad σ1 τ1) H1 := hP
  obtain rfl := FrL.nil fL1
  obtain rfl := Fr.nil f1
  refine r_if_eq (tgt := 17) hx hb dX12_isOnce_8 (by decide) (fun c2 => ?_) (fun c2 => ?_)
  · refine lv_aload_n hx hb dX12_isOnce_17 rfl (lv_at hl 0 rfl) ?_
    refine lv_dup hx hb dX12_isOnce_18 rfl ?_
    refine fg_12_20 (k := 387) hx hb hts in_X12_isOnce_12 hown hK hP (by decide) (by decide) (hts _ lk_X12_isOnce_213) dX12_isOnce_19 ?_
    refine lv_iconst (v := 1) hx hb dX12_isOnce_22 (by decide) ?_
    have kcz3 : (1 : Int32).toInt = 1 := rfl
    refine lv_iload_n hx hb dX12_isOnce_23 rfl (lv_at hl 1 rfl) ?_
    refine lv_ishl hx hb dX12_isOnce_24 ?_
    refine lv_ior hx hb dX12_isOnce_25 ?_
    refine fp_12_20 (k := 387) hx hb hts in_X12_isOnce_12 hown hK hP (by decide) (by decide) (hts _ lk_X12_isOnce_213) hI hR hS dX12_isOnce_26 (fun σ4 H4 locs4 u4 v4 hR hP hS => ?_)
    have us := u4
    have vs := v4
    have hF := hF.puts u4 0 rfl (by decide) (by decide) (by decide) (by decide)
    have gMK := gMK.ag (Agr.put u4 (by decide))
    have gMT := gMT.ag (Agr.put u4 (by decide))
    have t5 : (σ4 387 4).toInt = (σ0 387 4).toInt := congrArg Int32.toInt (u4 387 4 (by omega))
    have t6 : (σ4 387 3).toInt = (σ0 387 3).toInt := congrArg Int32.toInt (u4 387 3 (by omega))
    have t7 : (σ4 387 11).toInt = (σ0 387 11).toInt := congrArg Int32.toInt (u4 387 11 (by omega))
    have t8 : (σ4 387 15).toInt = (σ0 387 15).toInt := congrArg Int32.toInt (u4 387 15 (by omega))
    have hsb := sb_e (k := kw) (x := a1) (by omega) (by omega) vs
    refine lv_aload_n hx hb dX12_isOnce_29 rfl (lv_at hl 0 rfl) ?_
    refine r_cVv (k := 387) (As := []) (rest := []) ⟨hx, hb, hml, hown, hts⟩ hK hP hN hS (c_X12_next_v l D cA ad hI σ4 τ0 hR _ _ _ _ gMK.mp gMT) (cwV 0 hts gX12_isOnce_X12_next rfl rfl rfl (by decide +kernel) ⟨by decide, by decide⟩) (rv_M hK hP (by decide) (by decide)) rfl hl.1 rfl (Nat.le_of_ble_eq_true rfl) dX12_isOnce_30 (Nat.zero_le _) (Nat.zero_le _) (fun u9 H9 locs9 hp9 hP hS => ?_)
    obtain ⟨σ9, τ9⟩ := u9
    obtain ⟨hR, f9, fL9, hp9_0, hp9_1, hp9_2, hp9_3, gnMT⟩ : P_X12_next_v σ4 τ0 _ _ _ _ σ9 τ9 := hp9
    have fn := f9
    have hP : va_P D vwCl (gw cA ad σ9 τ9) H9 := hP
    have hFL := hFL.step fL9 (by decide)
    have hF := hF.step f9 (by decide)
    have gMT := gMT.ag (Agr.fr f9 (by decide))
    have t10 : (σ9 387 3).toInt = (σ4 387 3).toInt := congrArg Int32.toInt (f9.at 387 3 (by decide))
    have t11 : (σ9 387 15).toInt = (σ4 387 15).toInt := congrArg Int32.toInt (f9.at 387 15 (by decide))
    have t12 : (σ9 387 20).toInt = (σ4 387 20).toInt := congrArg Int32.toInt (f9.at 387 20 (by decide))
    have hr13 := rg_12_4 hR (k := 387) (by decide) (by decide)
    have gMK := hp9_3
    refine r_iconst hx hb dX12_isOnce_33 (by decide) (fun z14 ez14 => ?_)
    exact r_zret hx hb hr hK hP hS hk (by omega) dX12_isOnce_34 (show P_X12_isOnce σ0 τ0 a1 b N mo q kw z14 σ9 τ9 from ⟨hR, hF, hFL, by omega, by omega, by omega, by first | exact MO.ofk (by unfold oncP; rw [if_pos (BT.y hbt (by omega) (by omega) (by omega))]) (by omega) (by omega) (by omega) | exact MO.ofr (by unfold oncP; rw [if_neg (BT.n hbt (by omega) (by omega) (by omega))]) (by omega) ⟨gMK, (fn.at 387 20 (by decide)).trans hsb⟩, by omega, gMT⟩)
  · refine lv_aload_n hx hb dX12_isOnce_11 rfl (lv_at hl 0 rfl) ?_
    refine r_iconst hx hb dX12_isOnce_12 (by decide) (fun z15 ez15 => ?_)
    refine r_cVi (k := 387) (As := [.int z15]) (rest := []) ⟨hx, hb, hml, hown, hts⟩ hK hP hN hS (c_X12_bad_v l D cA ad hI σ0 τ0 hR z15 _ _ _ _ (by omega) gMK) (cwV 1 hts gX12_isOnce_X12_bad rfl rfl rfl (by decide +kernel) ⟨by decide, by decide⟩) (rv_M hK hP (by decide) (by decide)) rfl hl.1 rfl (Nat.le_of_ble_eq_true rfl) dX12_isOnce_13 (Nat.zero_le _) (Nat.zero_le _) (fun r16 u16 H16 locs16 hp16 hP hS => ?_)
    obtain ⟨σ16, τ16⟩ := u16
    obtain ⟨hR, f16, fL16, hq16, hp16_0, hp16_1, hp16_2, gnMK⟩ : P_X12_bad_v σ0 τ0 z15 _ _ _ _ r16 σ16 τ16 := hp16
    have hP : va_P D vwCl (gw cA ad σ16 τ16) H16 := hP
    obtain rfl := FrL.nil fL16
    have hF := hF.step f16 (by decide)
    have gMK := gMK.ag (Agr.fr f16 (by decide))
    have gMT := gMT.ag (Agr.fr f16 (by decide))
    have t17 : (σ16 387 4).toInt = (σ0 387 4).toInt := congrArg Int32.toInt (f16.at 387 4 (by decide))
    have t18 : (σ16 387 3).toInt = (σ0 387 3).toInt := congrArg Int32.toInt (f16.at 387 3 (by decide))
    have t19 : (σ16 387 11).toInt = (σ0 387 11).toInt := congrArg Int32.toInt (f16.at 387 11 (by decide))
    have t20 : (σ16 387 20).toInt = (σ0 387 20).toInt := congrArg Int32.toInt (f16.at 387 20 (by decide))
    exact r_zret hx hb hr hK hP hS hk (by omega) dX12_isOnce_16 (show P_X12_isOnce σ0 τ0 a1 b N mo q kw r16 σ16 τ0 from ⟨hR, hF, hFL, by omega, by omega, by omega, by first | exact MO.ofk (by unfold oncP; rw [if_pos (BT.y hbt (by omega) (by omega) (by omega))]) (by omega) (by omega) (by omega) | exact MO.ofr (by unfold oncP; rw [if_neg (BT.n hbt (by omega) (by omega) (by omega))]) (by omega) ⟨gMK, (fn.at 387 20 (by decide)).trans hsb⟩, by omega, gMT⟩)
theorem in_X12_isWord_12 : ∀ w ∈ u_ws RX12 TX12 47, w ∈ wsX12_isWord := by decide +kernel
theorem lk_X12_isWord_159 : Cond.fieldLink RX12 159 "CuckooSharesModel" "token" "I" ∈ wsX12_isWord := by decide +kernel
theorem lk_X12_isWord_172 : Cond.fieldLink RX12 172 "CuckooSharesModel" "word" "J" ∈ wsX12_isWord := by decide +kernel
abbrev L_X12_isWord_v : List Rc := []
abbrev LL_X12_isWord_v : List Rc := []
def P_X12_isWord_v (σ0 : Nat → Nat → Int32) (τ0 : Nat → Nat → Int64) (a1 : Int64) (b : Nat → Int) (N : Nat) (mo : Nat) (q : Nat) (kw : Nat) (r : Int32) (σ : Nat → Nat → Int32) (τ : Nat → Nat → Int64) : Prop := Rg σ ∧ Fr L_X12_isWord_v σ0 σ ∧ FrL LL_X12_isWord_v τ0 τ ∧ (0 ≤ r.toInt ∧ r.toInt ≤ 1) ∧ (r.toInt = 0 ∨ (σ0 387 11).toInt = 1) ∧ ((r.toInt = 1 ∧ tkq b N mo q = (kw : Int)) ∨ (r.toInt = 0 ∧ tkq b N mo q ≠ (kw : Int))) ∧ MK σ τ b N mo q
set_option maxHeartbeats 4000000 in
theorem c_X12_isWord_v (l : Launch) (D : va_G) (cA : Nat → ClassId) (ad : Nat → Nat) (hI : Inj ad) (σ0 : Nat → Nat → Int32) (τ0 : Nat → Nat → Int64) (hR : Rg σ0) (a1 : Int64) (b : Nat → Int) (N : Nat) (mo : Nat) (q : Nat) (kw : Nat) (hpre0 : a1.toInt = RWl.getD kw 0) (hpre1 : kw < 31) (gMK0 : MK σ0 τ0 b N mo q) : Met l yX12_isWord wsX12_isWord ({ frames := 0, cells := 0, slots := 0, locals := 0 } : Room) (WQc D cA ad [.ref (ad 387), .long a1] σ0 τ0) (va_Qi (fun (r : Int32) (u : SS) => P_X12_isWord_v σ0 τ0 a1 b N mo q kw r u.1 u.2) (WB D cA ad) (AA ad)) 0 0 (AA ad) := by
  refine Met.ofW (cc := cX12_isWord) (maxL := 3) (ret := (some .boolean)) (by decide) rfl ?_
  intro p e s m args below meth c s₁ B hml hv
  obtain ⟨rfl, hP, hK, hN⟩ := hv
  have C : Cy p s m _ meth c cX12_isWord 3 wsX12_isWord RX12 D cA ad (some .boolean) := ⟨B.exec, B.bytes, hml, findClass_of_methodNamed B.named, atoms_spec (ws := wsX12_isWord) B.pre, hK, B.notSynchronized, B.returns, hI, hN⟩
  have hl := lv_entry ([.ref (ad 387), .long a1]) (n := 3) (Nat.le_of_ble_eq_true rfl)
  rw [lg_entry_eq]
  generalize (lg_sl ([.ref (ad 387), .long a1]) ++ List.replicate (3 - (lg_sl ([.ref (ad 387), .long a1])).length) Slot.unset).toArray = ls at hl ⊢
  have hl : lv_has ls 3 [(0, .ref (ad 387)), (1, .long a1)] := hl
  have hS : va_S (AA ad) s.heap s.heap [] := va_S.rf
  have hF : Fr L_X12_isWord_v σ0 σ0 := Fr.rf
  have hFL : FrL LL_X12_isWord_v τ0 τ0 := FrL.rf
  have gMK := gMK0
  obtain ⟨hx, hb, _, hown, hts, _, hk, hr, _, _⟩ := C
  have hwd := gMK.wd hpre0 hpre1
  refine lv_aload_n hx hb dX12_isWord_0 rfl (lv_at hl 0 rfl) ?_
  refine fg_12_11 (k := 387) hx hb hts in_X12_isWord_12 hown hK hP (by decide) (by decide) (hts _ lk_X12_isWord_159) dX12_isWord_1 ?_
  refine r_iconst hx hb dX12_isWord_4 (by decide) (fun z1 ez1 => ?_)
  refine r_icmp_ne (tgt := 21) hx hb dX12_isWord_5 (by decide) (fun c2 => ?_) (fun c2 => ?_)
  · refine r_iconst hx hb dX12_isWord_21 (by decide) (fun z3 ez3 => ?_)
    exact r_zret hx hb hr hK hP hS hk (by omega) dX12_isWord_22 (show P_X12_isWord_v σ0 τ0 a1 b N mo q kw z3 σ0 τ0 from ⟨hR, hF, hFL, by omega, by omega, by first | exact Or.inl ⟨by omega, hwd.mp ⟨by omega, lc.mp (by omega)⟩⟩ | exact Or.inr ⟨by omega, fun h => absurd (hwd.mpr h).1 (by omega)⟩ | exact Or.inr ⟨by omega, fun h => absurd (lc.mpr (hwd.mpr h).2) (by omega)⟩, gMK⟩)
  · refine lv_aload_n hx hb dX12_isWord_8 rfl (lv_at hl 0 rfl) ?_
    refine fg_12_17 (k := 387) hx hb hts in_X12_isWord_12 hown hK hP (by decide) (by decide) (hts _ lk_X12_isWord_172) dX12_isWord_9 ?_
    refine lv_lload_n hx hb dX12_isWord_12 rfl (lv_at hl 1 rfl) ?_
    refine r_lcmpE hx hb dX12_isWord_13 (fun z4 ez4 => ?_)
    have lc := ez4
    refine r_if_ne (tgt := 21) hx hb dX12_isWord_14 (by decide) (fun c5 => ?_) (fun c5 => ?_)
    · refine r_iconst hx hb dX12_isWord_21 (by decide) (fun z6 ez6 => ?_)
      exact r_zret hx hb hr hK hP hS hk (by omega) dX12_isWord_22 (show P_X12_isWord_v σ0 τ0 a1 b N mo q kw z6 σ0 τ0 from ⟨hR, hF, hFL, by omega, by omega, by first | exact Or.inl ⟨by omega, hwd.mp ⟨by omega, lc.mp (by omega)⟩⟩ | exact Or.inr ⟨by omega, fun h => absurd (hwd.mpr h).1 (by omega)⟩ | exact Or.inr ⟨by omega, fun h => absurd (lc.mpr (hwd.mpr h).2) (by omega)⟩, gMK⟩)
    · refine r_iconst hx hb dX12_isWord_17 (by decide) (fun z7 ez7 => ?_)
      refine lv_goto (tgt := 22) hx hb dX12_isWord_18 (by decide) ?_
      exact r_zret hx hb hr hK hP hS hk (by omega) dX12_isWord_22 (show P_X12_isWord_v σ0 τ0 a1 b N mo q kw z7 σ0 τ0 from ⟨hR, hF, hFL, by omega, by omega, by first | exact Or.inl ⟨by omega, hwd.mp ⟨by omega, lc.mp (by omega)⟩⟩ | exact Or.inr ⟨by omega, fun h => absurd (hwd.mpr h).1 (by omega)⟩ | exact Or.inr ⟨by omega, fun h => absurd (lc.mpr (hwd.mpr h).2) (by omega)⟩, gMK⟩)
theorem in_X12_looksAt_12 : ∀ w ∈ u_ws RX12 TX12 47, w ∈ wsX12_looksAt := by decide +kernel
theorem lk_X12_looksAt_195 : Cond.fieldLink RX12 195 "CuckooSharesModel" "got" "I" ∈ wsX12_looksAt := by decide +kernel
abbrev L_X12_looksAt_v : List Rc := [(387, 387, 15, 16), (387, 387, 18, 18)]
abbrev LL_X12_looksAt_v : List Rc := []
def P_X12_looksAt_v (σ0 : Nat → Nat → Int32) (τ0 : Nat → Nat → Int64) (a1 : Int32) (a2 : Int32) (b : Nat → Int) (N : Nat) (mo : Nat) (q : Nat) (h : Nat → Int) (nm : Nat → Int) (lk : Nat → Int) (n0 : Nat) (oo : Nat) (r : Int32) (σ : Nat → Nat → Int32) (τ : Nat → Nat → Int64) : Prop := Rg σ ∧ Fr L_X12_looksAt_v σ0 σ ∧ FrL LL_X12_looksAt_v τ0 τ ∧ (0 ≤ r.toInt ∧ r.toInt ≤ 1) ∧ (r.toInt = 0 ∨ (0 ≤ (σ 387 18).toInt ∧ (σ 387 18).toInt ≤ 7)) ∧ (r.toInt = 0 ∨ 1 ≤ a2.toInt) ∧ (MO r σ (lokP b N mo lk n0 q) (fun k => (σ 387 18).toInt = k)) ∧ (r.toInt = 0 ∨ (σ 387 15).toInt = (σ0 387 15).toInt) ∧ MK σ τ b N mo q ∧ RV τ  ∧ MN τ h nm
set_option maxHeartbeats 4000000 in
theorem c_X12_looksAt_v (l : Launch) (D : va_G) (cA : Nat → ClassId) (ad : Nat → Nat) (hI : Inj ad) (σ0 : Nat → Nat → Int32) (τ0 : Nat → Nat → Int64) (hR : Rg σ0) (a1 : Int32) (a2 : Int32) (b : Nat → Int) (N : Nat) (mo : Nat) (q : Nat) (h : Nat → Int) (nm : Nat → Int) (lk : Nat → Int) (n0 : Nat) (oo : Nat) (ha1 : 16 ≤ a1.toInt ∧ a1.toInt ≤ 24) (ha2 : 0 ≤ a2.toInt ∧ a2.toInt ≤ 8) (hpre0 : a1.toInt = (oo : Int)) (hpre1 : (oo = 16 ∧ lk = nm ∧ n0 = (h 0).toNat ∧ a2.toInt = h 0) ∨ (oo = 24 ∧ lk = n8 nm ∧ n0 = (h 1).toNat ∧ a2.toInt = h 1)) (hpre2 : 0 ≤ a2.toInt ∧ a2.toInt ≤ 8) (gMK0 : MK σ0 τ0 b N mo q) (gRV0 : RV τ0 ) (gMN0 : MN τ0 h nm) : Met l yX12_looksAt wsX12_looksAt ({ frames := 1, cells := 0, slots := 0, locals := 23 } : Room) (WQc D cA ad [.ref (ad 387), .int a1, .int a2] σ0 τ0) (va_Qi (fun (r : Int32) (u : SS) => P_X12_looksAt_v σ0 τ0 a1 a2 b N mo q h nm lk n0 oo r u.1 u.2) (WB D cA ad) (AA ad)) 0 0 (AA ad) := by
  refine Met.ofW (cc := cX12_looksAt) (maxL := 3) (ret := (some .boolean)) (by decide) rfl ?_
  intro p e s m args below meth c s₁ B hml hv
  obtain ⟨rfl, hP, hK, hN⟩ := hv
  have C : Cy p s m _ meth c cX12_looksAt 3 wsX12_looksAt RX12 D cA ad (some .boolean) := ⟨B.exec, B.bytes, hml, findClass_of_methodNamed B.named, atoms_spec (ws := wsX12_looksAt) B.pre, hK, B.notSynchronized, B.returns, hI, hN⟩
  have hl := lv_entry ([.ref (ad 387), .int a1, .int a2]) (n := 3) (Nat.le_of_ble_eq_true rfl)
  rw [lg_entry_eq]
  generalize (lg_sl ([.ref (ad 387), .int a1, .int a2]) ++ List.replicate (3 - (lg_sl ([.ref (ad 387), .int a1, .int a2])).length) Slot.unset).toArray = ls at hl ⊢
  have hl : lv_has ls 3 [(0, .ref (ad 387)), (1, .int a1), (2, .int a2)] := hl
  have hS : va_S (AA ad) s.heap s.heap [] := va_S.rf
  have hF : Fr L_X12_looksAt_v σ0 σ0 := Fr.rf
  have hFL : FrL LL_X12_looksAt_v τ0 τ0 := FrL.rf
  have gMK := gMK0
  have gRV := gRV0
  have gMN := gMN0
  obtain ⟨hx, hb, _, hown, hts, _, hk, hr, _, _⟩ := C
  refine lv_aload_n hx hb dX12_looksAt_0 rfl (lv_at hl 0 rfl) ?_
  refine r_cVi (k := 387) (As := []) (rest := []) ⟨hx, hb, hml, hown, hts⟩ hK hP hN hS (c_X12_isName_v l D cA ad hI σ0 τ0 hR _ _ _ _ gMK gRV) (cwV 0 hts gX12_looksAt_X12_isName rfl rfl rfl (by decide +kernel) ⟨by decide, by decide⟩) (rv_M hK hP (by decide) (by decide)) rfl hl.1 rfl (Nat.le_of_ble_eq_true rfl) dX12_looksAt_1 (Nat.zero_le _) (Nat.zero_le _) (fun r1 u1 H1 locs1 hp1 hP hS => ?_)
  obtain ⟨σ1, τ1⟩ := u1
  obtain ⟨hR, f1, fL1, hq1, hp1_0, gnMK, gnRV⟩ : P_X12_isName_v σ0 τ0 _ _ _ _ r1 σ1 τ1 := hp1
  have hP : va_P D vwCl (gw cA ad σ1 τ1) H1 := hP
  obtain rfl := FrL.nil fL1
  obtain rfl := Fr.nil f1
  refine r_if_ne (tgt := 13) hx hb dX12_looksAt_4 (by decide) (fun c2 => ?_) (fun c2 => ?_)
  · refine lv_aload_n hx hb dX12_looksAt_13 rfl (lv_at hl 0 rfl) ?_
    refine lv_aload_n hx hb dX12_looksAt_14 rfl (lv_at hl 0 rfl) ?_
    refine lv_iload_n hx hb dX12_looksAt_15 rfl (lv_at hl 1 rfl) ?_
    refine lv_iload_n hx hb dX12_looksAt_16 rfl (lv_at hl 2 rfl) ?_
    refine r_cVi (k := 387) (As := [.int a1, .int a2]) (rest := [.ref (ad 387)]) ⟨hx, hb, hml, hown, hts⟩ hK hP hN hS (c_X12_find_v l D cA ad hI σ0 τ0 hR a1 a2 (by omega) (by omega)) (cwV 2 hts gX12_looksAt_X12_find rfl rfl rfl (by decide +kernel) ⟨by decide, by decide⟩) (rv_M hK hP (by decide) (by decide)) rfl hl.1 rfl (Nat.le_of_ble_eq_true rfl) dX12_looksAt_17 (Nat.zero_le _) (Nat.zero_le _) (fun r3 u3 H3 locs3 hp3 hP hS => ?_)
    obtain ⟨σ3, τ3⟩ := u3
    obtain ⟨hR, f3, fL3, hq3, hp3_0, hp3_1⟩ : P_X12_find_v σ0 τ0 a1 a2 r3 σ3 τ3 := hp3
    have hP : va_P D vwCl (gw cA ad σ3 τ3) H3 := hP
    obtain rfl := FrL.nil fL3
    obtain rfl := Fr.nil f3
    have hfd := MN.fa gMN gMK hpre1 (by omega) (by omega) (by omega) hp3_1
    have hfr := fndq_rg lk (wdq b N q) n0
    refine fp_12_18 (k := 387) hx hb hts in_X12_looksAt_12 hown hK hP (by decide) (by decide) (hts _ lk_X12_looksAt_195) hI hR hS dX12_looksAt_20 (fun σ4 H4 locs4 u4 v4 hR hP hS => ?_)
    have hF := hF.puts u4 1 rfl (by decide) (by decide) (by decide) (by decide)
    have gMK := gMK.ag (Agr.put u4 (by decide))
    have t5 : (σ4 387 15).toInt = (σ0 387 15).toInt := congrArg Int32.toInt (u4 387 15 (by omega))
    refine lv_aload_n hx hb dX12_looksAt_23 rfl (lv_at hl 0 rfl) ?_
    refine fg_12_18 (k := 387) hx hb hts in_X12_looksAt_12 hown hK hP (by decide) (by decide) (hts _ lk_X12_looksAt_195) dX12_looksAt_24 ?_
    refine r_if_ge (tgt := 38) hx hb dX12_looksAt_27 (by decide) (fun c6 => ?_) (fun c6 => ?_)
    · refine r_iconst hx hb dX12_looksAt_38 (by decide) (fun z7 ez7 => ?_)
      refine lv_goto (tgt := 43) hx hb dX12_looksAt_39 (by decide) ?_
      exact r_zret hx hb hr hK hP hS hk (by omega) dX12_looksAt_43 (show P_X12_looksAt_v σ0 τ0 a1 a2 b N mo q h nm lk n0 oo z7 σ4 τ0 from ⟨hR, hF, hFL, by omega, by omega, by omega, by first | exact MO.ofk (by unfold lokP; rw [if_pos (by omega)]) (by omega) (by omega) (by omega) | exact MO.ofk (by unfold lokP; rw [if_neg (by omega), if_pos (by omega)]) (by omega) (by omega) (by omega) | exact MO.ofr (by unfold lokP; rw [if_neg (by omega), if_neg (by omega)]) (by omega) (by omega), by omega, gMK, gRV, gMN⟩)
    · refine lv_aload_n hx hb dX12_looksAt_30 rfl (lv_at hl 0 rfl) ?_
      refine r_iconst hx hb dX12_looksAt_31 (by decide) (fun z8 ez8 => ?_)
      refine r_cVi (k := 387) (As := [.int z8]) (rest := []) ⟨hx, hb, hml, hown, hts⟩ hK hP hN hS (c_X12_bad_v l D cA ad hI σ4 τ0 hR z8 _ _ _ _ (by omega) gMK) (cwV 1 hts gX12_looksAt_X12_bad rfl rfl rfl (by decide +kernel) ⟨by decide, by decide⟩) (rv_M hK hP (by decide) (by decide)) rfl hl.1 rfl (Nat.le_of_ble_eq_true rfl) dX12_looksAt_32 (Nat.zero_le _) (Nat.zero_le _) (fun r9 u9 H9 locs9 hp9 hP hS => ?_)
      obtain ⟨σ9, τ9⟩ := u9
      obtain ⟨hR, f9, fL9, hq9, hp9_0, hp9_1, hp9_2, gnMK⟩ : P_X12_bad_v σ4 τ0 z8 _ _ _ _ r9 σ9 τ9 := hp9
      have hP : va_P D vwCl (gw cA ad σ9 τ9) H9 := hP
      obtain rfl := FrL.nil fL9
      have hF := hF.step f9 (by decide)
      have gMK := gMK.ag (Agr.fr f9 (by decide))
      have t10 : (σ9 387 18).toInt = (σ4 387 18).toInt := congrArg Int32.toInt (f9.at 387 18 (by decide))
      refine r_if_eq (tgt := 42) hx hb dX12_looksAt_35 (by decide) (fun c11 => ?_) (fun c11 => ?_)
      · refine r_iconst hx hb dX12_looksAt_42 (by decide) (fun z12 ez12 => ?_)
        exact r_zret hx hb hr hK hP hS hk (by omega) dX12_looksAt_43 (show P_X12_looksAt_v σ0 τ0 a1 a2 b N mo q h nm lk n0 oo z12 σ9 τ0 from ⟨hR, hF, hFL, by omega, by omega, by omega, by first | exact MO.ofk (by unfold lokP; rw [if_pos (by omega)]) (by omega) (by omega) (by omega) | exact MO.ofk (by unfold lokP; rw [if_neg (by omega), if_pos (by omega)]) (by omega) (by omega) (by omega) | exact MO.ofr (by unfold lokP; rw [if_neg (by omega), if_neg (by omega)]) (by omega) (by omega), by omega, gMK, gRV, gMN⟩)
      · exfalso; omega
  · refine lv_aload_n hx hb dX12_looksAt_7 rfl (lv_at hl 0 rfl) ?_
    refine r_iconst hx hb dX12_looksAt_8 (by decide) (fun z13 ez13 => ?_)
    refine r_cVi (k := 387) (As := [.int z13]) (rest := []) ⟨hx, hb, hml, hown, hts⟩ hK hP hN hS (c_X12_bad_v l D cA ad hI σ0 τ0 hR z13 _ _ _ _ (by omega) gMK) (cwV 1 hts gX12_looksAt_X12_bad rfl rfl rfl (by decide +kernel) ⟨by decide, by decide⟩) (rv_M hK hP (by decide) (by decide)) rfl hl.1 rfl (Nat.le_of_ble_eq_true rfl) dX12_looksAt_9 (Nat.zero_le _) (Nat.zero_le _) (fun r14 u14 H14 locs14 hp14 hP hS => ?_)
    obtain ⟨σ14, τ14⟩ := u14
    obtain ⟨hR, f14, fL14, hq14, hp14_0, hp14_1, hp14_2, gnMK⟩ : P_X12_bad_v σ0 τ0 z13 _ _ _ _ r14 σ14 τ14 := hp14
    have hP : va_P D vwCl (gw cA ad σ14 τ14) H14 := hP
    obtain rfl := FrL.nil fL14
    have hF := hF.step f14 (by decide)
    have gMK := gMK.ag (Agr.fr f14 (by decide))
    have t15 : (σ14 387 18).toInt = (σ0 387 18).toInt := congrArg Int32.toInt (f14.at 387 18 (by decide))
    exact r_zret hx hb hr hK hP hS hk (by omega) dX12_looksAt_12 (show P_X12_looksAt_v σ0 τ0 a1 a2 b N mo q h nm lk n0 oo r14 σ14 τ0 from ⟨hR, hF, hFL, by omega, by omega, by omega, by first | exact MO.ofk (by unfold lokP; rw [if_pos (by omega)]) (by omega) (by omega) (by omega) | exact MO.ofk (by unfold lokP; rw [if_neg (by omega), if_pos (by omega)]) (by omega) (by omega) (by omega) | exact MO.ofr (by unfold lokP; rw [if_neg (by omega), if_neg (by omega)]) (by omega) (by omega), by omega, gMK, gRV, gMN⟩)
abbrev L_X12_isIn : List Rc := []
abbrev LL_X12_isIn : List Rc := []
def P_X12_isIn (σ0 : Nat → Nat → Int32) (τ0 : Nat → Nat → Int64) (a0 : Int32) (a1 : Int32) (a2 : Int32) (r : Int32) (σ : Nat → Nat → Int32) (τ : Nat → Nat → Int64) : Prop := Rg σ ∧ Fr L_X12_isIn σ0 σ ∧ FrL LL_X12_isIn τ0 τ ∧ (0 ≤ r.toInt ∧ r.toInt ≤ 1) ∧ (r.toInt = 0 ∨ (r.toInt = 1 ∧ a1.toInt ≤ a0.toInt ∧ a0.toInt ≤ a2.toInt)) ∧ (r.toInt = 1 ∨ a0.toInt < a1.toInt ∨ a2.toInt < a0.toInt)
set_option maxHeartbeats 4000000 in
theorem c_X12_isIn (l : Launch) (D : va_G) (cA : Nat → ClassId) (ad : Nat → Nat) (hI : Inj ad) (σ0 : Nat → Nat → Int32) (τ0 : Nat → Nat → Int64) (hR : Rg σ0) (a0 : Int32) (a1 : Int32) (a2 : Int32)  : Met l yX12_isIn wsX12_isIn ({ frames := 0, cells := 0, slots := 0, locals := 0 } : Room) (WQc D cA ad [.int a0, .int a1, .int a2] σ0 τ0) (va_Qi (fun (r : Int32) (u : SS) => P_X12_isIn σ0 τ0 a0 a1 a2 r u.1 u.2) (WB D cA ad) (AA ad)) 0 0 (AA ad) := by
  refine Met.ofW (cc := cX12_isIn) (maxL := 3) (ret := (some .boolean)) (by decide) rfl ?_
  intro p e s m args below meth c s₁ B hml hv
  obtain ⟨rfl, hP, hK, hN⟩ := hv
  have C : Cy p s m _ meth c cX12_isIn 3 wsX12_isIn RX12 D cA ad (some .boolean) := ⟨B.exec, B.bytes, hml, findClass_of_methodNamed B.named, atoms_spec (ws := wsX12_isIn) B.pre, hK, B.notSynchronized, B.returns, hI, hN⟩
  have hl := lv_entry ([.int a0, .int a1, .int a2]) (n := 3) (Nat.le_of_ble_eq_true rfl)
  rw [lg_entry_eq]
  generalize (lg_sl ([.int a0, .int a1, .int a2]) ++ List.replicate (3 - (lg_sl ([.int a0, .int a1, .int a2])).length) Slot.unset).toArray = ls at hl ⊢
  have hl : lv_has ls 3 [(0, .int a0), (1, .int a1), (2, .int a2)] := hl
  have hS : va_S (AA ad) s.heap s.heap [] := va_S.rf
  have hF : Fr L_X12_isIn σ0 σ0 := Fr.rf
  have hFL : FrL LL_X12_isIn τ0 τ0 := FrL.rf
  obtain ⟨hx, hb, _, hown, hts, _, hk, hr, _, _⟩ := C
  refine lv_iload_n hx hb dX12_isIn_0 rfl (lv_at hl 0 rfl) ?_
  refine lv_iload_n hx hb dX12_isIn_1 rfl (lv_at hl 1 rfl) ?_
  refine r_icmp_lt (tgt := 14) hx hb dX12_isIn_2 (by decide) (fun c1 => ?_) (fun c1 => ?_)
  · refine r_iconst hx hb dX12_isIn_14 (by decide) (fun z2 ez2 => ?_)
    exact r_zret hx hb hr hK hP hS hk (by omega) dX12_isIn_15 (show P_X12_isIn σ0 τ0 a0 a1 a2 z2 σ0 τ0 from ⟨hR, hF, hFL, by omega, by omega, by omega⟩)
  · refine lv_iload_n hx hb dX12_isIn_5 rfl (lv_at hl 0 rfl) ?_
    refine lv_iload_n hx hb dX12_isIn_6 rfl (lv_at hl 2 rfl) ?_
    refine r_icmp_gt (tgt := 14) hx hb dX12_isIn_7 (by decide) (fun c3 => ?_) (fun c3 => ?_)
    · refine r_iconst hx hb dX12_isIn_14 (by decide) (fun z4 ez4 => ?_)
      exact r_zret hx hb hr hK hP hS hk (by omega) dX12_isIn_15 (show P_X12_isIn σ0 τ0 a0 a1 a2 z4 σ0 τ0 from ⟨hR, hF, hFL, by omega, by omega, by omega⟩)
    · refine r_iconst hx hb dX12_isIn_10 (by decide) (fun z5 ez5 => ?_)
      refine lv_goto (tgt := 15) hx hb dX12_isIn_11 (by decide) ?_
      exact r_zret hx hb hr hK hP hS hk (by omega) dX12_isIn_15 (show P_X12_isIn σ0 τ0 a0 a1 a2 z5 σ0 τ0 from ⟨hR, hF, hFL, by omega, by omega, by omega⟩)
theorem in_X12_takes_12 : ∀ w ∈ u_ws RX12 TX12 47, w ∈ wsX12_takes := by decide +kernel
theorem lk_X12_takes_159 : Cond.fieldLink RX12 159 "CuckooSharesModel" "token" "I" ∈ wsX12_takes := by decide +kernel
theorem lk_X12_takes_169 : Cond.fieldLink RX12 169 "CuckooSharesModel" "number" "I" ∈ wsX12_takes := by decide +kernel
theorem lk_X12_takes_195 : Cond.fieldLink RX12 195 "CuckooSharesModel" "got" "I" ∈ wsX12_takes := by decide +kernel
abbrev L_X12_takes_v : List Rc := [(387, 387, 18, 18), (387, 387, 4, 4), (387, 387, 11, 16)]
abbrev LL_X12_takes_v : List Rc := [(387, 387, 17, 17)]
def P_X12_takes_v (σ0 : Nat → Nat → Int32) (τ0 : Nat → Nat → Int64) (a1 : Int32) (a2 : Int32) (b : Nat → Int) (N : Nat) (mo : Nat) (q : Nat) (lo : Int) (hi : Int) (r : Int32) (σ : Nat → Nat → Int32) (τ : Nat → Nat → Int64) : Prop := Rg σ ∧ Fr L_X12_takes_v σ0 σ ∧ FrL LL_X12_takes_v τ0 τ ∧ (0 ≤ r.toInt ∧ r.toInt ≤ 1) ∧ ((σ0 387 4).toInt ≤ (σ 387 4).toInt) ∧ (r.toInt = 0 ∨ (σ 387 11).toInt ≠ 3 ∨ (σ0 387 4).toInt < (σ 387 4).toInt) ∧ (r.toInt = 0 ∨ (a1.toInt ≤ (σ 387 18).toInt ∧ (σ 387 18).toInt ≤ a2.toInt)) ∧ (MO r σ (numP b N mo lo hi q) (fun z => MK σ τ b N mo z.1 ∧ (σ 387 18).toInt = z.2)) ∧ (r.toInt = 0 ∨ (σ 387 15).toInt = (σ0 387 15).toInt) ∧ MT σ b N mo
set_option maxHeartbeats 4000000 in
theorem c_X12_takes_v (l : Launch) (D : va_G) (cA : Nat → ClassId) (ad : Nat → Nat) (hI : Inj ad) (σ0 : Nat → Nat → Int32) (τ0 : Nat → Nat → Int64) (hR : Rg σ0) (a1 : Int32) (a2 : Int32) (b : Nat → Int) (N : Nat) (mo : Nat) (q : Nat) (lo : Int) (hi : Int) (ha1 : 0 ≤ a1.toInt ∧ a1.toInt ≤ 100) (ha2 : 3 ≤ a2.toInt ∧ a2.toInt ≤ 999) (hpre0 : a1.toInt = lo) (hpre1 : a2.toInt = hi) (gMT0 : MT σ0 b N mo) (gMK0 : MK σ0 τ0 b N mo q) : Met l yX12_takes wsX12_takes ({ frames := 2, cells := 0, slots := 0, locals := 43 } : Room) (WQc D cA ad [.ref (ad 387), .int a1, .int a2] σ0 τ0) (va_Qi (fun (r : Int32) (u : SS) => P_X12_takes_v σ0 τ0 a1 a2 b N mo q lo hi r u.1 u.2) (WB D cA ad) (AA ad)) 0 0 (AA ad) := by
  refine Met.ofW (cc := cX12_takes) (maxL := 3) (ret := (some .boolean)) (by decide) rfl ?_
  intro p e s m args below meth c s₁ B hml hv
  obtain ⟨rfl, hP, hK, hN⟩ := hv
  have C : Cy p s m _ meth c cX12_takes 3 wsX12_takes RX12 D cA ad (some .boolean) := ⟨B.exec, B.bytes, hml, findClass_of_methodNamed B.named, atoms_spec (ws := wsX12_takes) B.pre, hK, B.notSynchronized, B.returns, hI, hN⟩
  have hl := lv_entry ([.ref (ad 387), .int a1, .int a2]) (n := 3) (Nat.le_of_ble_eq_true rfl)
  rw [lg_entry_eq]
  generalize (lg_sl ([.ref (ad 387), .int a1, .int a2]) ++ List.replicate (3 - (lg_sl ([.ref (ad 387), .int a1, .int a2])).length) Slot.unset).toArray = ls at hl ⊢
  have hl : lv_has ls 3 [(0, .ref (ad 387)), (1, .int a1), (2, .int a2)] := hl
  have hS : va_S (AA ad) s.heap s.heap [] := va_S.rf
  have hF : Fr L_X12_takes_v σ0 σ0 := Fr.rf
  have hFL : FrL LL_X12_takes_v τ0 τ0 := FrL.rf
  have gMT := gMT0
  have gMK := gMK0
  obtain ⟨hx, hb, _, hown, hts, _, hk, hr, _, _⟩ := C
  have hrt4 := rg_12_4 hR (k := 387) (by decide) (by decide)
  have hrt3 := rg_12_3 hR (k := 387) (by decide) (by decide)
  have hkd := gMK.kd
  refine lv_aload_n hx hb dX12_takes_0 rfl (lv_at hl 0 rfl) ?_
  refine fg_12_11 (k := 387) hx hb hts in_X12_takes_12 hown hK hP (by decide) (by decide) (hts _ lk_X12_takes_159) dX12_takes_1 ?_
  refine r_iconst hx hb dX12_takes_4 (by decide) (fun z1 ez1 => ?_)
  refine r_icmp_eq (tgt := 14) hx hb dX12_takes_5 (by decide) (fun c2 => ?_) (fun c2 => ?_)
  · refine lv_aload_n hx hb dX12_takes_14 rfl (lv_at hl 0 rfl) ?_
    refine fg_12_14 (k := 387) hx hb hts in_X12_takes_12 hown hK hP (by decide) (by decide) (hts _ lk_X12_takes_169) dX12_takes_15 ?_
    refine lv_iload_n hx hb dX12_takes_18 rfl (lv_at hl 1 rfl) ?_
    refine lv_iload_n hx hb dX12_takes_19 rfl (lv_at hl 2 rfl) ?_
    refine r_cSi (As := [.int (σ0 387 14), .int a1, .int a2]) (rest := []) ⟨hx, hb, hml, hown, hts⟩ hK hP hN hS (c_X12_isIn l D cA ad hI σ0 τ0 hR (σ0 387 14) a1 a2) (va_cwS 3 hts gX12_takes_X12_isIn rfl rfl rfl (by decide +kernel) ⟨by decide, by decide⟩) rfl hl.1 rfl (Nat.le_of_ble_eq_true rfl) dX12_takes_20 (Nat.zero_le _) (Nat.zero_le _) (fun r3 u3 H3 locs3 hp3 hP hS => ?_)
    obtain ⟨σ3, τ3⟩ := u3
    obtain ⟨hR, f3, fL3, hq3, hp3_0, hp3_1⟩ : P_X12_isIn σ0 τ0 (σ0 387 14) a1 a2 r3 σ3 τ3 := hp3
    have hP : va_P D vwCl (gw cA ad σ3 τ3) H3 := hP
    obtain rfl := FrL.nil fL3
    obtain rfl := Fr.nil f3
    refine r_if_ne (tgt := 32) hx hb dX12_takes_23 (by decide) (fun c4 => ?_) (fun c4 => ?_)
    · replace hp3_0 := hp3_0.resolve_left (by omega)
      refine lv_aload_n hx hb dX12_takes_32 rfl (lv_at hl 0 rfl) ?_
      refine lv_aload_n hx hb dX12_takes_33 rfl (lv_at hl 0 rfl) ?_
      refine fg_12_14 (k := 387) hx hb hts in_X12_takes_12 hown hK hP (by decide) (by decide) (hts _ lk_X12_takes_169) dX12_takes_34 ?_
      refine fp_12_18 (k := 387) hx hb hts in_X12_takes_12 hown hK hP (by decide) (by decide) (hts _ lk_X12_takes_195) hI hR hS dX12_takes_37 (fun σ5 H5 locs5 u5 v5 hR hP hS => ?_)
      have hF := hF.puts u5 0 rfl (by decide) (by decide) (by decide) (by decide)
      have gMK := gMK.ag (Agr.put u5 (by decide))
      have gMT := gMT.ag (Agr.put u5 (by decide))
      have t6 : (σ5 387 4).toInt = (σ0 387 4).toInt := congrArg Int32.toInt (u5 387 4 (by omega))
      have t7 : (σ5 387 3).toInt = (σ0 387 3).toInt := congrArg Int32.toInt (u5 387 3 (by omega))
      have t8 : (σ5 387 11).toInt = (σ0 387 11).toInt := congrArg Int32.toInt (u5 387 11 (by omega))
      have t9 : (σ5 387 15).toInt = (σ0 387 15).toInt := congrArg Int32.toInt (u5 387 15 (by omega))
      have t10 : (σ5 387 14).toInt = (σ0 387 14).toInt := congrArg Int32.toInt (u5 387 14 (by omega))
      refine lv_aload_n hx hb dX12_takes_40 rfl (lv_at hl 0 rfl) ?_
      refine r_cVv (k := 387) (As := []) (rest := []) ⟨hx, hb, hml, hown, hts⟩ hK hP hN hS (c_X12_next_v l D cA ad hI σ5 τ0 hR _ _ _ _ gMK.mp gMT) (cwV 0 hts gX12_takes_X12_next rfl rfl rfl (by decide +kernel) ⟨by decide, by decide⟩) (rv_M hK hP (by decide) (by decide)) rfl hl.1 rfl (Nat.le_of_ble_eq_true rfl) dX12_takes_41 (Nat.zero_le _) (Nat.zero_le _) (fun u11 H11 locs11 hp11 hP hS => ?_)
      obtain ⟨σ11, τ11⟩ := u11
      obtain ⟨hR, f11, fL11, hp11_0, hp11_1, hp11_2, hp11_3, gnMT⟩ : P_X12_next_v σ5 τ0 _ _ _ _ σ11 τ11 := hp11
      have hP : va_P D vwCl (gw cA ad σ11 τ11) H11 := hP
      have hFL := hFL.step fL11 (by decide)
      have hF := hF.step f11 (by decide)
      have gMT := gMT.ag (Agr.fr f11 (by decide))
      have t12 : (σ11 387 3).toInt = (σ5 387 3).toInt := congrArg Int32.toInt (f11.at 387 3 (by decide))
      have t13 : (σ11 387 15).toInt = (σ5 387 15).toInt := congrArg Int32.toInt (f11.at 387 15 (by decide))
      have t14 : (σ11 387 18).toInt = (σ5 387 18).toInt := congrArg Int32.toInt (f11.at 387 18 (by decide))
      have hr15 := rg_12_4 hR (k := 387) (by decide) (by decide)
      have gMK := hp11_3
      refine r_iconst hx hb dX12_takes_44 (by decide) (fun z16 ez16 => ?_)
      exact r_zret hx hb hr hK hP hS hk (by omega) dX12_takes_45 (show P_X12_takes_v σ0 τ0 a1 a2 b N mo q lo hi z16 σ11 τ11 from ⟨hR, hF, hFL, by omega, by omega, by omega, by omega, by first | exact MO.ofk (by unfold numP; rw [if_pos (by omega)]) (by omega) (by omega) (by omega) | exact MO.ofk (by unfold numP; rw [if_neg (by omega), if_pos (by omega)]) (by omega) (by omega) (by omega) | exact MO.ofr (by unfold numP; rw [if_neg (by omega), if_neg (by omega)]) (by omega) ⟨gMK, by show _ = nuq b N q; omega⟩, by omega, gMT⟩)
    · clear hp3_0
      refine lv_aload_n hx hb dX12_takes_26 rfl (lv_at hl 0 rfl) ?_
      refine r_iconst hx hb dX12_takes_27 (by decide) (fun z17 ez17 => ?_)
      refine r_cVi (k := 387) (As := [.int z17]) (rest := []) ⟨hx, hb, hml, hown, hts⟩ hK hP hN hS (c_X12_bad_v l D cA ad hI σ0 τ0 hR z17 _ _ _ _ (by omega) gMK) (cwV 1 hts gX12_takes_X12_bad rfl rfl rfl (by decide +kernel) ⟨by decide, by decide⟩) (rv_M hK hP (by decide) (by decide)) rfl hl.1 rfl (Nat.le_of_ble_eq_true rfl) dX12_takes_28 (Nat.zero_le _) (Nat.zero_le _) (fun r18 u18 H18 locs18 hp18 hP hS => ?_)
      obtain ⟨σ18, τ18⟩ := u18
      obtain ⟨hR, f18, fL18, hq18, hp18_0, hp18_1, hp18_2, gnMK⟩ : P_X12_bad_v σ0 τ0 z17 _ _ _ _ r18 σ18 τ18 := hp18
      have hP : va_P D vwCl (gw cA ad σ18 τ18) H18 := hP
      obtain rfl := FrL.nil fL18
      have hF := hF.step f18 (by decide)
      have gMK := gMK.ag (Agr.fr f18 (by decide))
      have gMT := gMT.ag (Agr.fr f18 (by decide))
      have t19 : (σ18 387 4).toInt = (σ0 387 4).toInt := congrArg Int32.toInt (f18.at 387 4 (by decide))
      have t20 : (σ18 387 3).toInt = (σ0 387 3).toInt := congrArg Int32.toInt (f18.at 387 3 (by decide))
      have t21 : (σ18 387 11).toInt = (σ0 387 11).toInt := congrArg Int32.toInt (f18.at 387 11 (by decide))
      have t22 : (σ18 387 18).toInt = (σ0 387 18).toInt := congrArg Int32.toInt (f18.at 387 18 (by decide))
      have t23 : (σ18 387 14).toInt = (σ0 387 14).toInt := congrArg Int32.toInt (f18.at 387 14 (by decide))
      exact r_zret hx hb hr hK hP hS hk (by omega) dX12_takes_31 (show P_X12_takes_v σ0 τ0 a1 a2 b N mo q lo hi r18 σ18 τ0 from ⟨hR, hF, hFL, by omega, by omega, by omega, by omega, by first | exact MO.ofk (by unfold numP; rw [if_pos (by omega)]) (by omega) (by omega) (by omega) | exact MO.ofk (by unfold numP; rw [if_neg (by omega), if_pos (by omega)]) (by omega) (by omega) (by omega) | exact MO.ofr (by unfold numP; rw [if_neg (by omega), if_neg (by omega)]) (by omega) ⟨gMK, by show _ = nuq b N q; omega⟩, by omega, gMT⟩)
  · refine lv_aload_n hx hb dX12_takes_8 rfl (lv_at hl 0 rfl) ?_
    refine r_iconst hx hb dX12_takes_9 (by decide) (fun z24 ez24 => ?_)
    refine r_cVi (k := 387) (As := [.int z24]) (rest := []) ⟨hx, hb, hml, hown, hts⟩ hK hP hN hS (c_X12_bad_v l D cA ad hI σ0 τ0 hR z24 _ _ _ _ (by omega) gMK) (cwV 1 hts gX12_takes_X12_bad rfl rfl rfl (by decide +kernel) ⟨by decide, by decide⟩) (rv_M hK hP (by decide) (by decide)) rfl hl.1 rfl (Nat.le_of_ble_eq_true rfl) dX12_takes_10 (Nat.zero_le _) (Nat.zero_le _) (fun r25 u25 H25 locs25 hp25 hP hS => ?_)
    obtain ⟨σ25, τ25⟩ := u25
    obtain ⟨hR, f25, fL25, hq25, hp25_0, hp25_1, hp25_2, gnMK⟩ : P_X12_bad_v σ0 τ0 z24 _ _ _ _ r25 σ25 τ25 := hp25
    have hP : va_P D vwCl (gw cA ad σ25 τ25) H25 := hP
    obtain rfl := FrL.nil fL25
    have hF := hF.step f25 (by decide)
    have gMK := gMK.ag (Agr.fr f25 (by decide))
    have gMT := gMT.ag (Agr.fr f25 (by decide))
    have t26 : (σ25 387 4).toInt = (σ0 387 4).toInt := congrArg Int32.toInt (f25.at 387 4 (by decide))
    have t27 : (σ25 387 3).toInt = (σ0 387 3).toInt := congrArg Int32.toInt (f25.at 387 3 (by decide))
    have t28 : (σ25 387 11).toInt = (σ0 387 11).toInt := congrArg Int32.toInt (f25.at 387 11 (by decide))
    have t29 : (σ25 387 18).toInt = (σ0 387 18).toInt := congrArg Int32.toInt (f25.at 387 18 (by decide))
    exact r_zret hx hb hr hK hP hS hk (by omega) dX12_takes_13 (show P_X12_takes_v σ0 τ0 a1 a2 b N mo q lo hi r25 σ25 τ0 from ⟨hR, hF, hFL, by omega, by omega, by omega, by omega, by first | exact MO.ofk (by unfold numP; rw [if_pos (by omega)]) (by omega) (by omega) (by omega) | exact MO.ofk (by unfold numP; rw [if_neg (by omega), if_pos (by omega)]) (by omega) (by omega) (by omega) | exact MO.ofr (by unfold numP; rw [if_neg (by omega), if_neg (by omega)]) (by omega) ⟨gMK, by show _ = nuq b N q; omega⟩, by omega, gMT⟩)
theorem in_X12_ofMan_12 : ∀ w ∈ u_ws RX12 TX12 47, w ∈ wsX12_ofMan := by decide +kernel
theorem lk_X12_ofMan_107 : Cond.constantLong RX12 107 (7302244) ∈ wsX12_ofMan := by decide +kernel
theorem lk_X12_ofMan_109 : Cond.constantLong RX12 109 (1684365670) ∈ wsX12_ofMan := by decide +kernel
theorem lk_X12_ofMan_111 : Cond.constantLong RX12 111 (474147546227) ∈ wsX12_ofMan := by decide +kernel
theorem lk_X12_ofMan_195 : Cond.fieldLink RX12 195 "CuckooSharesModel" "got" "I" ∈ wsX12_ofMan := by decide +kernel
theorem lk_X12_ofMan_37 : Cond.fieldLink RX12 37 "CuckooSharesModel" "h" "[I" ∈ wsX12_ofMan := by decide +kernel
abbrev L_X12_ofMan : List Rc := [(387, 387, 4, 4), (387, 387, 11, 16), (387, 387, 18, 18), (390, 390, 55, 78)]
abbrev LL_X12_ofMan : List Rc := [(387, 387, 17, 17)]
def P_X12_ofMan (σ0 : Nat → Nat → Int32) (τ0 : Nat → Nat → Int64) (b : Nat → Int) (N : Nat) (mo : Nat) (q : Nat) (h : Nat → Int) (nm : Nat → Int) (r : Int32) (σ : Nat → Nat → Int32) (τ : Nat → Nat → Int64) : Prop := Rg σ ∧ Fr L_X12_ofMan σ0 σ ∧ FrL LL_X12_ofMan τ0 τ ∧ (0 ≤ r.toInt ∧ r.toInt ≤ 1) ∧ ((σ0 387 4).toInt ≤ (σ 387 4).toInt) ∧ (r.toInt = 0 ∨ (σ 387 11).toInt ≠ 3 ∨ (σ0 387 4).toInt < (σ 387 4).toInt) ∧ (MO r σ (linM b N mo (q, h, nm, σ0 387 20, σ0 387 21)) (MR σ τ b N mo)) ∧ (r.toInt = 0 ∨ (σ 387 15).toInt = (σ0 387 15).toInt) ∧ HI σ ∧ MT σ b N mo ∧ RV τ 
set_option maxHeartbeats 4000000 in
theorem c_X12_ofMan (l : Launch) (D : va_G) (cA : Nat → ClassId) (ad : Nat → Nat) (hI : Inj ad) (σ0 : Nat → Nat → Int32) (τ0 : Nat → Nat → Int64) (hR : Rg σ0) (b : Nat → Int) (N : Nat) (mo : Nat) (q : Nat) (h : Nat → Int) (nm : Nat → Int) (hpre0 : tkq b N mo q ≠ 0 ∧ tkq b N mo q ≠ 1 ∧ tkq b N mo q ≠ 2 ∧ tkq b N mo q ≠ 7 ∧ tkq b N mo q ≠ 8 ∧ tkq b N mo q ≠ 9 ∧ tkq b N mo q ≠ 13) (gHI0 : HI σ0) (gMT0 : MT σ0 b N mo) (gMK0 : MK σ0 τ0 b N mo q) (gRV0 : RV τ0 ) (gMN0 : MN τ0 h nm) (gMH0 : MH σ0 h) : Met l yX12_ofMan wsX12_ofMan ({ frames := 3, cells := 0, slots := 0, locals := 65 } : Room) (WQc D cA ad [.ref (ad 387)] σ0 τ0) (va_Qi (fun (r : Int32) (u : SS) => P_X12_ofMan σ0 τ0 b N mo q h nm r u.1 u.2) (WB D cA ad) (AA ad)) 0 0 (AA ad) := by
  refine Met.ofW (cc := cX12_ofMan) (maxL := 3) (ret := (some .boolean)) (by decide) rfl ?_
  intro p e s m args below meth c s₁ B hml hv
  obtain ⟨rfl, hP, hK, hN⟩ := hv
  have C : Cy p s m _ meth c cX12_ofMan 3 wsX12_ofMan RX12 D cA ad (some .boolean) := ⟨B.exec, B.bytes, hml, findClass_of_methodNamed B.named, atoms_spec (ws := wsX12_ofMan) B.pre, hK, B.notSynchronized, B.returns, hI, hN⟩
  have hl := lv_entry ([.ref (ad 387)]) (n := 3) (Nat.le_of_ble_eq_true rfl)
  rw [lg_entry_eq]
  generalize (lg_sl ([.ref (ad 387)]) ++ List.replicate (3 - (lg_sl ([.ref (ad 387)])).length) Slot.unset).toArray = ls at hl ⊢
  have hl : lv_has ls 3 [(0, .ref (ad 387))] := hl
  have hS : va_S (AA ad) s.heap s.heap [] := va_S.rf
  have hF : Fr L_X12_ofMan σ0 σ0 := Fr.rf
  have hFL : FrL LL_X12_ofMan τ0 τ0 := FrL.rf
  have gHI := gHI0
  have gMT := gMT0
  have gMK := gMK0
  have gRV := gRV0
  have gMN := gMN0
  have gMH := gMH0
  obtain ⟨hx, hb, _, hown, hts, _, hk, hr, _, _⟩ := C
  have hrt4 := rg_12_4 hR (k := 387) (by decide) (by decide)
  have hrt3 := rg_12_3 hR (k := 387) (by decide) (by decide)
  refine lv_aload_n hx hb dX12_ofMan_0 rfl (lv_at hl 0 rfl) ?_
  refine lv_ldc2 (v := 7302244) hx hb hown (hts _ lk_X12_ofMan_107) dX12_ofMan_1 ?_
  refine r_cVi (k := 387) (As := [.long (7302244)]) (rest := []) ⟨hx, hb, hml, hown, hts⟩ hK hP hN hS (c_X12_isWord_v l D cA ad hI σ0 τ0 hR (7302244) _ _ _ _ 10 (by decide) (by decide) gMK) (cwV 1 hts gX12_ofMan_X12_isWord rfl rfl rfl (by decide +kernel) ⟨by decide, by decide⟩) (rv_M hK hP (by decide) (by decide)) rfl hl.1 rfl (Nat.le_of_ble_eq_true rfl) dX12_ofMan_4 (Nat.zero_le _) (Nat.zero_le _) (fun r1 u1 H1 locs1 hp1 hP hS => ?_)
  obtain ⟨σ1, τ1⟩ := u1
  obtain ⟨hR, f1, fL1, hq1, hp1_0, hp1_1, gnMK⟩ : P_X12_isWord_v σ0 τ0 (7302244) _ _ _ _ 10 r1 σ1 τ1 := hp1
  have hP : va_P D vwCl (gw cA ad σ1 τ1) H1 := hP
  obtain rfl := FrL.nil fL1
  obtain rfl := Fr.nil f1
  refine r_if_eq (tgt := 14) hx hb dX12_ofMan_7 (by decide) (fun c2 => ?_) (fun c2 => ?_)
  · clear hp1_0
    refine lv_aload_n hx hb dX12_ofMan_14 rfl (lv_at hl 0 rfl) ?_
    refine lv_ldc2 (v := 1684365670) hx hb hown (hts _ lk_X12_ofMan_109) dX12_ofMan_15 ?_
    refine r_cVi (k := 387) (As := [.long (1684365670)]) (rest := []) ⟨hx, hb, hml, hown, hts⟩ hK hP hN hS (c_X12_isWord_v l D cA ad hI σ0 τ0 hR (1684365670) _ _ _ _ 11 (by decide) (by decide) gMK) (cwV 1 hts gX12_ofMan_X12_isWord rfl rfl rfl (by decide +kernel) ⟨by decide, by decide⟩) (rv_M hK hP (by decide) (by decide)) rfl hl.1 rfl (Nat.le_of_ble_eq_true rfl) dX12_ofMan_18 (Nat.zero_le _) (Nat.zero_le _) (fun r3 u3 H3 locs3 hp3 hP hS => ?_)
    obtain ⟨σ3, τ3⟩ := u3
    obtain ⟨hR, f3, fL3, hq3, hp3_0, hp3_1, gnMK⟩ : P_X12_isWord_v σ0 τ0 (1684365670) _ _ _ _ 11 r3 σ3 τ3 := hp3
    have hP : va_P D vwCl (gw cA ad σ3 τ3) H3 := hP
    obtain rfl := FrL.nil fL3
    obtain rfl := Fr.nil f3
    refine r_if_eq (tgt := 28) hx hb dX12_ofMan_21 (by decide) (fun c4 => ?_) (fun c4 => ?_)
    · clear hp3_0
      refine lv_aload_n hx hb dX12_ofMan_28 rfl (lv_at hl 0 rfl) ?_
      refine lv_ldc2 (v := 474147546227) hx hb hown (hts _ lk_X12_ofMan_111) dX12_ofMan_29 ?_
      refine r_cVi (k := 387) (As := [.long (474147546227)]) (rest := []) ⟨hx, hb, hml, hown, hts⟩ hK hP hN hS (c_X12_isWord_v l D cA ad hI σ0 τ0 hR (474147546227) _ _ _ _ 12 (by decide) (by decide) gMK) (cwV 1 hts gX12_ofMan_X12_isWord rfl rfl rfl (by decide +kernel) ⟨by decide, by decide⟩) (rv_M hK hP (by decide) (by decide)) rfl hl.1 rfl (Nat.le_of_ble_eq_true rfl) dX12_ofMan_32 (Nat.zero_le _) (Nat.zero_le _) (fun r5 u5 H5 locs5 hp5 hP hS => ?_)
      obtain ⟨σ5, τ5⟩ := u5
      obtain ⟨hR, f5, fL5, hq5, hp5_0, hp5_1, gnMK⟩ : P_X12_isWord_v σ0 τ0 (474147546227) _ _ _ _ 12 r5 σ5 τ5 := hp5
      have hP : va_P D vwCl (gw cA ad σ5 τ5) H5 := hP
      obtain rfl := FrL.nil fL5
      obtain rfl := Fr.nil f5
      refine r_if_eq (tgt := 42) hx hb dX12_ofMan_35 (by decide) (fun c6 => ?_) (fun c6 => ?_)
      · clear hp5_0
        refine r_iconst hx hb dX12_ofMan_42 (by decide) (fun z7 ez7 => ?_)
        refine lv_istore_n (lv' := [(1, .int z7), (0, .ref (ad 387))]) hx hb dX12_ofMan_43 rfl hl (by decide) rfl (fun ls hl => ?_)
        refine lv_iload_n hx hb dX12_ofMan_44 rfl (lv_at hl 0 rfl) ?_
        refine r_if_ge (tgt := 54) hx hb dX12_ofMan_45 (by decide) (fun c8 => ?_) (fun c8 => ?_)
        · exfalso; omega
        · refine lv_aload_n hx hb dX12_ofMan_48 rfl (lv_at hl 1 rfl) ?_
          refine r_iconst hx hb dX12_ofMan_49 (by decide) (fun z9 ez9 => ?_)
          refine r_cVi (k := 387) (As := [.int z9]) (rest := []) ⟨hx, hb, hml, hown, hts⟩ hK hP hN hS (c_X12_bad_v l D cA ad hI σ0 τ0 hR z9 _ _ _ _ (by omega) gMK) (cwV 1 hts gX12_ofMan_X12_bad rfl rfl rfl (by decide +kernel) ⟨by decide, by decide⟩) (rv_M hK hP (by decide) (by decide)) rfl hl.1 rfl (Nat.le_of_ble_eq_true rfl) dX12_ofMan_50 (Nat.zero_le _) (Nat.zero_le _) (fun r10 u10 H10 locs10 hp10 hP hS => ?_)
          obtain ⟨σ10, τ10⟩ := u10
          obtain ⟨hR, f10, fL10, hq10, hp10_0, hp10_1, hp10_2, gnMK⟩ : P_X12_bad_v σ0 τ0 z9 _ _ _ _ r10 σ10 τ10 := hp10
          have hP : va_P D vwCl (gw cA ad σ10 τ10) H10 := hP
          obtain rfl := FrL.nil fL10
          have hF := hF.step f10 (by decide)
          have gHI := HI.fr gHI f10 (by decide)
          have gMH := gMH.ag (Agr.fr f10 (by decide))
          have gMK := gMK.ag (Agr.fr f10 (by decide))
          have gMT := gMT.ag (Agr.fr f10 (by decide))
          have t11 : (σ10 387 4).toInt = (σ0 387 4).toInt := congrArg Int32.toInt (f10.at 387 4 (by decide))
          have t12 : (σ10 387 3).toInt = (σ0 387 3).toInt := congrArg Int32.toInt (f10.at 387 3 (by decide))
          have t13 : (σ10 387 11).toInt = (σ0 387 11).toInt := congrArg Int32.toInt (f10.at 387 11 (by decide))
          exact r_zret hx hb hr hK hP hS hk (by omega) dX12_ofMan_53 (show P_X12_ofMan σ0 τ0 b N mo q h nm r10 σ10 τ0 from ⟨hR, hF, hFL, by omega, by omega, by omega, by first | exact MO.ofk (linM_x (z := (q, h, nm, σ0 387 20, σ0 387 21)) (by show tkq b N mo q < 0 ∨ (2 < tkq b N mo q ∧ tkq b N mo q < 7) ∨ 13 < tkq b N mo q; omega)) (by omega) (by omega) (by omega) | (obtain ⟨f, e1, x1, x2⟩ := o1.no (by omega); exact MO.ofl (by rw [linM_10 (z := (q, h, nm, σ0 387 20, σ0 387 21)) (by show tkq b N mo q = 10; omega)]; unfold oldP mnoP; dsimp only; rw [e1]; rfl) (by omega) x1 x2) | exact MO.ofk (by rw [linM_10 (z := (q, h, nm, σ0 387 20, σ0 387 21)) (by show tkq b N mo q = 10; omega)]; unfold oldP mnoP; dsimp only; rw [e1, bnd_r, if_pos (show 0 < h (55 + k.toNat) by rw [show 55 + k.toNat = 0 by omega]; omega)]; rfl) (by omega) (by omega) (by omega) | (obtain ⟨f, e1, x1, x2⟩ := o1.no (by omega); exact MO.ofl (by rw [linM_11 (z := (q, h, nm, σ0 387 20, σ0 387 21)) (by show tkq b N mo q = 11; omega)]; unfold deaP mnoP; dsimp only; rw [e1]; rfl) (by omega) x1 x2) | exact MO.ofk (by rw [linM_11 (z := (q, h, nm, σ0 387 20, σ0 387 21)) (by show tkq b N mo q = 11; omega)]; unfold deaP mnoP; dsimp only; rw [e1, bnd_r, if_pos (show 0 < h (63 + k.toNat) by rw [show 63 + k.toNat = 0 by omega]; omega)]; rfl) (by omega) (by omega) (by omega) | (obtain ⟨f, e1, x1, x2⟩ := o1.no (by omega); exact MO.ofl (by rw [linM_12 (z := (q, h, nm, σ0 387 20, σ0 387 21)) (by show tkq b N mo q = 12; omega)]; unfold neeP mnoP; dsimp only; rw [e1]; rfl) (by omega) x1 x2) | exact MO.ofk (by rw [linM_12 (z := (q, h, nm, σ0 387 20, σ0 387 21)) (by show tkq b N mo q = 12; omega)]; unfold neeP mnoP; dsimp only; rw [e1, bnd_r, if_pos (show 0 < h (71 + k.toNat) by rw [show 71 + k.toNat = 0 by omega]; omega)]; rfl) (by omega) (by omega) (by omega) | exact MO.ofr (by rw [linM_10 (z := (q, h, nm, σ0 387 20, σ0 387 21)) (by show tkq b N mo q = 10; omega)]; unfold oldP; dsimp only; rw [hne.1 (by omega), bnd_r]) (by omega) (MR.mk gMK gMH (gMN.h (uh_n _ _ (by omega)) (uh_n _ _ (by omega))) ((uq134 387 20 (by omega)).trans ((fq118.at 387 20 (by decide)).trans ((fq67.at 387 20 (by decide)).trans (fq55.at 387 20 (by decide))))) ((uq134 387 21 (by omega)).trans ((fq118.at 387 21 (by decide)).trans ((fq67.at 387 21 (by decide)).trans (fq55.at 387 21 (by decide)))))) | exact MO.ofr (by rw [linM_12 (z := (q, h, nm, σ0 387 20, σ0 387 21)) (by show tkq b N mo q = 12; omega)]; unfold neeP; dsimp only; rw [hne.2.2 (by omega), bnd_r, e2, bnd_r]) (by omega) (MR.mk gMK gMH (gMN.h (uh_n _ _ (by omega)) (uh_n _ _ (by omega))) ((uq169 387 20 (by omega)).trans ((fq147.at 387 20 (by decide)).trans ((fq118.at 387 20 (by decide)).trans ((fq67.at 387 20 (by decide)).trans (fq55.at 387 20 (by decide)))))) ((uq169 387 21 (by omega)).trans ((fq147.at 387 21 (by decide)).trans ((fq118.at 387 21 (by decide)).trans ((fq67.at 387 21 (by decide)).trans (fq55.at 387 21 (by decide))))))) | (obtain ⟨f, e2, x1, x2⟩ := o2.no (by omega); exact MO.ofl (by rw [linM_12 (z := (q, h, nm, σ0 387 20, σ0 387 21)) (by show tkq b N mo q = 12; omega)]; unfold neeP; dsimp only; rw [hne.2.2 (by omega), bnd_r, e2, bnd_l]) (by omega) x1 x2) | exact MO.ofr (by rw [linM_11 (z := (q, h, nm, σ0 387 20, σ0 387 21)) (by show tkq b N mo q = 11; omega)]; unfold deaP; dsimp only; rw [hne.2.1 (by omega), bnd_r, e2, bnd_r, if_neg (by omega)]) (by omega) (MR.mk gMK gMH (gMN.h (uh_n _ _ (by omega)) (uh_n _ _ (by omega))) ((fq219.at 387 20 (by decide)).trans ((uq217 387 20 (by omega)).trans ((fq181.at 387 20 (by decide)).trans ((fq118.at 387 20 (by decide)).trans ((fq67.at 387 20 (by decide)).trans (fq55.at 387 20 (by decide))))))) ((fq219.at 387 21 (by decide)).trans ((uq217 387 21 (by omega)).trans ((fq181.at 387 21 (by decide)).trans ((fq118.at 387 21 (by decide)).trans ((fq67.at 387 21 (by decide)).trans (fq55.at 387 21 (by decide)))))))) | exact MO.ofk (by rw [linM_11 (z := (q, h, nm, σ0 387 20, σ0 387 21)) (by show tkq b N mo q = 11; omega)]; unfold deaP; dsimp only; rw [hne.2.1 (by omega), bnd_r, e2, bnd_r, if_pos (by omega)]) (by omega) (by omega) (by omega) | (obtain ⟨f, e2, x1, x2⟩ := o2.no (by omega); exact MO.ofl (by rw [linM_11 (z := (q, h, nm, σ0 387 20, σ0 387 21)) (by show tkq b N mo q = 11; omega)]; unfold deaP; dsimp only; rw [hne.2.1 (by omega), bnd_r, e2, bnd_l]) (by omega) x1 x2), by omega, gHI, gMT, gRV⟩)
      · replace hp5_0 := hp5_0.resolve_left (by omega)
        refine r_iconst hx hb dX12_ofMan_38 (by decide) (fun z14 ez14 => ?_)
        refine lv_goto (tgt := 43) hx hb dX12_ofMan_39 (by decide) ?_
        refine lv_istore_n (lv' := [(1, .int z14), (0, .ref (ad 387))]) hx hb dX12_ofMan_43 rfl hl (by decide) rfl (fun ls hl => ?_)
        refine lv_iload_n hx hb dX12_ofMan_44 rfl (lv_at hl 0 rfl) ?_
        refine r_if_ge (tgt := 54) hx hb dX12_ofMan_45 (by decide) (fun c15 => ?_) (fun c15 => ?_)
        · have hh0 := gMH 0 (by omega)
          have hh1 := gMH 1 (by omega)
          have hra := ra_mh_0 hR (k := 390) (j := 0) (by decide) (by decide) (by decide) (by decide)
          have hrb := ra_mh_0 hR (k := 390) (j := 1) (by decide) (by decide) (by decide) (by decide)
          refine lv_aload_n hx hb dX12_ofMan_54 rfl (lv_at hl 1 rfl) ?_
          refine r_cVv (k := 387) (As := []) (rest := []) ⟨hx, hb, hml, hown, hts⟩ hK hP hN hS (c_X12_next_v l D cA ad hI σ0 τ0 hR _ _ _ _ gMK.mp gMT) (cwV 0 hts gX12_ofMan_X12_next rfl rfl rfl (by decide +kernel) ⟨by decide, by decide⟩) (rv_M hK hP (by decide) (by decide)) rfl hl.1 rfl (Nat.le_of_ble_eq_true rfl) dX12_ofMan_55 (Nat.zero_le _) (Nat.zero_le _) (fun u16 H16 locs16 hp16 hP hS => ?_)
          obtain ⟨σ16, τ16⟩ := u16
          obtain ⟨hR, f16, fL16, hp16_0, hp16_1, hp16_2, hp16_3, gnMT⟩ : P_X12_next_v σ0 τ0 _ _ _ _ σ16 τ16 := hp16
          have fq55 := f16
          have hP : va_P D vwCl (gw cA ad σ16 τ16) H16 := hP
          have hFL := hFL.step fL16 (by decide)
          have gMN := gMN.agL (AgrL.fr fL16 (by decide))
          have gRV := gRV.agL (AgrL.fr fL16 (by decide))
          have hF := hF.step f16 (by decide)
          have gHI := HI.fr gHI f16 (by decide)
          have gMH := gMH.ag (Agr.fr f16 (by decide))
          have gMT := gMT.ag (Agr.fr f16 (by decide))
          have t17 : (σ16 387 3).toInt = (σ0 387 3).toInt := congrArg Int32.toInt (f16.at 387 3 (by decide))
          have t18 : (σ16 387 15).toInt = (σ0 387 15).toInt := congrArg Int32.toInt (f16.at 387 15 (by decide))
          have hr19 := rg_12_4 hR (k := 387) (by decide) (by decide)
          have gMK := hp16_3
          have hh1a := gMH 1 (by omega)
          refine lv_aload_n hx hb dX12_ofMan_58 rfl (lv_at hl 1 rfl) ?_
          refine r_bipush hx hb dX12_ofMan_59 (by decide) (fun z20 ez20 => ?_)
          refine lv_aload_n hx hb dX12_ofMan_61 rfl (lv_at hl 1 rfl) ?_
          refine fg_12_7 (k := 387) hx hb hts in_X12_ofMan_12 hown hK hP (by decide) (by decide) (hts _ lk_X12_ofMan_37) dX12_ofMan_62 ?_
          refine r_iconst hx hb dX12_ofMan_65 (by decide) (fun z21 ez21 => ?_)
          refine ad_mh (k := 390) (j := 1) hx hb hK hP (by decide) (by decide) (by omega) (by omega) dX12_ofMan_66 ?_
          have hr22 := ra_mh_0 hR (k := 390) (j := 1) (by decide) (by decide) (by decide) (by decide)
          refine r_cVi (k := 387) (As := [.int z20, .int (σ16 390 1)]) (rest := []) ⟨hx, hb, hml, hown, hts⟩ hK hP hN hS (c_X12_looksAt_v l D cA ad hI σ16 τ16 hR z20 (σ16 390 1) b N mo _ h nm (n8 nm) (h 1).toNat 24 (by omega) (by omega) (by omega) (Or.inr ⟨rfl, rfl, rfl, by omega⟩) (by omega) gMK gRV gMN) (cwV 2 hts gX12_ofMan_X12_looksAt rfl rfl rfl (by decide +kernel) ⟨by decide, by decide⟩) (rv_M hK hP (by decide) (by decide)) rfl hl.1 rfl (Nat.le_of_ble_eq_true rfl) dX12_ofMan_67 (Nat.zero_le _) (Nat.zero_le _) (fun r23 u23 H23 locs23 hp23 hP hS => ?_)
          obtain ⟨σ23, τ23⟩ := u23
          obtain ⟨hR, f23, fL23, hq23, hp23_0, hp23_1, hp23_2, hp23_3, gnMK, gnRV, gnMN⟩ : P_X12_looksAt_v σ16 τ16 z20 (σ16 390 1) b N mo _ h nm (n8 nm) (h 1).toNat 24 r23 σ23 τ23 := hp23
          have o1 := hp23_2
          have fq67 := f23
          have hP : va_P D vwCl (gw cA ad σ23 τ23) H23 := hP
          obtain rfl := FrL.nil fL23
          have hF := hF.step f23 (by decide)
          have gHI := HI.fr gHI f23 (by decide)
          have gMH := gMH.ag (Agr.fr f23 (by decide))
          have gMK := gMK.ag (Agr.fr f23 (by decide))
          have gMT := gMT.ag (Agr.fr f23 (by decide))
          have t24 : (σ23 387 3).toInt = (σ16 387 3).toInt := congrArg Int32.toInt (f23.at 387 3 (by decide))
          have t25 : (σ23 387 4).toInt = (σ16 387 4).toInt := congrArg Int32.toInt (f23.at 387 4 (by decide))
          have t26 : (σ23 387 11).toInt = (σ16 387 11).toInt := congrArg Int32.toInt (f23.at 387 11 (by decide))
          have t27 : (σ23 390 1).toInt = (σ16 390 1).toInt := congrArg Int32.toInt (f23.at 390 1 (by decide))
          refine r_if_ne (tgt := 75) hx hb dX12_ofMan_70 (by decide) (fun c28 => ?_) (fun c28 => ?_)
          · replace hp23_0 := hp23_0.resolve_left (by omega)
            replace hp23_1 := hp23_1.resolve_left (by omega)
            replace hp23_3 := hp23_3.resolve_left (by omega)
            obtain ⟨k, e1, ek⟩ := o1.ye (by omega)
            have hlk := lok_ok e1
            refine lv_aload_n hx hb dX12_ofMan_75 rfl (lv_at hl 1 rfl) ?_
            refine fg_12_18 (k := 387) hx hb hts in_X12_ofMan_12 hown hK hP (by decide) (by decide) (hts _ lk_X12_ofMan_195) dX12_ofMan_76 ?_
            refine lv_istore_n (lv' := [(2, .int (σ23 387 18)), (1, .int z14), (0, .ref (ad 387))]) hx hb dX12_ofMan_79 rfl hl (by decide) rfl (fun ls hl => ?_)
            refine lv_aload_n hx hb dX12_ofMan_80 rfl (lv_at hl 2 rfl) ?_
            refine fg_12_7 (k := 387) hx hb hts in_X12_ofMan_12 hown hK hP (by decide) (by decide) (hts _ lk_X12_ofMan_37) dX12_ofMan_81 ?_
            refine lv_iload_n hx hb dX12_ofMan_84 rfl (lv_at hl 1 rfl) ?_
            refine r_if_ne (tgt := 93) hx hb dX12_ofMan_85 (by decide) (fun c29 => ?_) (fun c29 => ?_)
            · refine lv_iload_n hx hb dX12_ofMan_93 rfl (lv_at hl 1 rfl) ?_
              refine r_iconst hx hb dX12_ofMan_94 (by decide) (fun z30 ez30 => ?_)
              refine r_icmp_ne (tgt := 103) hx hb dX12_ofMan_95 (by decide) (fun c31 => ?_) (fun c31 => ?_)
              · refine r_bipush hx hb dX12_ofMan_103 (by decide) (fun z32 ez32 => ?_)
                refine lv_iload_n hx hb dX12_ofMan_105 rfl (lv_at hl 0 rfl) ?_
                refine r_iadd hx hb dX12_ofMan_106 (by omega) (fun z33 ez33 => ?_)
                obtain ⟨j34, ej34⟩ : ∃ j : Nat, z33.toInt = (j : Int) := ⟨_, ti_nat (by omega)⟩
                refine ad_mh (k := 390) (j := j34) hx hb hK hP (by decide) (by decide) ej34 (by omega) dX12_ofMan_107 ?_
                have hho := gMH j34 (by omega)
                refine r_if_le (tgt := 117) hx hb dX12_ofMan_108 (by decide) (fun c35 => ?_) (fun c35 => ?_)
                · have hnn : ¬ 0 < h j34 := by omega
                  have hjn : (((j34 : Nat) : Int) = 55 + k ∧ tkq b N mo q = 10) ∨ (((j34 : Nat) : Int) = 63 + k ∧ tkq b N mo q = 11) ∨ (((j34 : Nat) : Int) = 71 + k ∧ tkq b N mo q = 12) := by omega
                  have hne : mnoK b N mo h nm q k := mnoK.of e1 hnn hjn hlk.2.1
                  refine lv_aload_n hx hb dX12_ofMan_117 rfl (lv_at hl 2 rfl) ?_
                  refine r_cVv (k := 387) (As := []) (rest := []) ⟨hx, hb, hml, hown, hts⟩ hK hP hN hS (c_X12_next_v l D cA ad hI σ23 τ16 hR _ _ _ _ gMK.mp gMT) (cwV 0 hts gX12_ofMan_X12_next rfl rfl rfl (by decide +kernel) ⟨by decide, by decide⟩) (rv_M hK hP (by decide) (by decide)) rfl hl.1 rfl (Nat.le_of_ble_eq_true rfl) dX12_ofMan_118 (Nat.zero_le _) (Nat.zero_le _) (fun u36 H36 locs36 hp36 hP hS => ?_)
                  obtain ⟨σ36, τ36⟩ := u36
                  obtain ⟨hR, f36, fL36, hp36_0, hp36_1, hp36_2, hp36_3, gnMT⟩ : P_X12_next_v σ23 τ16 _ _ _ _ σ36 τ36 := hp36
                  have fq118 := f36
                  have hP : va_P D vwCl (gw cA ad σ36 τ36) H36 := hP
                  clear hp16_1
                  have hFL := hFL.step fL36 (by decide)
                  have gMN := gMN.agL (AgrL.fr fL36 (by decide))
                  have gRV := gRV.agL (AgrL.fr fL36 (by decide))
                  have hF := hF.step f36 (by decide)
                  have gHI := HI.fr gHI f36 (by decide)
                  have gMH := gMH.ag (Agr.fr f36 (by decide))
                  have gMT := gMT.ag (Agr.fr f36 (by decide))
                  have t37 : (σ36 387 3).toInt = (σ23 387 3).toInt := congrArg Int32.toInt (f36.at 387 3 (by decide))
                  have t38 : (σ36 390 1).toInt = (σ23 390 1).toInt := congrArg Int32.toInt (f36.at 390 1 (by decide))
                  have t39 : (σ36 387 15).toInt = (σ23 387 15).toInt := congrArg Int32.toInt (f36.at 387 15 (by decide))
                  have t40 : (σ36 387 18).toInt = (σ23 387 18).toInt := congrArg Int32.toInt (f36.at 387 18 (by decide))
                  have t41 : (σ36 390 j34).toInt = (σ23 390 j34).toInt := congrArg Int32.toInt (f36.atV 390 j34 (by intro q hq; simp only [L_X12_next_v, List.mem_cons, List.not_mem_nil, or_false] at hq; rcases hq with rfl | rfl <;> dsimp only <;> omega))
                  have hr42 := rg_12_4 hR (k := 387) (by decide) (by decide)
                  have gMK := hp36_3
                  refine lv_iload_n hx hb dX12_ofMan_121 rfl (lv_at hl 1 rfl) ?_
                  refine r_if_ne (tgt := 137) hx hb dX12_ofMan_122 (by decide) (fun c43 => ?_) (fun c43 => ?_)
                  · refine lv_iload_n hx hb dX12_ofMan_137 rfl (lv_at hl 1 rfl) ?_
                    refine r_iconst hx hb dX12_ofMan_138 (by decide) (fun z44 ez44 => ?_)
                    refine r_icmp_ne (tgt := 172) hx hb dX12_ofMan_139 (by decide) (fun c45 => ?_) (fun c45 => ?_)
                    · exfalso; omega
                    · refine lv_aload_n hx hb dX12_ofMan_142 rfl (lv_at hl 2 rfl) ?_
                      refine r_iconst hx hb dX12_ofMan_143 (by decide) (fun z46 ez46 => ?_)
                      refine r_sipush hx hb dX12_ofMan_144 (by decide) (fun z47 ez47 => ?_)
                      refine r_cVi (k := 387) (As := [.int z46, .int z47]) (rest := []) ⟨hx, hb, hml, hown, hts⟩ hK hP hN hS (c_X12_takes_v l D cA ad hI σ36 τ36 hR z46 z47 b N mo _ 0 999 (by omega) (by omega) (by omega) (by omega) gMT gMK) (cwV 2 hts gX12_ofMan_X12_takes rfl rfl rfl (by decide +kernel) ⟨by decide, by decide⟩) (rv_M hK hP (by decide) (by decide)) rfl hl.1 rfl (Nat.le_of_ble_eq_true rfl) dX12_ofMan_147 (Nat.zero_le _) (Nat.zero_le _) (fun r48 u48 H48 locs48 hp48 hP hS => ?_)
                      obtain ⟨σ48, τ48⟩ := u48
                      obtain ⟨hR, f48, fL48, hq48, hp48_0, hp48_1, hp48_2, hp48_3, hp48_4, gnMT⟩ : P_X12_takes_v σ36 τ36 z46 z47 b N mo _ 0 999 r48 σ48 τ48 := hp48
                      have o2 := hp48_3
                      have fq147 := f48
                      have hP : va_P D vwCl (gw cA ad σ48 τ48) H48 := hP
                      clear hp36_1
                      have hFL := hFL.step fL48 (by decide)
                      have gMN := gMN.agL (AgrL.fr fL48 (by decide))
                      have gRV := gRV.agL (AgrL.fr fL48 (by decide))
                      have hF := hF.step f48 (by decide)
                      have gHI := HI.fr gHI f48 (by decide)
                      have gMH := gMH.ag (Agr.fr f48 (by decide))
                      have gMT := gMT.ag (Agr.fr f48 (by decide))
                      have t49 : (σ48 387 3).toInt = (σ36 387 3).toInt := congrArg Int32.toInt (f48.at 387 3 (by decide))
                      have t50 : (σ48 390 1).toInt = (σ36 390 1).toInt := congrArg Int32.toInt (f48.at 390 1 (by decide))
                      have t51 : (σ48 390 j34).toInt = (σ36 390 j34).toInt := congrArg Int32.toInt (f48.atV 390 j34 (by intro q hq; simp only [L_X12_takes_v, List.mem_cons, List.not_mem_nil, or_false] at hq; rcases hq with rfl | rfl | rfl <;> dsimp only <;> omega))
                      have hr52 := rg_12_4 hR (k := 387) (by decide) (by decide)
                      refine r_if_ne (tgt := 155) hx hb dX12_ofMan_150 (by decide) (fun c53 => ?_) (fun c53 => ?_)
                      · replace hp48_1 := hp48_1.resolve_left (by omega)
                        replace hp48_2 := hp48_2.resolve_left (by omega)
                        replace hp48_4 := hp48_4.resolve_left (by omega)
                        obtain ⟨y, e2, gMK, gvy⟩ := o2.ye (by omega)
                        have hny := num_ok e2
                        refine lv_aload_n hx hb dX12_ofMan_155 rfl (lv_at hl 2 rfl) ?_
                        refine fg_12_7 (k := 387) hx hb hts in_X12_ofMan_12 hown hK hP (by decide) (by decide) (hts _ lk_X12_ofMan_37) dX12_ofMan_156 ?_
                        refine r_bipush hx hb dX12_ofMan_159 (by decide) (fun z54 ez54 => ?_)
                        refine lv_iload_n hx hb dX12_ofMan_161 rfl (lv_at hl 0 rfl) ?_
                        refine r_iadd hx hb dX12_ofMan_162 (by omega) (fun z55 ez55 => ?_)
                        refine lv_aload_n hx hb dX12_ofMan_163 rfl (lv_at hl 2 rfl) ?_
                        refine fg_12_18 (k := 387) hx hb hts in_X12_ofMan_12 hown hK hP (by decide) (by decide) (hts _ lk_X12_ofMan_195) dX12_ofMan_164 ?_
                        refine r_iconst hx hb dX12_ofMan_167 (by decide) (fun z56 ez56 => ?_)
                        refine r_iadd hx hb dX12_ofMan_168 (by omega) (fun z57 ez57 => ?_)
                        refine as_mh (k := 390) (j := j34) hx hb hK hP hI hR hS (by decide) (by decide) (by omega) (by omega) (rx_mh_71 (by decide) (by decide) (by omega) (by omega)) dX12_ofMan_169 (fun σ58 H58 locs58 u58 v58 hR hP hS => ?_)
                        have uq169 := u58
                        have vq169 := v58
                        have hF := hF.puts u58 3 rfl (by decide) (by decide) (by omega) (by omega)
                        have gHI := HI.putV gHI u58 (by intro q hq; simp only [Gd_HI, List.mem_cons, List.not_mem_nil, or_false] at hq; rcases hq with rfl | rfl <;> dsimp only [inRc] <;> omega)
                        have gMK := gMK.ag (Agr.putV u58 (by intro q hq; simp only [Gd_MK, List.mem_cons, List.not_mem_nil, or_false] at hq; rcases hq with rfl | rfl | rfl <;> dsimp only [inRc] <;> omega))
                        have gMT := gMT.ag (Agr.putV u58 (by intro q hq; simp only [Gd_MT, List.mem_cons, List.not_mem_nil, or_false] at hq; rcases hq with rfl | rfl | rfl <;> dsimp only [inRc] <;> omega))
                        have t59 : (σ58 387 3).toInt = (σ48 387 3).toInt := congrArg Int32.toInt (u58 387 3 (by omega))
                        have t60 : (σ58 390 1).toInt = (σ48 390 1).toInt := congrArg Int32.toInt (u58 390 1 (by omega))
                        have t61 : (σ58 387 4).toInt = (σ48 387 4).toInt := congrArg Int32.toInt (u58 387 4 (by omega))
                        have t62 : (σ58 387 11).toInt = (σ48 387 11).toInt := congrArg Int32.toInt (u58 387 11 (by omega))
                        have t63 : (σ58 387 15).toInt = (σ48 387 15).toInt := congrArg Int32.toInt (u58 387 15 (by omega))
                        have t64 : (σ58 387 18).toInt = (σ48 387 18).toInt := congrArg Int32.toInt (u58 387 18 (by omega))
                        have gMH := MH.up (k := 71 + k.toNat) (v := y.2 + 1) gMH (by rw [show 71 + k.toNat = j34 by omega]; exact uq169) (by rw [show 71 + k.toNat = j34 by omega]; omega)
                        refine r_iconst hx hb dX12_ofMan_170 (by decide) (fun z65 ez65 => ?_)
                        exact r_zret hx hb hr hK hP hS hk (by omega) dX12_ofMan_171 (show P_X12_ofMan σ0 τ0 b N mo q h nm z65 σ58 τ48 from ⟨hR, hF, hFL, by omega, by omega, by omega, by first | exact MO.ofk (linM_x (z := (q, h, nm, σ0 387 20, σ0 387 21)) (by show tkq b N mo q < 0 ∨ (2 < tkq b N mo q ∧ tkq b N mo q < 7) ∨ 13 < tkq b N mo q; omega)) (by omega) (by omega) (by omega) | (obtain ⟨f, e1, x1, x2⟩ := o1.no (by omega); exact MO.ofl (by rw [linM_10 (z := (q, h, nm, σ0 387 20, σ0 387 21)) (by show tkq b N mo q = 10; omega)]; unfold oldP mnoP; dsimp only; rw [e1]; rfl) (by omega) x1 x2) | exact MO.ofk (by rw [linM_10 (z := (q, h, nm, σ0 387 20, σ0 387 21)) (by show tkq b N mo q = 10; omega)]; unfold oldP mnoP; dsimp only; rw [e1, bnd_r, if_pos (show 0 < h (55 + k.toNat) by rw [show 55 + k.toNat = j34 by omega]; omega)]; rfl) (by omega) (by omega) (by omega) | (obtain ⟨f, e1, x1, x2⟩ := o1.no (by omega); exact MO.ofl (by rw [linM_11 (z := (q, h, nm, σ0 387 20, σ0 387 21)) (by show tkq b N mo q = 11; omega)]; unfold deaP mnoP; dsimp only; rw [e1]; rfl) (by omega) x1 x2) | exact MO.ofk (by rw [linM_11 (z := (q, h, nm, σ0 387 20, σ0 387 21)) (by show tkq b N mo q = 11; omega)]; unfold deaP mnoP; dsimp only; rw [e1, bnd_r, if_pos (show 0 < h (63 + k.toNat) by rw [show 63 + k.toNat = j34 by omega]; omega)]; rfl) (by omega) (by omega) (by omega) | (obtain ⟨f, e1, x1, x2⟩ := o1.no (by omega); exact MO.ofl (by rw [linM_12 (z := (q, h, nm, σ0 387 20, σ0 387 21)) (by show tkq b N mo q = 12; omega)]; unfold neeP mnoP; dsimp only; rw [e1]; rfl) (by omega) x1 x2) | exact MO.ofk (by rw [linM_12 (z := (q, h, nm, σ0 387 20, σ0 387 21)) (by show tkq b N mo q = 12; omega)]; unfold neeP mnoP; dsimp only; rw [e1, bnd_r, if_pos (show 0 < h (71 + k.toNat) by rw [show 71 + k.toNat = j34 by omega]; omega)]; rfl) (by omega) (by omega) (by omega) | exact MO.ofr (by rw [linM_10 (z := (q, h, nm, σ0 387 20, σ0 387 21)) (by show tkq b N mo q = 10; omega)]; unfold oldP; dsimp only; rw [hne.1 (by omega), bnd_r]) (by omega) (MR.mk gMK gMH (gMN.h (uh_n _ _ (by omega)) (uh_n _ _ (by omega))) ((uq134 387 20 (by omega)).trans ((fq118.at 387 20 (by decide)).trans ((fq67.at 387 20 (by decide)).trans (fq55.at 387 20 (by decide))))) ((uq134 387 21 (by omega)).trans ((fq118.at 387 21 (by decide)).trans ((fq67.at 387 21 (by decide)).trans (fq55.at 387 21 (by decide)))))) | exact MO.ofr (by rw [linM_12 (z := (q, h, nm, σ0 387 20, σ0 387 21)) (by show tkq b N mo q = 12; omega)]; unfold neeP; dsimp only; rw [hne.2.2 (by omega), bnd_r, e2, bnd_r]) (by omega) (MR.mk gMK gMH (gMN.h (uh_n _ _ (by omega)) (uh_n _ _ (by omega))) ((uq169 387 20 (by omega)).trans ((fq147.at 387 20 (by decide)).trans ((fq118.at 387 20 (by decide)).trans ((fq67.at 387 20 (by decide)).trans (fq55.at 387 20 (by decide)))))) ((uq169 387 21 (by omega)).trans ((fq147.at 387 21 (by decide)).trans ((fq118.at 387 21 (by decide)).trans ((fq67.at 387 21 (by decide)).trans (fq55.at 387 21 (by decide))))))) | (obtain ⟨f, e2, x1, x2⟩ := o2.no (by omega); exact MO.ofl (by rw [linM_12 (z := (q, h, nm, σ0 387 20, σ0 387 21)) (by show tkq b N mo q = 12; omega)]; unfold neeP; dsimp only; rw [hne.2.2 (by omega), bnd_r, e2, bnd_l]) (by omega) x1 x2) | exact MO.ofr (by rw [linM_11 (z := (q, h, nm, σ0 387 20, σ0 387 21)) (by show tkq b N mo q = 11; omega)]; unfold deaP; dsimp only; rw [hne.2.1 (by omega), bnd_r, e2, bnd_r, if_neg (by omega)]) (by omega) (MR.mk gMK gMH (gMN.h (uh_n _ _ (by omega)) (uh_n _ _ (by omega))) ((fq219.at 387 20 (by decide)).trans ((uq217 387 20 (by omega)).trans ((fq181.at 387 20 (by decide)).trans ((fq118.at 387 20 (by decide)).trans ((fq67.at 387 20 (by decide)).trans (fq55.at 387 20 (by decide))))))) ((fq219.at 387 21 (by decide)).trans ((uq217 387 21 (by omega)).trans ((fq181.at 387 21 (by decide)).trans ((fq118.at 387 21 (by decide)).trans ((fq67.at 387 21 (by decide)).trans (fq55.at 387 21 (by decide)))))))) | exact MO.ofk (by rw [linM_11 (z := (q, h, nm, σ0 387 20, σ0 387 21)) (by show tkq b N mo q = 11; omega)]; unfold deaP; dsimp only; rw [hne.2.1 (by omega), bnd_r, e2, bnd_r, if_pos (by omega)]) (by omega) (by omega) (by omega) | (obtain ⟨f, e2, x1, x2⟩ := o2.no (by omega); exact MO.ofl (by rw [linM_11 (z := (q, h, nm, σ0 387 20, σ0 387 21)) (by show tkq b N mo q = 11; omega)]; unfold deaP; dsimp only; rw [hne.2.1 (by omega), bnd_r, e2, bnd_l]) (by omega) x1 x2), by omega, gHI, gMT, gRV⟩)
                      · clear hp48_1 hp48_2 hp48_4
                        refine r_iconst hx hb dX12_ofMan_153 (by decide) (fun z66 ez66 => ?_)
                        exact r_zret hx hb hr hK hP hS hk (by omega) dX12_ofMan_154 (show P_X12_ofMan σ0 τ0 b N mo q h nm z66 σ48 τ48 from ⟨hR, hF, hFL, by omega, by omega, by omega, by first | exact MO.ofk (linM_x (z := (q, h, nm, σ0 387 20, σ0 387 21)) (by show tkq b N mo q < 0 ∨ (2 < tkq b N mo q ∧ tkq b N mo q < 7) ∨ 13 < tkq b N mo q; omega)) (by omega) (by omega) (by omega) | (obtain ⟨f, e1, x1, x2⟩ := o1.no (by omega); exact MO.ofl (by rw [linM_10 (z := (q, h, nm, σ0 387 20, σ0 387 21)) (by show tkq b N mo q = 10; omega)]; unfold oldP mnoP; dsimp only; rw [e1]; rfl) (by omega) x1 x2) | exact MO.ofk (by rw [linM_10 (z := (q, h, nm, σ0 387 20, σ0 387 21)) (by show tkq b N mo q = 10; omega)]; unfold oldP mnoP; dsimp only; rw [e1, bnd_r, if_pos (show 0 < h (55 + k.toNat) by rw [show 55 + k.toNat = j34 by omega]; omega)]; rfl) (by omega) (by omega) (by omega) | (obtain ⟨f, e1, x1, x2⟩ := o1.no (by omega); exact MO.ofl (by rw [linM_11 (z := (q, h, nm, σ0 387 20, σ0 387 21)) (by show tkq b N mo q = 11; omega)]; unfold deaP mnoP; dsimp only; rw [e1]; rfl) (by omega) x1 x2) | exact MO.ofk (by rw [linM_11 (z := (q, h, nm, σ0 387 20, σ0 387 21)) (by show tkq b N mo q = 11; omega)]; unfold deaP mnoP; dsimp only; rw [e1, bnd_r, if_pos (show 0 < h (63 + k.toNat) by rw [show 63 + k.toNat = j34 by omega]; omega)]; rfl) (by omega) (by omega) (by omega) | (obtain ⟨f, e1, x1, x2⟩ := o1.no (by omega); exact MO.ofl (by rw [linM_12 (z := (q, h, nm, σ0 387 20, σ0 387 21)) (by show tkq b N mo q = 12; omega)]; unfold neeP mnoP; dsimp only; rw [e1]; rfl) (by omega) x1 x2) | exact MO.ofk (by rw [linM_12 (z := (q, h, nm, σ0 387 20, σ0 387 21)) (by show tkq b N mo q = 12; omega)]; unfold neeP mnoP; dsimp only; rw [e1, bnd_r, if_pos (show 0 < h (71 + k.toNat) by rw [show 71 + k.toNat = j34 by omega]; omega)]; rfl) (by omega) (by omega) (by omega) | exact MO.ofr (by rw [linM_10 (z := (q, h, nm, σ0 387 20, σ0 387 21)) (by show tkq b N mo q = 10; omega)]; unfold oldP; dsimp only; rw [hne.1 (by omega), bnd_r]) (by omega) (MR.mk gMK gMH (gMN.h (uh_n _ _ (by omega)) (uh_n _ _ (by omega))) ((uq134 387 20 (by omega)).trans ((fq118.at 387 20 (by decide)).trans ((fq67.at 387 20 (by decide)).trans (fq55.at 387 20 (by decide))))) ((uq134 387 21 (by omega)).trans ((fq118.at 387 21 (by decide)).trans ((fq67.at 387 21 (by decide)).trans (fq55.at 387 21 (by decide)))))) | exact MO.ofr (by rw [linM_12 (z := (q, h, nm, σ0 387 20, σ0 387 21)) (by show tkq b N mo q = 12; omega)]; unfold neeP; dsimp only; rw [hne.2.2 (by omega), bnd_r, e2, bnd_r]) (by omega) (MR.mk gMK gMH (gMN.h (uh_n _ _ (by omega)) (uh_n _ _ (by omega))) ((uq169 387 20 (by omega)).trans ((fq147.at 387 20 (by decide)).trans ((fq118.at 387 20 (by decide)).trans ((fq67.at 387 20 (by decide)).trans (fq55.at 387 20 (by decide)))))) ((uq169 387 21 (by omega)).trans ((fq147.at 387 21 (by decide)).trans ((fq118.at 387 21 (by decide)).trans ((fq67.at 387 21 (by decide)).trans (fq55.at 387 21 (by decide))))))) | (obtain ⟨f, e2, x1, x2⟩ := o2.no (by omega); exact MO.ofl (by rw [linM_12 (z := (q, h, nm, σ0 387 20, σ0 387 21)) (by show tkq b N mo q = 12; omega)]; unfold neeP; dsimp only; rw [hne.2.2 (by omega), bnd_r, e2, bnd_l]) (by omega) x1 x2) | exact MO.ofr (by rw [linM_11 (z := (q, h, nm, σ0 387 20, σ0 387 21)) (by show tkq b N mo q = 11; omega)]; unfold deaP; dsimp only; rw [hne.2.1 (by omega), bnd_r, e2, bnd_r, if_neg (by omega)]) (by omega) (MR.mk gMK gMH (gMN.h (uh_n _ _ (by omega)) (uh_n _ _ (by omega))) ((fq219.at 387 20 (by decide)).trans ((uq217 387 20 (by omega)).trans ((fq181.at 387 20 (by decide)).trans ((fq118.at 387 20 (by decide)).trans ((fq67.at 387 20 (by decide)).trans (fq55.at 387 20 (by decide))))))) ((fq219.at 387 21 (by decide)).trans ((uq217 387 21 (by omega)).trans ((fq181.at 387 21 (by decide)).trans ((fq118.at 387 21 (by decide)).trans ((fq67.at 387 21 (by decide)).trans (fq55.at 387 21 (by decide)))))))) | exact MO.ofk (by rw [linM_11 (z := (q, h, nm, σ0 387 20, σ0 387 21)) (by show tkq b N mo q = 11; omega)]; unfold deaP; dsimp only; rw [hne.2.1 (by omega), bnd_r, e2, bnd_r, if_pos (by omega)]) (by omega) (by omega) (by omega) | (obtain ⟨f, e2, x1, x2⟩ := o2.no (by omega); exact MO.ofl (by rw [linM_11 (z := (q, h, nm, σ0 387 20, σ0 387 21)) (by show tkq b N mo q = 11; omega)]; unfold deaP; dsimp only; rw [hne.2.1 (by omega), bnd_r, e2, bnd_l]) (by omega) x1 x2), by omega, gHI, gMT, gRV⟩)
                  · exfalso; omega
                · refine lv_aload_n hx hb dX12_ofMan_111 rfl (lv_at hl 2 rfl) ?_
                  refine r_iconst hx hb dX12_ofMan_112 (by decide) (fun z67 ez67 => ?_)
                  refine r_cVi (k := 387) (As := [.int z67]) (rest := []) ⟨hx, hb, hml, hown, hts⟩ hK hP hN hS (c_X12_bad_v l D cA ad hI σ23 τ16 hR z67 _ _ _ _ (by omega) gMK) (cwV 1 hts gX12_ofMan_X12_bad rfl rfl rfl (by decide +kernel) ⟨by decide, by decide⟩) (rv_M hK hP (by decide) (by decide)) rfl hl.1 rfl (Nat.le_of_ble_eq_true rfl) dX12_ofMan_113 (Nat.zero_le _) (Nat.zero_le _) (fun r68 u68 H68 locs68 hp68 hP hS => ?_)
                  obtain ⟨σ68, τ68⟩ := u68
                  obtain ⟨hR, f68, fL68, hq68, hp68_0, hp68_1, hp68_2, gnMK⟩ : P_X12_bad_v σ23 τ16 z67 _ _ _ _ r68 σ68 τ68 := hp68
                  have hP : va_P D vwCl (gw cA ad σ68 τ68) H68 := hP
                  obtain rfl := FrL.nil fL68
                  have hF := hF.step f68 (by decide)
                  have gHI := HI.fr gHI f68 (by decide)
                  have gMH := gMH.ag (Agr.fr f68 (by decide))
                  have gMK := gMK.ag (Agr.fr f68 (by decide))
                  have gMT := gMT.ag (Agr.fr f68 (by decide))
                  have t69 : (σ68 387 3).toInt = (σ23 387 3).toInt := congrArg Int32.toInt (f68.at 387 3 (by decide))
                  have t70 : (σ68 387 4).toInt = (σ23 387 4).toInt := congrArg Int32.toInt (f68.at 387 4 (by decide))
                  have t71 : (σ68 387 11).toInt = (σ23 387 11).toInt := congrArg Int32.toInt (f68.at 387 11 (by decide))
                  have t72 : (σ68 390 1).toInt = (σ23 390 1).toInt := congrArg Int32.toInt (f68.at 390 1 (by decide))
                  have t73 : (σ68 387 18).toInt = (σ23 387 18).toInt := congrArg Int32.toInt (f68.at 387 18 (by decide))
                  have t74 : (σ68 390 j34).toInt = (σ23 390 j34).toInt := congrArg Int32.toInt (f68.atV 390 j34 (by intro q hq; simp only [L_X12_bad_v, List.mem_cons, List.not_mem_nil, or_false] at hq; rcases hq with rfl <;> dsimp only <;> omega))
                  exact r_zret hx hb hr hK hP hS hk (by omega) dX12_ofMan_116 (show P_X12_ofMan σ0 τ0 b N mo q h nm r68 σ68 τ16 from ⟨hR, hF, hFL, by omega, by omega, by omega, by first | exact MO.ofk (linM_x (z := (q, h, nm, σ0 387 20, σ0 387 21)) (by show tkq b N mo q < 0 ∨ (2 < tkq b N mo q ∧ tkq b N mo q < 7) ∨ 13 < tkq b N mo q; omega)) (by omega) (by omega) (by omega) | (obtain ⟨f, e1, x1, x2⟩ := o1.no (by omega); exact MO.ofl (by rw [linM_10 (z := (q, h, nm, σ0 387 20, σ0 387 21)) (by show tkq b N mo q = 10; omega)]; unfold oldP mnoP; dsimp only; rw [e1]; rfl) (by omega) x1 x2) | exact MO.ofk (by rw [linM_10 (z := (q, h, nm, σ0 387 20, σ0 387 21)) (by show tkq b N mo q = 10; omega)]; unfold oldP mnoP; dsimp only; rw [e1, bnd_r, if_pos (show 0 < h (55 + k.toNat) by rw [show 55 + k.toNat = j34 by omega]; omega)]; rfl) (by omega) (by omega) (by omega) | (obtain ⟨f, e1, x1, x2⟩ := o1.no (by omega); exact MO.ofl (by rw [linM_11 (z := (q, h, nm, σ0 387 20, σ0 387 21)) (by show tkq b N mo q = 11; omega)]; unfold deaP mnoP; dsimp only; rw [e1]; rfl) (by omega) x1 x2) | exact MO.ofk (by rw [linM_11 (z := (q, h, nm, σ0 387 20, σ0 387 21)) (by show tkq b N mo q = 11; omega)]; unfold deaP mnoP; dsimp only; rw [e1, bnd_r, if_pos (show 0 < h (63 + k.toNat) by rw [show 63 + k.toNat = j34 by omega]; omega)]; rfl) (by omega) (by omega) (by omega) | (obtain ⟨f, e1, x1, x2⟩ := o1.no (by omega); exact MO.ofl (by rw [linM_12 (z := (q, h, nm, σ0 387 20, σ0 387 21)) (by show tkq b N mo q = 12; omega)]; unfold neeP mnoP; dsimp only; rw [e1]; rfl) (by omega) x1 x2) | exact MO.ofk (by rw [linM_12 (z := (q, h, nm, σ0 387 20, σ0 387 21)) (by show tkq b N mo q = 12; omega)]; unfold neeP mnoP; dsimp only; rw [e1, bnd_r, if_pos (show 0 < h (71 + k.toNat) by rw [show 71 + k.toNat = j34 by omega]; omega)]; rfl) (by omega) (by omega) (by omega) | exact MO.ofr (by rw [linM_10 (z := (q, h, nm, σ0 387 20, σ0 387 21)) (by show tkq b N mo q = 10; omega)]; unfold oldP; dsimp only; rw [hne.1 (by omega), bnd_r]) (by omega) (MR.mk gMK gMH (gMN.h (uh_n _ _ (by omega)) (uh_n _ _ (by omega))) ((uq134 387 20 (by omega)).trans ((fq118.at 387 20 (by decide)).trans ((fq67.at 387 20 (by decide)).trans (fq55.at 387 20 (by decide))))) ((uq134 387 21 (by omega)).trans ((fq118.at 387 21 (by decide)).trans ((fq67.at 387 21 (by decide)).trans (fq55.at 387 21 (by decide)))))) | exact MO.ofr (by rw [linM_12 (z := (q, h, nm, σ0 387 20, σ0 387 21)) (by show tkq b N mo q = 12; omega)]; unfold neeP; dsimp only; rw [hne.2.2 (by omega), bnd_r, e2, bnd_r]) (by omega) (MR.mk gMK gMH (gMN.h (uh_n _ _ (by omega)) (uh_n _ _ (by omega))) ((uq169 387 20 (by omega)).trans ((fq147.at 387 20 (by decide)).trans ((fq118.at 387 20 (by decide)).trans ((fq67.at 387 20 (by decide)).trans (fq55.at 387 20 (by decide)))))) ((uq169 387 21 (by omega)).trans ((fq147.at 387 21 (by decide)).trans ((fq118.at 387 21 (by decide)).trans ((fq67.at 387 21 (by decide)).trans (fq55.at 387 21 (by decide))))))) | (obtain ⟨f, e2, x1, x2⟩ := o2.no (by omega); exact MO.ofl (by rw [linM_12 (z := (q, h, nm, σ0 387 20, σ0 387 21)) (by show tkq b N mo q = 12; omega)]; unfold neeP; dsimp only; rw [hne.2.2 (by omega), bnd_r, e2, bnd_l]) (by omega) x1 x2) | exact MO.ofr (by rw [linM_11 (z := (q, h, nm, σ0 387 20, σ0 387 21)) (by show tkq b N mo q = 11; omega)]; unfold deaP; dsimp only; rw [hne.2.1 (by omega), bnd_r, e2, bnd_r, if_neg (by omega)]) (by omega) (MR.mk gMK gMH (gMN.h (uh_n _ _ (by omega)) (uh_n _ _ (by omega))) ((fq219.at 387 20 (by decide)).trans ((uq217 387 20 (by omega)).trans ((fq181.at 387 20 (by decide)).trans ((fq118.at 387 20 (by decide)).trans ((fq67.at 387 20 (by decide)).trans (fq55.at 387 20 (by decide))))))) ((fq219.at 387 21 (by decide)).trans ((uq217 387 21 (by omega)).trans ((fq181.at 387 21 (by decide)).trans ((fq118.at 387 21 (by decide)).trans ((fq67.at 387 21 (by decide)).trans (fq55.at 387 21 (by decide)))))))) | exact MO.ofk (by rw [linM_11 (z := (q, h, nm, σ0 387 20, σ0 387 21)) (by show tkq b N mo q = 11; omega)]; unfold deaP; dsimp only; rw [hne.2.1 (by omega), bnd_r, e2, bnd_r, if_pos (by omega)]) (by omega) (by omega) (by omega) | (obtain ⟨f, e2, x1, x2⟩ := o2.no (by omega); exact MO.ofl (by rw [linM_11 (z := (q, h, nm, σ0 387 20, σ0 387 21)) (by show tkq b N mo q = 11; omega)]; unfold deaP; dsimp only; rw [hne.2.1 (by omega), bnd_r, e2, bnd_l]) (by omega) x1 x2), by omega, gHI, gMT, gRV⟩)
              · exfalso; omega
            · exfalso; omega
          · clear hp23_0 hp23_1 hp23_3
            refine r_iconst hx hb dX12_ofMan_73 (by decide) (fun z75 ez75 => ?_)
            exact r_zret hx hb hr hK hP hS hk (by omega) dX12_ofMan_74 (show P_X12_ofMan σ0 τ0 b N mo q h nm z75 σ23 τ16 from ⟨hR, hF, hFL, by omega, by omega, by omega, by first | exact MO.ofk (linM_x (z := (q, h, nm, σ0 387 20, σ0 387 21)) (by show tkq b N mo q < 0 ∨ (2 < tkq b N mo q ∧ tkq b N mo q < 7) ∨ 13 < tkq b N mo q; omega)) (by omega) (by omega) (by omega) | (obtain ⟨f, e1, x1, x2⟩ := o1.no (by omega); exact MO.ofl (by rw [linM_10 (z := (q, h, nm, σ0 387 20, σ0 387 21)) (by show tkq b N mo q = 10; omega)]; unfold oldP mnoP; dsimp only; rw [e1]; rfl) (by omega) x1 x2) | exact MO.ofk (by rw [linM_10 (z := (q, h, nm, σ0 387 20, σ0 387 21)) (by show tkq b N mo q = 10; omega)]; unfold oldP mnoP; dsimp only; rw [e1, bnd_r, if_pos (show 0 < h (55 + k.toNat) by rw [show 55 + k.toNat = 1 by omega]; omega)]; rfl) (by omega) (by omega) (by omega) | (obtain ⟨f, e1, x1, x2⟩ := o1.no (by omega); exact MO.ofl (by rw [linM_11 (z := (q, h, nm, σ0 387 20, σ0 387 21)) (by show tkq b N mo q = 11; omega)]; unfold deaP mnoP; dsimp only; rw [e1]; rfl) (by omega) x1 x2) | exact MO.ofk (by rw [linM_11 (z := (q, h, nm, σ0 387 20, σ0 387 21)) (by show tkq b N mo q = 11; omega)]; unfold deaP mnoP; dsimp only; rw [e1, bnd_r, if_pos (show 0 < h (63 + k.toNat) by rw [show 63 + k.toNat = 1 by omega]; omega)]; rfl) (by omega) (by omega) (by omega) | (obtain ⟨f, e1, x1, x2⟩ := o1.no (by omega); exact MO.ofl (by rw [linM_12 (z := (q, h, nm, σ0 387 20, σ0 387 21)) (by show tkq b N mo q = 12; omega)]; unfold neeP mnoP; dsimp only; rw [e1]; rfl) (by omega) x1 x2) | exact MO.ofk (by rw [linM_12 (z := (q, h, nm, σ0 387 20, σ0 387 21)) (by show tkq b N mo q = 12; omega)]; unfold neeP mnoP; dsimp only; rw [e1, bnd_r, if_pos (show 0 < h (71 + k.toNat) by rw [show 71 + k.toNat = 1 by omega]; omega)]; rfl) (by omega) (by omega) (by omega) | exact MO.ofr (by rw [linM_10 (z := (q, h, nm, σ0 387 20, σ0 387 21)) (by show tkq b N mo q = 10; omega)]; unfold oldP; dsimp only; rw [hne.1 (by omega), bnd_r]) (by omega) (MR.mk gMK gMH (gMN.h (uh_n _ _ (by omega)) (uh_n _ _ (by omega))) ((uq134 387 20 (by omega)).trans ((fq118.at 387 20 (by decide)).trans ((fq67.at 387 20 (by decide)).trans (fq55.at 387 20 (by decide))))) ((uq134 387 21 (by omega)).trans ((fq118.at 387 21 (by decide)).trans ((fq67.at 387 21 (by decide)).trans (fq55.at 387 21 (by decide)))))) | exact MO.ofr (by rw [linM_12 (z := (q, h, nm, σ0 387 20, σ0 387 21)) (by show tkq b N mo q = 12; omega)]; unfold neeP; dsimp only; rw [hne.2.2 (by omega), bnd_r, e2, bnd_r]) (by omega) (MR.mk gMK gMH (gMN.h (uh_n _ _ (by omega)) (uh_n _ _ (by omega))) ((uq169 387 20 (by omega)).trans ((fq147.at 387 20 (by decide)).trans ((fq118.at 387 20 (by decide)).trans ((fq67.at 387 20 (by decide)).trans (fq55.at 387 20 (by decide)))))) ((uq169 387 21 (by omega)).trans ((fq147.at 387 21 (by decide)).trans ((fq118.at 387 21 (by decide)).trans ((fq67.at 387 21 (by decide)).trans (fq55.at 387 21 (by decide))))))) | (obtain ⟨f, e2, x1, x2⟩ := o2.no (by omega); exact MO.ofl (by rw [linM_12 (z := (q, h, nm, σ0 387 20, σ0 387 21)) (by show tkq b N mo q = 12; omega)]; unfold neeP; dsimp only; rw [hne.2.2 (by omega), bnd_r, e2, bnd_l]) (by omega) x1 x2) | exact MO.ofr (by rw [linM_11 (z := (q, h, nm, σ0 387 20, σ0 387 21)) (by show tkq b N mo q = 11; omega)]; unfold deaP; dsimp only; rw [hne.2.1 (by omega), bnd_r, e2, bnd_r, if_neg (by omega)]) (by omega) (MR.mk gMK gMH (gMN.h (uh_n _ _ (by omega)) (uh_n _ _ (by omega))) ((fq219.at 387 20 (by decide)).trans ((uq217 387 20 (by omega)).trans ((fq181.at 387 20 (by decide)).trans ((fq118.at 387 20 (by decide)).trans ((fq67.at 387 20 (by decide)).trans (fq55.at 387 20 (by decide))))))) ((fq219.at 387 21 (by decide)).trans ((uq217 387 21 (by omega)).trans ((fq181.at 387 21 (by decide)).trans ((fq118.at 387 21 (by decide)).trans ((fq67.at 387 21 (by decide)).trans (fq55.at 387 21 (by decide)))))))) | exact MO.ofk (by rw [linM_11 (z := (q, h, nm, σ0 387 20, σ0 387 21)) (by show tkq b N mo q = 11; omega)]; unfold deaP; dsimp only; rw [hne.2.1 (by omega), bnd_r, e2, bnd_r, if_pos (by omega)]) (by omega) (by omega) (by omega) | (obtain ⟨f, e2, x1, x2⟩ := o2.no (by omega); exact MO.ofl (by rw [linM_11 (z := (q, h, nm, σ0 387 20, σ0 387 21)) (by show tkq b N mo q = 11; omega)]; unfold deaP; dsimp only; rw [hne.2.1 (by omega), bnd_r, e2, bnd_l]) (by omega) x1 x2), by omega, gHI, gMT, gRV⟩)
        · exfalso; omega
    · replace hp3_0 := hp3_0.resolve_left (by omega)
      refine r_iconst hx hb dX12_ofMan_24 (by decide) (fun z76 ez76 => ?_)
      refine lv_goto (tgt := 43) hx hb dX12_ofMan_25 (by decide) ?_
      refine lv_istore_n (lv' := [(1, .int z76), (0, .ref (ad 387))]) hx hb dX12_ofMan_43 rfl hl (by decide) rfl (fun ls hl => ?_)
      refine lv_iload_n hx hb dX12_ofMan_44 rfl (lv_at hl 0 rfl) ?_
      refine r_if_ge (tgt := 54) hx hb dX12_ofMan_45 (by decide) (fun c77 => ?_) (fun c77 => ?_)
      · have hh0 := gMH 0 (by omega)
        have hh1 := gMH 1 (by omega)
        have hra := ra_mh_0 hR (k := 390) (j := 0) (by decide) (by decide) (by decide) (by decide)
        have hrb := ra_mh_0 hR (k := 390) (j := 1) (by decide) (by decide) (by decide) (by decide)
        refine lv_aload_n hx hb dX12_ofMan_54 rfl (lv_at hl 1 rfl) ?_
        refine r_cVv (k := 387) (As := []) (rest := []) ⟨hx, hb, hml, hown, hts⟩ hK hP hN hS (c_X12_next_v l D cA ad hI σ0 τ0 hR _ _ _ _ gMK.mp gMT) (cwV 0 hts gX12_ofMan_X12_next rfl rfl rfl (by decide +kernel) ⟨by decide, by decide⟩) (rv_M hK hP (by decide) (by decide)) rfl hl.1 rfl (Nat.le_of_ble_eq_true rfl) dX12_ofMan_55 (Nat.zero_le _) (Nat.zero_le _) (fun u78 H78 locs78 hp78 hP hS => ?_)
        obtain ⟨σ78, τ78⟩ := u78
        obtain ⟨hR, f78, fL78, hp78_0, hp78_1, hp78_2, hp78_3, gnMT⟩ : P_X12_next_v σ0 τ0 _ _ _ _ σ78 τ78 := hp78
        have fq55 := f78
        have hP : va_P D vwCl (gw cA ad σ78 τ78) H78 := hP
        have hFL := hFL.step fL78 (by decide)
        have gMN := gMN.agL (AgrL.fr fL78 (by decide))
        have gRV := gRV.agL (AgrL.fr fL78 (by decide))
        have hF := hF.step f78 (by decide)
        have gHI := HI.fr gHI f78 (by decide)
        have gMH := gMH.ag (Agr.fr f78 (by decide))
        have gMT := gMT.ag (Agr.fr f78 (by decide))
        have t79 : (σ78 387 3).toInt = (σ0 387 3).toInt := congrArg Int32.toInt (f78.at 387 3 (by decide))
        have t80 : (σ78 387 15).toInt = (σ0 387 15).toInt := congrArg Int32.toInt (f78.at 387 15 (by decide))
        have hr81 := rg_12_4 hR (k := 387) (by decide) (by decide)
        have gMK := hp78_3
        have hh1a := gMH 1 (by omega)
        refine lv_aload_n hx hb dX12_ofMan_58 rfl (lv_at hl 1 rfl) ?_
        refine r_bipush hx hb dX12_ofMan_59 (by decide) (fun z82 ez82 => ?_)
        refine lv_aload_n hx hb dX12_ofMan_61 rfl (lv_at hl 1 rfl) ?_
        refine fg_12_7 (k := 387) hx hb hts in_X12_ofMan_12 hown hK hP (by decide) (by decide) (hts _ lk_X12_ofMan_37) dX12_ofMan_62 ?_
        refine r_iconst hx hb dX12_ofMan_65 (by decide) (fun z83 ez83 => ?_)
        refine ad_mh (k := 390) (j := 1) hx hb hK hP (by decide) (by decide) (by omega) (by omega) dX12_ofMan_66 ?_
        have hr84 := ra_mh_0 hR (k := 390) (j := 1) (by decide) (by decide) (by decide) (by decide)
        refine r_cVi (k := 387) (As := [.int z82, .int (σ78 390 1)]) (rest := []) ⟨hx, hb, hml, hown, hts⟩ hK hP hN hS (c_X12_looksAt_v l D cA ad hI σ78 τ78 hR z82 (σ78 390 1) b N mo _ h nm (n8 nm) (h 1).toNat 24 (by omega) (by omega) (by omega) (Or.inr ⟨rfl, rfl, rfl, by omega⟩) (by omega) gMK gRV gMN) (cwV 2 hts gX12_ofMan_X12_looksAt rfl rfl rfl (by decide +kernel) ⟨by decide, by decide⟩) (rv_M hK hP (by decide) (by decide)) rfl hl.1 rfl (Nat.le_of_ble_eq_true rfl) dX12_ofMan_67 (Nat.zero_le _) (Nat.zero_le _) (fun r85 u85 H85 locs85 hp85 hP hS => ?_)
        obtain ⟨σ85, τ85⟩ := u85
        obtain ⟨hR, f85, fL85, hq85, hp85_0, hp85_1, hp85_2, hp85_3, gnMK, gnRV, gnMN⟩ : P_X12_looksAt_v σ78 τ78 z82 (σ78 390 1) b N mo _ h nm (n8 nm) (h 1).toNat 24 r85 σ85 τ85 := hp85
        have o1 := hp85_2
        have fq67 := f85
        have hP : va_P D vwCl (gw cA ad σ85 τ85) H85 := hP
        obtain rfl := FrL.nil fL85
        have hF := hF.step f85 (by decide)
        have gHI := HI.fr gHI f85 (by decide)
        have gMH := gMH.ag (Agr.fr f85 (by decide))
        have gMK := gMK.ag (Agr.fr f85 (by decide))
        have gMT := gMT.ag (Agr.fr f85 (by decide))
        have t86 : (σ85 387 3).toInt = (σ78 387 3).toInt := congrArg Int32.toInt (f85.at 387 3 (by decide))
        have t87 : (σ85 387 4).toInt = (σ78 387 4).toInt := congrArg Int32.toInt (f85.at 387 4 (by decide))
        have t88 : (σ85 387 11).toInt = (σ78 387 11).toInt := congrArg Int32.toInt (f85.at 387 11 (by decide))
        have t89 : (σ85 390 1).toInt = (σ78 390 1).toInt := congrArg Int32.toInt (f85.at 390 1 (by decide))
        refine r_if_ne (tgt := 75) hx hb dX12_ofMan_70 (by decide) (fun c90 => ?_) (fun c90 => ?_)
        · replace hp85_0 := hp85_0.resolve_left (by omega)
          replace hp85_1 := hp85_1.resolve_left (by omega)
          replace hp85_3 := hp85_3.resolve_left (by omega)
          obtain ⟨k, e1, ek⟩ := o1.ye (by omega)
          have hlk := lok_ok e1
          refine lv_aload_n hx hb dX12_ofMan_75 rfl (lv_at hl 1 rfl) ?_
          refine fg_12_18 (k := 387) hx hb hts in_X12_ofMan_12 hown hK hP (by decide) (by decide) (hts _ lk_X12_ofMan_195) dX12_ofMan_76 ?_
          refine lv_istore_n (lv' := [(2, .int (σ85 387 18)), (1, .int z76), (0, .ref (ad 387))]) hx hb dX12_ofMan_79 rfl hl (by decide) rfl (fun ls hl => ?_)
          refine lv_aload_n hx hb dX12_ofMan_80 rfl (lv_at hl 2 rfl) ?_
          refine fg_12_7 (k := 387) hx hb hts in_X12_ofMan_12 hown hK hP (by decide) (by decide) (hts _ lk_X12_ofMan_37) dX12_ofMan_81 ?_
          refine lv_iload_n hx hb dX12_ofMan_84 rfl (lv_at hl 1 rfl) ?_
          refine r_if_ne (tgt := 93) hx hb dX12_ofMan_85 (by decide) (fun c91 => ?_) (fun c91 => ?_)
          · refine lv_iload_n hx hb dX12_ofMan_93 rfl (lv_at hl 1 rfl) ?_
            refine r_iconst hx hb dX12_ofMan_94 (by decide) (fun z92 ez92 => ?_)
            refine r_icmp_ne (tgt := 103) hx hb dX12_ofMan_95 (by decide) (fun c93 => ?_) (fun c93 => ?_)
            · exfalso; omega
            · refine r_bipush hx hb dX12_ofMan_98 (by decide) (fun z94 ez94 => ?_)
              refine lv_goto (tgt := 105) hx hb dX12_ofMan_100 (by decide) ?_
              refine lv_iload_n hx hb dX12_ofMan_105 rfl (lv_at hl 0 rfl) ?_
              refine r_iadd hx hb dX12_ofMan_106 (by omega) (fun z95 ez95 => ?_)
              obtain ⟨j96, ej96⟩ : ∃ j : Nat, z95.toInt = (j : Int) := ⟨_, ti_nat (by omega)⟩
              refine ad_mh (k := 390) (j := j96) hx hb hK hP (by decide) (by decide) ej96 (by omega) dX12_ofMan_107 ?_
              have hr97 := ra_mh_3 hR (k := 390) (j := j96) (by decide) (by decide) (by omega) (by omega)
              have hho := gMH j96 (by omega)
              refine r_if_le (tgt := 117) hx hb dX12_ofMan_108 (by decide) (fun c98 => ?_) (fun c98 => ?_)
              · have hnn : ¬ 0 < h j96 := by omega
                have hjn : (((j96 : Nat) : Int) = 55 + k ∧ tkq b N mo q = 10) ∨ (((j96 : Nat) : Int) = 63 + k ∧ tkq b N mo q = 11) ∨ (((j96 : Nat) : Int) = 71 + k ∧ tkq b N mo q = 12) := by omega
                have hne : mnoK b N mo h nm q k := mnoK.of e1 hnn hjn hlk.2.1
                refine lv_aload_n hx hb dX12_ofMan_117 rfl (lv_at hl 2 rfl) ?_
                refine r_cVv (k := 387) (As := []) (rest := []) ⟨hx, hb, hml, hown, hts⟩ hK hP hN hS (c_X12_next_v l D cA ad hI σ85 τ78 hR _ _ _ _ gMK.mp gMT) (cwV 0 hts gX12_ofMan_X12_next rfl rfl rfl (by decide +kernel) ⟨by decide, by decide⟩) (rv_M hK hP (by decide) (by decide)) rfl hl.1 rfl (Nat.le_of_ble_eq_true rfl) dX12_ofMan_118 (Nat.zero_le _) (Nat.zero_le _) (fun u99 H99 locs99 hp99 hP hS => ?_)
                obtain ⟨σ99, τ99⟩ := u99
                obtain ⟨hR, f99, fL99, hp99_0, hp99_1, hp99_2, hp99_3, gnMT⟩ : P_X12_next_v σ85 τ78 _ _ _ _ σ99 τ99 := hp99
                have fq118 := f99
                have hP : va_P D vwCl (gw cA ad σ99 τ99) H99 := hP
                clear hp78_1
                have hFL := hFL.step fL99 (by decide)
                have gMN := gMN.agL (AgrL.fr fL99 (by decide))
                have gRV := gRV.agL (AgrL.fr fL99 (by decide))
                have hF := hF.step f99 (by decide)
                have gHI := HI.fr gHI f99 (by decide)
                have gMH := gMH.ag (Agr.fr f99 (by decide))
                have gMT := gMT.ag (Agr.fr f99 (by decide))
                have t100 : (σ99 387 3).toInt = (σ85 387 3).toInt := congrArg Int32.toInt (f99.at 387 3 (by decide))
                have t101 : (σ99 390 1).toInt = (σ85 390 1).toInt := congrArg Int32.toInt (f99.at 390 1 (by decide))
                have t102 : (σ99 387 15).toInt = (σ85 387 15).toInt := congrArg Int32.toInt (f99.at 387 15 (by decide))
                have t103 : (σ99 387 18).toInt = (σ85 387 18).toInt := congrArg Int32.toInt (f99.at 387 18 (by decide))
                have t104 : (σ99 390 j96).toInt = (σ85 390 j96).toInt := congrArg Int32.toInt (f99.atV 390 j96 (by intro q hq; simp only [L_X12_next_v, List.mem_cons, List.not_mem_nil, or_false] at hq; rcases hq with rfl | rfl <;> dsimp only <;> omega))
                have hr105 := rg_12_4 hR (k := 387) (by decide) (by decide)
                have gMK := hp99_3
                refine lv_iload_n hx hb dX12_ofMan_121 rfl (lv_at hl 1 rfl) ?_
                refine r_if_ne (tgt := 137) hx hb dX12_ofMan_122 (by decide) (fun c106 => ?_) (fun c106 => ?_)
                · refine lv_iload_n hx hb dX12_ofMan_137 rfl (lv_at hl 1 rfl) ?_
                  refine r_iconst hx hb dX12_ofMan_138 (by decide) (fun z107 ez107 => ?_)
                  refine r_icmp_ne (tgt := 172) hx hb dX12_ofMan_139 (by decide) (fun c108 => ?_) (fun c108 => ?_)
                  · have hh1b := gMH 1 (by omega)
                    refine lv_aload_n hx hb dX12_ofMan_172 rfl (lv_at hl 2 rfl) ?_
                    refine r_bipush hx hb dX12_ofMan_173 (by decide) (fun z109 ez109 => ?_)
                    refine lv_aload_n hx hb dX12_ofMan_175 rfl (lv_at hl 2 rfl) ?_
                    refine fg_12_7 (k := 387) hx hb hts in_X12_ofMan_12 hown hK hP (by decide) (by decide) (hts _ lk_X12_ofMan_37) dX12_ofMan_176 ?_
                    refine r_iconst hx hb dX12_ofMan_179 (by decide) (fun z110 ez110 => ?_)
                    refine ad_mh (k := 390) (j := 1) hx hb hK hP (by decide) (by decide) (by omega) (by omega) dX12_ofMan_180 ?_
                    have hr111 := ra_mh_0 hR (k := 390) (j := 1) (by decide) (by decide) (by decide) (by decide)
                    refine r_cVi (k := 387) (As := [.int z109, .int (σ99 390 1)]) (rest := []) ⟨hx, hb, hml, hown, hts⟩ hK hP hN hS (c_X12_looksAt_v l D cA ad hI σ99 τ99 hR z109 (σ99 390 1) b N mo _ h nm (n8 nm) (h 1).toNat 24 (by omega) (by omega) (by omega) (Or.inr ⟨rfl, rfl, rfl, by omega⟩) (by omega) gMK gRV gMN) (cwV 2 hts gX12_ofMan_X12_looksAt rfl rfl rfl (by decide +kernel) ⟨by decide, by decide⟩) (rv_M hK hP (by decide) (by decide)) rfl hl.1 rfl (Nat.le_of_ble_eq_true rfl) dX12_ofMan_181 (Nat.zero_le _) (Nat.zero_le _) (fun r112 u112 H112 locs112 hp112 hP hS => ?_)
                    obtain ⟨σ112, τ112⟩ := u112
                    obtain ⟨hR, f112, fL112, hq112, hp112_0, hp112_1, hp112_2, hp112_3, gnMK, gnRV, gnMN⟩ : P_X12_looksAt_v σ99 τ99 z109 (σ99 390 1) b N mo _ h nm (n8 nm) (h 1).toNat 24 r112 σ112 τ112 := hp112
                    have o2 := hp112_2
                    have fq181 := f112
                    have hP : va_P D vwCl (gw cA ad σ112 τ112) H112 := hP
                    obtain rfl := FrL.nil fL112
                    have hF := hF.step f112 (by decide)
                    have gHI := HI.fr gHI f112 (by decide)
                    have gMH := gMH.ag (Agr.fr f112 (by decide))
                    have gMK := gMK.ag (Agr.fr f112 (by decide))
                    have gMT := gMT.ag (Agr.fr f112 (by decide))
                    have t113 : (σ112 387 3).toInt = (σ99 387 3).toInt := congrArg Int32.toInt (f112.at 387 3 (by decide))
                    have t114 : (σ112 390 1).toInt = (σ99 390 1).toInt := congrArg Int32.toInt (f112.at 390 1 (by decide))
                    have t115 : (σ112 390 j96).toInt = (σ99 390 j96).toInt := congrArg Int32.toInt (f112.atV 390 j96 (by intro q hq; simp only [L_X12_looksAt_v, List.mem_cons, List.not_mem_nil, or_false] at hq; rcases hq with rfl | rfl <;> dsimp only <;> omega))
                    have t116 : (σ112 387 4).toInt = (σ99 387 4).toInt := congrArg Int32.toInt (f112.at 387 4 (by decide))
                    have t117 : (σ112 387 11).toInt = (σ99 387 11).toInt := congrArg Int32.toInt (f112.at 387 11 (by decide))
                    refine r_if_ne (tgt := 189) hx hb dX12_ofMan_184 (by decide) (fun c118 => ?_) (fun c118 => ?_)
                    · replace hp112_0 := hp112_0.resolve_left (by omega)
                      replace hp112_1 := hp112_1.resolve_left (by omega)
                      replace hp112_3 := hp112_3.resolve_left (by omega)
                      obtain ⟨k2, e2, ek2⟩ := o2.ye (by omega)
                      refine lv_aload_n hx hb dX12_ofMan_189 rfl (lv_at hl 2 rfl) ?_
                      refine fg_12_18 (k := 387) hx hb hts in_X12_ofMan_12 hown hK hP (by decide) (by decide) (hts _ lk_X12_ofMan_195) dX12_ofMan_190 ?_
                      refine lv_iload_n hx hb dX12_ofMan_193 rfl (lv_at hl 0 rfl) ?_
                      refine r_icmp_ne (tgt := 203) hx hb dX12_ofMan_194 (by decide) (fun c119 => ?_) (fun c119 => ?_)
                      · refine lv_aload_n hx hb dX12_ofMan_203 rfl (lv_at hl 2 rfl) ?_
                        refine fg_12_7 (k := 387) hx hb hts in_X12_ofMan_12 hown hK hP (by decide) (by decide) (hts _ lk_X12_ofMan_37) dX12_ofMan_204 ?_
                        refine r_bipush hx hb dX12_ofMan_207 (by decide) (fun z120 ez120 => ?_)
                        refine lv_iload_n hx hb dX12_ofMan_209 rfl (lv_at hl 0 rfl) ?_
                        refine r_iadd hx hb dX12_ofMan_210 (by omega) (fun z121 ez121 => ?_)
                        refine lv_aload_n hx hb dX12_ofMan_211 rfl (lv_at hl 2 rfl) ?_
                        refine fg_12_18 (k := 387) hx hb hts in_X12_ofMan_12 hown hK hP (by decide) (by decide) (hts _ lk_X12_ofMan_195) dX12_ofMan_212 ?_
                        refine r_iconst hx hb dX12_ofMan_215 (by decide) (fun z122 ez122 => ?_)
                        refine r_iadd hx hb dX12_ofMan_216 (by omega) (fun z123 ez123 => ?_)
                        refine as_mh (k := 390) (j := j96) hx hb hK hP hI hR hS (by decide) (by decide) (by omega) (by omega) (rw_mh_3 (by decide) (by decide) (by omega) (by omega) (by omega)) dX12_ofMan_217 (fun σ124 H124 locs124 u124 v124 hR hP hS => ?_)
                        have uq217 := u124
                        have vq217 := v124
                        have hF := hF.puts u124 3 rfl (by decide) (by decide) (by omega) (by omega)
                        have gHI := HI.putV gHI u124 (by intro q hq; simp only [Gd_HI, List.mem_cons, List.not_mem_nil, or_false] at hq; rcases hq with rfl | rfl <;> dsimp only [inRc] <;> omega)
                        have gMK := gMK.ag (Agr.putV u124 (by intro q hq; simp only [Gd_MK, List.mem_cons, List.not_mem_nil, or_false] at hq; rcases hq with rfl | rfl | rfl <;> dsimp only [inRc] <;> omega))
                        have gMT := gMT.ag (Agr.putV u124 (by intro q hq; simp only [Gd_MT, List.mem_cons, List.not_mem_nil, or_false] at hq; rcases hq with rfl | rfl | rfl <;> dsimp only [inRc] <;> omega))
                        have t125 : (σ124 387 3).toInt = (σ112 387 3).toInt := congrArg Int32.toInt (u124 387 3 (by omega))
                        have t126 : (σ124 390 1).toInt = (σ112 390 1).toInt := congrArg Int32.toInt (u124 390 1 (by omega))
                        have t127 : (σ124 387 4).toInt = (σ112 387 4).toInt := congrArg Int32.toInt (u124 387 4 (by omega))
                        have t128 : (σ124 387 11).toInt = (σ112 387 11).toInt := congrArg Int32.toInt (u124 387 11 (by omega))
                        have t129 : (σ124 387 15).toInt = (σ112 387 15).toInt := congrArg Int32.toInt (u124 387 15 (by omega))
                        have t130 : (σ124 387 18).toInt = (σ112 387 18).toInt := congrArg Int32.toInt (u124 387 18 (by omega))
                        have gMH := MH.up (k := 63 + k.toNat) (v := k2 + 1) gMH (by rw [show 63 + k.toNat = j96 by omega]; exact uq217) (by rw [show 63 + k.toNat = j96 by omega]; omega)
                        refine lv_aload_n hx hb dX12_ofMan_218 rfl (lv_at hl 2 rfl) ?_
                        refine r_cVv (k := 387) (As := []) (rest := []) ⟨hx, hb, hml, hown, hts⟩ hK hP hN hS (c_X12_next_v l D cA ad hI σ124 τ99 hR _ _ _ _ gMK.mp gMT) (cwV 0 hts gX12_ofMan_X12_next rfl rfl rfl (by decide +kernel) ⟨by decide, by decide⟩) (rv_M hK hP (by decide) (by decide)) rfl hl.1 rfl (Nat.le_of_ble_eq_true rfl) dX12_ofMan_219 (Nat.zero_le _) (Nat.zero_le _) (fun u131 H131 locs131 hp131 hP hS => ?_)
                        obtain ⟨σ131, τ131⟩ := u131
                        obtain ⟨hR, f131, fL131, hp131_0, hp131_1, hp131_2, hp131_3, gnMT⟩ : P_X12_next_v σ124 τ99 _ _ _ _ σ131 τ131 := hp131
                        have fq219 := f131
                        have hP : va_P D vwCl (gw cA ad σ131 τ131) H131 := hP
                        clear hp99_1
                        have hFL := hFL.step fL131 (by decide)
                        have gMN := gMN.agL (AgrL.fr fL131 (by decide))
                        have gRV := gRV.agL (AgrL.fr fL131 (by decide))
                        have hF := hF.step f131 (by decide)
                        have gHI := HI.fr gHI f131 (by decide)
                        have gMH := gMH.ag (Agr.fr f131 (by decide))
                        have gMT := gMT.ag (Agr.fr f131 (by decide))
                        have t132 : (σ131 387 3).toInt = (σ124 387 3).toInt := congrArg Int32.toInt (f131.at 387 3 (by decide))
                        have t133 : (σ131 390 1).toInt = (σ124 390 1).toInt := congrArg Int32.toInt (f131.at 390 1 (by decide))
                        have t134 : (σ131 387 15).toInt = (σ124 387 15).toInt := congrArg Int32.toInt (f131.at 387 15 (by decide))
                        have t135 : (σ131 387 18).toInt = (σ124 387 18).toInt := congrArg Int32.toInt (f131.at 387 18 (by decide))
                        have t136 : (σ131 390 j96).toInt = (σ124 390 j96).toInt := congrArg Int32.toInt (f131.atV 390 j96 (by intro q hq; simp only [L_X12_next_v, List.mem_cons, List.not_mem_nil, or_false] at hq; rcases hq with rfl | rfl <;> dsimp only <;> omega))
                        have hr137 := rg_12_4 hR (k := 387) (by decide) (by decide)
                        have gMK := hp131_3
                        refine r_iconst hx hb dX12_ofMan_222 (by decide) (fun z138 ez138 => ?_)
                        exact r_zret hx hb hr hK hP hS hk (by omega) dX12_ofMan_223 (show P_X12_ofMan σ0 τ0 b N mo q h nm z138 σ131 τ131 from ⟨hR, hF, hFL, by omega, by omega, by omega, by first | exact MO.ofk (linM_x (z := (q, h, nm, σ0 387 20, σ0 387 21)) (by show tkq b N mo q < 0 ∨ (2 < tkq b N mo q ∧ tkq b N mo q < 7) ∨ 13 < tkq b N mo q; omega)) (by omega) (by omega) (by omega) | (obtain ⟨f, e1, x1, x2⟩ := o1.no (by omega); exact MO.ofl (by rw [linM_10 (z := (q, h, nm, σ0 387 20, σ0 387 21)) (by show tkq b N mo q = 10; omega)]; unfold oldP mnoP; dsimp only; rw [e1]; rfl) (by omega) x1 x2) | exact MO.ofk (by rw [linM_10 (z := (q, h, nm, σ0 387 20, σ0 387 21)) (by show tkq b N mo q = 10; omega)]; unfold oldP mnoP; dsimp only; rw [e1, bnd_r, if_pos (show 0 < h (55 + k.toNat) by rw [show 55 + k.toNat = 1 by omega]; omega)]; rfl) (by omega) (by omega) (by omega) | (obtain ⟨f, e1, x1, x2⟩ := o1.no (by omega); exact MO.ofl (by rw [linM_11 (z := (q, h, nm, σ0 387 20, σ0 387 21)) (by show tkq b N mo q = 11; omega)]; unfold deaP mnoP; dsimp only; rw [e1]; rfl) (by omega) x1 x2) | exact MO.ofk (by rw [linM_11 (z := (q, h, nm, σ0 387 20, σ0 387 21)) (by show tkq b N mo q = 11; omega)]; unfold deaP mnoP; dsimp only; rw [e1, bnd_r, if_pos (show 0 < h (63 + k.toNat) by rw [show 63 + k.toNat = 1 by omega]; omega)]; rfl) (by omega) (by omega) (by omega) | (obtain ⟨f, e1, x1, x2⟩ := o1.no (by omega); exact MO.ofl (by rw [linM_12 (z := (q, h, nm, σ0 387 20, σ0 387 21)) (by show tkq b N mo q = 12; omega)]; unfold neeP mnoP; dsimp only; rw [e1]; rfl) (by omega) x1 x2) | exact MO.ofk (by rw [linM_12 (z := (q, h, nm, σ0 387 20, σ0 387 21)) (by show tkq b N mo q = 12; omega)]; unfold neeP mnoP; dsimp only; rw [e1, bnd_r, if_pos (show 0 < h (71 + k.toNat) by rw [show 71 + k.toNat = 1 by omega]; omega)]; rfl) (by omega) (by omega) (by omega) | exact MO.ofr (by rw [linM_10 (z := (q, h, nm, σ0 387 20, σ0 387 21)) (by show tkq b N mo q = 10; omega)]; unfold oldP; dsimp only; rw [hne.1 (by omega), bnd_r]) (by omega) (MR.mk gMK gMH (gMN.h (uh_n _ _ (by omega)) (uh_n _ _ (by omega))) ((uq134 387 20 (by omega)).trans ((fq118.at 387 20 (by decide)).trans ((fq67.at 387 20 (by decide)).trans (fq55.at 387 20 (by decide))))) ((uq134 387 21 (by omega)).trans ((fq118.at 387 21 (by decide)).trans ((fq67.at 387 21 (by decide)).trans (fq55.at 387 21 (by decide)))))) | exact MO.ofr (by rw [linM_12 (z := (q, h, nm, σ0 387 20, σ0 387 21)) (by show tkq b N mo q = 12; omega)]; unfold neeP; dsimp only; rw [hne.2.2 (by omega), bnd_r, e2, bnd_r]) (by omega) (MR.mk gMK gMH (gMN.h (uh_n _ _ (by omega)) (uh_n _ _ (by omega))) ((uq169 387 20 (by omega)).trans ((fq147.at 387 20 (by decide)).trans ((fq118.at 387 20 (by decide)).trans ((fq67.at 387 20 (by decide)).trans (fq55.at 387 20 (by decide)))))) ((uq169 387 21 (by omega)).trans ((fq147.at 387 21 (by decide)).trans ((fq118.at 387 21 (by decide)).trans ((fq67.at 387 21 (by decide)).trans (fq55.at 387 21 (by decide))))))) | (obtain ⟨f, e2, x1, x2⟩ := o2.no (by omega); exact MO.ofl (by rw [linM_12 (z := (q, h, nm, σ0 387 20, σ0 387 21)) (by show tkq b N mo q = 12; omega)]; unfold neeP; dsimp only; rw [hne.2.2 (by omega), bnd_r, e2, bnd_l]) (by omega) x1 x2) | exact MO.ofr (by rw [linM_11 (z := (q, h, nm, σ0 387 20, σ0 387 21)) (by show tkq b N mo q = 11; omega)]; unfold deaP; dsimp only; rw [hne.2.1 (by omega), bnd_r, e2, bnd_r, if_neg (by omega)]) (by omega) (MR.mk gMK gMH (gMN.h (uh_n _ _ (by omega)) (uh_n _ _ (by omega))) ((fq219.at 387 20 (by decide)).trans ((uq217 387 20 (by omega)).trans ((fq181.at 387 20 (by decide)).trans ((fq118.at 387 20 (by decide)).trans ((fq67.at 387 20 (by decide)).trans (fq55.at 387 20 (by decide))))))) ((fq219.at 387 21 (by decide)).trans ((uq217 387 21 (by omega)).trans ((fq181.at 387 21 (by decide)).trans ((fq118.at 387 21 (by decide)).trans ((fq67.at 387 21 (by decide)).trans (fq55.at 387 21 (by decide)))))))) | exact MO.ofk (by rw [linM_11 (z := (q, h, nm, σ0 387 20, σ0 387 21)) (by show tkq b N mo q = 11; omega)]; unfold deaP; dsimp only; rw [hne.2.1 (by omega), bnd_r, e2, bnd_r, if_pos (by omega)]) (by omega) (by omega) (by omega) | (obtain ⟨f, e2, x1, x2⟩ := o2.no (by omega); exact MO.ofl (by rw [linM_11 (z := (q, h, nm, σ0 387 20, σ0 387 21)) (by show tkq b N mo q = 11; omega)]; unfold deaP; dsimp only; rw [hne.2.1 (by omega), bnd_r, e2, bnd_l]) (by omega) x1 x2), by omega, gHI, gMT, gRV⟩)
                      · refine lv_aload_n hx hb dX12_ofMan_197 rfl (lv_at hl 2 rfl) ?_
                        refine r_iconst hx hb dX12_ofMan_198 (by decide) (fun z139 ez139 => ?_)
                        refine r_cVi (k := 387) (As := [.int z139]) (rest := []) ⟨hx, hb, hml, hown, hts⟩ hK hP hN hS (c_X12_bad_v l D cA ad hI σ112 τ99 hR z139 _ _ _ _ (by omega) gMK) (cwV 1 hts gX12_ofMan_X12_bad rfl rfl rfl (by decide +kernel) ⟨by decide, by decide⟩) (rv_M hK hP (by decide) (by decide)) rfl hl.1 rfl (Nat.le_of_ble_eq_true rfl) dX12_ofMan_199 (Nat.zero_le _) (Nat.zero_le _) (fun r140 u140 H140 locs140 hp140 hP hS => ?_)
                        obtain ⟨σ140, τ140⟩ := u140
                        obtain ⟨hR, f140, fL140, hq140, hp140_0, hp140_1, hp140_2, gnMK⟩ : P_X12_bad_v σ112 τ99 z139 _ _ _ _ r140 σ140 τ140 := hp140
                        have hP : va_P D vwCl (gw cA ad σ140 τ140) H140 := hP
                        obtain rfl := FrL.nil fL140
                        have hF := hF.step f140 (by decide)
                        have gHI := HI.fr gHI f140 (by decide)
                        have gMH := gMH.ag (Agr.fr f140 (by decide))
                        have gMK := gMK.ag (Agr.fr f140 (by decide))
                        have gMT := gMT.ag (Agr.fr f140 (by decide))
                        have t141 : (σ140 387 3).toInt = (σ112 387 3).toInt := congrArg Int32.toInt (f140.at 387 3 (by decide))
                        have t142 : (σ140 390 1).toInt = (σ112 390 1).toInt := congrArg Int32.toInt (f140.at 390 1 (by decide))
                        have t143 : (σ140 390 j96).toInt = (σ112 390 j96).toInt := congrArg Int32.toInt (f140.atV 390 j96 (by intro q hq; simp only [L_X12_bad_v, List.mem_cons, List.not_mem_nil, or_false] at hq; rcases hq with rfl <;> dsimp only <;> omega))
                        have t144 : (σ140 387 4).toInt = (σ112 387 4).toInt := congrArg Int32.toInt (f140.at 387 4 (by decide))
                        have t145 : (σ140 387 11).toInt = (σ112 387 11).toInt := congrArg Int32.toInt (f140.at 387 11 (by decide))
                        have t146 : (σ140 387 18).toInt = (σ112 387 18).toInt := congrArg Int32.toInt (f140.at 387 18 (by decide))
                        exact r_zret hx hb hr hK hP hS hk (by omega) dX12_ofMan_202 (show P_X12_ofMan σ0 τ0 b N mo q h nm r140 σ140 τ99 from ⟨hR, hF, hFL, by omega, by omega, by omega, by first | exact MO.ofk (linM_x (z := (q, h, nm, σ0 387 20, σ0 387 21)) (by show tkq b N mo q < 0 ∨ (2 < tkq b N mo q ∧ tkq b N mo q < 7) ∨ 13 < tkq b N mo q; omega)) (by omega) (by omega) (by omega) | (obtain ⟨f, e1, x1, x2⟩ := o1.no (by omega); exact MO.ofl (by rw [linM_10 (z := (q, h, nm, σ0 387 20, σ0 387 21)) (by show tkq b N mo q = 10; omega)]; unfold oldP mnoP; dsimp only; rw [e1]; rfl) (by omega) x1 x2) | exact MO.ofk (by rw [linM_10 (z := (q, h, nm, σ0 387 20, σ0 387 21)) (by show tkq b N mo q = 10; omega)]; unfold oldP mnoP; dsimp only; rw [e1, bnd_r, if_pos (show 0 < h (55 + k.toNat) by rw [show 55 + k.toNat = 1 by omega]; omega)]; rfl) (by omega) (by omega) (by omega) | (obtain ⟨f, e1, x1, x2⟩ := o1.no (by omega); exact MO.ofl (by rw [linM_11 (z := (q, h, nm, σ0 387 20, σ0 387 21)) (by show tkq b N mo q = 11; omega)]; unfold deaP mnoP; dsimp only; rw [e1]; rfl) (by omega) x1 x2) | exact MO.ofk (by rw [linM_11 (z := (q, h, nm, σ0 387 20, σ0 387 21)) (by show tkq b N mo q = 11; omega)]; unfold deaP mnoP; dsimp only; rw [e1, bnd_r, if_pos (show 0 < h (63 + k.toNat) by rw [show 63 + k.toNat = 1 by omega]; omega)]; rfl) (by omega) (by omega) (by omega) | (obtain ⟨f, e1, x1, x2⟩ := o1.no (by omega); exact MO.ofl (by rw [linM_12 (z := (q, h, nm, σ0 387 20, σ0 387 21)) (by show tkq b N mo q = 12; omega)]; unfold neeP mnoP; dsimp only; rw [e1]; rfl) (by omega) x1 x2) | exact MO.ofk (by rw [linM_12 (z := (q, h, nm, σ0 387 20, σ0 387 21)) (by show tkq b N mo q = 12; omega)]; unfold neeP mnoP; dsimp only; rw [e1, bnd_r, if_pos (show 0 < h (71 + k.toNat) by rw [show 71 + k.toNat = 1 by omega]; omega)]; rfl) (by omega) (by omega) (by omega) | exact MO.ofr (by rw [linM_10 (z := (q, h, nm, σ0 387 20, σ0 387 21)) (by show tkq b N mo q = 10; omega)]; unfold oldP; dsimp only; rw [hne.1 (by omega), bnd_r]) (by omega) (MR.mk gMK gMH (gMN.h (uh_n _ _ (by omega)) (uh_n _ _ (by omega))) ((uq134 387 20 (by omega)).trans ((fq118.at 387 20 (by decide)).trans ((fq67.at 387 20 (by decide)).trans (fq55.at 387 20 (by decide))))) ((uq134 387 21 (by omega)).trans ((fq118.at 387 21 (by decide)).trans ((fq67.at 387 21 (by decide)).trans (fq55.at 387 21 (by decide)))))) | exact MO.ofr (by rw [linM_12 (z := (q, h, nm, σ0 387 20, σ0 387 21)) (by show tkq b N mo q = 12; omega)]; unfold neeP; dsimp only; rw [hne.2.2 (by omega), bnd_r, e2, bnd_r]) (by omega) (MR.mk gMK gMH (gMN.h (uh_n _ _ (by omega)) (uh_n _ _ (by omega))) ((uq169 387 20 (by omega)).trans ((fq147.at 387 20 (by decide)).trans ((fq118.at 387 20 (by decide)).trans ((fq67.at 387 20 (by decide)).trans (fq55.at 387 20 (by decide)))))) ((uq169 387 21 (by omega)).trans ((fq147.at 387 21 (by decide)).trans ((fq118.at 387 21 (by decide)).trans ((fq67.at 387 21 (by decide)).trans (fq55.at 387 21 (by decide))))))) | (obtain ⟨f, e2, x1, x2⟩ := o2.no (by omega); exact MO.ofl (by rw [linM_12 (z := (q, h, nm, σ0 387 20, σ0 387 21)) (by show tkq b N mo q = 12; omega)]; unfold neeP; dsimp only; rw [hne.2.2 (by omega), bnd_r, e2, bnd_l]) (by omega) x1 x2) | exact MO.ofr (by rw [linM_11 (z := (q, h, nm, σ0 387 20, σ0 387 21)) (by show tkq b N mo q = 11; omega)]; unfold deaP; dsimp only; rw [hne.2.1 (by omega), bnd_r, e2, bnd_r, if_neg (by omega)]) (by omega) (MR.mk gMK gMH (gMN.h (uh_n _ _ (by omega)) (uh_n _ _ (by omega))) ((fq219.at 387 20 (by decide)).trans ((uq217 387 20 (by omega)).trans ((fq181.at 387 20 (by decide)).trans ((fq118.at 387 20 (by decide)).trans ((fq67.at 387 20 (by decide)).trans (fq55.at 387 20 (by decide))))))) ((fq219.at 387 21 (by decide)).trans ((uq217 387 21 (by omega)).trans ((fq181.at 387 21 (by decide)).trans ((fq118.at 387 21 (by decide)).trans ((fq67.at 387 21 (by decide)).trans (fq55.at 387 21 (by decide)))))))) | exact MO.ofk (by rw [linM_11 (z := (q, h, nm, σ0 387 20, σ0 387 21)) (by show tkq b N mo q = 11; omega)]; unfold deaP; dsimp only; rw [hne.2.1 (by omega), bnd_r, e2, bnd_r, if_pos (by omega)]) (by omega) (by omega) (by omega) | (obtain ⟨f, e2, x1, x2⟩ := o2.no (by omega); exact MO.ofl (by rw [linM_11 (z := (q, h, nm, σ0 387 20, σ0 387 21)) (by show tkq b N mo q = 11; omega)]; unfold deaP; dsimp only; rw [hne.2.1 (by omega), bnd_r, e2, bnd_l]) (by omega) x1 x2), by omega, gHI, gMT, gRV⟩)
                    · clear hp112_0 hp112_1 hp112_3
                      refine r_iconst hx hb dX12_ofMan_187 (by decide) (fun z147 ez147 => ?_)
                      exact r_zret hx hb hr hK hP hS hk (by omega) dX12_ofMan_188 (show P_X12_ofMan σ0 τ0 b N mo q h nm z147 σ112 τ99 from ⟨hR, hF, hFL, by omega, by omega, by omega, by first | exact MO.ofk (linM_x (z := (q, h, nm, σ0 387 20, σ0 387 21)) (by show tkq b N mo q < 0 ∨ (2 < tkq b N mo q ∧ tkq b N mo q < 7) ∨ 13 < tkq b N mo q; omega)) (by omega) (by omega) (by omega) | (obtain ⟨f, e1, x1, x2⟩ := o1.no (by omega); exact MO.ofl (by rw [linM_10 (z := (q, h, nm, σ0 387 20, σ0 387 21)) (by show tkq b N mo q = 10; omega)]; unfold oldP mnoP; dsimp only; rw [e1]; rfl) (by omega) x1 x2) | exact MO.ofk (by rw [linM_10 (z := (q, h, nm, σ0 387 20, σ0 387 21)) (by show tkq b N mo q = 10; omega)]; unfold oldP mnoP; dsimp only; rw [e1, bnd_r, if_pos (show 0 < h (55 + k.toNat) by rw [show 55 + k.toNat = 1 by omega]; omega)]; rfl) (by omega) (by omega) (by omega) | (obtain ⟨f, e1, x1, x2⟩ := o1.no (by omega); exact MO.ofl (by rw [linM_11 (z := (q, h, nm, σ0 387 20, σ0 387 21)) (by show tkq b N mo q = 11; omega)]; unfold deaP mnoP; dsimp only; rw [e1]; rfl) (by omega) x1 x2) | exact MO.ofk (by rw [linM_11 (z := (q, h, nm, σ0 387 20, σ0 387 21)) (by show tkq b N mo q = 11; omega)]; unfold deaP mnoP; dsimp only; rw [e1, bnd_r, if_pos (show 0 < h (63 + k.toNat) by rw [show 63 + k.toNat = 1 by omega]; omega)]; rfl) (by omega) (by omega) (by omega) | (obtain ⟨f, e1, x1, x2⟩ := o1.no (by omega); exact MO.ofl (by rw [linM_12 (z := (q, h, nm, σ0 387 20, σ0 387 21)) (by show tkq b N mo q = 12; omega)]; unfold neeP mnoP; dsimp only; rw [e1]; rfl) (by omega) x1 x2) | exact MO.ofk (by rw [linM_12 (z := (q, h, nm, σ0 387 20, σ0 387 21)) (by show tkq b N mo q = 12; omega)]; unfold neeP mnoP; dsimp only; rw [e1, bnd_r, if_pos (show 0 < h (71 + k.toNat) by rw [show 71 + k.toNat = 1 by omega]; omega)]; rfl) (by omega) (by omega) (by omega) | exact MO.ofr (by rw [linM_10 (z := (q, h, nm, σ0 387 20, σ0 387 21)) (by show tkq b N mo q = 10; omega)]; unfold oldP; dsimp only; rw [hne.1 (by omega), bnd_r]) (by omega) (MR.mk gMK gMH (gMN.h (uh_n _ _ (by omega)) (uh_n _ _ (by omega))) ((uq134 387 20 (by omega)).trans ((fq118.at 387 20 (by decide)).trans ((fq67.at 387 20 (by decide)).trans (fq55.at 387 20 (by decide))))) ((uq134 387 21 (by omega)).trans ((fq118.at 387 21 (by decide)).trans ((fq67.at 387 21 (by decide)).trans (fq55.at 387 21 (by decide)))))) | exact MO.ofr (by rw [linM_12 (z := (q, h, nm, σ0 387 20, σ0 387 21)) (by show tkq b N mo q = 12; omega)]; unfold neeP; dsimp only; rw [hne.2.2 (by omega), bnd_r, e2, bnd_r]) (by omega) (MR.mk gMK gMH (gMN.h (uh_n _ _ (by omega)) (uh_n _ _ (by omega))) ((uq169 387 20 (by omega)).trans ((fq147.at 387 20 (by decide)).trans ((fq118.at 387 20 (by decide)).trans ((fq67.at 387 20 (by decide)).trans (fq55.at 387 20 (by decide)))))) ((uq169 387 21 (by omega)).trans ((fq147.at 387 21 (by decide)).trans ((fq118.at 387 21 (by decide)).trans ((fq67.at 387 21 (by decide)).trans (fq55.at 387 21 (by decide))))))) | (obtain ⟨f, e2, x1, x2⟩ := o2.no (by omega); exact MO.ofl (by rw [linM_12 (z := (q, h, nm, σ0 387 20, σ0 387 21)) (by show tkq b N mo q = 12; omega)]; unfold neeP; dsimp only; rw [hne.2.2 (by omega), bnd_r, e2, bnd_l]) (by omega) x1 x2) | exact MO.ofr (by rw [linM_11 (z := (q, h, nm, σ0 387 20, σ0 387 21)) (by show tkq b N mo q = 11; omega)]; unfold deaP; dsimp only; rw [hne.2.1 (by omega), bnd_r, e2, bnd_r, if_neg (by omega)]) (by omega) (MR.mk gMK gMH (gMN.h (uh_n _ _ (by omega)) (uh_n _ _ (by omega))) ((fq219.at 387 20 (by decide)).trans ((uq217 387 20 (by omega)).trans ((fq181.at 387 20 (by decide)).trans ((fq118.at 387 20 (by decide)).trans ((fq67.at 387 20 (by decide)).trans (fq55.at 387 20 (by decide))))))) ((fq219.at 387 21 (by decide)).trans ((uq217 387 21 (by omega)).trans ((fq181.at 387 21 (by decide)).trans ((fq118.at 387 21 (by decide)).trans ((fq67.at 387 21 (by decide)).trans (fq55.at 387 21 (by decide)))))))) | exact MO.ofk (by rw [linM_11 (z := (q, h, nm, σ0 387 20, σ0 387 21)) (by show tkq b N mo q = 11; omega)]; unfold deaP; dsimp only; rw [hne.2.1 (by omega), bnd_r, e2, bnd_r, if_pos (by omega)]) (by omega) (by omega) (by omega) | (obtain ⟨f, e2, x1, x2⟩ := o2.no (by omega); exact MO.ofl (by rw [linM_11 (z := (q, h, nm, σ0 387 20, σ0 387 21)) (by show tkq b N mo q = 11; omega)]; unfold deaP; dsimp only; rw [hne.2.1 (by omega), bnd_r, e2, bnd_l]) (by omega) x1 x2), by omega, gHI, gMT, gRV⟩)
                  · exfalso; omega
                · exfalso; omega
              · refine lv_aload_n hx hb dX12_ofMan_111 rfl (lv_at hl 2 rfl) ?_
                refine r_iconst hx hb dX12_ofMan_112 (by decide) (fun z148 ez148 => ?_)
                refine r_cVi (k := 387) (As := [.int z148]) (rest := []) ⟨hx, hb, hml, hown, hts⟩ hK hP hN hS (c_X12_bad_v l D cA ad hI σ85 τ78 hR z148 _ _ _ _ (by omega) gMK) (cwV 1 hts gX12_ofMan_X12_bad rfl rfl rfl (by decide +kernel) ⟨by decide, by decide⟩) (rv_M hK hP (by decide) (by decide)) rfl hl.1 rfl (Nat.le_of_ble_eq_true rfl) dX12_ofMan_113 (Nat.zero_le _) (Nat.zero_le _) (fun r149 u149 H149 locs149 hp149 hP hS => ?_)
                obtain ⟨σ149, τ149⟩ := u149
                obtain ⟨hR, f149, fL149, hq149, hp149_0, hp149_1, hp149_2, gnMK⟩ : P_X12_bad_v σ85 τ78 z148 _ _ _ _ r149 σ149 τ149 := hp149
                have hP : va_P D vwCl (gw cA ad σ149 τ149) H149 := hP
                obtain rfl := FrL.nil fL149
                have hF := hF.step f149 (by decide)
                have gHI := HI.fr gHI f149 (by decide)
                have gMH := gMH.ag (Agr.fr f149 (by decide))
                have gMK := gMK.ag (Agr.fr f149 (by decide))
                have gMT := gMT.ag (Agr.fr f149 (by decide))
                have t150 : (σ149 387 3).toInt = (σ85 387 3).toInt := congrArg Int32.toInt (f149.at 387 3 (by decide))
                have t151 : (σ149 387 4).toInt = (σ85 387 4).toInt := congrArg Int32.toInt (f149.at 387 4 (by decide))
                have t152 : (σ149 387 11).toInt = (σ85 387 11).toInt := congrArg Int32.toInt (f149.at 387 11 (by decide))
                have t153 : (σ149 390 1).toInt = (σ85 390 1).toInt := congrArg Int32.toInt (f149.at 390 1 (by decide))
                have t154 : (σ149 387 18).toInt = (σ85 387 18).toInt := congrArg Int32.toInt (f149.at 387 18 (by decide))
                have t155 : (σ149 390 j96).toInt = (σ85 390 j96).toInt := congrArg Int32.toInt (f149.atV 390 j96 (by intro q hq; simp only [L_X12_bad_v, List.mem_cons, List.not_mem_nil, or_false] at hq; rcases hq with rfl <;> dsimp only <;> omega))
                exact r_zret hx hb hr hK hP hS hk (by omega) dX12_ofMan_116 (show P_X12_ofMan σ0 τ0 b N mo q h nm r149 σ149 τ78 from ⟨hR, hF, hFL, by omega, by omega, by omega, by first | exact MO.ofk (linM_x (z := (q, h, nm, σ0 387 20, σ0 387 21)) (by show tkq b N mo q < 0 ∨ (2 < tkq b N mo q ∧ tkq b N mo q < 7) ∨ 13 < tkq b N mo q; omega)) (by omega) (by omega) (by omega) | (obtain ⟨f, e1, x1, x2⟩ := o1.no (by omega); exact MO.ofl (by rw [linM_10 (z := (q, h, nm, σ0 387 20, σ0 387 21)) (by show tkq b N mo q = 10; omega)]; unfold oldP mnoP; dsimp only; rw [e1]; rfl) (by omega) x1 x2) | exact MO.ofk (by rw [linM_10 (z := (q, h, nm, σ0 387 20, σ0 387 21)) (by show tkq b N mo q = 10; omega)]; unfold oldP mnoP; dsimp only; rw [e1, bnd_r, if_pos (show 0 < h (55 + k.toNat) by rw [show 55 + k.toNat = j96 by omega]; omega)]; rfl) (by omega) (by omega) (by omega) | (obtain ⟨f, e1, x1, x2⟩ := o1.no (by omega); exact MO.ofl (by rw [linM_11 (z := (q, h, nm, σ0 387 20, σ0 387 21)) (by show tkq b N mo q = 11; omega)]; unfold deaP mnoP; dsimp only; rw [e1]; rfl) (by omega) x1 x2) | exact MO.ofk (by rw [linM_11 (z := (q, h, nm, σ0 387 20, σ0 387 21)) (by show tkq b N mo q = 11; omega)]; unfold deaP mnoP; dsimp only; rw [e1, bnd_r, if_pos (show 0 < h (63 + k.toNat) by rw [show 63 + k.toNat = j96 by omega]; omega)]; rfl) (by omega) (by omega) (by omega) | (obtain ⟨f, e1, x1, x2⟩ := o1.no (by omega); exact MO.ofl (by rw [linM_12 (z := (q, h, nm, σ0 387 20, σ0 387 21)) (by show tkq b N mo q = 12; omega)]; unfold neeP mnoP; dsimp only; rw [e1]; rfl) (by omega) x1 x2) | exact MO.ofk (by rw [linM_12 (z := (q, h, nm, σ0 387 20, σ0 387 21)) (by show tkq b N mo q = 12; omega)]; unfold neeP mnoP; dsimp only; rw [e1, bnd_r, if_pos (show 0 < h (71 + k.toNat) by rw [show 71 + k.toNat = j96 by omega]; omega)]; rfl) (by omega) (by omega) (by omega) | exact MO.ofr (by rw [linM_10 (z := (q, h, nm, σ0 387 20, σ0 387 21)) (by show tkq b N mo q = 10; omega)]; unfold oldP; dsimp only; rw [hne.1 (by omega), bnd_r]) (by omega) (MR.mk gMK gMH (gMN.h (uh_n _ _ (by omega)) (uh_n _ _ (by omega))) ((uq134 387 20 (by omega)).trans ((fq118.at 387 20 (by decide)).trans ((fq67.at 387 20 (by decide)).trans (fq55.at 387 20 (by decide))))) ((uq134 387 21 (by omega)).trans ((fq118.at 387 21 (by decide)).trans ((fq67.at 387 21 (by decide)).trans (fq55.at 387 21 (by decide)))))) | exact MO.ofr (by rw [linM_12 (z := (q, h, nm, σ0 387 20, σ0 387 21)) (by show tkq b N mo q = 12; omega)]; unfold neeP; dsimp only; rw [hne.2.2 (by omega), bnd_r, e2, bnd_r]) (by omega) (MR.mk gMK gMH (gMN.h (uh_n _ _ (by omega)) (uh_n _ _ (by omega))) ((uq169 387 20 (by omega)).trans ((fq147.at 387 20 (by decide)).trans ((fq118.at 387 20 (by decide)).trans ((fq67.at 387 20 (by decide)).trans (fq55.at 387 20 (by decide)))))) ((uq169 387 21 (by omega)).trans ((fq147.at 387 21 (by decide)).trans ((fq118.at 387 21 (by decide)).trans ((fq67.at 387 21 (by decide)).trans (fq55.at 387 21 (by decide))))))) | (obtain ⟨f, e2, x1, x2⟩ := o2.no (by omega); exact MO.ofl (by rw [linM_12 (z := (q, h, nm, σ0 387 20, σ0 387 21)) (by show tkq b N mo q = 12; omega)]; unfold neeP; dsimp only; rw [hne.2.2 (by omega), bnd_r, e2, bnd_l]) (by omega) x1 x2) | exact MO.ofr (by rw [linM_11 (z := (q, h, nm, σ0 387 20, σ0 387 21)) (by show tkq b N mo q = 11; omega)]; unfold deaP; dsimp only; rw [hne.2.1 (by omega), bnd_r, e2, bnd_r, if_neg (by omega)]) (by omega) (MR.mk gMK gMH (gMN.h (uh_n _ _ (by omega)) (uh_n _ _ (by omega))) ((fq219.at 387 20 (by decide)).trans ((uq217 387 20 (by omega)).trans ((fq181.at 387 20 (by decide)).trans ((fq118.at 387 20 (by decide)).trans ((fq67.at 387 20 (by decide)).trans (fq55.at 387 20 (by decide))))))) ((fq219.at 387 21 (by decide)).trans ((uq217 387 21 (by omega)).trans ((fq181.at 387 21 (by decide)).trans ((fq118.at 387 21 (by decide)).trans ((fq67.at 387 21 (by decide)).trans (fq55.at 387 21 (by decide)))))))) | exact MO.ofk (by rw [linM_11 (z := (q, h, nm, σ0 387 20, σ0 387 21)) (by show tkq b N mo q = 11; omega)]; unfold deaP; dsimp only; rw [hne.2.1 (by omega), bnd_r, e2, bnd_r, if_pos (by omega)]) (by omega) (by omega) (by omega) | (obtain ⟨f, e2, x1, x2⟩ := o2.no (by omega); exact MO.ofl (by rw [linM_11 (z := (q, h, nm, σ0 387 20, σ0 387 21)) (by show tkq b N mo q = 11; omega)]; unfold deaP; dsimp only; rw [hne.2.1 (by omega), bnd_r, e2, bnd_l]) (by omega) x1 x2), by omega, gHI, gMT, gRV⟩)
          · exfalso; omega
        · clear hp85_0 hp85_1 hp85_3
          refine r_iconst hx hb dX12_ofMan_73 (by decide) (fun z156 ez156 => ?_)
          exact r_zret hx hb hr hK hP hS hk (by omega) dX12_ofMan_74 (show P_X12_ofMan σ0 τ0 b N mo q h nm z156 σ85 τ78 from ⟨hR, hF, hFL, by omega, by omega, by omega, by first | exact MO.ofk (linM_x (z := (q, h, nm, σ0 387 20, σ0 387 21)) (by show tkq b N mo q < 0 ∨ (2 < tkq b N mo q ∧ tkq b N mo q < 7) ∨ 13 < tkq b N mo q; omega)) (by omega) (by omega) (by omega) | (obtain ⟨f, e1, x1, x2⟩ := o1.no (by omega); exact MO.ofl (by rw [linM_10 (z := (q, h, nm, σ0 387 20, σ0 387 21)) (by show tkq b N mo q = 10; omega)]; unfold oldP mnoP; dsimp only; rw [e1]; rfl) (by omega) x1 x2) | exact MO.ofk (by rw [linM_10 (z := (q, h, nm, σ0 387 20, σ0 387 21)) (by show tkq b N mo q = 10; omega)]; unfold oldP mnoP; dsimp only; rw [e1, bnd_r, if_pos (show 0 < h (55 + k.toNat) by rw [show 55 + k.toNat = 1 by omega]; omega)]; rfl) (by omega) (by omega) (by omega) | (obtain ⟨f, e1, x1, x2⟩ := o1.no (by omega); exact MO.ofl (by rw [linM_11 (z := (q, h, nm, σ0 387 20, σ0 387 21)) (by show tkq b N mo q = 11; omega)]; unfold deaP mnoP; dsimp only; rw [e1]; rfl) (by omega) x1 x2) | exact MO.ofk (by rw [linM_11 (z := (q, h, nm, σ0 387 20, σ0 387 21)) (by show tkq b N mo q = 11; omega)]; unfold deaP mnoP; dsimp only; rw [e1, bnd_r, if_pos (show 0 < h (63 + k.toNat) by rw [show 63 + k.toNat = 1 by omega]; omega)]; rfl) (by omega) (by omega) (by omega) | (obtain ⟨f, e1, x1, x2⟩ := o1.no (by omega); exact MO.ofl (by rw [linM_12 (z := (q, h, nm, σ0 387 20, σ0 387 21)) (by show tkq b N mo q = 12; omega)]; unfold neeP mnoP; dsimp only; rw [e1]; rfl) (by omega) x1 x2) | exact MO.ofk (by rw [linM_12 (z := (q, h, nm, σ0 387 20, σ0 387 21)) (by show tkq b N mo q = 12; omega)]; unfold neeP mnoP; dsimp only; rw [e1, bnd_r, if_pos (show 0 < h (71 + k.toNat) by rw [show 71 + k.toNat = 1 by omega]; omega)]; rfl) (by omega) (by omega) (by omega) | exact MO.ofr (by rw [linM_10 (z := (q, h, nm, σ0 387 20, σ0 387 21)) (by show tkq b N mo q = 10; omega)]; unfold oldP; dsimp only; rw [hne.1 (by omega), bnd_r]) (by omega) (MR.mk gMK gMH (gMN.h (uh_n _ _ (by omega)) (uh_n _ _ (by omega))) ((uq134 387 20 (by omega)).trans ((fq118.at 387 20 (by decide)).trans ((fq67.at 387 20 (by decide)).trans (fq55.at 387 20 (by decide))))) ((uq134 387 21 (by omega)).trans ((fq118.at 387 21 (by decide)).trans ((fq67.at 387 21 (by decide)).trans (fq55.at 387 21 (by decide)))))) | exact MO.ofr (by rw [linM_12 (z := (q, h, nm, σ0 387 20, σ0 387 21)) (by show tkq b N mo q = 12; omega)]; unfold neeP; dsimp only; rw [hne.2.2 (by omega), bnd_r, e2, bnd_r]) (by omega) (MR.mk gMK gMH (gMN.h (uh_n _ _ (by omega)) (uh_n _ _ (by omega))) ((uq169 387 20 (by omega)).trans ((fq147.at 387 20 (by decide)).trans ((fq118.at 387 20 (by decide)).trans ((fq67.at 387 20 (by decide)).trans (fq55.at 387 20 (by decide)))))) ((uq169 387 21 (by omega)).trans ((fq147.at 387 21 (by decide)).trans ((fq118.at 387 21 (by decide)).trans ((fq67.at 387 21 (by decide)).trans (fq55.at 387 21 (by decide))))))) | (obtain ⟨f, e2, x1, x2⟩ := o2.no (by omega); exact MO.ofl (by rw [linM_12 (z := (q, h, nm, σ0 387 20, σ0 387 21)) (by show tkq b N mo q = 12; omega)]; unfold neeP; dsimp only; rw [hne.2.2 (by omega), bnd_r, e2, bnd_l]) (by omega) x1 x2) | exact MO.ofr (by rw [linM_11 (z := (q, h, nm, σ0 387 20, σ0 387 21)) (by show tkq b N mo q = 11; omega)]; unfold deaP; dsimp only; rw [hne.2.1 (by omega), bnd_r, e2, bnd_r, if_neg (by omega)]) (by omega) (MR.mk gMK gMH (gMN.h (uh_n _ _ (by omega)) (uh_n _ _ (by omega))) ((fq219.at 387 20 (by decide)).trans ((uq217 387 20 (by omega)).trans ((fq181.at 387 20 (by decide)).trans ((fq118.at 387 20 (by decide)).trans ((fq67.at 387 20 (by decide)).trans (fq55.at 387 20 (by decide))))))) ((fq219.at 387 21 (by decide)).trans ((uq217 387 21 (by omega)).trans ((fq181.at 387 21 (by decide)).trans ((fq118.at 387 21 (by decide)).trans ((fq67.at 387 21 (by decide)).trans (fq55.at 387 21 (by decide)))))))) | exact MO.ofk (by rw [linM_11 (z := (q, h, nm, σ0 387 20, σ0 387 21)) (by show tkq b N mo q = 11; omega)]; unfold deaP; dsimp only; rw [hne.2.1 (by omega), bnd_r, e2, bnd_r, if_pos (by omega)]) (by omega) (by omega) (by omega) | (obtain ⟨f, e2, x1, x2⟩ := o2.no (by omega); exact MO.ofl (by rw [linM_11 (z := (q, h, nm, σ0 387 20, σ0 387 21)) (by show tkq b N mo q = 11; omega)]; unfold deaP; dsimp only; rw [hne.2.1 (by omega), bnd_r, e2, bnd_l]) (by omega) x1 x2), by omega, gHI, gMT, gRV⟩)
      · exfalso; omega
  · replace hp1_0 := hp1_0.resolve_left (by omega)
    refine r_iconst hx hb dX12_ofMan_10 (by decide) (fun z157 ez157 => ?_)
    refine lv_goto (tgt := 43) hx hb dX12_ofMan_11 (by decide) ?_
    refine lv_istore_n (lv' := [(1, .int z157), (0, .ref (ad 387))]) hx hb dX12_ofMan_43 rfl hl (by decide) rfl (fun ls hl => ?_)
    refine lv_iload_n hx hb dX12_ofMan_44 rfl (lv_at hl 0 rfl) ?_
    refine r_if_ge (tgt := 54) hx hb dX12_ofMan_45 (by decide) (fun c158 => ?_) (fun c158 => ?_)
    · have hh0 := gMH 0 (by omega)
      have hh1 := gMH 1 (by omega)
      have hra := ra_mh_0 hR (k := 390) (j := 0) (by decide) (by decide) (by decide) (by decide)
      have hrb := ra_mh_0 hR (k := 390) (j := 1) (by decide) (by decide) (by decide) (by decide)
      refine lv_aload_n hx hb dX12_ofMan_54 rfl (lv_at hl 1 rfl) ?_
      refine r_cVv (k := 387) (As := []) (rest := []) ⟨hx, hb, hml, hown, hts⟩ hK hP hN hS (c_X12_next_v l D cA ad hI σ0 τ0 hR _ _ _ _ gMK.mp gMT) (cwV 0 hts gX12_ofMan_X12_next rfl rfl rfl (by decide +kernel) ⟨by decide, by decide⟩) (rv_M hK hP (by decide) (by decide)) rfl hl.1 rfl (Nat.le_of_ble_eq_true rfl) dX12_ofMan_55 (Nat.zero_le _) (Nat.zero_le _) (fun u159 H159 locs159 hp159 hP hS => ?_)
      obtain ⟨σ159, τ159⟩ := u159
      obtain ⟨hR, f159, fL159, hp159_0, hp159_1, hp159_2, hp159_3, gnMT⟩ : P_X12_next_v σ0 τ0 _ _ _ _ σ159 τ159 := hp159
      have fq55 := f159
      have hP : va_P D vwCl (gw cA ad σ159 τ159) H159 := hP
      have hFL := hFL.step fL159 (by decide)
      have gMN := gMN.agL (AgrL.fr fL159 (by decide))
      have gRV := gRV.agL (AgrL.fr fL159 (by decide))
      have hF := hF.step f159 (by decide)
      have gHI := HI.fr gHI f159 (by decide)
      have gMH := gMH.ag (Agr.fr f159 (by decide))
      have gMT := gMT.ag (Agr.fr f159 (by decide))
      have t160 : (σ159 387 3).toInt = (σ0 387 3).toInt := congrArg Int32.toInt (f159.at 387 3 (by decide))
      have t161 : (σ159 387 15).toInt = (σ0 387 15).toInt := congrArg Int32.toInt (f159.at 387 15 (by decide))
      have hr162 := rg_12_4 hR (k := 387) (by decide) (by decide)
      have gMK := hp159_3
      have hh1a := gMH 1 (by omega)
      refine lv_aload_n hx hb dX12_ofMan_58 rfl (lv_at hl 1 rfl) ?_
      refine r_bipush hx hb dX12_ofMan_59 (by decide) (fun z163 ez163 => ?_)
      refine lv_aload_n hx hb dX12_ofMan_61 rfl (lv_at hl 1 rfl) ?_
      refine fg_12_7 (k := 387) hx hb hts in_X12_ofMan_12 hown hK hP (by decide) (by decide) (hts _ lk_X12_ofMan_37) dX12_ofMan_62 ?_
      refine r_iconst hx hb dX12_ofMan_65 (by decide) (fun z164 ez164 => ?_)
      refine ad_mh (k := 390) (j := 1) hx hb hK hP (by decide) (by decide) (by omega) (by omega) dX12_ofMan_66 ?_
      have hr165 := ra_mh_0 hR (k := 390) (j := 1) (by decide) (by decide) (by decide) (by decide)
      refine r_cVi (k := 387) (As := [.int z163, .int (σ159 390 1)]) (rest := []) ⟨hx, hb, hml, hown, hts⟩ hK hP hN hS (c_X12_looksAt_v l D cA ad hI σ159 τ159 hR z163 (σ159 390 1) b N mo _ h nm (n8 nm) (h 1).toNat 24 (by omega) (by omega) (by omega) (Or.inr ⟨rfl, rfl, rfl, by omega⟩) (by omega) gMK gRV gMN) (cwV 2 hts gX12_ofMan_X12_looksAt rfl rfl rfl (by decide +kernel) ⟨by decide, by decide⟩) (rv_M hK hP (by decide) (by decide)) rfl hl.1 rfl (Nat.le_of_ble_eq_true rfl) dX12_ofMan_67 (Nat.zero_le _) (Nat.zero_le _) (fun r166 u166 H166 locs166 hp166 hP hS => ?_)
      obtain ⟨σ166, τ166⟩ := u166
      obtain ⟨hR, f166, fL166, hq166, hp166_0, hp166_1, hp166_2, hp166_3, gnMK, gnRV, gnMN⟩ : P_X12_looksAt_v σ159 τ159 z163 (σ159 390 1) b N mo _ h nm (n8 nm) (h 1).toNat 24 r166 σ166 τ166 := hp166
      have o1 := hp166_2
      have fq67 := f166
      have hP : va_P D vwCl (gw cA ad σ166 τ166) H166 := hP
      obtain rfl := FrL.nil fL166
      have hF := hF.step f166 (by decide)
      have gHI := HI.fr gHI f166 (by decide)
      have gMH := gMH.ag (Agr.fr f166 (by decide))
      have gMK := gMK.ag (Agr.fr f166 (by decide))
      have gMT := gMT.ag (Agr.fr f166 (by decide))
      have t167 : (σ166 387 3).toInt = (σ159 387 3).toInt := congrArg Int32.toInt (f166.at 387 3 (by decide))
      have t168 : (σ166 387 4).toInt = (σ159 387 4).toInt := congrArg Int32.toInt (f166.at 387 4 (by decide))
      have t169 : (σ166 387 11).toInt = (σ159 387 11).toInt := congrArg Int32.toInt (f166.at 387 11 (by decide))
      have t170 : (σ166 390 1).toInt = (σ159 390 1).toInt := congrArg Int32.toInt (f166.at 390 1 (by decide))
      refine r_if_ne (tgt := 75) hx hb dX12_ofMan_70 (by decide) (fun c171 => ?_) (fun c171 => ?_)
      · replace hp166_0 := hp166_0.resolve_left (by omega)
        replace hp166_1 := hp166_1.resolve_left (by omega)
        replace hp166_3 := hp166_3.resolve_left (by omega)
        obtain ⟨k, e1, ek⟩ := o1.ye (by omega)
        have hlk := lok_ok e1
        refine lv_aload_n hx hb dX12_ofMan_75 rfl (lv_at hl 1 rfl) ?_
        refine fg_12_18 (k := 387) hx hb hts in_X12_ofMan_12 hown hK hP (by decide) (by decide) (hts _ lk_X12_ofMan_195) dX12_ofMan_76 ?_
        refine lv_istore_n (lv' := [(2, .int (σ166 387 18)), (1, .int z157), (0, .ref (ad 387))]) hx hb dX12_ofMan_79 rfl hl (by decide) rfl (fun ls hl => ?_)
        refine lv_aload_n hx hb dX12_ofMan_80 rfl (lv_at hl 2 rfl) ?_
        refine fg_12_7 (k := 387) hx hb hts in_X12_ofMan_12 hown hK hP (by decide) (by decide) (hts _ lk_X12_ofMan_37) dX12_ofMan_81 ?_
        refine lv_iload_n hx hb dX12_ofMan_84 rfl (lv_at hl 1 rfl) ?_
        refine r_if_ne (tgt := 93) hx hb dX12_ofMan_85 (by decide) (fun c172 => ?_) (fun c172 => ?_)
        · exfalso; omega
        · refine r_bipush hx hb dX12_ofMan_88 (by decide) (fun z173 ez173 => ?_)
          refine lv_goto (tgt := 105) hx hb dX12_ofMan_90 (by decide) ?_
          refine lv_iload_n hx hb dX12_ofMan_105 rfl (lv_at hl 0 rfl) ?_
          refine r_iadd hx hb dX12_ofMan_106 (by omega) (fun z174 ez174 => ?_)
          obtain ⟨j175, ej175⟩ : ∃ j : Nat, z174.toInt = (j : Int) := ⟨_, ti_nat (by omega)⟩
          refine ad_mh (k := 390) (j := j175) hx hb hK hP (by decide) (by decide) ej175 (by omega) dX12_ofMan_107 ?_
          have hho := gMH j175 (by omega)
          refine r_if_le (tgt := 117) hx hb dX12_ofMan_108 (by decide) (fun c176 => ?_) (fun c176 => ?_)
          · have hnn : ¬ 0 < h j175 := by omega
            have hjn : (((j175 : Nat) : Int) = 55 + k ∧ tkq b N mo q = 10) ∨ (((j175 : Nat) : Int) = 63 + k ∧ tkq b N mo q = 11) ∨ (((j175 : Nat) : Int) = 71 + k ∧ tkq b N mo q = 12) := by omega
            have hne : mnoK b N mo h nm q k := mnoK.of e1 hnn hjn hlk.2.1
            refine lv_aload_n hx hb dX12_ofMan_117 rfl (lv_at hl 2 rfl) ?_
            refine r_cVv (k := 387) (As := []) (rest := []) ⟨hx, hb, hml, hown, hts⟩ hK hP hN hS (c_X12_next_v l D cA ad hI σ166 τ159 hR _ _ _ _ gMK.mp gMT) (cwV 0 hts gX12_ofMan_X12_next rfl rfl rfl (by decide +kernel) ⟨by decide, by decide⟩) (rv_M hK hP (by decide) (by decide)) rfl hl.1 rfl (Nat.le_of_ble_eq_true rfl) dX12_ofMan_118 (Nat.zero_le _) (Nat.zero_le _) (fun u177 H177 locs177 hp177 hP hS => ?_)
            obtain ⟨σ177, τ177⟩ := u177
            obtain ⟨hR, f177, fL177, hp177_0, hp177_1, hp177_2, hp177_3, gnMT⟩ : P_X12_next_v σ166 τ159 _ _ _ _ σ177 τ177 := hp177
            have fq118 := f177
            have hP : va_P D vwCl (gw cA ad σ177 τ177) H177 := hP
            clear hp159_1
            have hFL := hFL.step fL177 (by decide)
            have gMN := gMN.agL (AgrL.fr fL177 (by decide))
            have gRV := gRV.agL (AgrL.fr fL177 (by decide))
            have hF := hF.step f177 (by decide)
            have gHI := HI.fr gHI f177 (by decide)
            have gMH := gMH.ag (Agr.fr f177 (by decide))
            have gMT := gMT.ag (Agr.fr f177 (by decide))
            have t178 : (σ177 387 3).toInt = (σ166 387 3).toInt := congrArg Int32.toInt (f177.at 387 3 (by decide))
            have t179 : (σ177 390 1).toInt = (σ166 390 1).toInt := congrArg Int32.toInt (f177.at 390 1 (by decide))
            have t180 : (σ177 387 15).toInt = (σ166 387 15).toInt := congrArg Int32.toInt (f177.at 387 15 (by decide))
            have t181 : (σ177 387 18).toInt = (σ166 387 18).toInt := congrArg Int32.toInt (f177.at 387 18 (by decide))
            have t182 : (σ177 390 j175).toInt = (σ166 390 j175).toInt := congrArg Int32.toInt (f177.atV 390 j175 (by intro q hq; simp only [L_X12_next_v, List.mem_cons, List.not_mem_nil, or_false] at hq; rcases hq with rfl | rfl <;> dsimp only <;> omega))
            have hr183 := rg_12_4 hR (k := 387) (by decide) (by decide)
            have gMK := hp177_3
            refine lv_iload_n hx hb dX12_ofMan_121 rfl (lv_at hl 1 rfl) ?_
            refine r_if_ne (tgt := 137) hx hb dX12_ofMan_122 (by decide) (fun c184 => ?_) (fun c184 => ?_)
            · exfalso; omega
            · refine lv_aload_n hx hb dX12_ofMan_125 rfl (lv_at hl 2 rfl) ?_
              refine fg_12_7 (k := 387) hx hb hts in_X12_ofMan_12 hown hK hP (by decide) (by decide) (hts _ lk_X12_ofMan_37) dX12_ofMan_126 ?_
              refine r_bipush hx hb dX12_ofMan_129 (by decide) (fun z185 ez185 => ?_)
              refine lv_iload_n hx hb dX12_ofMan_131 rfl (lv_at hl 0 rfl) ?_
              refine r_iadd hx hb dX12_ofMan_132 (by omega) (fun z186 ez186 => ?_)
              refine r_iconst hx hb dX12_ofMan_133 (by decide) (fun z187 ez187 => ?_)
              refine as_mh (k := 390) (j := j175) hx hb hK hP hI hR hS (by decide) (by decide) (by omega) (by omega) (rx_mh_39 (by decide) (by decide) (by omega) (by omega)) dX12_ofMan_134 (fun σ188 H188 locs188 u188 v188 hR hP hS => ?_)
              have uq134 := u188
              have vq134 := v188
              have hF := hF.puts u188 3 rfl (by decide) (by decide) (by omega) (by omega)
              have gHI := HI.putV gHI u188 (by intro q hq; simp only [Gd_HI, List.mem_cons, List.not_mem_nil, or_false] at hq; rcases hq with rfl | rfl <;> dsimp only [inRc] <;> omega)
              have gMK := gMK.ag (Agr.putV u188 (by intro q hq; simp only [Gd_MK, List.mem_cons, List.not_mem_nil, or_false] at hq; rcases hq with rfl | rfl | rfl <;> dsimp only [inRc] <;> omega))
              have gMT := gMT.ag (Agr.putV u188 (by intro q hq; simp only [Gd_MT, List.mem_cons, List.not_mem_nil, or_false] at hq; rcases hq with rfl | rfl | rfl <;> dsimp only [inRc] <;> omega))
              have t189 : (σ188 387 3).toInt = (σ177 387 3).toInt := congrArg Int32.toInt (u188 387 3 (by omega))
              have t190 : (σ188 390 1).toInt = (σ177 390 1).toInt := congrArg Int32.toInt (u188 390 1 (by omega))
              have t191 : (σ188 387 15).toInt = (σ177 387 15).toInt := congrArg Int32.toInt (u188 387 15 (by omega))
              have t192 : (σ188 387 18).toInt = (σ177 387 18).toInt := congrArg Int32.toInt (u188 387 18 (by omega))
              have t193 : (σ188 387 4).toInt = (σ177 387 4).toInt := congrArg Int32.toInt (u188 387 4 (by omega))
              have t194 : (σ188 387 11).toInt = (σ177 387 11).toInt := congrArg Int32.toInt (u188 387 11 (by omega))
              have gMH := MH.up (k := 55 + k.toNat) (v := 1) gMH (by rw [show 55 + k.toNat = j175 by omega]; exact uq134) (by rw [show 55 + k.toNat = j175 by omega]; omega)
              refine r_iconst hx hb dX12_ofMan_135 (by decide) (fun z195 ez195 => ?_)
              exact r_zret hx hb hr hK hP hS hk (by omega) dX12_ofMan_136 (show P_X12_ofMan σ0 τ0 b N mo q h nm z195 σ188 τ177 from ⟨hR, hF, hFL, by omega, by omega, by omega, by first | exact MO.ofk (linM_x (z := (q, h, nm, σ0 387 20, σ0 387 21)) (by show tkq b N mo q < 0 ∨ (2 < tkq b N mo q ∧ tkq b N mo q < 7) ∨ 13 < tkq b N mo q; omega)) (by omega) (by omega) (by omega) | (obtain ⟨f, e1, x1, x2⟩ := o1.no (by omega); exact MO.ofl (by rw [linM_10 (z := (q, h, nm, σ0 387 20, σ0 387 21)) (by show tkq b N mo q = 10; omega)]; unfold oldP mnoP; dsimp only; rw [e1]; rfl) (by omega) x1 x2) | exact MO.ofk (by rw [linM_10 (z := (q, h, nm, σ0 387 20, σ0 387 21)) (by show tkq b N mo q = 10; omega)]; unfold oldP mnoP; dsimp only; rw [e1, bnd_r, if_pos (show 0 < h (55 + k.toNat) by rw [show 55 + k.toNat = j175 by omega]; omega)]; rfl) (by omega) (by omega) (by omega) | (obtain ⟨f, e1, x1, x2⟩ := o1.no (by omega); exact MO.ofl (by rw [linM_11 (z := (q, h, nm, σ0 387 20, σ0 387 21)) (by show tkq b N mo q = 11; omega)]; unfold deaP mnoP; dsimp only; rw [e1]; rfl) (by omega) x1 x2) | exact MO.ofk (by rw [linM_11 (z := (q, h, nm, σ0 387 20, σ0 387 21)) (by show tkq b N mo q = 11; omega)]; unfold deaP mnoP; dsimp only; rw [e1, bnd_r, if_pos (show 0 < h (63 + k.toNat) by rw [show 63 + k.toNat = j175 by omega]; omega)]; rfl) (by omega) (by omega) (by omega) | (obtain ⟨f, e1, x1, x2⟩ := o1.no (by omega); exact MO.ofl (by rw [linM_12 (z := (q, h, nm, σ0 387 20, σ0 387 21)) (by show tkq b N mo q = 12; omega)]; unfold neeP mnoP; dsimp only; rw [e1]; rfl) (by omega) x1 x2) | exact MO.ofk (by rw [linM_12 (z := (q, h, nm, σ0 387 20, σ0 387 21)) (by show tkq b N mo q = 12; omega)]; unfold neeP mnoP; dsimp only; rw [e1, bnd_r, if_pos (show 0 < h (71 + k.toNat) by rw [show 71 + k.toNat = j175 by omega]; omega)]; rfl) (by omega) (by omega) (by omega) | exact MO.ofr (by rw [linM_10 (z := (q, h, nm, σ0 387 20, σ0 387 21)) (by show tkq b N mo q = 10; omega)]; unfold oldP; dsimp only; rw [hne.1 (by omega), bnd_r]) (by omega) (MR.mk gMK gMH (gMN.h (uh_n _ _ (by omega)) (uh_n _ _ (by omega))) ((uq134 387 20 (by omega)).trans ((fq118.at 387 20 (by decide)).trans ((fq67.at 387 20 (by decide)).trans (fq55.at 387 20 (by decide))))) ((uq134 387 21 (by omega)).trans ((fq118.at 387 21 (by decide)).trans ((fq67.at 387 21 (by decide)).trans (fq55.at 387 21 (by decide)))))) | exact MO.ofr (by rw [linM_12 (z := (q, h, nm, σ0 387 20, σ0 387 21)) (by show tkq b N mo q = 12; omega)]; unfold neeP; dsimp only; rw [hne.2.2 (by omega), bnd_r, e2, bnd_r]) (by omega) (MR.mk gMK gMH (gMN.h (uh_n _ _ (by omega)) (uh_n _ _ (by omega))) ((uq169 387 20 (by omega)).trans ((fq147.at 387 20 (by decide)).trans ((fq118.at 387 20 (by decide)).trans ((fq67.at 387 20 (by decide)).trans (fq55.at 387 20 (by decide)))))) ((uq169 387 21 (by omega)).trans ((fq147.at 387 21 (by decide)).trans ((fq118.at 387 21 (by decide)).trans ((fq67.at 387 21 (by decide)).trans (fq55.at 387 21 (by decide))))))) | (obtain ⟨f, e2, x1, x2⟩ := o2.no (by omega); exact MO.ofl (by rw [linM_12 (z := (q, h, nm, σ0 387 20, σ0 387 21)) (by show tkq b N mo q = 12; omega)]; unfold neeP; dsimp only; rw [hne.2.2 (by omega), bnd_r, e2, bnd_l]) (by omega) x1 x2) | exact MO.ofr (by rw [linM_11 (z := (q, h, nm, σ0 387 20, σ0 387 21)) (by show tkq b N mo q = 11; omega)]; unfold deaP; dsimp only; rw [hne.2.1 (by omega), bnd_r, e2, bnd_r, if_neg (by omega)]) (by omega) (MR.mk gMK gMH (gMN.h (uh_n _ _ (by omega)) (uh_n _ _ (by omega))) ((fq219.at 387 20 (by decide)).trans ((uq217 387 20 (by omega)).trans ((fq181.at 387 20 (by decide)).trans ((fq118.at 387 20 (by decide)).trans ((fq67.at 387 20 (by decide)).trans (fq55.at 387 20 (by decide))))))) ((fq219.at 387 21 (by decide)).trans ((uq217 387 21 (by omega)).trans ((fq181.at 387 21 (by decide)).trans ((fq118.at 387 21 (by decide)).trans ((fq67.at 387 21 (by decide)).trans (fq55.at 387 21 (by decide)))))))) | exact MO.ofk (by rw [linM_11 (z := (q, h, nm, σ0 387 20, σ0 387 21)) (by show tkq b N mo q = 11; omega)]; unfold deaP; dsimp only; rw [hne.2.1 (by omega), bnd_r, e2, bnd_r, if_pos (by omega)]) (by omega) (by omega) (by omega) | (obtain ⟨f, e2, x1, x2⟩ := o2.no (by omega); exact MO.ofl (by rw [linM_11 (z := (q, h, nm, σ0 387 20, σ0 387 21)) (by show tkq b N mo q = 11; omega)]; unfold deaP; dsimp only; rw [hne.2.1 (by omega), bnd_r, e2, bnd_l]) (by omega) x1 x2), by omega, gHI, gMT, gRV⟩)
          · refine lv_aload_n hx hb dX12_ofMan_111 rfl (lv_at hl 2 rfl) ?_
            refine r_iconst hx hb dX12_ofMan_112 (by decide) (fun z196 ez196 => ?_)
            refine r_cVi (k := 387) (As := [.int z196]) (rest := []) ⟨hx, hb, hml, hown, hts⟩ hK hP hN hS (c_X12_bad_v l D cA ad hI σ166 τ159 hR z196 _ _ _ _ (by omega) gMK) (cwV 1 hts gX12_ofMan_X12_bad rfl rfl rfl (by decide +kernel) ⟨by decide, by decide⟩) (rv_M hK hP (by decide) (by decide)) rfl hl.1 rfl (Nat.le_of_ble_eq_true rfl) dX12_ofMan_113 (Nat.zero_le _) (Nat.zero_le _) (fun r197 u197 H197 locs197 hp197 hP hS => ?_)
            obtain ⟨σ197, τ197⟩ := u197
            obtain ⟨hR, f197, fL197, hq197, hp197_0, hp197_1, hp197_2, gnMK⟩ : P_X12_bad_v σ166 τ159 z196 _ _ _ _ r197 σ197 τ197 := hp197
            have hP : va_P D vwCl (gw cA ad σ197 τ197) H197 := hP
            obtain rfl := FrL.nil fL197
            have hF := hF.step f197 (by decide)
            have gHI := HI.fr gHI f197 (by decide)
            have gMH := gMH.ag (Agr.fr f197 (by decide))
            have gMK := gMK.ag (Agr.fr f197 (by decide))
            have gMT := gMT.ag (Agr.fr f197 (by decide))
            have t198 : (σ197 387 3).toInt = (σ166 387 3).toInt := congrArg Int32.toInt (f197.at 387 3 (by decide))
            have t199 : (σ197 387 4).toInt = (σ166 387 4).toInt := congrArg Int32.toInt (f197.at 387 4 (by decide))
            have t200 : (σ197 387 11).toInt = (σ166 387 11).toInt := congrArg Int32.toInt (f197.at 387 11 (by decide))
            have t201 : (σ197 390 1).toInt = (σ166 390 1).toInt := congrArg Int32.toInt (f197.at 390 1 (by decide))
            have t202 : (σ197 387 18).toInt = (σ166 387 18).toInt := congrArg Int32.toInt (f197.at 387 18 (by decide))
            have t203 : (σ197 390 j175).toInt = (σ166 390 j175).toInt := congrArg Int32.toInt (f197.atV 390 j175 (by intro q hq; simp only [L_X12_bad_v, List.mem_cons, List.not_mem_nil, or_false] at hq; rcases hq with rfl <;> dsimp only <;> omega))
            exact r_zret hx hb hr hK hP hS hk (by omega) dX12_ofMan_116 (show P_X12_ofMan σ0 τ0 b N mo q h nm r197 σ197 τ159 from ⟨hR, hF, hFL, by omega, by omega, by omega, by first | exact MO.ofk (linM_x (z := (q, h, nm, σ0 387 20, σ0 387 21)) (by show tkq b N mo q < 0 ∨ (2 < tkq b N mo q ∧ tkq b N mo q < 7) ∨ 13 < tkq b N mo q; omega)) (by omega) (by omega) (by omega) | (obtain ⟨f, e1, x1, x2⟩ := o1.no (by omega); exact MO.ofl (by rw [linM_10 (z := (q, h, nm, σ0 387 20, σ0 387 21)) (by show tkq b N mo q = 10; omega)]; unfold oldP mnoP; dsimp only; rw [e1]; rfl) (by omega) x1 x2) | exact MO.ofk (by rw [linM_10 (z := (q, h, nm, σ0 387 20, σ0 387 21)) (by show tkq b N mo q = 10; omega)]; unfold oldP mnoP; dsimp only; rw [e1, bnd_r, if_pos (show 0 < h (55 + k.toNat) by rw [show 55 + k.toNat = j175 by omega]; omega)]; rfl) (by omega) (by omega) (by omega) | (obtain ⟨f, e1, x1, x2⟩ := o1.no (by omega); exact MO.ofl (by rw [linM_11 (z := (q, h, nm, σ0 387 20, σ0 387 21)) (by show tkq b N mo q = 11; omega)]; unfold deaP mnoP; dsimp only; rw [e1]; rfl) (by omega) x1 x2) | exact MO.ofk (by rw [linM_11 (z := (q, h, nm, σ0 387 20, σ0 387 21)) (by show tkq b N mo q = 11; omega)]; unfold deaP mnoP; dsimp only; rw [e1, bnd_r, if_pos (show 0 < h (63 + k.toNat) by rw [show 63 + k.toNat = j175 by omega]; omega)]; rfl) (by omega) (by omega) (by omega) | (obtain ⟨f, e1, x1, x2⟩ := o1.no (by omega); exact MO.ofl (by rw [linM_12 (z := (q, h, nm, σ0 387 20, σ0 387 21)) (by show tkq b N mo q = 12; omega)]; unfold neeP mnoP; dsimp only; rw [e1]; rfl) (by omega) x1 x2) | exact MO.ofk (by rw [linM_12 (z := (q, h, nm, σ0 387 20, σ0 387 21)) (by show tkq b N mo q = 12; omega)]; unfold neeP mnoP; dsimp only; rw [e1, bnd_r, if_pos (show 0 < h (71 + k.toNat) by rw [show 71 + k.toNat = j175 by omega]; omega)]; rfl) (by omega) (by omega) (by omega) | exact MO.ofr (by rw [linM_10 (z := (q, h, nm, σ0 387 20, σ0 387 21)) (by show tkq b N mo q = 10; omega)]; unfold oldP; dsimp only; rw [hne.1 (by omega), bnd_r]) (by omega) (MR.mk gMK gMH (gMN.h (uh_n _ _ (by omega)) (uh_n _ _ (by omega))) ((uq134 387 20 (by omega)).trans ((fq118.at 387 20 (by decide)).trans ((fq67.at 387 20 (by decide)).trans (fq55.at 387 20 (by decide))))) ((uq134 387 21 (by omega)).trans ((fq118.at 387 21 (by decide)).trans ((fq67.at 387 21 (by decide)).trans (fq55.at 387 21 (by decide)))))) | exact MO.ofr (by rw [linM_12 (z := (q, h, nm, σ0 387 20, σ0 387 21)) (by show tkq b N mo q = 12; omega)]; unfold neeP; dsimp only; rw [hne.2.2 (by omega), bnd_r, e2, bnd_r]) (by omega) (MR.mk gMK gMH (gMN.h (uh_n _ _ (by omega)) (uh_n _ _ (by omega))) ((uq169 387 20 (by omega)).trans ((fq147.at 387 20 (by decide)).trans ((fq118.at 387 20 (by decide)).trans ((fq67.at 387 20 (by decide)).trans (fq55.at 387 20 (by decide)))))) ((uq169 387 21 (by omega)).trans ((fq147.at 387 21 (by decide)).trans ((fq118.at 387 21 (by decide)).trans ((fq67.at 387 21 (by decide)).trans (fq55.at 387 21 (by decide))))))) | (obtain ⟨f, e2, x1, x2⟩ := o2.no (by omega); exact MO.ofl (by rw [linM_12 (z := (q, h, nm, σ0 387 20, σ0 387 21)) (by show tkq b N mo q = 12; omega)]; unfold neeP; dsimp only; rw [hne.2.2 (by omega), bnd_r, e2, bnd_l]) (by omega) x1 x2) | exact MO.ofr (by rw [linM_11 (z := (q, h, nm, σ0 387 20, σ0 387 21)) (by show tkq b N mo q = 11; omega)]; unfold deaP; dsimp only; rw [hne.2.1 (by omega), bnd_r, e2, bnd_r, if_neg (by omega)]) (by omega) (MR.mk gMK gMH (gMN.h (uh_n _ _ (by omega)) (uh_n _ _ (by omega))) ((fq219.at 387 20 (by decide)).trans ((uq217 387 20 (by omega)).trans ((fq181.at 387 20 (by decide)).trans ((fq118.at 387 20 (by decide)).trans ((fq67.at 387 20 (by decide)).trans (fq55.at 387 20 (by decide))))))) ((fq219.at 387 21 (by decide)).trans ((uq217 387 21 (by omega)).trans ((fq181.at 387 21 (by decide)).trans ((fq118.at 387 21 (by decide)).trans ((fq67.at 387 21 (by decide)).trans (fq55.at 387 21 (by decide)))))))) | exact MO.ofk (by rw [linM_11 (z := (q, h, nm, σ0 387 20, σ0 387 21)) (by show tkq b N mo q = 11; omega)]; unfold deaP; dsimp only; rw [hne.2.1 (by omega), bnd_r, e2, bnd_r, if_pos (by omega)]) (by omega) (by omega) (by omega) | (obtain ⟨f, e2, x1, x2⟩ := o2.no (by omega); exact MO.ofl (by rw [linM_11 (z := (q, h, nm, σ0 387 20, σ0 387 21)) (by show tkq b N mo q = 11; omega)]; unfold deaP; dsimp only; rw [hne.2.1 (by omega), bnd_r, e2, bnd_l]) (by omega) x1 x2), by omega, gHI, gMT, gRV⟩)
      · clear hp166_0 hp166_1 hp166_3
        refine r_iconst hx hb dX12_ofMan_73 (by decide) (fun z204 ez204 => ?_)
        exact r_zret hx hb hr hK hP hS hk (by omega) dX12_ofMan_74 (show P_X12_ofMan σ0 τ0 b N mo q h nm z204 σ166 τ159 from ⟨hR, hF, hFL, by omega, by omega, by omega, by first | exact MO.ofk (linM_x (z := (q, h, nm, σ0 387 20, σ0 387 21)) (by show tkq b N mo q < 0 ∨ (2 < tkq b N mo q ∧ tkq b N mo q < 7) ∨ 13 < tkq b N mo q; omega)) (by omega) (by omega) (by omega) | (obtain ⟨f, e1, x1, x2⟩ := o1.no (by omega); exact MO.ofl (by rw [linM_10 (z := (q, h, nm, σ0 387 20, σ0 387 21)) (by show tkq b N mo q = 10; omega)]; unfold oldP mnoP; dsimp only; rw [e1]; rfl) (by omega) x1 x2) | exact MO.ofk (by rw [linM_10 (z := (q, h, nm, σ0 387 20, σ0 387 21)) (by show tkq b N mo q = 10; omega)]; unfold oldP mnoP; dsimp only; rw [e1, bnd_r, if_pos (show 0 < h (55 + k.toNat) by rw [show 55 + k.toNat = 1 by omega]; omega)]; rfl) (by omega) (by omega) (by omega) | (obtain ⟨f, e1, x1, x2⟩ := o1.no (by omega); exact MO.ofl (by rw [linM_11 (z := (q, h, nm, σ0 387 20, σ0 387 21)) (by show tkq b N mo q = 11; omega)]; unfold deaP mnoP; dsimp only; rw [e1]; rfl) (by omega) x1 x2) | exact MO.ofk (by rw [linM_11 (z := (q, h, nm, σ0 387 20, σ0 387 21)) (by show tkq b N mo q = 11; omega)]; unfold deaP mnoP; dsimp only; rw [e1, bnd_r, if_pos (show 0 < h (63 + k.toNat) by rw [show 63 + k.toNat = 1 by omega]; omega)]; rfl) (by omega) (by omega) (by omega) | (obtain ⟨f, e1, x1, x2⟩ := o1.no (by omega); exact MO.ofl (by rw [linM_12 (z := (q, h, nm, σ0 387 20, σ0 387 21)) (by show tkq b N mo q = 12; omega)]; unfold neeP mnoP; dsimp only; rw [e1]; rfl) (by omega) x1 x2) | exact MO.ofk (by rw [linM_12 (z := (q, h, nm, σ0 387 20, σ0 387 21)) (by show tkq b N mo q = 12; omega)]; unfold neeP mnoP; dsimp only; rw [e1, bnd_r, if_pos (show 0 < h (71 + k.toNat) by rw [show 71 + k.toNat = 1 by omega]; omega)]; rfl) (by omega) (by omega) (by omega) | exact MO.ofr (by rw [linM_10 (z := (q, h, nm, σ0 387 20, σ0 387 21)) (by show tkq b N mo q = 10; omega)]; unfold oldP; dsimp only; rw [hne.1 (by omega), bnd_r]) (by omega) (MR.mk gMK gMH (gMN.h (uh_n _ _ (by omega)) (uh_n _ _ (by omega))) ((uq134 387 20 (by omega)).trans ((fq118.at 387 20 (by decide)).trans ((fq67.at 387 20 (by decide)).trans (fq55.at 387 20 (by decide))))) ((uq134 387 21 (by omega)).trans ((fq118.at 387 21 (by decide)).trans ((fq67.at 387 21 (by decide)).trans (fq55.at 387 21 (by decide)))))) | exact MO.ofr (by rw [linM_12 (z := (q, h, nm, σ0 387 20, σ0 387 21)) (by show tkq b N mo q = 12; omega)]; unfold neeP; dsimp only; rw [hne.2.2 (by omega), bnd_r, e2, bnd_r]) (by omega) (MR.mk gMK gMH (gMN.h (uh_n _ _ (by omega)) (uh_n _ _ (by omega))) ((uq169 387 20 (by omega)).trans ((fq147.at 387 20 (by decide)).trans ((fq118.at 387 20 (by decide)).trans ((fq67.at 387 20 (by decide)).trans (fq55.at 387 20 (by decide)))))) ((uq169 387 21 (by omega)).trans ((fq147.at 387 21 (by decide)).trans ((fq118.at 387 21 (by decide)).trans ((fq67.at 387 21 (by decide)).trans (fq55.at 387 21 (by decide))))))) | (obtain ⟨f, e2, x1, x2⟩ := o2.no (by omega); exact MO.ofl (by rw [linM_12 (z := (q, h, nm, σ0 387 20, σ0 387 21)) (by show tkq b N mo q = 12; omega)]; unfold neeP; dsimp only; rw [hne.2.2 (by omega), bnd_r, e2, bnd_l]) (by omega) x1 x2) | exact MO.ofr (by rw [linM_11 (z := (q, h, nm, σ0 387 20, σ0 387 21)) (by show tkq b N mo q = 11; omega)]; unfold deaP; dsimp only; rw [hne.2.1 (by omega), bnd_r, e2, bnd_r, if_neg (by omega)]) (by omega) (MR.mk gMK gMH (gMN.h (uh_n _ _ (by omega)) (uh_n _ _ (by omega))) ((fq219.at 387 20 (by decide)).trans ((uq217 387 20 (by omega)).trans ((fq181.at 387 20 (by decide)).trans ((fq118.at 387 20 (by decide)).trans ((fq67.at 387 20 (by decide)).trans (fq55.at 387 20 (by decide))))))) ((fq219.at 387 21 (by decide)).trans ((uq217 387 21 (by omega)).trans ((fq181.at 387 21 (by decide)).trans ((fq118.at 387 21 (by decide)).trans ((fq67.at 387 21 (by decide)).trans (fq55.at 387 21 (by decide)))))))) | exact MO.ofk (by rw [linM_11 (z := (q, h, nm, σ0 387 20, σ0 387 21)) (by show tkq b N mo q = 11; omega)]; unfold deaP; dsimp only; rw [hne.2.1 (by omega), bnd_r, e2, bnd_r, if_pos (by omega)]) (by omega) (by omega) (by omega) | (obtain ⟨f, e2, x1, x2⟩ := o2.no (by omega); exact MO.ofl (by rw [linM_11 (z := (q, h, nm, σ0 387 20, σ0 387 21)) (by show tkq b N mo q = 11; omega)]; unfold deaP; dsimp only; rw [hne.2.1 (by omega), bnd_r, e2, bnd_l]) (by omega) x1 x2), by omega, gHI, gMT, gRV⟩)
    · exfalso; omega
