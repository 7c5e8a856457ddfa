theorem in_X12_fresh_12 : ∀ w ∈ u_ws RX12 TX12 47, w ∈ wsX12_fresh := by decide +kernel
theorem lk_X12_fresh_172 : Cond.fieldLink RX12 172 "CuckooSharesModel" "word" "J" ∈ wsX12_fresh := by decide +kernel
theorem lk_X12_fresh_37 : Cond.fieldLink RX12 37 "CuckooSharesModel" "h" "[I" ∈ wsX12_fresh := by decide +kernel
theorem lk_X12_fresh_43 : Cond.fieldLink RX12 43 "CuckooSharesModel" "names" "[J" ∈ wsX12_fresh := by decide +kernel
abbrev L_X12_fresh : List Rc := [(387, 387, 4, 4), (387, 387, 11, 16)]
abbrev LL_X12_fresh : List Rc := [(392, 392, 16, 31), (387, 387, 17, 17)]
def P_X12_fresh (σ0 : Nat → Nat → Int32) (τ0 : Nat → Nat → Int64) (a1 : Int32) (b : Nat → Int) (N : Nat) (mo : Nat) (q : Nat) (h : Nat → Int) (nm : Nat → Int) (jt : Nat) (r : Int32) (σ : Nat → Nat → Int32) (τ : Nat → Nat → Int64) : Prop := Rg σ ∧ Fr L_X12_fresh σ0 σ ∧ FrL LL_X12_fresh τ0 τ ∧ (0 ≤ r.toInt ∧ r.toInt ≤ 1) ∧ ((σ0 387 4).toInt ≤ (σ 387 4).toInt) ∧ (r.toInt = 0 ∨ (σ 387 11).toInt ≠ 3 ∨ (σ0 387 4).toInt < (σ 387 4).toInt) ∧ (MO r σ (newP b N mo h nm q) (fun _ => MK σ τ b N mo (nxq b N mo q) ∧ (∀ j : Nat, j ≠ jt → τ 392 j = τ0 392 j) ∧ (τ 392 jt).toInt = wdq b N q)) ∧ MT σ b N mo ∧ RV τ  ∧ MH σ h
set_option maxHeartbeats 4000000 in
theorem c_X12_fresh (l : Launch) (D : va_G) (cA : Nat → ClassId) (ad : Nat → Nat) (hI : Inj ad) (σ0 : Nat → Nat → Int32) (τ0 : Nat → Nat → Int64) (hR : Rg σ0) (a1 : Int32) (b : Nat → Int) (N : Nat) (mo : Nat) (q : Nat) (h : Nat → Int) (nm : Nat → Int) (jt : Nat) (ha1 : 16 ≤ a1.toInt ∧ a1.toInt ≤ 31) (hpre0 : a1.toInt = (jt : Int)) (hpre1 : 0 ≤ h 0 ∧ h 0 ≤ 8 ∧ 0 ≤ h 1 ∧ h 1 ≤ 8) (gMT0 : MT σ0 b N mo) (gMK0 : MK σ0 τ0 b N mo q) (gRV0 : RV τ0 ) (gMN0 : MN τ0 h nm) (gMH0 : MH σ0 h) : Met l yX12_fresh wsX12_fresh ({ frames := 2, cells := 0, slots := 0, locals := 43 } : Room) (WQc D cA ad [.ref (ad 387), .int a1] σ0 τ0) (va_Qi (fun (r : Int32) (u : SS) => P_X12_fresh σ0 τ0 a1 b N mo q h nm jt r u.1 u.2) (WB D cA ad) (AA ad)) 0 0 (AA ad) := by
  refine Met.ofW (cc := cX12_fresh) (maxL := 2) (ret := (some .boolean)) (by decide) rfl ?_
  intro p e s m args below meth c s₁ B hml hv
  obtain ⟨rfl, hP, hK, hN⟩ := hv
  have C : Cy p s m _ meth c cX12_fresh 2 wsX12_fresh RX12 D cA ad (some .boolean) := ⟨B.exec, B.bytes, hml, findClass_of_methodNamed B.named, atoms_spec (ws := wsX12_fresh) B.pre, hK, B.notSynchronized, B.returns, hI, hN⟩
  have hl := lv_entry ([.ref (ad 387), .int a1]) (n := 2) (Nat.le_of_ble_eq_true rfl)
  rw [lg_entry_eq]
  generalize (lg_sl ([.ref (ad 387), .int a1]) ++ List.replicate (2 - (lg_sl ([.ref (ad 387), .int a1])).length) Slot.unset).toArray = ls at hl ⊢
  have hl : lv_has ls 2 [(0, .ref (ad 387)), (1, .int a1)] := hl
  have hS : va_S (AA ad) s.heap s.heap [] := va_S.rf
  have hF : Fr L_X12_fresh σ0 σ0 := Fr.rf
  have hFL : FrL LL_X12_fresh τ0 τ0 := FrL.rf
  have gMT := gMT0
  have gMK := gMK0
  have gRV := gRV0
  have gMN := gMN0
  have gMH := gMH0
  obtain ⟨hx, hb, _, hown, hts, _, hk, hr, _, _⟩ := C
  have hrt4 := rg_12_4 hR (k := 387) (by decide) (by decide)
  have hrt3 := rg_12_3 hR (k := 387) (by decide) (by decide)
  refine lv_aload_n hx hb dX12_fresh_0 rfl (lv_at hl 0 rfl) ?_
  refine r_cVi (k := 387) (As := []) (rest := []) ⟨hx, hb, hml, hown, hts⟩ hK hP hN hS (c_X12_isName_v l D cA ad hI σ0 τ0 hR _ _ _ _ gMK gRV) (cwV 0 hts gX12_fresh_X12_isName rfl rfl rfl (by decide +kernel) ⟨by decide, by decide⟩) (rv_M hK hP (by decide) (by decide)) rfl hl.1 rfl (Nat.le_of_ble_eq_true rfl) dX12_fresh_1 (Nat.zero_le _) (Nat.zero_le _) (fun r1 u1 H1 locs1 hp1 hP hS => ?_)
  obtain ⟨σ1, τ1⟩ := u1
  obtain ⟨hR, f1, fL1, hq1, hp1_0, gnMK, gnRV⟩ : P_X12_isName_v σ0 τ0 _ _ _ _ r1 σ1 τ1 := hp1
  have hP : va_P D vwCl (gw cA ad σ1 τ1) H1 := hP
  obtain rfl := FrL.nil fL1
  obtain rfl := Fr.nil f1
  refine r_if_ne (tgt := 13) hx hb dX12_fresh_4 (by decide) (fun c2 => ?_) (fun c2 => ?_)
  · have hh0 := gMH 0 (by omega)
    have hh1 := gMH 1 (by omega)
    have hwq := gMK.wq (by omega)
    refine lv_aload_n hx hb dX12_fresh_13 rfl (lv_at hl 0 rfl) ?_
    refine r_bipush hx hb dX12_fresh_14 (by decide) (fun z3 ez3 => ?_)
    refine lv_aload_n hx hb dX12_fresh_16 rfl (lv_at hl 0 rfl) ?_
    refine fg_12_7 (k := 387) hx hb hts in_X12_fresh_12 hown hK hP (by decide) (by decide) (hts _ lk_X12_fresh_37) dX12_fresh_17 ?_
    refine r_iconst hx hb dX12_fresh_20 (by decide) (fun z4 ez4 => ?_)
    refine ad_mh (k := 390) (j := 0) hx hb hK hP (by decide) (by decide) (by omega) (by omega) dX12_fresh_21 ?_
    have hr5 := ra_mh_0 hR (k := 390) (j := 0) (by decide) (by decide) (by decide) (by decide)
    refine r_cVi (k := 387) (As := [.int z3, .int (σ0 390 0)]) (rest := []) ⟨hx, hb, hml, hown, hts⟩ hK hP hN hS (c_X12_find_v l D cA ad hI σ0 τ0 hR z3 (σ0 390 0) (by omega) (by omega)) (cwV 2 hts gX12_fresh_X12_find rfl rfl rfl (by decide +kernel) ⟨by decide, by decide⟩) (rv_M hK hP (by decide) (by decide)) rfl hl.1 rfl (Nat.le_of_ble_eq_true rfl) dX12_fresh_22 (Nat.zero_le _) (Nat.zero_le _) (fun r6 u6 H6 locs6 hp6 hP hS => ?_)
    obtain ⟨σ6, τ6⟩ := u6
    obtain ⟨hR, f6, fL6, hq6, hp6_0, hp6_1⟩ : P_X12_find_v σ0 τ0 z3 (σ0 390 0) r6 σ6 τ6 := hp6
    have hP : va_P D vwCl (gw cA ad σ6 τ6) H6 := hP
    obtain rfl := FrL.nil fL6
    obtain rfl := Fr.nil f6
    have hf0 := MN.fb gMN (by omega) (by omega) hwq hp6_1
    refine r_if_ge (tgt := 43) hx hb dX12_fresh_25 (by decide) (fun c7 => ?_) (fun c7 => ?_)
    · refine lv_aload_n hx hb dX12_fresh_43 rfl (lv_at hl 0 rfl) ?_
      refine r_iconst hx hb dX12_fresh_44 (by decide) (fun z8 ez8 => ?_)
      refine r_cVi (k := 387) (As := [.int z8]) (rest := []) ⟨hx, hb, hml, hown, hts⟩ hK hP hN hS (c_X12_bad_v l D cA ad hI σ0 τ0 hR z8 _ _ _ _ (by omega) gMK) (cwV 1 hts gX12_fresh_X12_bad rfl rfl rfl (by decide +kernel) ⟨by decide, by decide⟩) (rv_M hK hP (by decide) (by decide)) rfl hl.1 rfl (Nat.le_of_ble_eq_true rfl) dX12_fresh_45 (Nat.zero_le _) (Nat.zero_le _) (fun r9 u9 H9 locs9 hp9 hP hS => ?_)
      obtain ⟨σ9, τ9⟩ := u9
      obtain ⟨hR, f9, fL9, hq9, hp9_0, hp9_1, hp9_2, gnMK⟩ : P_X12_bad_v σ0 τ0 z8 _ _ _ _ r9 σ9 τ9 := hp9
      have hP : va_P D vwCl (gw cA ad σ9 τ9) H9 := hP
      obtain rfl := FrL.nil fL9
      have hF := hF.step f9 (by decide)
      have gMH := gMH.ag (Agr.fr f9 (by decide))
      have gMK := gMK.ag (Agr.fr f9 (by decide))
      have gMT := gMT.ag (Agr.fr f9 (by decide))
      have t10 : (σ9 387 4).toInt = (σ0 387 4).toInt := congrArg Int32.toInt (f9.at 387 4 (by decide))
      have t11 : (σ9 387 3).toInt = (σ0 387 3).toInt := congrArg Int32.toInt (f9.at 387 3 (by decide))
      have t12 : (σ9 387 11).toInt = (σ0 387 11).toInt := congrArg Int32.toInt (f9.at 387 11 (by decide))
      have t13 : (σ9 390 0).toInt = (σ0 390 0).toInt := congrArg Int32.toInt (f9.at 390 0 (by decide))
      exact r_zret hx hb hr hK hP hS hk (by omega) dX12_fresh_48 (show P_X12_fresh σ0 τ0 a1 b N mo q h nm jt r9 σ9 τ0 from ⟨hR, hF, hFL, by omega, by omega, by omega, by first | exact MO.ofk (by unfold newP; rw [if_pos (by omega)]) (by omega) (by omega) (by omega) | exact MO.ofk (by unfold newP; rw [if_neg (by omega), if_pos (by omega)]) (by omega) (by omega) (by omega) | exact MO.ofr (a := ()) (by unfold newP; rw [if_neg (by omega), if_neg (by omega)]) (by omega) ⟨gMK, fun j hj => (fnL.at2 392 j (by decide)).trans (un 392 j (by omega)), by rw [show jt = 0 by omega, fnL.at2 392 _ (by decide), vn]; exact hwq⟩, gMT, gRV, gMH⟩)
    · refine lv_aload_n hx hb dX12_fresh_28 rfl (lv_at hl 0 rfl) ?_
      refine r_bipush hx hb dX12_fresh_29 (by decide) (fun z14 ez14 => ?_)
      refine lv_aload_n hx hb dX12_fresh_31 rfl (lv_at hl 0 rfl) ?_
      refine fg_12_7 (k := 387) hx hb hts in_X12_fresh_12 hown hK hP (by decide) (by decide) (hts _ lk_X12_fresh_37) dX12_fresh_32 ?_
      refine r_iconst hx hb dX12_fresh_35 (by decide) (fun z15 ez15 => ?_)
      refine ad_mh (k := 390) (j := 1) hx hb hK hP (by decide) (by decide) (by omega) (by omega) dX12_fresh_36 ?_
      have hr16 := ra_mh_0 hR (k := 390) (j := 1) (by decide) (by decide) (by decide) (by decide)
      refine r_cVi (k := 387) (As := [.int z14, .int (σ0 390 1)]) (rest := []) ⟨hx, hb, hml, hown, hts⟩ hK hP hN hS (c_X12_find_v l D cA ad hI σ0 τ0 hR z14 (σ0 390 1) (by omega) (by omega)) (cwV 2 hts gX12_fresh_X12_find rfl rfl rfl (by decide +kernel) ⟨by decide, by decide⟩) (rv_M hK hP (by decide) (by decide)) rfl hl.1 rfl (Nat.le_of_ble_eq_true rfl) dX12_fresh_37 (Nat.zero_le _) (Nat.zero_le _) (fun r17 u17 H17 locs17 hp17 hP hS => ?_)
      obtain ⟨σ17, τ17⟩ := u17
      obtain ⟨hR, f17, fL17, hq17, hp17_0, hp17_1⟩ : P_X12_find_v σ0 τ0 z14 (σ0 390 1) r17 σ17 τ17 := hp17
      have hP : va_P D vwCl (gw cA ad σ17 τ17) H17 := hP
      obtain rfl := FrL.nil fL17
      obtain rfl := Fr.nil f17
      have hf1 := MN.fc gMN (by omega) (by omega) hwq hp17_1
      refine r_if_lt (tgt := 49) hx hb dX12_fresh_40 (by decide) (fun c18 => ?_) (fun c18 => ?_)
      · refine lv_aload_n hx hb dX12_fresh_49 rfl (lv_at hl 0 rfl) ?_
        refine fg_12_9 (k := 387) hx hb hts in_X12_fresh_12 hown hK hP (by decide) (by decide) (hts _ lk_X12_fresh_43) dX12_fresh_50 ?_
        refine lv_iload_n hx hb dX12_fresh_53 rfl (lv_at hl 1 rfl) ?_
        refine lv_aload_n hx hb dX12_fresh_54 rfl (lv_at hl 0 rfl) ?_
        refine fg_12_17 (k := 387) hx hb hts in_X12_fresh_12 hown hK hP (by decide) (by decide) (hts _ lk_X12_fresh_172) dX12_fresh_55 ?_
        obtain ⟨j19, ej19⟩ : ∃ j : Nat, a1.toInt = (j : Int) := ⟨_, ti_nat (by omega)⟩
        refine asL_mnames (k := 392) (j := j19) hx hb hK hP hI hS (by decide) (by decide) ej19 (by omega) dX12_fresh_58 (fun τ20 H20 locs20 uL20 vL20 hP hS => ?_)
        have un := uL20
        have vn := vL20
        have hFL := hFL.puts uL20 0 rfl (by decide) (by decide) (by omega) (by omega)
        have gMK := gMK.agL (AgrL.putV uL20 (by intro q hq; simp only [GdL_MK, List.mem_cons, List.not_mem_nil, or_false] at hq; rcases hq with rfl <;> dsimp only [inRc] <;> omega))
        have gRV := gRV.agL (AgrL.putV uL20 (by intro q hq; simp only [GdL_RV, List.mem_cons, List.not_mem_nil, or_false] at hq; rcases hq with rfl <;> dsimp only [inRc] <;> omega))
        refine lv_aload_n hx hb dX12_fresh_59 rfl (lv_at hl 0 rfl) ?_
        refine r_cVv (k := 387) (As := []) (rest := []) ⟨hx, hb, hml, hown, hts⟩ hK hP hN hS (c_X12_next_v l D cA ad hI σ0 τ20 hR _ _ _ _ gMK.mp gMT) (cwV 0 hts gX12_fresh_X12_next rfl rfl rfl (by decide +kernel) ⟨by decide, by decide⟩) (rv_M hK hP (by decide) (by decide)) rfl hl.1 rfl (Nat.le_of_ble_eq_true rfl) dX12_fresh_60 (Nat.zero_le _) (Nat.zero_le _) (fun u21 H21 locs21 hp21 hP hS => ?_)
        obtain ⟨σ21, τ21⟩ := u21
        obtain ⟨hR, f21, fL21, hp21_0, hp21_1, hp21_2, hp21_3, gnMT⟩ : P_X12_next_v σ0 τ20 _ _ _ _ σ21 τ21 := hp21
        have hP : va_P D vwCl (gw cA ad σ21 τ21) H21 := hP
        have fnL := fL21
        have hFL := hFL.step fL21 (by decide)
        have gRV := gRV.agL (AgrL.fr fL21 (by decide))
        have hF := hF.step f21 (by decide)
        have gMH := gMH.ag (Agr.fr f21 (by decide))
        have gMT := gMT.ag (Agr.fr f21 (by decide))
        have t22 : (σ21 387 3).toInt = (σ0 387 3).toInt := congrArg Int32.toInt (f21.at 387 3 (by decide))
        have t23 : (σ21 390 0).toInt = (σ0 390 0).toInt := congrArg Int32.toInt (f21.at 390 0 (by decide))
        have t24 : (σ21 390 1).toInt = (σ0 390 1).toInt := congrArg Int32.toInt (f21.at 390 1 (by decide))
        have hr25 := rg_12_4 hR (k := 387) (by decide) (by decide)
        have gMK := hp21_3
        refine r_iconst hx hb dX12_fresh_63 (by decide) (fun z26 ez26 => ?_)
        exact r_zret hx hb hr hK hP hS hk (by omega) dX12_fresh_64 (show P_X12_fresh σ0 τ0 a1 b N mo q h nm jt z26 σ21 τ21 from ⟨hR, hF, hFL, by omega, by omega, by omega, by first | exact MO.ofk (by unfold newP; rw [if_pos (by omega)]) (by omega) (by omega) (by omega) | exact MO.ofk (by unfold newP; rw [if_neg (by omega), if_pos (by omega)]) (by omega) (by omega) (by omega) | exact MO.ofr (a := ()) (by unfold newP; rw [if_neg (by omega), if_neg (by omega)]) (by omega) ⟨gMK, fun j hj => (fnL.at2 392 j (by decide)).trans (un 392 j (by omega)), by rw [show jt = j19 by omega, fnL.at2 392 _ (by decide), vn]; exact hwq⟩, gMT, gRV, gMH⟩)
      · refine lv_aload_n hx hb dX12_fresh_43 rfl (lv_at hl 0 rfl) ?_
        refine r_iconst hx hb dX12_fresh_44 (by decide) (fun z27 ez27 => ?_)
        refine r_cVi (k := 387) (As := [.int z27]) (rest := []) ⟨hx, hb, hml, hown, hts⟩ hK hP hN hS (c_X12_bad_v l D cA ad hI σ0 τ0 hR z27 _ _ _ _ (by omega) gMK) (cwV 1 hts gX12_fresh_X12_bad rfl rfl rfl (by decide +kernel) ⟨by decide, by decide⟩) (rv_M hK hP (by decide) (by decide)) rfl hl.1 rfl (Nat.le_of_ble_eq_true rfl) dX12_fresh_45 (Nat.zero_le _) (Nat.zero_le _) (fun r28 u28 H28 locs28 hp28 hP hS => ?_)
        obtain ⟨σ28, τ28⟩ := u28
        obtain ⟨hR, f28, fL28, hq28, hp28_0, hp28_1, hp28_2, gnMK⟩ : P_X12_bad_v σ0 τ0 z27 _ _ _ _ r28 σ28 τ28 := hp28
        have hP : va_P D vwCl (gw cA ad σ28 τ28) H28 := hP
        obtain rfl := FrL.nil fL28
        have hF := hF.step f28 (by decide)
        have gMH := gMH.ag (Agr.fr f28 (by decide))
        have gMK := gMK.ag (Agr.fr f28 (by decide))
        have gMT := gMT.ag (Agr.fr f28 (by decide))
        have t29 : (σ28 387 4).toInt = (σ0 387 4).toInt := congrArg Int32.toInt (f28.at 387 4 (by decide))
        have t30 : (σ28 387 3).toInt = (σ0 387 3).toInt := congrArg Int32.toInt (f28.at 387 3 (by decide))
        have t31 : (σ28 387 11).toInt = (σ0 387 11).toInt := congrArg Int32.toInt (f28.at 387 11 (by decide))
        have t32 : (σ28 390 0).toInt = (σ0 390 0).toInt := congrArg Int32.toInt (f28.at 390 0 (by decide))
        have t33 : (σ28 390 1).toInt = (σ0 390 1).toInt := congrArg Int32.toInt (f28.at 390 1 (by decide))
        exact r_zret hx hb hr hK hP hS hk (by omega) dX12_fresh_48 (show P_X12_fresh σ0 τ0 a1 b N mo q h nm jt r28 σ28 τ0 from ⟨hR, hF, hFL, by omega, by omega, by omega, by first | exact MO.ofk (by unfold newP; rw [if_pos (by omega)]) (by omega) (by omega) (by omega) | exact MO.ofk (by unfold newP; rw [if_neg (by omega), if_pos (by omega)]) (by omega) (by omega) (by omega) | exact MO.ofr (a := ()) (by unfold newP; rw [if_neg (by omega), if_neg (by omega)]) (by omega) ⟨gMK, fun j hj => (fnL.at2 392 j (by decide)).trans (un 392 j (by omega)), by rw [show jt = 0 by omega, fnL.at2 392 _ (by decide), vn]; exact hwq⟩, gMT, gRV, gMH⟩)
  · refine lv_aload_n hx hb dX12_fresh_7 rfl (lv_at hl 0 rfl) ?_
    refine r_iconst hx hb dX12_fresh_8 (by decide) (fun z34 ez34 => ?_)
    refine r_cVi (k := 387) (As := [.int z34]) (rest := []) ⟨hx, hb, hml, hown, hts⟩ hK hP hN hS (c_X12_bad_v l D cA ad hI σ0 τ0 hR z34 _ _ _ _ (by omega) gMK) (cwV 1 hts gX12_fresh_X12_bad rfl rfl rfl (by decide +kernel) ⟨by decide, by decide⟩) (rv_M hK hP (by decide) (by decide)) rfl hl.1 rfl (Nat.le_of_ble_eq_true rfl) dX12_fresh_9 (Nat.zero_le _) (Nat.zero_le _) (fun r35 u35 H35 locs35 hp35 hP hS => ?_)
    obtain ⟨σ35, τ35⟩ := u35
    obtain ⟨hR, f35, fL35, hq35, hp35_0, hp35_1, hp35_2, gnMK⟩ : P_X12_bad_v σ0 τ0 z34 _ _ _ _ r35 σ35 τ35 := hp35
    have hP : va_P D vwCl (gw cA ad σ35 τ35) H35 := hP
    obtain rfl := FrL.nil fL35
    have hF := hF.step f35 (by decide)
    have gMH := gMH.ag (Agr.fr f35 (by decide))
    have gMK := gMK.ag (Agr.fr f35 (by decide))
    have gMT := gMT.ag (Agr.fr f35 (by decide))
    have t36 : (σ35 387 4).toInt = (σ0 387 4).toInt := congrArg Int32.toInt (f35.at 387 4 (by decide))
    have t37 : (σ35 387 3).toInt = (σ0 387 3).toInt := congrArg Int32.toInt (f35.at 387 3 (by decide))
    have t38 : (σ35 387 11).toInt = (σ0 387 11).toInt := congrArg Int32.toInt (f35.at 387 11 (by decide))
    exact r_zret hx hb hr hK hP hS hk (by omega) dX12_fresh_12 (show P_X12_fresh σ0 τ0 a1 b N mo q h nm jt r35 σ35 τ0 from ⟨hR, hF, hFL, by omega, by omega, by omega, by first | exact MO.ofk (by unfold newP; rw [if_pos (by omega)]) (by omega) (by omega) (by omega) | exact MO.ofk (by unfold newP; rw [if_neg (by omega), if_pos (by omega)]) (by omega) (by omega) (by omega) | exact MO.ofr (a := ()) (by unfold newP; rw [if_neg (by omega), if_neg (by omega)]) (by omega) ⟨gMK, fun j hj => (fnL.at2 392 j (by decide)).trans (un 392 j (by omega)), by rw [show jt = 0 by omega, fnL.at2 392 _ (by decide), vn]; exact hwq⟩, gMT, gRV, gMH⟩)
theorem in_X12_isOnce_12 : ∀ w ∈ u_ws RX12 TX12 47, w ∈ wsX12_isOnce := by decide +kernel
theorem lk_X12_isOnce_213 : Cond.fieldLink RX12 213 "CuckooSharesModel" "onces" "I" ∈ wsX12_isOnce := by decide +kernel
abbrev L_X12_isOnce : List Rc := [(387, 387, 20, 20), (387, 387, 4, 4), (387, 387, 11, 16)]
abbrev LL_X12_isOnce : List Rc := [(387, 387, 17, 17)]
def P_X12_isOnce (σ0 : Nat → Nat → Int32) (τ0 : Nat → Nat → Int64) (a1 : Int32) (b : Nat → Int) (N : Nat) (mo : Nat) (q : Nat) (kw : Nat) (r : Int32) (σ : Nat → Nat → Int32) (τ : Nat → Nat → Int64) : Prop := Rg σ ∧ Fr L_X12_isOnce σ0 σ ∧ FrL LL_X12_isOnce τ0 τ ∧ (0 ≤ r.toInt ∧ r.toInt ≤ 1) ∧ ((σ0 387 4).toInt ≤ (σ 387 4).toInt) ∧ (r.toInt = 0 ∨ (σ 387 11).toInt ≠ 3 ∨ (σ0 387 4).toInt < (σ 387 4).toInt) ∧ (MO r σ (oncP b N mo (σ0 387 20) kw q) (fun q1 => MK σ τ b N mo q1 ∧ σ 387 20 = sbq (σ0 387 20) kw)) ∧ MT σ b N mo
set_option maxHeartbeats 4000000 in
theorem c_X12_isOnce (l : Launch) (D : va_G) (cA : Nat → ClassId) (ad : Nat → Nat) (hI : Inj ad) (σ0 : Nat → Nat → Int32) (τ0 : Nat → Nat → Int64) (hR : Rg σ0) (a1 : Int32) (b : Nat → Int) (N : Nat) (mo : Nat) (q : Nat) (kw : Nat) (ha1 : 0 ≤ a1.toInt ∧ a1.toInt ≤ 2) (hpre0 : a1.toInt = (kw : Int)) (hpre1 : kw ≤ 2) (gMT0 : MT σ0 b N mo) (gMK0 : MK σ0 τ0 b N mo q) : Met l yX12_isOnce wsX12_isOnce ({ frames := 2, cells := 0, slots := 0, locals := 43 } : Room) (WQc D cA ad [.ref (ad 387), .int a1] σ0 τ0) (va_Qi (fun (r : Int32) (u : SS) => P_X12_isOnce σ0 τ0 a1 b N mo q kw r u.1 u.2) (WB D cA ad) (AA ad)) 0 0 (AA ad) := by
  refine Met.ofW (cc := cX12_isOnce) (maxL := 2) (ret := (some .boolean)) (by decide) rfl ?_
  intro p e s m args below meth c s₁ B hml hv
  obtain ⟨rfl, hP, hK, hN⟩ := hv
  have C : Cy p s m _ meth c cX12_isOnce 2 wsX12_isOnce RX12 D cA ad (some .boolean) := ⟨B.exec, B.bytes, hml, findClass_of_methodNamed B.named, atoms_spec (ws := wsX12_isOnce) B.pre, hK, B.notSynchronized, B.returns, hI, hN⟩
  have hl := lv_entry ([.ref (ad 387), .int a1]) (n := 2) (Nat.le_of_ble_eq_true rfl)
  rw [lg_entry_eq]
  generalize (lg_sl ([.ref (ad 387), .int a1]) ++ List.replicate (2 - (lg_sl ([.ref (ad 387), .int a1])).length) Slot.unset).toArray = ls at hl ⊢
  have hl : lv_has ls 2 [(0, .ref (ad 387)), (1, .int a1)] := hl
  have hS : va_S (AA ad) s.heap s.heap [] := va_S.rf
  have hF : Fr L_X12_isOnce σ0 σ0 := Fr.rf
  have hFL : FrL LL_X12_isOnce τ0 τ0 := FrL.rf
  have gMT := gMT0
  have gMK := gMK0
  obtain ⟨hx, hb, _, hown, hts, _, hk, hr, _, _⟩ := C
  have hrt4 := rg_12_4 hR (k := 387) (by decide) (by decide)
  have hrt3 := rg_12_3 hR (k := 387) (by decide) (by decide)
  refine lv_aload_n hx hb dX12_isOnce_0 rfl (lv_at hl 0 rfl) ?_
  refine fg_12_20 (k := 387) hx hb hts in_X12_isOnce_12 hown hK hP (by decide) (by decide) (hts _ lk_X12_isOnce_213) dX12_isOnce_1 ?_
  refine lv_iload_n hx hb dX12_isOnce_4 rfl (lv_at hl 1 rfl) ?_
  refine r_cSi (As := [.int (σ0 387 20), .int a1]) (rest := []) ⟨hx, hb, hml, hown, hts⟩ hK hP hN hS (c_X12_bitOf l D cA ad hI σ0 τ0 hR (σ0 387 20) a1 (by omega)) (va_cwS 2 hts gX12_isOnce_X12_bitOf rfl rfl rfl (by decide +kernel) ⟨by decide, by decide⟩) rfl hl.1 rfl (Nat.le_of_ble_eq_true rfl) dX12_isOnce_5 (Nat.zero_le _) (Nat.zero_le _) (fun r1 u1 H1 locs1 hp1 hP hS => ?_)
  obtain ⟨σ1, τ1⟩ := u1
  obtain ⟨hR, f1, fL1, hq1, hp1_0⟩ : P_X12_bitOf σ0 τ0 (σ0 387 20) a1 r1 σ1 τ1 := hp1
  have hbt := hp1_0
  have hP : va_P D vwCl (gw cA ad σ1 τ1) H1 := hP
  obtain rfl := FrL.nil fL1
  obtain rfl := Fr.nil f1
  refine r_if_eq (tgt := 17) hx hb dX12_isOnce_8 (by decide) (fun c2 => ?_) (fun c2 => ?_)
  · refine lv_aload_n hx hb dX12_isOnce_17 rfl (lv_at hl 0 rfl) ?_
    refine lv_dup hx hb dX12_isOnce_18 rfl ?_
    refine fg_12_20 (k := 387) hx hb hts in_X12_isOnce_12 hown hK hP (by decide) (by decide) (hts _ lk_X12_isOnce_213) dX12_isOnce_19 ?_
    refine lv_iconst (v := 1) hx hb dX12_isOnce_22 (by decide) ?_
    have kcz3 : (1 : Int32).toInt = 1 := rfl
    refine lv_iload_n hx hb dX12_isOnce_23 rfl (lv_at hl 1 rfl) ?_
    refine lv_ishl hx hb dX12_isOnce_24 ?_
    refine lv_ior hx hb dX12_isOnce_25 ?_
    refine fp_12_20 (k := 387) hx hb hts in_X12_isOnce_12 hown hK hP (by decide) (by decide) (hts _ lk_X12_isOnce_213) hI hR hS dX12_isOnce_26 (fun σ4 H4 locs4 u4 v4 hR hP hS => ?_)
    have us := u4
    have vs := v4
    have hF := hF.puts u4 0 rfl (by decide) (by decide) (by decide) (by decide)
    have gMK := gMK.ag (Agr.put u4 (by decide))
    have gMT := gMT.ag (Agr.put u4 (by decide))
    have t5 : (σ4 387 4).toInt = (σ0 387 4).toInt := congrArg Int32.toInt (u4 387 4 (by omega))
    have t6 : (σ4 387 3).toInt = (σ0 387 3).toInt := congrArg Int32.toInt (u4 387 3 (by omega))
    have t7 : (σ4 387 11).toInt = (σ0 387 11).toInt := congrArg Int32.toInt (u4 387 11 (by omega))
    have hsb := sb_e (k := kw) (x := a1) (by omega) (by omega) vs
    refine lv_aload_n hx hb dX12_isOnce_29 rfl (lv_at hl 0 rfl) ?_
    refine r_cVv (k := 387) (As := []) (rest := []) ⟨hx, hb, hml, hown, hts⟩ hK hP hN hS (c_X12_next_v l D cA ad hI σ4 τ0 hR _ _ _ _ gMK.mp gMT) (cwV 0 hts gX12_isOnce_X12_next rfl rfl rfl (by decide +kernel) ⟨by decide, by decide⟩) (rv_M hK hP (by decide) (by decide)) rfl hl.1 rfl (Nat.le_of_ble_eq_true rfl) dX12_isOnce_30 (Nat.zero_le _) (Nat.zero_le _) (fun u8 H8 locs8 hp8 hP hS => ?_)
    obtain ⟨σ8, τ8⟩ := u8
    obtain ⟨hR, f8, fL8, hp8_0, hp8_1, hp8_2, hp8_3, gnMT⟩ : P_X12_next_v σ4 τ0 _ _ _ _ σ8 τ8 := hp8
    have fn := f8
    have hP : va_P D vwCl (gw cA ad σ8 τ8) H8 := hP
    have hFL := hFL.step fL8 (by decide)
    have hF := hF.step f8 (by decide)
    have gMT := gMT.ag (Agr.fr f8 (by decide))
    have t9 : (σ8 387 3).toInt = (σ4 387 3).toInt := congrArg Int32.toInt (f8.at 387 3 (by decide))
    have t10 : (σ8 387 20).toInt = (σ4 387 20).toInt := congrArg Int32.toInt (f8.at 387 20 (by decide))
    have hr11 := rg_12_4 hR (k := 387) (by decide) (by decide)
    have gMK := hp8_3
    refine r_iconst hx hb dX12_isOnce_33 (by decide) (fun z12 ez12 => ?_)
    exact r_zret hx hb hr hK hP hS hk (by omega) dX12_isOnce_34 (show P_X12_isOnce σ0 τ0 a1 b N mo q kw z12 σ8 τ8 from ⟨hR, hF, hFL, by omega, by omega, by omega, by first | exact MO.ofk (by unfold oncP; rw [if_pos (BT.y hbt (by omega) (by omega) (by omega))]) (by omega) (by omega) (by omega) | exact MO.ofr (by unfold oncP; rw [if_neg (BT.n hbt (by omega) (by omega) (by omega))]) (by omega) ⟨gMK, (fn.at 387 20 (by decide)).trans hsb⟩, gMT⟩)
  · refine lv_aload_n hx hb dX12_isOnce_11 rfl (lv_at hl 0 rfl) ?_
    refine r_iconst hx hb dX12_isOnce_12 (by decide) (fun z13 ez13 => ?_)
    refine r_cVi (k := 387) (As := [.int z13]) (rest := []) ⟨hx, hb, hml, hown, hts⟩ hK hP hN hS (c_X12_bad_v l D cA ad hI σ0 τ0 hR z13 _ _ _ _ (by omega) gMK) (cwV 1 hts gX12_isOnce_X12_bad rfl rfl rfl (by decide +kernel) ⟨by decide, by decide⟩) (rv_M hK hP (by decide) (by decide)) rfl hl.1 rfl (Nat.le_of_ble_eq_true rfl) dX12_isOnce_13 (Nat.zero_le _) (Nat.zero_le _) (fun r14 u14 H14 locs14 hp14 hP hS => ?_)
    obtain ⟨σ14, τ14⟩ := u14
    obtain ⟨hR, f14, fL14, hq14, hp14_0, hp14_1, hp14_2, gnMK⟩ : P_X12_bad_v σ0 τ0 z13 _ _ _ _ r14 σ14 τ14 := hp14
    have hP : va_P D vwCl (gw cA ad σ14 τ14) H14 := hP
    obtain rfl := FrL.nil fL14
    have hF := hF.step f14 (by decide)
    have gMK := gMK.ag (Agr.fr f14 (by decide))
    have gMT := gMT.ag (Agr.fr f14 (by decide))
    have t15 : (σ14 387 4).toInt = (σ0 387 4).toInt := congrArg Int32.toInt (f14.at 387 4 (by decide))
    have t16 : (σ14 387 3).toInt = (σ0 387 3).toInt := congrArg Int32.toInt (f14.at 387 3 (by decide))
    have t17 : (σ14 387 11).toInt = (σ0 387 11).toInt := congrArg Int32.toInt (f14.at 387 11 (by decide))
    have t18 : (σ14 387 20).toInt = (σ0 387 20).toInt := congrArg Int32.toInt (f14.at 387 20 (by decide))
    exact r_zret hx hb hr hK hP hS hk (by omega) dX12_isOnce_16 (show P_X12_isOnce σ0 τ0 a1 b N mo q kw r14 σ14 τ0 from ⟨hR, hF, hFL, by omega, by omega, by omega, by first | exact MO.ofk (by unfold oncP; rw [if_pos (BT.y hbt (by omega) (by omega) (by omega))]) (by omega) (by omega) (by omega) | exact MO.ofr (by unfold oncP; rw [if_neg (BT.n hbt (by omega) (by omega) (by omega))]) (by omega) ⟨gMK, (fn.at 387 20 (by decide)).trans hsb⟩, gMT⟩)
theorem in_X12_isWord_12 : ∀ w ∈ u_ws RX12 TX12 47, w ∈ wsX12_isWord := by decide +kernel
theorem lk_X12_isWord_159 : Cond.fieldLink RX12 159 "CuckooSharesModel" "token" "I" ∈ wsX12_isWord := by decide +kernel
theorem lk_X12_isWord_172 : Cond.fieldLink RX12 172 "CuckooSharesModel" "word" "J" ∈ wsX12_isWord := by decide +kernel
abbrev L_X12_isWord_v : List Rc := []
abbrev LL_X12_isWord_v : List Rc := []
def P_X12_isWord_v (σ0 : Nat → Nat → Int32) (τ0 : Nat → Nat → Int64) (a1 : Int64) (b : Nat → Int) (N : Nat) (mo : Nat) (q : Nat) (kw : Nat) (r : Int32) (σ : Nat → Nat → Int32) (τ : Nat → Nat → Int64) : Prop := Rg σ ∧ Fr L_X12_isWord_v σ0 σ ∧ FrL LL_X12_isWord_v τ0 τ ∧ (0 ≤ r.toInt ∧ r.toInt ≤ 1) ∧ (r.toInt = 0 ∨ (σ0 387 11).toInt = 1) ∧ ((r.toInt = 1 ∧ tkq b N mo q = (kw : Int)) ∨ (r.toInt = 0 ∧ tkq b N mo q ≠ (kw : Int))) ∧ MK σ τ b N mo q
set_option maxHeartbeats 4000000 in
theorem c_X12_isWord_v (l : Launch) (D : va_G) (cA : Nat → ClassId) (ad : Nat → Nat) (hI : Inj ad) (σ0 : Nat → Nat → Int32) (τ0 : Nat → Nat → Int64) (hR : Rg σ0) (a1 : Int64) (b : Nat → Int) (N : Nat) (mo : Nat) (q : Nat) (kw : Nat) (hpre0 : a1.toInt = RWl.getD kw 0) (hpre1 : kw < 31) (gMK0 : MK σ0 τ0 b N mo q) : Met l yX12_isWord wsX12_isWord ({ frames := 0, cells := 0, slots := 0, locals := 0 } : Room) (WQc D cA ad [.ref (ad 387), .long a1] σ0 τ0) (va_Qi (fun (r : Int32) (u : SS) => P_X12_isWord_v σ0 τ0 a1 b N mo q kw r u.1 u.2) (WB D cA ad) (AA ad)) 0 0 (AA ad) := by
  refine Met.ofW (cc := cX12_isWord) (maxL := 3) (ret := (some .boolean)) (by decide) rfl ?_
  intro p e s m args below meth c s₁ B hml hv
  obtain ⟨rfl, hP, hK, hN⟩ := hv
  have C : Cy p s m _ meth c cX12_isWord 3 wsX12_isWord RX12 D cA ad (some .boolean) := ⟨B.exec, B.bytes, hml, findClass_of_methodNamed B.named, atoms_spec (ws := wsX12_isWord) B.pre, hK, B.notSynchronized, B.returns, hI, hN⟩
  have hl := lv_entry ([.ref (ad 387), .long a1]) (n := 3) (Nat.le_of_ble_eq_true rfl)
  rw [lg_entry_eq]
  generalize (lg_sl ([.ref (ad 387), .long a1]) ++ List.replicate (3 - (lg_sl ([.ref (ad 387), .long a1])).length) Slot.unset).toArray = ls at hl ⊢
  have hl : lv_has ls 3 [(0, .ref (ad 387)), (1, .long a1)] := hl
  have hS : va_S (AA ad) s.heap s.heap [] := va_S.rf
  have hF : Fr L_X12_isWord_v σ0 σ0 := Fr.rf
  have hFL : FrL LL_X12_isWord_v τ0 τ0 := FrL.rf
  have gMK := gMK0
  obtain ⟨hx, hb, _, hown, hts, _, hk, hr, _, _⟩ := C
  have hwd := gMK.wd hpre0 hpre1
  refine lv_aload_n hx hb dX12_isWord_0 rfl (lv_at hl 0 rfl) ?_
  refine fg_12_11 (k := 387) hx hb hts in_X12_isWord_12 hown hK hP (by decide) (by decide) (hts _ lk_X12_isWord_159) dX12_isWord_1 ?_
  refine r_iconst hx hb dX12_isWord_4 (by decide) (fun z1 ez1 => ?_)
  refine r_icmp_ne (tgt := 21) hx hb dX12_isWord_5 (by decide) (fun c2 => ?_) (fun c2 => ?_)
  · refine r_iconst hx hb dX12_isWord_21 (by decide) (fun z3 ez3 => ?_)
    exact r_zret hx hb hr hK hP hS hk (by omega) dX12_isWord_22 (show P_X12_isWord_v σ0 τ0 a1 b N mo q kw z3 σ0 τ0 from ⟨hR, hF, hFL, by omega, by omega, by first | exact Or.inl ⟨by omega, hwd.mp ⟨by omega, lc.mp (by omega)⟩⟩ | exact Or.inr ⟨by omega, fun h => absurd (hwd.mpr h).1 (by omega)⟩ | exact Or.inr ⟨by omega, fun h => absurd (lc.mpr (hwd.mpr h).2) (by omega)⟩, gMK⟩)
  · refine lv_aload_n hx hb dX12_isWord_8 rfl (lv_at hl 0 rfl) ?_
    refine fg_12_17 (k := 387) hx hb hts in_X12_isWord_12 hown hK hP (by decide) (by decide) (hts _ lk_X12_isWord_172) dX12_isWord_9 ?_
    refine lv_lload_n hx hb dX12_isWord_12 rfl (lv_at hl 1 rfl) ?_
    refine r_lcmpE hx hb dX12_isWord_13 (fun z4 ez4 => ?_)
    have lc := ez4
    refine r_if_ne (tgt := 21) hx hb dX12_isWord_14 (by decide) (fun c5 => ?_) (fun c5 => ?_)
    · refine r_iconst hx hb dX12_isWord_21 (by decide) (fun z6 ez6 => ?_)
      exact r_zret hx hb hr hK hP hS hk (by omega) dX12_isWord_22 (show P_X12_isWord_v σ0 τ0 a1 b N mo q kw z6 σ0 τ0 from ⟨hR, hF, hFL, by omega, by omega, by first | exact Or.inl ⟨by omega, hwd.mp ⟨by omega, lc.mp (by omega)⟩⟩ | exact Or.inr ⟨by omega, fun h => absurd (hwd.mpr h).1 (by omega)⟩ | exact Or.inr ⟨by omega, fun h => absurd (lc.mpr (hwd.mpr h).2) (by omega)⟩, gMK⟩)
    · refine r_iconst hx hb dX12_isWord_17 (by decide) (fun z7 ez7 => ?_)
      refine lv_goto (tgt := 22) hx hb dX12_isWord_18 (by decide) ?_
      exact r_zret hx hb hr hK hP hS hk (by omega) dX12_isWord_22 (show P_X12_isWord_v σ0 τ0 a1 b N mo q kw z7 σ0 τ0 from ⟨hR, hF, hFL, by omega, by omega, by first | exact Or.inl ⟨by omega, hwd.mp ⟨by omega, lc.mp (by omega)⟩⟩ | exact Or.inr ⟨by omega, fun h => absurd (hwd.mpr h).1 (by omega)⟩ | exact Or.inr ⟨by omega, fun h => absurd (lc.mpr (hwd.mpr h).2) (by omega)⟩, gMK⟩)
theorem in_X12_looksAt_12 : ∀ w ∈ u_ws RX12 TX12 47, w ∈ wsX12_looksAt := by decide +kernel
theorem lk_X12_looksAt_195 : Cond.fieldLink RX12 195 "CuckooSharesModel" "got" "I" ∈ wsX12_looksAt := by decide +kernel
abbrev L_X12_looksAt_v : List Rc := [(387, 387, 15, 16), (387, 387, 18, 18)]
abbrev LL_X12_looksAt_v : List Rc := []
def P_X12_looksAt_v (σ0 : Nat → Nat → Int32) (τ0 : Nat → Nat → Int64) (a1 : Int32) (a2 : Int32) (b : Nat → Int) (N : Nat) (mo : Nat) (q : Nat) (h : Nat → Int) (nm : Nat → Int) (lk : Nat → Int) (n0 : Nat) (oo : Nat) (r : Int32) (σ : Nat → Nat → Int32) (τ : Nat → Nat → Int64) : Prop := Rg σ ∧ Fr L_X12_looksAt_v σ0 σ ∧ FrL LL_X12_looksAt_v τ0 τ ∧ (0 ≤ r.toInt ∧ r.toInt ≤ 1) ∧ (r.toInt = 0 ∨ (0 ≤ (σ 387 18).toInt ∧ (σ 387 18).toInt ≤ 7)) ∧ (r.toInt = 0 ∨ 1 ≤ a2.toInt) ∧ (MO r σ (lokP b N mo lk n0 q) (fun k => (σ 387 18).toInt = k)) ∧ MK σ τ b N mo q ∧ RV τ  ∧ MN τ h nm
set_option maxHeartbeats 4000000 in
theorem c_X12_looksAt_v (l : Launch) (D : va_G) (cA : Nat → ClassId) (ad : Nat → Nat) (hI : Inj ad) (σ0 : Nat → Nat → Int32) (τ0 : Nat → Nat → Int64) (hR : Rg σ0) (a1 : Int32) (a2 : Int32) (b : Nat → Int) (N : Nat) (mo : Nat) (q : Nat) (h : Nat → Int) (nm : Nat → Int) (lk : Nat → Int) (n0 : Nat) (oo : Nat) (ha1 : 16 ≤ a1.toInt ∧ a1.toInt ≤ 24) (ha2 : 0 ≤ a2.toInt ∧ a2.toInt ≤ 8) (hpre0 : a1.toInt = (oo : Int)) (hpre1 : (oo = 16 ∧ lk = nm ∧ n0 = (h 0).toNat ∧ a2.toInt = h 0) ∨ (oo = 24 ∧ lk = n8 nm ∧ n0 = (h 1).toNat ∧ a2.toInt = h 1)) (hpre2 : 0 ≤ a2.toInt ∧ a2.toInt ≤ 8) (gMK0 : MK σ0 τ0 b N mo q) (gRV0 : RV τ0 ) (gMN0 : MN τ0 h nm) : Met l yX12_looksAt wsX12_looksAt ({ frames := 1, cells := 0, slots := 0, locals := 23 } : Room) (WQc D cA ad [.ref (ad 387), .int a1, .int a2] σ0 τ0) (va_Qi (fun (r : Int32) (u : SS) => P_X12_looksAt_v σ0 τ0 a1 a2 b N mo q h nm lk n0 oo r u.1 u.2) (WB D cA ad) (AA ad)) 0 0 (AA ad) := by
  refine Met.ofW (cc := cX12_looksAt) (maxL := 3) (ret := (some .boolean)) (by decide) rfl ?_
  intro p e s m args below meth c s₁ B hml hv
  obtain ⟨rfl, hP, hK, hN⟩ := hv
  have C : Cy p s m _ meth c cX12_looksAt 3 wsX12_looksAt RX12 D cA ad (some .boolean) := ⟨B.exec, B.bytes, hml, findClass_of_methodNamed B.named, atoms_spec (ws := wsX12_looksAt) B.pre, hK, B.notSynchronized, B.returns, hI, hN⟩
  have hl := lv_entry ([.ref (ad 387), .int a1, .int a2]) (n := 3) (Nat.le_of_ble_eq_true rfl)
  rw [lg_entry_eq]
  generalize (lg_sl ([.ref (ad 387), .int a1, .int a2]) ++ List.replicate (3 - (lg_sl ([.ref (ad 387), .int a1, .int a2])).length) Slot.unset).toArray = ls at hl ⊢
  have hl : lv_has ls 3 [(0, .ref (ad 387)), (1, .int a1), (2, .int a2)] := hl
  have hS : va_S (AA ad) s.heap s.heap [] := va_S.rf
  have hF : Fr L_X12_looksAt_v σ0 σ0 := Fr.rf
  have hFL : FrL LL_X12_looksAt_v τ0 τ0 := FrL.rf
  have gMK := gMK0
  have gRV := gRV0
  have gMN := gMN0
  obtain ⟨hx, hb, _, hown, hts, _, hk, hr, _, _⟩ := C
  refine lv_aload_n hx hb dX12_looksAt_0 rfl (lv_at hl 0 rfl) ?_
  refine r_cVi (k := 387) (As := []) (rest := []) ⟨hx, hb, hml, hown, hts⟩ hK hP hN hS (c_X12_isName_v l D cA ad hI σ0 τ0 hR _ _ _ _ gMK gRV) (cwV 0 hts gX12_looksAt_X12_isName rfl rfl rfl (by decide +kernel) ⟨by decide, by decide⟩) (rv_M hK hP (by decide) (by decide)) rfl hl.1 rfl (Nat.le_of_ble_eq_true rfl) dX12_looksAt_1 (Nat.zero_le _) (Nat.zero_le _) (fun r1 u1 H1 locs1 hp1 hP hS => ?_)
  obtain ⟨σ1, τ1⟩ := u1
  obtain ⟨hR, f1, fL1, hq1, hp1_0, gnMK, gnRV⟩ : P_X12_isName_v σ0 τ0 _ _ _ _ r1 σ1 τ1 := hp1
  have hP : va_P D vwCl (gw cA ad σ1 τ1) H1 := hP
  obtain rfl := FrL.nil fL1
  obtain rfl := Fr.nil f1
  refine r_if_ne (tgt := 13) hx hb dX12_looksAt_4 (by decide) (fun c2 => ?_) (fun c2 => ?_)
  · refine lv_aload_n hx hb dX12_looksAt_13 rfl (lv_at hl 0 rfl) ?_
    refine lv_aload_n hx hb dX12_looksAt_14 rfl (lv_at hl 0 rfl) ?_
    refine lv_iload_n hx hb dX12_looksAt_15 rfl (lv_at hl 1 rfl) ?_
    refine lv_iload_n hx hb dX12_looksAt_16 rfl (lv_at hl 2 rfl) ?_
    refine r_cVi (k := 387) (As := [.int a1, .int a2]) (rest := [.ref (ad 387)]) ⟨hx, hb, hml, hown, hts⟩ hK hP hN hS (c_X12_find_v l D cA ad hI σ0 τ0 hR a1 a2 (by omega) (by omega)) (cwV 2 hts gX12_looksAt_X12_find rfl rfl rfl (by decide +kernel) ⟨by decide, by decide⟩) (rv_M hK hP (by decide) (by decide)) rfl hl.1 rfl (Nat.le_of_ble_eq_true rfl) dX12_looksAt_17 (Nat.zero_le _) (Nat.zero_le _) (fun r3 u3 H3 locs3 hp3 hP hS => ?_)
    obtain ⟨σ3, τ3⟩ := u3
    obtain ⟨hR, f3, fL3, hq3, hp3_0, hp3_1⟩ : P_X12_find_v σ0 τ0 a1 a2 r3 σ3 τ3 := hp3
    have hP : va_P D vwCl (gw cA ad σ3 τ3) H3 := hP
    obtain rfl := FrL.nil fL3
    obtain rfl := Fr.nil f3
    have hfd := MN.fa gMN gMK hpre1 (by omega) (by omega) (by omega) hp3_1
    have hfr := fndq_rg lk (wdq b N q) n0
    refine fp_12_18 (k := 387) hx hb hts in_X12_looksAt_12 hown hK hP (by decide) (by decide) (hts _ lk_X12_looksAt_195) hI hR hS dX12_looksAt_20 (fun σ4 H4 locs4 u4 v4 hR hP hS => ?_)
    have hF := hF.puts u4 1 rfl (by decide) (by decide) (by decide) (by decide)
    have gMK := gMK.ag (Agr.put u4 (by decide))
    refine lv_aload_n hx hb dX12_looksAt_23 rfl (lv_at hl 0 rfl) ?_
    refine fg_12_18 (k := 387) hx hb hts in_X12_looksAt_12 hown hK hP (by decide) (by decide) (hts _ lk_X12_looksAt_195) dX12_looksAt_24 ?_
    refine r_if_ge (tgt := 38) hx hb dX12_looksAt_27 (by decide) (fun c5 => ?_) (fun c5 => ?_)
    · refine r_iconst hx hb dX12_looksAt_38 (by decide) (fun z6 ez6 => ?_)
      refine lv_goto (tgt := 43) hx hb dX12_looksAt_39 (by decide) ?_
      exact r_zret hx hb hr hK hP hS hk (by omega) dX12_looksAt_43 (show P_X12_looksAt_v σ0 τ0 a1 a2 b N mo q h nm lk n0 oo z6 σ4 τ0 from ⟨hR, hF, hFL, by omega, by omega, by omega, by first | exact MO.ofk (by unfold lokP; rw [if_pos (by omega)]) (by omega) (by omega) (by omega) | exact MO.ofk (by unfold lokP; rw [if_neg (by omega), if_pos (by omega)]) (by omega) (by omega) (by omega) | exact MO.ofr (by unfold lokP; rw [if_neg (by omega), if_neg (by omega)]) (by omega) (by omega), gMK, gRV, gMN⟩)
    · refine lv_aload_n hx hb dX12_looksAt_30 rfl (lv_at hl 0 rfl) ?_
      refine r_iconst hx hb dX12_looksAt_31 (by decide) (fun z7 ez7 => ?_)
      refine r_cVi (k := 387) (As := [.int z7]) (rest := []) ⟨hx, hb, hml, hown, hts⟩ hK hP hN hS (c_X12_bad_v l D cA ad hI σ4 τ0 hR z7 _ _ _ _ (by omega) gMK) (cwV 1 hts gX12_looksAt_X12_bad rfl rfl rfl (by decide +kernel) ⟨by decide, by decide⟩) (rv_M hK hP (by decide) (by decide)) rfl hl.1 rfl (Nat.le_of_ble_eq_true rfl) dX12_looksAt_32 (Nat.zero_le _) (Nat.zero_le _) (fun r8 u8 H8 locs8 hp8 hP hS => ?_)
      obtain ⟨σ8, τ8⟩ := u8
      obtain ⟨hR, f8, fL8, hq8, hp8_0, hp8_1, hp8_2, gnMK⟩ : P_X12_bad_v σ4 τ0 z7 _ _ _ _ r8 σ8 τ8 := hp8
      have hP : va_P D vwCl (gw cA ad σ8 τ8) H8 := hP
      obtain rfl := FrL.nil fL8
      have hF := hF.step f8 (by decide)
      have gMK := gMK.ag (Agr.fr f8 (by decide))
      have t9 : (σ8 387 18).toInt = (σ4 387 18).toInt := congrArg Int32.toInt (f8.at 387 18 (by decide))
      refine r_if_eq (tgt := 42) hx hb dX12_looksAt_35 (by decide) (fun c10 => ?_) (fun c10 => ?_)
      · refine r_iconst hx hb dX12_looksAt_42 (by decide) (fun z11 ez11 => ?_)
        exact r_zret hx hb hr hK hP hS hk (by omega) dX12_looksAt_43 (show P_X12_looksAt_v σ0 τ0 a1 a2 b N mo q h nm lk n0 oo z11 σ8 τ0 from ⟨hR, hF, hFL, by omega, by omega, by omega, by first | exact MO.ofk (by unfold lokP; rw [if_pos (by omega)]) (by omega) (by omega) (by omega) | exact MO.ofk (by unfold lokP; rw [if_neg (by omega), if_pos (by omega)]) (by omega) (by omega) (by omega) | exact MO.ofr (by unfold lokP; rw [if_neg (by omega), if_neg (by omega)]) (by omega) (by omega), gMK, gRV, gMN⟩)
      · exfalso; omega
  · refine lv_aload_n hx hb dX12_looksAt_7 rfl (lv_at hl 0 rfl) ?_
    refine r_iconst hx hb dX12_looksAt_8 (by decide) (fun z12 ez12 => ?_)
    refine r_cVi (k := 387) (As := [.int z12]) (rest := []) ⟨hx, hb, hml, hown, hts⟩ hK hP hN hS (c_X12_bad_v l D cA ad hI σ0 τ0 hR z12 _ _ _ _ (by omega) gMK) (cwV 1 hts gX12_looksAt_X12_bad rfl rfl rfl (by decide +kernel) ⟨by decide, by decide⟩) (rv_M hK hP (by decide) (by decide)) rfl hl.1 rfl (Nat.le_of_ble_eq_true rfl) dX12_looksAt_9 (Nat.zero_le _) (Nat.zero_le _) (fun r13 u13 H13 locs13 hp13 hP hS => ?_)
    obtain ⟨σ13, τ13⟩ := u13
    obtain ⟨hR, f13, fL13, hq13, hp13_0, hp13_1, hp13_2, gnMK⟩ : P_X12_bad_v σ0 τ0 z12 _ _ _ _ r13 σ13 τ13 := hp13
    have hP : va_P D vwCl (gw cA ad σ13 τ13) H13 := hP
    obtain rfl := FrL.nil fL13
    have hF := hF.step f13 (by decide)
    have gMK := gMK.ag (Agr.fr f13 (by decide))
    have t14 : (σ13 387 18).toInt = (σ0 387 18).toInt := congrArg Int32.toInt (f13.at 387 18 (by decide))
    exact r_zret hx hb hr hK hP hS hk (by omega) dX12_looksAt_12 (show P_X12_looksAt_v σ0 τ0 a1 a2 b N mo q h nm lk n0 oo r13 σ13 τ0 from ⟨hR, hF, hFL, by omega, by omega, by omega, by first | exact MO.ofk (by unfold lokP; rw [if_pos (by omega)]) (by omega) (by omega) (by omega) | exact MO.ofk (by unfold lokP; rw [if_neg (by omega), if_pos (by omega)]) (by omega) (by omega) (by omega) | exact MO.ofr (by unfold lokP; rw [if_neg (by omega), if_neg (by omega)]) (by omega) (by omega), gMK, gRV, gMN⟩)
abbrev L_X12_isIn : List Rc := []
abbrev LL_X12_isIn : List Rc := []
def P_X12_isIn (σ0 : Nat → Nat → Int32) (τ0 : Nat → Nat → Int64) (a0 : Int32) (a1 : Int32) (a2 : Int32) (r : Int32) (σ : Nat → Nat → Int32) (τ : Nat → Nat → Int64) : Prop := Rg σ ∧ Fr L_X12_isIn σ0 σ ∧ FrL LL_X12_isIn τ0 τ ∧ (0 ≤ r.toInt ∧ r.toInt ≤ 1) ∧ (r.toInt = 0 ∨ (r.toInt = 1 ∧ a1.toInt ≤ a0.toInt ∧ a0.toInt ≤ a2.toInt)) ∧ (r.toInt = 1 ∨ a0.toInt < a1.toInt ∨ a2.toInt < a0.toInt)
set_option maxHeartbeats 4000000 in
theorem c_X12_isIn (l : Launch) (D : va_G) (cA : Nat → ClassId) (ad : Nat → Nat) (hI : Inj ad) (σ0 : Nat → Nat → Int32) (τ0 : Nat → Nat → Int64) (hR : Rg σ0) (a0 : Int32) (a1 : Int32) (a2 : Int32)  : Met l yX12_isIn wsX12_isIn ({ frames := 0, cells := 0, slots := 0, locals := 0 } : Room) (WQc D cA ad [.int a0, .int a1, .int a2] σ0 τ0) (va_Qi (fun (r : Int32) (u : SS) => P_X12_isIn σ0 τ0 a0 a1 a2 r u.1 u.2) (WB D cA ad) (AA ad)) 0 0 (AA ad) := by
  refine Met.ofW (cc := cX12_isIn) (maxL := 3) (ret := (some .boolean)) (by decide) rfl ?_
  intro p e s m args below meth c s₁ B hml hv
  obtain ⟨rfl, hP, hK, hN⟩ := hv
  have C : Cy p s m _ meth c cX12_isIn 3 wsX12_isIn RX12 D cA ad (some .boolean) := ⟨B.exec, B.bytes, hml, findClass_of_methodNamed B.named, atoms_spec (ws := wsX12_isIn) B.pre, hK, B.notSynchronized, B.returns, hI, hN⟩
  have hl := lv_entry ([.int a0, .int a1, .int a2]) (n := 3) (Nat.le_of_ble_eq_true rfl)
  rw [lg_entry_eq]
  generalize (lg_sl ([.int a0, .int a1, .int a2]) ++ List.replicate (3 - (lg_sl ([.int a0, .int a1, .int a2])).length) Slot.unset).toArray = ls at hl ⊢
  have hl : lv_has ls 3 [(0, .int a0), (1, .int a1), (2, .int a2)] := hl
  have hS : va_S (AA ad) s.heap s.heap [] := va_S.rf
  have hF : Fr L_X12_isIn σ0 σ0 := Fr.rf
  have hFL : FrL LL_X12_isIn τ0 τ0 := FrL.rf
  obtain ⟨hx, hb, _, hown, hts, _, hk, hr, _, _⟩ := C
  refine lv_iload_n hx hb dX12_isIn_0 rfl (lv_at hl 0 rfl) ?_
  refine lv_iload_n hx hb dX12_isIn_1 rfl (lv_at hl 1 rfl) ?_
  refine r_icmp_lt (tgt := 14) hx hb dX12_isIn_2 (by decide) (fun c1 => ?_) (fun c1 => ?_)
  · refine r_iconst hx hb dX12_isIn_14 (by decide) (fun z2 ez2 => ?_)
    exact r_zret hx hb hr hK hP hS hk (by omega) dX12_isIn_15 (show P_X12_isIn σ0 τ0 a0 a1 a2 z2 σ0 τ0 from ⟨hR, hF, hFL, by omega, by omega, by omega⟩)
  · refine lv_iload_n hx hb dX12_isIn_5 rfl (lv_at hl 0 rfl) ?_
    refine lv_iload_n hx hb dX12_isIn_6 rfl (lv_at hl 2 rfl) ?_
    refine r_icmp_gt (tgt := 14) hx hb dX12_isIn_7 (by decide) (fun c3 => ?_) (fun c3 => ?_)
    · refine r_iconst hx hb dX12_isIn_14 (by decide) (fun z4 ez4 => ?_)
      exact r_zret hx hb hr hK hP hS hk (by omega) dX12_isIn_15 (show P_X12_isIn σ0 τ0 a0 a1 a2 z4 σ0 τ0 from ⟨hR, hF, hFL, by omega, by omega, by omega⟩)
    · refine r_iconst hx hb dX12_isIn_10 (by decide) (fun z5 ez5 => ?_)
      refine lv_goto (tgt := 15) hx hb dX12_isIn_11 (by decide) ?_
      exact r_zret hx hb hr hK hP hS hk (by omega) dX12_isIn_15 (show P_X12_isIn σ0 τ0 a0 a1 a2 z5 σ0 τ0 from ⟨hR, hF, hFL, by omega, by omega, by omega⟩)
theorem in_X12_takes_12 : ∀ w ∈ u_ws RX12 TX12 47, w ∈ wsX12_takes := by decide +kernel
theorem lk_X12_takes_159 : Cond.fieldLink RX12 159 "CuckooSharesModel" "token" "I" ∈ wsX12_takes := by decide +kernel
theorem lk_X12_takes_169 : Cond.fieldLink RX12 169 "CuckooSharesModel" "number" "I" ∈ wsX12_takes := by decide +kernel
theorem lk_X12_takes_195 : Cond.fieldLink RX12 195 "CuckooSharesModel" "got" "I" ∈ wsX12_takes := by decide +kernel
abbrev L_X12_takes_v : List Rc := [(387, 387, 18, 18), (387, 387, 4, 4), (387, 387, 11, 16)]
abbrev LL_X12_takes_v : List Rc := [(387, 387, 17, 17)]
def P_X12_takes_v (σ0 : Nat → Nat → Int32) (τ0 : Nat → Nat → Int64) (a1 : Int32) (a2 : Int32) (b : Nat → Int) (N : Nat) (mo : Nat) (q : Nat) (lo : Int) (hi : Int) (r : Int32) (σ : Nat → Nat → Int32) (τ : Nat → Nat → Int64) : Prop := Rg σ ∧ Fr L_X12_takes_v σ0 σ ∧ FrL LL_X12_takes_v τ0 τ ∧ (0 ≤ r.toInt ∧ r.toInt ≤ 1) ∧ ((σ0 387 4).toInt ≤ (σ 387 4).toInt) ∧ (r.toInt = 0 ∨ (σ 387 11).toInt ≠ 3 ∨ (σ0 387 4).toInt < (σ 387 4).toInt) ∧ (r.toInt = 0 ∨ (a1.toInt ≤ (σ 387 18).toInt ∧ (σ 387 18).toInt ≤ a2.toInt)) ∧ (MO r σ (numP b N mo lo hi q) (fun z => MK σ τ b N mo z.1 ∧ (σ 387 18).toInt = z.2)) ∧ MT σ b N mo
set_option maxHeartbeats 4000000 in
theorem c_X12_takes_v (l : Launch) (D : va_G) (cA : Nat → ClassId) (ad : Nat → Nat) (hI : Inj ad) (σ0 : Nat → Nat → Int32) (τ0 : Nat → Nat → Int64) (hR : Rg σ0) (a1 : Int32) (a2 : Int32) (b : Nat → Int) (N : Nat) (mo : Nat) (q : Nat) (lo : Int) (hi : Int) (ha1 : 0 ≤ a1.toInt ∧ a1.toInt ≤ 100) (ha2 : 9 ≤ a2.toInt ∧ a2.toInt ≤ 999) (hpre0 : a1.toInt = lo) (hpre1 : a2.toInt = hi) (gMT0 : MT σ0 b N mo) (gMK0 : MK σ0 τ0 b N mo q) : Met l yX12_takes wsX12_takes ({ frames := 2, cells := 0, slots := 0, locals := 43 } : Room) (WQc D cA ad [.ref (ad 387), .int a1, .int a2] σ0 τ0) (va_Qi (fun (r : Int32) (u : SS) => P_X12_takes_v σ0 τ0 a1 a2 b N mo q lo hi r u.1 u.2) (WB D cA ad) (AA ad)) 0 0 (AA ad) := by
  refine Met.ofW (cc := cX12_takes) (maxL := 3) (ret := (some .boolean)) (by decide) rfl ?_
  intro p e s m args below meth c s₁ B hml hv
  obtain ⟨rfl, hP, hK, hN⟩ := hv
  have C : Cy p s m _ meth c cX12_takes 3 wsX12_takes RX12 D cA ad (some .boolean) := ⟨B.exec, B.bytes, hml, findClass_of_methodNamed B.named, atoms_spec (ws := wsX12_takes) B.pre, hK, B.notSynchronized, B.returns, hI, hN⟩
  have hl := lv_entry ([.ref (ad 387), .int a1, .int a2]) (n := 3) (Nat.le_of_ble_eq_true rfl)
  rw [lg_entry_eq]
  generalize (lg_sl ([.ref (ad 387), .int a1, .int a2]) ++ List.replicate (3 - (lg_sl ([.ref (ad 387), .int a1, .int a2])).length) Slot.unset).toArray = ls at hl ⊢
  have hl : lv_has ls 3 [(0, .ref (ad 387)), (1, .int a1), (2, .int a2)] := hl
  have hS : va_S (AA ad) s.heap s.heap [] := va_S.rf
  have hF : Fr L_X12_takes_v σ0 σ0 := Fr.rf
  have hFL : FrL LL_X12_takes_v τ0 τ0 := FrL.rf
  have gMT := gMT0
  have gMK := gMK0
  obtain ⟨hx, hb, _, hown, hts, _, hk, hr, _, _⟩ := C
  have hrt4 := rg_12_4 hR (k := 387) (by decide) (by decide)
  have hrt3 := rg_12_3 hR (k := 387) (by decide) (by decide)
  have hkd := gMK.kd
  refine lv_aload_n hx hb dX12_takes_0 rfl (lv_at hl 0 rfl) ?_
  refine fg_12_11 (k := 387) hx hb hts in_X12_takes_12 hown hK hP (by decide) (by decide) (hts _ lk_X12_takes_159) dX12_takes_1 ?_
  refine r_iconst hx hb dX12_takes_4 (by decide) (fun z1 ez1 => ?_)
  refine r_icmp_eq (tgt := 14) hx hb dX12_takes_5 (by decide) (fun c2 => ?_) (fun c2 => ?_)
  · refine lv_aload_n hx hb dX12_takes_14 rfl (lv_at hl 0 rfl) ?_
    refine fg_12_14 (k := 387) hx hb hts in_X12_takes_12 hown hK hP (by decide) (by decide) (hts _ lk_X12_takes_169) dX12_takes_15 ?_
    refine lv_iload_n hx hb dX12_takes_18 rfl (lv_at hl 1 rfl) ?_
    refine lv_iload_n hx hb dX12_takes_19 rfl (lv_at hl 2 rfl) ?_
    refine r_cSi (As := [.int (σ0 387 14), .int a1, .int a2]) (rest := []) ⟨hx, hb, hml, hown, hts⟩ hK hP hN hS (c_X12_isIn l D cA ad hI σ0 τ0 hR (σ0 387 14) a1 a2) (va_cwS 3 hts gX12_takes_X12_isIn rfl rfl rfl (by decide +kernel) ⟨by decide, by decide⟩) rfl hl.1 rfl (Nat.le_of_ble_eq_true rfl) dX12_takes_20 (Nat.zero_le _) (Nat.zero_le _) (fun r3 u3 H3 locs3 hp3 hP hS => ?_)
    obtain ⟨σ3, τ3⟩ := u3
    obtain ⟨hR, f3, fL3, hq3, hp3_0, hp3_1⟩ : P_X12_isIn σ0 τ0 (σ0 387 14) a1 a2 r3 σ3 τ3 := hp3
    have hP : va_P D vwCl (gw cA ad σ3 τ3) H3 := hP
    obtain rfl := FrL.nil fL3
    obtain rfl := Fr.nil f3
    refine r_if_ne (tgt := 32) hx hb dX12_takes_23 (by decide) (fun c4 => ?_) (fun c4 => ?_)
    · replace hp3_0 := hp3_0.resolve_left (by omega)
      refine lv_aload_n hx hb dX12_takes_32 rfl (lv_at hl 0 rfl) ?_
      refine lv_aload_n hx hb dX12_takes_33 rfl (lv_at hl 0 rfl) ?_
      refine fg_12_14 (k := 387) hx hb hts in_X12_takes_12 hown hK hP (by decide) (by decide) (hts _ lk_X12_takes_169) dX12_takes_34 ?_
      refine fp_12_18 (k := 387) hx hb hts in_X12_takes_12 hown hK hP (by decide) (by decide) (hts _ lk_X12_takes_195) hI hR hS dX12_takes_37 (fun σ5 H5 locs5 u5 v5 hR hP hS => ?_)
      have hF := hF.puts u5 0 rfl (by decide) (by decide) (by decide) (by decide)
      have gMK := gMK.ag (Agr.put u5 (by decide))
      have gMT := gMT.ag (Agr.put u5 (by decide))
      have t6 : (σ5 387 4).toInt = (σ0 387 4).toInt := congrArg Int32.toInt (u5 387 4 (by omega))
      have t7 : (σ5 387 3).toInt = (σ0 387 3).toInt := congrArg Int32.toInt (u5 387 3 (by omega))
      have t8 : (σ5 387 11).toInt = (σ0 387 11).toInt := congrArg Int32.toInt (u5 387 11 (by omega))
      have t9 : (σ5 387 14).toInt = (σ0 387 14).toInt := congrArg Int32.toInt (u5 387 14 (by omega))
      refine lv_aload_n hx hb dX12_takes_40 rfl (lv_at hl 0 rfl) ?_
      refine r_cVv (k := 387) (As := []) (rest := []) ⟨hx, hb, hml, hown, hts⟩ hK hP hN hS (c_X12_next_v l D cA ad hI σ5 τ0 hR _ _ _ _ gMK.mp gMT) (cwV 0 hts gX12_takes_X12_next rfl rfl rfl (by decide +kernel) ⟨by decide, by decide⟩) (rv_M hK hP (by decide) (by decide)) rfl hl.1 rfl (Nat.le_of_ble_eq_true rfl) dX12_takes_41 (Nat.zero_le _) (Nat.zero_le _) (fun u10 H10 locs10 hp10 hP hS => ?_)
      obtain ⟨σ10, τ10⟩ := u10
      obtain ⟨hR, f10, fL10, hp10_0, hp10_1, hp10_2, hp10_3, gnMT⟩ : P_X12_next_v σ5 τ0 _ _ _ _ σ10 τ10 := hp10
      have hP : va_P D vwCl (gw cA ad σ10 τ10) H10 := hP
      have hFL := hFL.step fL10 (by decide)
      have hF := hF.step f10 (by decide)
      have gMT := gMT.ag (Agr.fr f10 (by decide))
      have t11 : (σ10 387 3).toInt = (σ5 387 3).toInt := congrArg Int32.toInt (f10.at 387 3 (by decide))
      have t12 : (σ10 387 18).toInt = (σ5 387 18).toInt := congrArg Int32.toInt (f10.at 387 18 (by decide))
      have hr13 := rg_12_4 hR (k := 387) (by decide) (by decide)
      have gMK := hp10_3
      refine r_iconst hx hb dX12_takes_44 (by decide) (fun z14 ez14 => ?_)
      exact r_zret hx hb hr hK hP hS hk (by omega) dX12_takes_45 (show P_X12_takes_v σ0 τ0 a1 a2 b N mo q lo hi z14 σ10 τ10 from ⟨hR, hF, hFL, by omega, by omega, by omega, by omega, by first | exact MO.ofk (by unfold numP; rw [if_pos (by omega)]) (by omega) (by omega) (by omega) | exact MO.ofk (by unfold numP; rw [if_neg (by omega), if_pos (by omega)]) (by omega) (by omega) (by omega) | exact MO.ofr (by unfold numP; rw [if_neg (by omega), if_neg (by omega)]) (by omega) ⟨gMK, by show _ = nuq b N q; omega⟩, gMT⟩)
    · clear hp3_0
      refine lv_aload_n hx hb dX12_takes_26 rfl (lv_at hl 0 rfl) ?_
      refine r_iconst hx hb dX12_takes_27 (by decide) (fun z15 ez15 => ?_)
      refine r_cVi (k := 387) (As := [.int z15]) (rest := []) ⟨hx, hb, hml, hown, hts⟩ hK hP hN hS (c_X12_bad_v l D cA ad hI σ0 τ0 hR z15 _ _ _ _ (by omega) gMK) (cwV 1 hts gX12_takes_X12_bad rfl rfl rfl (by decide +kernel) ⟨by decide, by decide⟩) (rv_M hK hP (by decide) (by decide)) rfl hl.1 rfl (Nat.le_of_ble_eq_true rfl) dX12_takes_28 (Nat.zero_le _) (Nat.zero_le _) (fun r16 u16 H16 locs16 hp16 hP hS => ?_)
      obtain ⟨σ16, τ16⟩ := u16
      obtain ⟨hR, f16, fL16, hq16, hp16_0, hp16_1, hp16_2, gnMK⟩ : P_X12_bad_v σ0 τ0 z15 _ _ _ _ r16 σ16 τ16 := hp16
      have hP : va_P D vwCl (gw cA ad σ16 τ16) H16 := hP
      obtain rfl := FrL.nil fL16
      have hF := hF.step f16 (by decide)
      have gMK := gMK.ag (Agr.fr f16 (by decide))
      have gMT := gMT.ag (Agr.fr f16 (by decide))
      have t17 : (σ16 387 4).toInt = (σ0 387 4).toInt := congrArg Int32.toInt (f16.at 387 4 (by decide))
      have t18 : (σ16 387 3).toInt = (σ0 387 3).toInt := congrArg Int32.toInt (f16.at 387 3 (by decide))
      have t19 : (σ16 387 11).toInt = (σ0 387 11).toInt := congrArg Int32.toInt (f16.at 387 11 (by decide))
      have t20 : (σ16 387 18).toInt = (σ0 387 18).toInt := congrArg Int32.toInt (f16.at 387 18 (by decide))
      have t21 : (σ16 387 14).toInt = (σ0 387 14).toInt := congrArg Int32.toInt (f16.at 387 14 (by decide))
      exact r_zret hx hb hr hK hP hS hk (by omega) dX12_takes_31 (show P_X12_takes_v σ0 τ0 a1 a2 b N mo q lo hi r16 σ16 τ0 from ⟨hR, hF, hFL, by omega, by omega, by omega, by omega, by first | exact MO.ofk (by unfold numP; rw [if_pos (by omega)]) (by omega) (by omega) (by omega) | exact MO.ofk (by unfold numP; rw [if_neg (by omega), if_pos (by omega)]) (by omega) (by omega) (by omega) | exact MO.ofr (by unfold numP; rw [if_neg (by omega), if_neg (by omega)]) (by omega) ⟨gMK, by show _ = nuq b N q; omega⟩, gMT⟩)
  · refine lv_aload_n hx hb dX12_takes_8 rfl (lv_at hl 0 rfl) ?_
    refine r_iconst hx hb dX12_takes_9 (by decide) (fun z22 ez22 => ?_)
    refine r_cVi (k := 387) (As := [.int z22]) (rest := []) ⟨hx, hb, hml, hown, hts⟩ hK hP hN hS (c_X12_bad_v l D cA ad hI σ0 τ0 hR z22 _ _ _ _ (by omega) gMK) (cwV 1 hts gX12_takes_X12_bad rfl rfl rfl (by decide +kernel) ⟨by decide, by decide⟩) (rv_M hK hP (by decide) (by decide)) rfl hl.1 rfl (Nat.le_of_ble_eq_true rfl) dX12_takes_10 (Nat.zero_le _) (Nat.zero_le _) (fun r23 u23 H23 locs23 hp23 hP hS => ?_)
    obtain ⟨σ23, τ23⟩ := u23
    obtain ⟨hR, f23, fL23, hq23, hp23_0, hp23_1, hp23_2, gnMK⟩ : P_X12_bad_v σ0 τ0 z22 _ _ _ _ r23 σ23 τ23 := hp23
    have hP : va_P D vwCl (gw cA ad σ23 τ23) H23 := hP
    obtain rfl := FrL.nil fL23
    have hF := hF.step f23 (by decide)
    have gMK := gMK.ag (Agr.fr f23 (by decide))
    have gMT := gMT.ag (Agr.fr f23 (by decide))
    have t24 : (σ23 387 4).toInt = (σ0 387 4).toInt := congrArg Int32.toInt (f23.at 387 4 (by decide))
    have t25 : (σ23 387 3).toInt = (σ0 387 3).toInt := congrArg Int32.toInt (f23.at 387 3 (by decide))
    have t26 : (σ23 387 11).toInt = (σ0 387 11).toInt := congrArg Int32.toInt (f23.at 387 11 (by decide))
    have t27 : (σ23 387 18).toInt = (σ0 387 18).toInt := congrArg Int32.toInt (f23.at 387 18 (by decide))
    exact r_zret hx hb hr hK hP hS hk (by omega) dX12_takes_13 (show P_X12_takes_v σ0 τ0 a1 a2 b N mo q lo hi r23 σ23 τ0 from ⟨hR, hF, hFL, by omega, by omega, by omega, by omega, by first | exact MO.ofk (by unfold numP; rw [if_pos (by omega)]) (by omega) (by omega) (by omega) | exact MO.ofk (by unfold numP; rw [if_neg (by omega), if_pos (by omega)]) (by omega) (by omega) (by omega) | exact MO.ofr (by unfold numP; rw [if_neg (by omega), if_neg (by omega)]) (by omega) ⟨gMK, by show _ = nuq b N q; omega⟩, gMT⟩)
theorem in_X12_ofMan_12 : ∀ w ∈ u_ws RX12 TX12 47, w ∈ wsX12_ofMan := by decide +kernel
theorem lk_X12_ofMan_107 : Cond.constantLong RX12 107 (7302244) ∈ wsX12_ofMan := by decide +kernel
theorem lk_X12_ofMan_109 : Cond.constantLong RX12 109 (1684365670) ∈ wsX12_ofMan := by decide +kernel
theorem lk_X12_ofMan_111 : Cond.constantLong RX12 111 (474147546227) ∈ wsX12_ofMan := by decide +kernel
theorem lk_X12_ofMan_195 : Cond.fieldLink RX12 195 "CuckooSharesModel" "got" "I" ∈ wsX12_ofMan := by decide +kernel
theorem lk_X12_ofMan_37 : Cond.fieldLink RX12 37 "CuckooSharesModel" "h" "[I" ∈ wsX12_ofMan := by decide +kernel
abbrev L_X12_ofMan : List Rc := [(387, 387, 4, 4), (387, 387, 11, 16), (387, 387, 18, 18), (390, 390, 55, 78)]
abbrev LL_X12_ofMan : List Rc := [(387, 387, 17, 17)]
def P_X12_ofMan (σ0 : Nat → Nat → Int32) (τ0 : Nat → Nat → Int64) (b : Nat → Int) (N : Nat) (mo : Nat) (q : Nat) (h : Nat → Int) (nm : Nat → Int) (r : Int32) (σ : Nat → Nat → Int32) (τ : Nat → Nat → Int64) : Prop := Rg σ ∧ Fr L_X12_ofMan σ0 σ ∧ FrL LL_X12_ofMan τ0 τ ∧ (0 ≤ r.toInt ∧ r.toInt ≤ 1) ∧ ((σ0 387 4).toInt ≤ (σ 387 4).toInt) ∧ (r.toInt = 0 ∨ (σ 387 11).toInt ≠ 3 ∨ (σ0 387 4).toInt < (σ 387 4).toInt) ∧ (MO r σ (linM b N mo (q, h, nm, σ0 387 20, σ0 387 21)) (MR σ τ b N mo)) ∧ HI σ ∧ MT σ b N mo ∧ RV τ 
set_option maxHeartbeats 4000000 in
theorem c_X12_ofMan (l : Launch) (D : va_G) (cA : Nat → ClassId) (ad : Nat → Nat) (hI : Inj ad) (σ0 : Nat → Nat → Int32) (τ0 : Nat → Nat → Int64) (hR : Rg σ0) (b : Nat → Int) (N : Nat) (mo : Nat) (q : Nat) (h : Nat → Int) (nm : Nat → Int) (hpre0 : tkq b N mo q ≠ 0 ∧ tkq b N mo q ≠ 1 ∧ tkq b N mo q ≠ 2 ∧ tkq b N mo q ≠ 7 ∧ tkq b N mo q ≠ 8 ∧ tkq b N mo q ≠ 9 ∧ tkq b N mo q ≠ 13) (gHI0 : HI σ0) (gMT0 : MT σ0 b N mo) (gMK0 : MK σ0 τ0 b N mo q) (gRV0 : RV τ0 ) (gMN0 : MN τ0 h nm) (gMH0 : MH σ0 h) : Met l yX12_ofMan wsX12_ofMan ({ frames := 3, cells := 0, slots := 0, locals := 65 } : Room) (WQc D cA ad [.ref (ad 387)] σ0 τ0) (va_Qi (fun (r : Int32) (u : SS) => P_X12_ofMan σ0 τ0 b N mo q h nm r u.1 u.2) (WB D cA ad) (AA ad)) 0 0 (AA ad) := by
  refine Met.ofW (cc := cX12_ofMan) (maxL := 3) (ret := (some .boolean)) (by decide) rfl ?_
  intro p e s m args below meth c s₁ B hml hv
  obtain ⟨rfl, hP, hK, hN⟩ := hv
  have C : Cy p s m _ meth c cX12_ofMan 3 wsX12_ofMan RX12 D cA ad (some .boolean) := ⟨B.exec, B.bytes, hml, findClass_of_methodNamed B.named, atoms_spec (ws := wsX12_ofMan) B.pre, hK, B.notSynchronized, B.returns, hI, hN⟩
  have hl := lv_entry ([.ref (ad 387)]) (n := 3) (Nat.le_of_ble_eq_true rfl)
  rw [lg_entry_eq]
  generalize (lg_sl ([.ref (ad 387)]) ++ List.replicate (3 - (lg_sl ([.ref (ad 387)])).length) Slot.unset).toArray = ls at hl ⊢
  have hl : lv_has ls 3 [(0, .ref (ad 387))] := hl
  have hS : va_S (AA ad) s.heap s.heap [] := va_S.rf
  have hF : Fr L_X12_ofMan σ0 σ0 := Fr.rf
  have hFL : FrL LL_X12_ofMan τ0 τ0 := FrL.rf
  have gHI := gHI0
  have gMT := gMT0
  have gMK := gMK0
  have gRV := gRV0
  have gMN := gMN0
  have gMH := gMH0
  obtain ⟨hx, hb, _, hown, hts, _, hk, hr, _, _⟩ := C
  have hrt4 := rg_12_4 hR (k := 387) (by decide) (by decide)
  have hrt3 := rg_12_3 hR (k := 387) (by decide) (by decide)
  refine lv_aload_n hx hb dX12_ofMan_0 rfl (lv_at hl 0 rfl) ?_
  refine lv_ldc2 (v := 7302244) hx hb hown (hts _ lk_X12_ofMan_107) dX12_ofMan_1 ?_
  refine r_cVi (k := 387) (As := [.long (7302244)]) (rest := []) ⟨hx, hb, hml, hown, hts⟩ hK hP hN hS (c_X12_isWord_v l D cA ad hI σ0 τ0 hR (7302244) _ _ _ _ 10 (by decide) (by decide) gMK) (cwV 1 hts gX12_ofMan_X12_isWord rfl rfl rfl (by decide +kernel) ⟨by decide, by decide⟩) (rv_M hK hP (by decide) (by decide)) rfl hl.1 rfl (Nat.le_of_ble_eq_true rfl) dX12_ofMan_4 (Nat.zero_le _) (Nat.zero_le _) (fun r1 u1 H1 locs1 hp1 hP hS => ?_)
  obtain ⟨σ1, τ1⟩ := u1
  obtain ⟨hR, f1, fL1, hq1, hp1_0, hp1_1, gnMK⟩ : P_X12_isWord_v σ0 τ0 (7302244) _ _ _ _ 10 r1 σ1 τ1 := hp1
  have hP : va_P D vwCl (gw cA ad σ1 τ1) H1 := hP
  obtain rfl := FrL.nil fL1
  obtain rfl := Fr.nil f1
  refine r_if_eq (tgt := 14) hx hb dX12_ofMan_7 (by decide) (fun c2 => ?_) (fun c2 => ?_)
  · clear hp1_0
    refine lv_aload_n hx hb dX12_ofMan_14 rfl (lv_at hl 0 rfl) ?_
    refine lv_ldc2 (v := 1684365670) hx hb hown (hts _ lk_X12_ofMan_109) dX12_ofMan_15 ?_
    refine r_cVi (k := 387) (As := [.long (1684365670)]) (rest := []) ⟨hx, hb, hml, hown, hts⟩ hK hP hN hS (c_X12_isWord_v l D cA ad hI σ0 τ0 hR (1684365670) _ _ _ _ 11 (by decide) (by decide) gMK) (cwV 1 hts gX12_ofMan_X12_isWord rfl rfl rfl (by decide +kernel) ⟨by decide, by decide⟩) (rv_M hK hP (by decide) (by decide)) rfl hl.1 rfl (Nat.le_of_ble_eq_true rfl) dX12_ofMan_18 (Nat.zero_le _) (Nat.zero_le _) (fun r3 u3 H3 locs3 hp3 hP hS => ?_)
    obtain ⟨σ3, τ3⟩ := u3
    obtain ⟨hR, f3, fL3, hq3, hp3_0, hp3_1, gnMK⟩ : P_X12_isWord_v σ0 τ0 (1684365670) _ _ _ _ 11 r3 σ3 τ3 := hp3
    have hP : va_P D vwCl (gw cA ad σ3 τ3) H3 := hP
    obtain rfl := FrL.nil fL3
    obtain rfl := Fr.nil f3
    refine r_if_eq (tgt := 28) hx hb dX12_ofMan_21 (by decide) (fun c4 => ?_) (fun c4 => ?_)
    · clear hp3_0
      refine lv_aload_n hx hb dX12_ofMan_28 rfl (lv_at hl 0 rfl) ?_
      refine lv_ldc2 (v := 474147546227) hx hb hown (hts _ lk_X12_ofMan_111) dX12_ofMan_29 ?_
      refine r_cVi (k := 387) (As := [.long (474147546227)]) (rest := []) ⟨hx, hb, hml, hown, hts⟩ hK hP hN hS (c_X12_isWord_v l D cA ad hI σ0 τ0 hR (474147546227) _ _ _ _ 12 (by decide) (by decide) gMK) (cwV 1 hts gX12_ofMan_X12_isWord rfl rfl rfl (by decide +kernel) ⟨by decide, by decide⟩) (rv_M hK hP (by decide) (by decide)) rfl hl.1 rfl (Nat.le_of_ble_eq_true rfl) dX12_ofMan_32 (Nat.zero_le _) (Nat.zero_le _) (fun r5 u5 H5 locs5 hp5 hP hS => ?_)
      obtain ⟨σ5, τ5⟩ := u5
      obtain ⟨hR, f5, fL5, hq5, hp5_0, hp5_1, gnMK⟩ : P_X12_isWord_v σ0 τ0 (474147546227) _ _ _ _ 12 r5 σ5 τ5 := hp5
      have hP : va_P D vwCl (gw cA ad σ5 τ5) H5 := hP
      obtain rfl := FrL.nil fL5
      obtain rfl := Fr.nil f5
      refine r_if_eq (tgt := 42) hx hb dX12_ofMan_35 (by decide) (fun c6 => ?_) (fun c6 => ?_)
      · clear hp5_0
        refine r_iconst hx hb dX12_ofMan_42 (by decide) (fun z7 ez7 => ?_)
        refine lv_istore_n (lv' := [(1, .int z7), (0, .ref (ad 387))]) hx hb dX12_ofMan_43 rfl hl (by decide) rfl (fun ls hl => ?_)
        refine lv_iload_n hx hb dX12_ofMan_44 rfl (lv_at hl 0 rfl) ?_
        refine r_if_ge (tgt := 54) hx hb dX12_ofMan_45 (by decide) (fun c8 => ?_) (fun c8 => ?_)
        · exfalso; omega
        · refine lv_aload_n hx hb dX12_ofMan_48 rfl (lv_at hl 1 rfl) ?_
          refine r_iconst hx hb dX12_ofMan_49 (by decide) (fun z9 ez9 => ?_)
          refine r_cVi (k := 387) (As := [.int z9]) (rest := []) ⟨hx, hb, hml, hown, hts⟩ hK hP hN hS (c_X12_bad_v l D cA ad hI σ0 τ0 hR z9 _ _ _ _ (by omega) gMK) (cwV 1 hts gX12_ofMan_X12_bad rfl rfl rfl (by decide +kernel) ⟨by decide, by decide⟩) (rv_M hK hP (by decide) (by decide)) rfl hl.1 rfl (Nat.le_of_ble_eq_true rfl) dX12_ofMan_50 (Nat.zero_le _) (Nat.zero_le _) (fun r10 u10 H10 locs10 hp10 hP hS => ?_)
          obtain ⟨σ10, τ10⟩ := u10
          obtain ⟨hR, f10, fL10, hq10, hp10_0, hp10_1, hp10_2, gnMK⟩ : P_X12_bad_v σ0 τ0 z9 _ _ _ _ r10 σ10 τ10 := hp10
          have hP : va_P D vwCl (gw cA ad σ10 τ10) H10 := hP
          obtain rfl := FrL.nil fL10
          have hF := hF.step f10 (by decide)
          have gHI := HI.fr gHI f10 (by decide)
          have gMH := gMH.ag (Agr.fr f10 (by decide))
          have gMK := gMK.ag (Agr.fr f10 (by decide))
          have gMT := gMT.ag (Agr.fr f10 (by decide))
          have t11 : (σ10 387 4).toInt = (σ0 387 4).toInt := congrArg Int32.toInt (f10.at 387 4 (by decide))
          have t12 : (σ10 387 3).toInt = (σ0 387 3).toInt := congrArg Int32.toInt (f10.at 387 3 (by decide))
          have t13 : (σ10 387 11).toInt = (σ0 387 11).toInt := congrArg Int32.toInt (f10.at 387 11 (by decide))
          exact r_zret hx hb hr hK hP hS hk (by omega) dX12_ofMan_53 (show P_X12_ofMan σ0 τ0 b N mo q h nm r10 σ10 τ0 from ⟨hR, hF, hFL, by omega, by omega, by omega, by first | exact MO.ofk (linM_x (z := (q, h, nm, σ0 387 20, σ0 387 21)) (by show tkq b N mo q < 0 ∨ (2 < tkq b N mo q ∧ tkq b N mo q < 7) ∨ 13 < tkq b N mo q; omega)) (by omega) (by omega) (by omega) | (obtain ⟨f, e1, x1, x2⟩ := o1.no (by omega); exact MO.ofl (by rw [linM_10 (z := (q, h, nm, σ0 387 20, σ0 387 21)) (by show tkq b N mo q = 10; omega)]; unfold oldP mnoP; dsimp only; rw [e1]; rfl) (by omega) x1 x2) | exact MO.ofk (by rw [linM_10 (z := (q, h, nm, σ0 387 20, σ0 387 21)) (by show tkq b N mo q = 10; omega)]; unfold oldP mnoP; dsimp only; rw [e1, bnd_r, if_pos (show 0 < h (55 + k.toNat) by rw [show 55 + k.toNat = 0 by omega]; omega)]; rfl) (by omega) (by omega) (by omega) | (obtain ⟨f, e1, x1, x2⟩ := o1.no (by omega); exact MO.ofl (by rw [linM_11 (z := (q, h, nm, σ0 387 20, σ0 387 21)) (by show tkq b N mo q = 11; omega)]; unfold deaP mnoP; dsimp only; rw [e1]; rfl) (by omega) x1 x2) | exact MO.ofk (by rw [linM_11 (z := (q, h, nm, σ0 387 20, σ0 387 21)) (by show tkq b N mo q = 11; omega)]; unfold deaP mnoP; dsimp only; rw [e1, bnd_r, if_pos (show 0 < h (63 + k.toNat) by rw [show 63 + k.toNat = 0 by omega]; omega)]; rfl) (by omega) (by omega) (by omega) | (obtain ⟨f, e1, x1, x2⟩ := o1.no (by omega); exact MO.ofl (by rw [linM_12 (z := (q, h, nm, σ0 387 20, σ0 387 21)) (by show tkq b N mo q = 12; omega)]; unfold neeP mnoP; dsimp only; rw [e1]; rfl) (by omega) x1 x2) | exact MO.ofk (by rw [linM_12 (z := (q, h, nm, σ0 387 20, σ0 387 21)) (by show tkq b N mo q = 12; omega)]; unfold neeP mnoP; dsimp only; rw [e1, bnd_r, if_pos (show 0 < h (71 + k.toNat) by rw [show 71 + k.toNat = 0 by omega]; omega)]; rfl) (by omega) (by omega) (by omega) | exact MO.ofr (by rw [linM_10 (z := (q, h, nm, σ0 387 20, σ0 387 21)) (by show tkq b N mo q = 10; omega)]; unfold oldP; dsimp only; rw [hne.1 (by omega), bnd_r]) (by omega) (MR.mk gMK gMH (gMN.h (uh_n _ _ (by omega)) (uh_n _ _ (by omega))) ((uq134 387 20 (by omega)).trans ((fq118.at 387 20 (by decide)).trans ((fq67.at 387 20 (by decide)).trans (fq55.at 387 20 (by decide))))) ((uq134 387 21 (by omega)).trans ((fq118.at 387 21 (by decide)).trans ((fq67.at 387 21 (by decide)).trans (fq55.at 387 21 (by decide)))))) | exact MO.ofr (by rw [linM_12 (z := (q, h, nm, σ0 387 20, σ0 387 21)) (by show tkq b N mo q = 12; omega)]; unfold neeP; dsimp only; rw [hne.2.2 (by omega), bnd_r, e2, bnd_r]) (by omega) (MR.mk gMK gMH (gMN.h (uh_n _ _ (by omega)) (uh_n _ _ (by omega))) ((uq169 387 20 (by omega)).trans ((fq147.at 387 20 (by decide)).trans ((fq118.at 387 20 (by decide)).trans ((fq67.at 387 20 (by decide)).trans (fq55.at 387 20 (by decide)))))) ((uq169 387 21 (by omega)).trans ((fq147.at 387 21 (by decide)).trans ((fq118.at 387 21 (by decide)).trans ((fq67.at 387 21 (by decide)).trans (fq55.at 387 21 (by decide))))))) | (obtain ⟨f, e2, x1, x2⟩ := o2.no (by omega); exact MO.ofl (by rw [linM_12 (z := (q, h, nm, σ0 387 20, σ0 387 21)) (by show tkq b N mo q = 12; omega)]; unfold neeP; dsimp only; rw [hne.2.2 (by omega), bnd_r, e2, bnd_l]) (by omega) x1 x2) | exact MO.ofr (by rw [linM_11 (z := (q, h, nm, σ0 387 20, σ0 387 21)) (by show tkq b N mo q = 11; omega)]; unfold deaP; dsimp only; rw [hne.2.1 (by omega), bnd_r, e2, bnd_r, if_neg (by omega)]) (by omega) (MR.mk gMK gMH (gMN.h (uh_n _ _ (by omega)) (uh_n _ _ (by omega))) ((fq219.at 387 20 (by decide)).trans ((uq217 387 20 (by omega)).trans ((fq181.at 387 20 (by decide)).trans ((fq118.at 387 20 (by decide)).trans ((fq67.at 387 20 (by decide)).trans (fq55.at 387 20 (by decide))))))) ((fq219.at 387 21 (by decide)).trans ((uq217 387 21 (by omega)).trans ((fq181.at 387 21 (by decide)).trans ((fq118.at 387 21 (by decide)).trans ((fq67.at 387 21 (by decide)).trans (fq55.at 387 21 (by decide)))))))) | exact MO.ofk (by rw [linM_11 (z := (q, h, nm, σ0 387 20, σ0 387 21)) (by show tkq b N mo q = 11; omega)]; unfold deaP; dsimp only; rw [hne.2.1 (by omega), bnd_r, e2, bnd_r, if_pos (by omega)]) (by omega) (by omega) (by omega) | (obtain ⟨f, e2, x1, x2⟩ := o2.no (by omega); exact MO.ofl (by rw [linM_11 (z := (q, h, nm, σ0 387 20, σ0 387 21)) (by show tkq b N mo q = 11; omega)]; unfold deaP; dsimp only; rw [hne.2.1 (by omega), bnd_r, e2, bnd_l]) (by omega) x1 x2), gHI, gMT, gRV⟩)
      · replace hp5_0 := hp5_0.resolve_left (by omega)
        refine r_iconst hx hb dX12_ofMan_38 (by decide) (fun z14 ez14 => ?_)
        refine lv_goto (tgt := 43) hx hb dX12_ofMan_39 (by decide) ?_
        refine lv_istore_n (lv' := [(1, .int z14), (0, .ref (ad 387))]) hx hb dX12_ofMan_43 rfl hl (by decide) rfl (fun ls hl => ?_)
        refine lv_iload_n hx hb dX12_ofMan_44 rfl (lv_at hl 0 rfl) ?_
        refine r_if_ge (tgt := 54) hx hb dX12_ofMan_45 (by decide) (fun c15 => ?_) (fun c15 => ?_)
        · have hh0 := gMH 0 (by omega)
          have hh1 := gMH 1 (by omega)
          have hra := ra_mh_0 hR (k := 390) (j := 0) (by decide) (by decide) (by decide) (by decide)
          have hrb := ra_mh_0 hR (k := 390) (j := 1) (by decide) (by decide) (by decide) (by decide)
          refine lv_aload_n hx hb dX12_ofMan_54 rfl (lv_at hl 1 rfl) ?_
          refine r_cVv (k := 387) (As := []) (rest := []) ⟨hx, hb, hml, hown, hts⟩ hK hP hN hS (c_X12_next_v l D cA ad hI σ0 τ0 hR _ _ _ _ gMK.mp gMT) (cwV 0 hts gX12_ofMan_X12_next rfl rfl rfl (by decide +kernel) ⟨by decide, by decide⟩) (rv_M hK hP (by decide) (by decide)) rfl hl.1 rfl (Nat.le_of_ble_eq_true rfl) dX12_ofMan_55 (Nat.zero_le _) (Nat.zero_le _) (fun u16 H16 locs16 hp16 hP hS => ?_)
          obtain ⟨σ16, τ16⟩ := u16
          obtain ⟨hR, f16, fL16, hp16_0, hp16_1, hp16_2, hp16_3, gnMT⟩ : P_X12_next_v σ0 τ0 _ _ _ _ σ16 τ16 := hp16
          have fq55 := f16
          have hP : va_P D vwCl (gw cA ad σ16 τ16) H16 := hP
          have hFL := hFL.step fL16 (by decide)
          have gMN := gMN.agL (AgrL.fr fL16 (by decide))
          have gRV := gRV.agL (AgrL.fr fL16 (by decide))
          have hF := hF.step f16 (by decide)
          have gHI := HI.fr gHI f16 (by decide)
          have gMH := gMH.ag (Agr.fr f16 (by decide))
          have gMT := gMT.ag (Agr.fr f16 (by decide))
          have t17 : (σ16 387 3).toInt = (σ0 387 3).toInt := congrArg Int32.toInt (f16.at 387 3 (by decide))
          have hr18 := rg_12_4 hR (k := 387) (by decide) (by decide)
          have gMK := hp16_3
          have hh1a := gMH 1 (by omega)
          refine lv_aload_n hx hb dX12_ofMan_58 rfl (lv_at hl 1 rfl) ?_
          refine r_bipush hx hb dX12_ofMan_59 (by decide) (fun z19 ez19 => ?_)
          refine lv_aload_n hx hb dX12_ofMan_61 rfl (lv_at hl 1 rfl) ?_
          refine fg_12_7 (k := 387) hx hb hts in_X12_ofMan_12 hown hK hP (by decide) (by decide) (hts _ lk_X12_ofMan_37) dX12_ofMan_62 ?_
          refine r_iconst hx hb dX12_ofMan_65 (by decide) (fun z20 ez20 => ?_)
          refine ad_mh (k := 390) (j := 1) hx hb hK hP (by decide) (by decide) (by omega) (by omega) dX12_ofMan_66 ?_
          have hr21 := ra_mh_0 hR (k := 390) (j := 1) (by decide) (by decide) (by decide) (by decide)
          refine r_cVi (k := 387) (As := [.int z19, .int (σ16 390 1)]) (rest := []) ⟨hx, hb, hml, hown, hts⟩ hK hP hN hS (c_X12_looksAt_v l D cA ad hI σ16 τ16 hR z19 (σ16 390 1) b N mo _ h nm (n8 nm) (h 1).toNat 24 (by omega) (by omega) (by omega) (Or.inr ⟨rfl, rfl, rfl, by omega⟩) (by omega) gMK gRV gMN) (cwV 2 hts gX12_ofMan_X12_looksAt rfl rfl rfl (by decide +kernel) ⟨by decide, by decide⟩) (rv_M hK hP (by decide) (by decide)) rfl hl.1 rfl (Nat.le_of_ble_eq_true rfl) dX12_ofMan_67 (Nat.zero_le _) (Nat.zero_le _) (fun r22 u22 H22 locs22 hp22 hP hS => ?_)
          obtain ⟨σ22, τ22⟩ := u22
          obtain ⟨hR, f22, fL22, hq22, hp22_0, hp22_1, hp22_2, gnMK, gnRV, gnMN⟩ : P_X12_looksAt_v σ16 τ16 z19 (σ16 390 1) b N mo _ h nm (n8 nm) (h 1).toNat 24 r22 σ22 τ22 := hp22
          have o1 := hp22_2
          have fq67 := f22
          have hP : va_P D vwCl (gw cA ad σ22 τ22) H22 := hP
          obtain rfl := FrL.nil fL22
          have hF := hF.step f22 (by decide)
          have gHI := HI.fr gHI f22 (by decide)
          have gMH := gMH.ag (Agr.fr f22 (by decide))
          have gMK := gMK.ag (Agr.fr f22 (by decide))
          have gMT := gMT.ag (Agr.fr f22 (by decide))
          have t23 : (σ22 387 3).toInt = (σ16 387 3).toInt := congrArg Int32.toInt (f22.at 387 3 (by decide))
          have t24 : (σ22 387 4).toInt = (σ16 387 4).toInt := congrArg Int32.toInt (f22.at 387 4 (by decide))
          have t25 : (σ22 387 11).toInt = (σ16 387 11).toInt := congrArg Int32.toInt (f22.at 387 11 (by decide))
          have t26 : (σ22 390 1).toInt = (σ16 390 1).toInt := congrArg Int32.toInt (f22.at 390 1 (by decide))
          refine r_if_ne (tgt := 75) hx hb dX12_ofMan_70 (by decide) (fun c27 => ?_) (fun c27 => ?_)
          · replace hp22_0 := hp22_0.resolve_left (by omega)
            replace hp22_1 := hp22_1.resolve_left (by omega)
            obtain ⟨k, e1, ek⟩ := o1.ye (by omega)
            have hlk := lok_ok e1
            refine lv_aload_n hx hb dX12_ofMan_75 rfl (lv_at hl 1 rfl) ?_
            refine fg_12_18 (k := 387) hx hb hts in_X12_ofMan_12 hown hK hP (by decide) (by decide) (hts _ lk_X12_ofMan_195) dX12_ofMan_76 ?_
            refine lv_istore_n (lv' := [(2, .int (σ22 387 18)), (1, .int z14), (0, .ref (ad 387))]) hx hb dX12_ofMan_79 rfl hl (by decide) rfl (fun ls hl => ?_)
            refine lv_aload_n hx hb dX12_ofMan_80 rfl (lv_at hl 2 rfl) ?_
            refine fg_12_7 (k := 387) hx hb hts in_X12_ofMan_12 hown hK hP (by decide) (by decide) (hts _ lk_X12_ofMan_37) dX12_ofMan_81 ?_
            refine lv_iload_n hx hb dX12_ofMan_84 rfl (lv_at hl 1 rfl) ?_
            refine r_if_ne (tgt := 93) hx hb dX12_ofMan_85 (by decide) (fun c28 => ?_) (fun c28 => ?_)
            · refine lv_iload_n hx hb dX12_ofMan_93 rfl (lv_at hl 1 rfl) ?_
              refine r_iconst hx hb dX12_ofMan_94 (by decide) (fun z29 ez29 => ?_)
              refine r_icmp_ne (tgt := 103) hx hb dX12_ofMan_95 (by decide) (fun c30 => ?_) (fun c30 => ?_)
              · refine r_bipush hx hb dX12_ofMan_103 (by decide) (fun z31 ez31 => ?_)
                refine lv_iload_n hx hb dX12_ofMan_105 rfl (lv_at hl 0 rfl) ?_
                refine r_iadd hx hb dX12_ofMan_106 (by omega) (fun z32 ez32 => ?_)
                obtain ⟨j33, ej33⟩ : ∃ j : Nat, z32.toInt = (j : Int) := ⟨_, ti_nat (by omega)⟩
                refine ad_mh (k := 390) (j := j33) hx hb hK hP (by decide) (by decide) ej33 (by omega) dX12_ofMan_107 ?_
                have hho := gMH j33 (by omega)
                refine r_if_le (tgt := 117) hx hb dX12_ofMan_108 (by decide) (fun c34 => ?_) (fun c34 => ?_)
                · have hnn : ¬ 0 < h j33 := by omega
                  have hjn : (((j33 : Nat) : Int) = 55 + k ∧ tkq b N mo q = 10) ∨ (((j33 : Nat) : Int) = 63 + k ∧ tkq b N mo q = 11) ∨ (((j33 : Nat) : Int) = 71 + k ∧ tkq b N mo q = 12) := by omega
                  have hne : mnoK b N mo h nm q k := mnoK.of e1 hnn hjn hlk.2.1
                  refine lv_aload_n hx hb dX12_ofMan_117 rfl (lv_at hl 2 rfl) ?_
                  refine r_cVv (k := 387) (As := []) (rest := []) ⟨hx, hb, hml, hown, hts⟩ hK hP hN hS (c_X12_next_v l D cA ad hI σ22 τ16 hR _ _ _ _ gMK.mp gMT) (cwV 0 hts gX12_ofMan_X12_next rfl rfl rfl (by decide +kernel) ⟨by decide, by decide⟩) (rv_M hK hP (by decide) (by decide)) rfl hl.1 rfl (Nat.le_of_ble_eq_true rfl) dX12_ofMan_118 (Nat.zero_le _) (Nat.zero_le _) (fun u35 H35 locs35 hp35 hP hS => ?_)
                  obtain ⟨σ35, τ35⟩ := u35
                  obtain ⟨hR, f35, fL35, hp35_0, hp35_1, hp35_2, hp35_3, gnMT⟩ : P_X12_next_v σ22 τ16 _ _ _ _ σ35 τ35 := hp35
                  have fq118 := f35
                  have hP : va_P D vwCl (gw cA ad σ35 τ35) H35 := hP
                  clear hp16_1
                  have hFL := hFL.step fL35 (by decide)
                  have gMN := gMN.agL (AgrL.fr fL35 (by decide))
                  have gRV := gRV.agL (AgrL.fr fL35 (by decide))
                  have hF := hF.step f35 (by decide)
                  have gHI := HI.fr gHI f35 (by decide)
                  have gMH := gMH.ag (Agr.fr f35 (by decide))
                  have gMT := gMT.ag (Agr.fr f35 (by decide))
                  have t36 : (σ35 387 3).toInt = (σ22 387 3).toInt := congrArg Int32.toInt (f35.at 387 3 (by decide))
                  have t37 : (σ35 390 1).toInt = (σ22 390 1).toInt := congrArg Int32.toInt (f35.at 390 1 (by decide))
                  have t38 : (σ35 387 18).toInt = (σ22 387 18).toInt := congrArg Int32.toInt (f35.at 387 18 (by decide))
                  have t39 : (σ35 390 j33).toInt = (σ22 390 j33).toInt := congrArg Int32.toInt (f35.atV 390 j33 (by intro q hq; simp only [L_X12_next_v, List.mem_cons, List.not_mem_nil, or_false] at hq; rcases hq with rfl | rfl <;> dsimp only <;> omega))
                  have hr40 := rg_12_4 hR (k := 387) (by decide) (by decide)
                  have gMK := hp35_3
                  refine lv_iload_n hx hb dX12_ofMan_121 rfl (lv_at hl 1 rfl) ?_
                  refine r_if_ne (tgt := 137) hx hb dX12_ofMan_122 (by decide) (fun c41 => ?_) (fun c41 => ?_)
                  · refine lv_iload_n hx hb dX12_ofMan_137 rfl (lv_at hl 1 rfl) ?_
                    refine r_iconst hx hb dX12_ofMan_138 (by decide) (fun z42 ez42 => ?_)
                    refine r_icmp_ne (tgt := 172) hx hb dX12_ofMan_139 (by decide) (fun c43 => ?_) (fun c43 => ?_)
                    · exfalso; omega
                    · refine lv_aload_n hx hb dX12_ofMan_142 rfl (lv_at hl 2 rfl) ?_
                      refine r_iconst hx hb dX12_ofMan_143 (by decide) (fun z44 ez44 => ?_)
                      refine r_sipush hx hb dX12_ofMan_144 (by decide) (fun z45 ez45 => ?_)
                      refine r_cVi (k := 387) (As := [.int z44, .int z45]) (rest := []) ⟨hx, hb, hml, hown, hts⟩ hK hP hN hS (c_X12_takes_v l D cA ad hI σ35 τ35 hR z44 z45 b N mo _ 0 999 (by omega) (by omega) (by omega) (by omega) gMT gMK) (cwV 2 hts gX12_ofMan_X12_takes rfl rfl rfl (by decide +kernel) ⟨by decide, by decide⟩) (rv_M hK hP (by decide) (by decide)) rfl hl.1 rfl (Nat.le_of_ble_eq_true rfl) dX12_ofMan_147 (Nat.zero_le _) (Nat.zero_le _) (fun r46 u46 H46 locs46 hp46 hP hS => ?_)
                      obtain ⟨σ46, τ46⟩ := u46
                      obtain ⟨hR, f46, fL46, hq46, hp46_0, hp46_1, hp46_2, hp46_3, gnMT⟩ : P_X12_takes_v σ35 τ35 z44 z45 b N mo _ 0 999 r46 σ46 τ46 := hp46
                      have o2 := hp46_3
                      have fq147 := f46
                      have hP : va_P D vwCl (gw cA ad σ46 τ46) H46 := hP
                      clear hp35_1
                      have hFL := hFL.step fL46 (by decide)
                      have gMN := gMN.agL (AgrL.fr fL46 (by decide))
                      have gRV := gRV.agL (AgrL.fr fL46 (by decide))
                      have hF := hF.step f46 (by decide)
                      have gHI := HI.fr gHI f46 (by decide)
                      have gMH := gMH.ag (Agr.fr f46 (by decide))
                      have gMT := gMT.ag (Agr.fr f46 (by decide))
                      have t47 : (σ46 387 3).toInt = (σ35 387 3).toInt := congrArg Int32.toInt (f46.at 387 3 (by decide))
                      have t48 : (σ46 390 1).toInt = (σ35 390 1).toInt := congrArg Int32.toInt (f46.at 390 1 (by decide))
                      have t49 : (σ46 390 j33).toInt = (σ35 390 j33).toInt := congrArg Int32.toInt (f46.atV 390 j33 (by intro q hq; simp only [L_X12_takes_v, List.mem_cons, List.not_mem_nil, or_false] at hq; rcases hq with rfl | rfl | rfl <;> dsimp only <;> omega))
                      have hr50 := rg_12_4 hR (k := 387) (by decide) (by decide)
                      refine r_if_ne (tgt := 155) hx hb dX12_ofMan_150 (by decide) (fun c51 => ?_) (fun c51 => ?_)
                      · replace hp46_1 := hp46_1.resolve_left (by omega)
                        replace hp46_2 := hp46_2.resolve_left (by omega)
                        obtain ⟨y, e2, gMK, gvy⟩ := o2.ye (by omega)
                        have hny := num_ok e2
                        refine lv_aload_n hx hb dX12_ofMan_155 rfl (lv_at hl 2 rfl) ?_
                        refine fg_12_7 (k := 387) hx hb hts in_X12_ofMan_12 hown hK hP (by decide) (by decide) (hts _ lk_X12_ofMan_37) dX12_ofMan_156 ?_
                        refine r_bipush hx hb dX12_ofMan_159 (by decide) (fun z52 ez52 => ?_)
                        refine lv_iload_n hx hb dX12_ofMan_161 rfl (lv_at hl 0 rfl) ?_
                        refine r_iadd hx hb dX12_ofMan_162 (by omega) (fun z53 ez53 => ?_)
                        refine lv_aload_n hx hb dX12_ofMan_163 rfl (lv_at hl 2 rfl) ?_
                        refine fg_12_18 (k := 387) hx hb hts in_X12_ofMan_12 hown hK hP (by decide) (by decide) (hts _ lk_X12_ofMan_195) dX12_ofMan_164 ?_
                        refine r_iconst hx hb dX12_ofMan_167 (by decide) (fun z54 ez54 => ?_)
                        refine r_iadd hx hb dX12_ofMan_168 (by omega) (fun z55 ez55 => ?_)
                        refine as_mh (k := 390) (j := j33) hx hb hK hP hI hR hS (by decide) (by decide) (by omega) (by omega) (rx_mh_71 (by decide) (by decide) (by omega) (by omega)) dX12_ofMan_169 (fun σ56 H56 locs56 u56 v56 hR hP hS => ?_)
                        have uq169 := u56
                        have vq169 := v56
                        have hF := hF.puts u56 3 rfl (by decide) (by decide) (by omega) (by omega)
                        have gHI := HI.putV gHI u56 (by intro q hq; simp only [Gd_HI, List.mem_cons, List.not_mem_nil, or_false] at hq; rcases hq with rfl | rfl <;> dsimp only [inRc] <;> omega)
                        have gMK := gMK.ag (Agr.putV u56 (by intro q hq; simp only [Gd_MK, List.mem_cons, List.not_mem_nil, or_false] at hq; rcases hq with rfl | rfl | rfl <;> dsimp only [inRc] <;> omega))
                        have gMT := gMT.ag (Agr.putV u56 (by intro q hq; simp only [Gd_MT, List.mem_cons, List.not_mem_nil, or_false] at hq; rcases hq with rfl | rfl | rfl <;> dsimp only [inRc] <;> omega))
                        have t57 : (σ56 387 3).toInt = (σ46 387 3).toInt := congrArg Int32.toInt (u56 387 3 (by omega))
                        have t58 : (σ56 390 1).toInt = (σ46 390 1).toInt := congrArg Int32.toInt (u56 390 1 (by omega))
                        have t59 : (σ56 387 4).toInt = (σ46 387 4).toInt := congrArg Int32.toInt (u56 387 4 (by omega))
                        have t60 : (σ56 387 11).toInt = (σ46 387 11).toInt := congrArg Int32.toInt (u56 387 11 (by omega))
                        have t61 : (σ56 387 18).toInt = (σ46 387 18).toInt := congrArg Int32.toInt (u56 387 18 (by omega))
                        have gMH := MH.up (k := 71 + k.toNat) (v := y.2 + 1) gMH (by rw [show 71 + k.toNat = j33 by omega]; exact uq169) (by rw [show 71 + k.toNat = j33 by omega]; omega)
                        refine r_iconst hx hb dX12_ofMan_170 (by decide) (fun z62 ez62 => ?_)
                        exact r_zret hx hb hr hK hP hS hk (by omega) dX12_ofMan_171 (show P_X12_ofMan σ0 τ0 b N mo q h nm z62 σ56 τ46 from ⟨hR, hF, hFL, by omega, by omega, by omega, by first | exact MO.ofk (linM_x (z := (q, h, nm, σ0 387 20, σ0 387 21)) (by show tkq b N mo q < 0 ∨ (2 < tkq b N mo q ∧ tkq b N mo q < 7) ∨ 13 < tkq b N mo q; omega)) (by omega) (by omega) (by omega) | (obtain ⟨f, e1, x1, x2⟩ := o1.no (by omega); exact MO.ofl (by rw [linM_10 (z := (q, h, nm, σ0 387 20, σ0 387 21)) (by show tkq b N mo q = 10; omega)]; unfold oldP mnoP; dsimp only; rw [e1]; rfl) (by omega) x1 x2) | exact MO.ofk (by rw [linM_10 (z := (q, h, nm, σ0 387 20, σ0 387 21)) (by show tkq b N mo q = 10; omega)]; unfold oldP mnoP; dsimp only; rw [e1, bnd_r, if_pos (show 0 < h (55 + k.toNat) by rw [show 55 + k.toNat = j33 by omega]; omega)]; rfl) (by omega) (by omega) (by omega) | (obtain ⟨f, e1, x1, x2⟩ := o1.no (by omega); exact MO.ofl (by rw [linM_11 (z := (q, h, nm, σ0 387 20, σ0 387 21)) (by show tkq b N mo q = 11; omega)]; unfold deaP mnoP; dsimp only; rw [e1]; rfl) (by omega) x1 x2) | exact MO.ofk (by rw [linM_11 (z := (q, h, nm, σ0 387 20, σ0 387 21)) (by show tkq b N mo q = 11; omega)]; unfold deaP mnoP; dsimp only; rw [e1, bnd_r, if_pos (show 0 < h (63 + k.toNat) by rw [show 63 + k.toNat = j33 by omega]; omega)]; rfl) (by omega) (by omega) (by omega) | (obtain ⟨f, e1, x1, x2⟩ := o1.no (by omega); exact MO.ofl (by rw [linM_12 (z := (q, h, nm, σ0 387 20, σ0 387 21)) (by show tkq b N mo q = 12; omega)]; unfold neeP mnoP; dsimp only; rw [e1]; rfl) (by omega) x1 x2) | exact MO.ofk (by rw [linM_12 (z := (q, h, nm, σ0 387 20, σ0 387 21)) (by show tkq b N mo q = 12; omega)]; unfold neeP mnoP; dsimp only; rw [e1, bnd_r, if_pos (show 0 < h (71 + k.toNat) by rw [show 71 + k.toNat = j33 by omega]; omega)]; rfl) (by omega) (by omega) (by omega) | exact MO.ofr (by rw [linM_10 (z := (q, h, nm, σ0 387 20, σ0 387 21)) (by show tkq b N mo q = 10; omega)]; unfold oldP; dsimp only; rw [hne.1 (by omega), bnd_r]) (by omega) (MR.mk gMK gMH (gMN.h (uh_n _ _ (by omega)) (uh_n _ _ (by omega))) ((uq134 387 20 (by omega)).trans ((fq118.at 387 20 (by decide)).trans ((fq67.at 387 20 (by decide)).trans (fq55.at 387 20 (by decide))))) ((uq134 387 21 (by omega)).trans ((fq118.at 387 21 (by decide)).trans ((fq67.at 387 21 (by decide)).trans (fq55.at 387 21 (by decide)))))) | exact MO.ofr (by rw [linM_12 (z := (q, h, nm, σ0 387 20, σ0 387 21)) (by show tkq b N mo q = 12; omega)]; unfold neeP; dsimp only; rw [hne.2.2 (by omega), bnd_r, e2, bnd_r]) (by omega) (MR.mk gMK gMH (gMN.h (uh_n _ _ (by omega)) (uh_n _ _ (by omega))) ((uq169 387 20 (by omega)).trans ((fq147.at 387 20 (by decide)).trans ((fq118.at 387 20 (by decide)).trans ((fq67.at 387 20 (by decide)).trans (fq55.at 387 20 (by decide)))))) ((uq169 387 21 (by omega)).trans ((fq147.at 387 21 (by decide)).trans ((fq118.at 387 21 (by decide)).trans ((fq67.at 387 21 (by decide)).trans (fq55.at 387 21 (by decide))))))) | (obtain ⟨f, e2, x1, x2⟩ := o2.no (by omega); exact MO.ofl (by rw [linM_12 (z := (q, h, nm, σ0 387 20, σ0 387 21)) (by show tkq b N mo q = 12; omega)]; unfold neeP; dsimp only; rw [hne.2.2 (by omega), bnd_r, e2, bnd_l]) (by omega) x1 x2) | exact MO.ofr (by rw [linM_11 (z := (q, h, nm, σ0 387 20, σ0 387 21)) (by show tkq b N mo q = 11; omega)]; unfold deaP; dsimp only; rw [hne.2.1 (by omega), bnd_r, e2, bnd_r, if_neg (by omega)]) (by omega) (MR.mk gMK gMH (gMN.h (uh_n _ _ (by omega)) (uh_n _ _ (by omega))) ((fq219.at 387 20 (by decide)).trans ((uq217 387 20 (by omega)).trans ((fq181.at 387 20 (by decide)).trans ((fq118.at 387 20 (by decide)).trans ((fq67.at 387 20 (by decide)).trans (fq55.at 387 20 (by decide))))))) ((fq219.at 387 21 (by decide)).trans ((uq217 387 21 (by omega)).trans ((fq181.at 387 21 (by decide)).trans ((fq118.at 387 21 (by decide)).trans ((fq67.at 387 21 (by decide)).trans (fq55.at 387 21 (by decide)))))))) | exact MO.ofk (by rw [linM_11 (z := (q, h, nm, σ0 387 20, σ0 387 21)) (by show tkq b N mo q = 11; omega)]; unfold deaP; dsimp only; rw [hne.2.1 (by omega), bnd_r, e2, bnd_r, if_pos (by omega)]) (by omega) (by omega) (by omega) | (obtain ⟨f, e2, x1, x2⟩ := o2.no (by omega); exact MO.ofl (by rw [linM_11 (z := (q, h, nm, σ0 387 20, σ0 387 21)) (by show tkq b N mo q = 11; omega)]; unfold deaP; dsimp only; rw [hne.2.1 (by omega), bnd_r, e2, bnd_l]) (by omega) x1 x2), gHI, gMT, gRV⟩)
                      · clear hp46_1 hp46_2
                        refine r_iconst hx hb dX12_ofMan_153 (by decide) (fun z63 ez63 => ?_)
                        exact r_zret hx hb hr hK hP hS hk (by omega) dX12_ofMan_154 (show P_X12_ofMan σ0 τ0 b N mo q h nm z63 σ46 τ46 from ⟨hR, hF, hFL, by omega, by omega, by omega, by first | exact MO.ofk (linM_x (z := (q, h, nm, σ0 387 20, σ0 387 21)) (by show tkq b N mo q < 0 ∨ (2 < tkq b N mo q ∧ tkq b N mo q < 7) ∨ 13 < tkq b N mo q; omega)) (by omega) (by omega) (by omega) | (obtain ⟨f, e1, x1, x2⟩ := o1.no (by omega); exact MO.ofl (by rw [linM_10 (z := (q, h, nm, σ0 387 20, σ0 387 21)) (by show tkq b N mo q = 10; omega)]; unfold oldP mnoP; dsimp only; rw [e1]; rfl) (by omega) x1 x2) | exact MO.ofk (by rw [linM_10 (z := (q, h, nm, σ0 387 20, σ0 387 21)) (by show tkq b N mo q = 10; omega)]; unfold oldP mnoP; dsimp only; rw [e1, bnd_r, if_pos (show 0 < h (55 + k.toNat) by rw [show 55 + k.toNat = j33 by omega]; omega)]; rfl) (by omega) (by omega) (by omega) | (obtain ⟨f, e1, x1, x2⟩ := o1.no (by omega); exact MO.ofl (by rw [linM_11 (z := (q, h, nm, σ0 387 20, σ0 387 21)) (by show tkq b N mo q = 11; omega)]; unfold deaP mnoP; dsimp only; rw [e1]; rfl) (by omega) x1 x2) | exact MO.ofk (by rw [linM_11 (z := (q, h, nm, σ0 387 20, σ0 387 21)) (by show tkq b N mo q = 11; omega)]; unfold deaP mnoP; dsimp only; rw [e1, bnd_r, if_pos (show 0 < h (63 + k.toNat) by rw [show 63 + k.toNat = j33 by omega]; omega)]; rfl) (by omega) (by omega) (by omega) | (obtain ⟨f, e1, x1, x2⟩ := o1.no (by omega); exact MO.ofl (by rw [linM_12 (z := (q, h, nm, σ0 387 20, σ0 387 21)) (by show tkq b N mo q = 12; omega)]; unfold neeP mnoP; dsimp only; rw [e1]; rfl) (by omega) x1 x2) | exact MO.ofk (by rw [linM_12 (z := (q, h, nm, σ0 387 20, σ0 387 21)) (by show tkq b N mo q = 12; omega)]; unfold neeP mnoP; dsimp only; rw [e1, bnd_r, if_pos (show 0 < h (71 + k.toNat) by rw [show 71 + k.toNat = j33 by omega]; omega)]; rfl) (by omega) (by omega) (by omega) | exact MO.ofr (by rw [linM_10 (z := (q, h, nm, σ0 387 20, σ0 387 21)) (by show tkq b N mo q = 10; omega)]; unfold oldP; dsimp only; rw [hne.1 (by omega), bnd_r]) (by omega) (MR.mk gMK gMH (gMN.h (uh_n _ _ (by omega)) (uh_n _ _ (by omega))) ((uq134 387 20 (by omega)).trans ((fq118.at 387 20 (by decide)).trans ((fq67.at 387 20 (by decide)).trans (fq55.at 387 20 (by decide))))) ((uq134 387 21 (by omega)).trans ((fq118.at 387 21 (by decide)).trans ((fq67.at 387 21 (by decide)).trans (fq55.at 387 21 (by decide)))))) | exact MO.ofr (by rw [linM_12 (z := (q, h, nm, σ0 387 20, σ0 387 21)) (by show tkq b N mo q = 12; omega)]; unfold neeP; dsimp only; rw [hne.2.2 (by omega), bnd_r, e2, bnd_r]) (by omega) (MR.mk gMK gMH (gMN.h (uh_n _ _ (by omega)) (uh_n _ _ (by omega))) ((uq169 387 20 (by omega)).trans ((fq147.at 387 20 (by decide)).trans ((fq118.at 387 20 (by decide)).trans ((fq67.at 387 20 (by decide)).trans (fq55.at 387 20 (by decide)))))) ((uq169 387 21 (by omega)).trans ((fq147.at 387 21 (by decide)).trans ((fq118.at 387 21 (by decide)).trans ((fq67.at 387 21 (by decide)).trans (fq55.at 387 21 (by decide))))))) | (obtain ⟨f, e2, x1, x2⟩ := o2.no (by omega); exact MO.ofl (by rw [linM_12 (z := (q, h, nm, σ0 387 20, σ0 387 21)) (by show tkq b N mo q = 12; omega)]; unfold neeP; dsimp only; rw [hne.2.2 (by omega), bnd_r, e2, bnd_l]) (by omega) x1 x2) | exact MO.ofr (by rw [linM_11 (z := (q, h, nm, σ0 387 20, σ0 387 21)) (by show tkq b N mo q = 11; omega)]; unfold deaP; dsimp only; rw [hne.2.1 (by omega), bnd_r, e2, bnd_r, if_neg (by omega)]) (by omega) (MR.mk gMK gMH (gMN.h (uh_n _ _ (by omega)) (uh_n _ _ (by omega))) ((fq219.at 387 20 (by decide)).trans ((uq217 387 20 (by omega)).trans ((fq181.at 387 20 (by decide)).trans ((fq118.at 387 20 (by decide)).trans ((fq67.at 387 20 (by decide)).trans (fq55.at 387 20 (by decide))))))) ((fq219.at 387 21 (by decide)).trans ((uq217 387 21 (by omega)).trans ((fq181.at 387 21 (by decide)).trans ((fq118.at 387 21 (by decide)).trans ((fq67.at 387 21 (by decide)).trans (fq55.at 387 21 (by decide)))))))) | exact MO.ofk (by rw [linM_11 (z := (q, h, nm, σ0 387 20, σ0 387 21)) (by show tkq b N mo q = 11; omega)]; unfold deaP; dsimp only; rw [hne.2.1 (by omega), bnd_r, e2, bnd_r, if_pos (by omega)]) (by omega) (by omega) (by omega) | (obtain ⟨f, e2, x1, x2⟩ := o2.no (by omega); exact MO.ofl (by rw [linM_11 (z := (q, h, nm, σ0 387 20, σ0 387 21)) (by show tkq b N mo q = 11; omega)]; unfold deaP; dsimp only; rw [hne.2.1 (by omega), bnd_r, e2, bnd_l]) (by omega) x1 x2), gHI, gMT, gRV⟩)
                  · exfalso; omega
                · refine lv_aload_n hx hb dX12_ofMan_111 rfl (lv_at hl 2 rfl) ?_
                  refine r_iconst hx hb dX12_ofMan_112 (by decide) (fun z64 ez64 => ?_)
                  refine r_cVi (k := 387) (As := [.int z64]) (rest := []) ⟨hx, hb, hml, hown, hts⟩ hK hP hN hS (c_X12_bad_v l D cA ad hI σ22 τ16 hR z64 _ _ _ _ (by omega) gMK) (cwV 1 hts gX12_ofMan_X12_bad rfl rfl rfl (by decide +kernel) ⟨by decide, by decide⟩) (rv_M hK hP (by decide) (by decide)) rfl hl.1 rfl (Nat.le_of_ble_eq_true rfl) dX12_ofMan_113 (Nat.zero_le _) (Nat.zero_le _) (fun r65 u65 H65 locs65 hp65 hP hS => ?_)
                  obtain ⟨σ65, τ65⟩ := u65
                  obtain ⟨hR, f65, fL65, hq65, hp65_0, hp65_1, hp65_2, gnMK⟩ : P_X12_bad_v σ22 τ16 z64 _ _ _ _ r65 σ65 τ65 := hp65
                  have hP : va_P D vwCl (gw cA ad σ65 τ65) H65 := hP
                  obtain rfl := FrL.nil fL65
                  have hF := hF.step f65 (by decide)
                  have gHI := HI.fr gHI f65 (by decide)
                  have gMH := gMH.ag (Agr.fr f65 (by decide))
                  have gMK := gMK.ag (Agr.fr f65 (by decide))
                  have gMT := gMT.ag (Agr.fr f65 (by decide))
                  have t66 : (σ65 387 3).toInt = (σ22 387 3).toInt := congrArg Int32.toInt (f65.at 387 3 (by decide))
                  have t67 : (σ65 387 4).toInt = (σ22 387 4).toInt := congrArg Int32.toInt (f65.at 387 4 (by decide))
                  have t68 : (σ65 387 11).toInt = (σ22 387 11).toInt := congrArg Int32.toInt (f65.at 387 11 (by decide))
                  have t69 : (σ65 390 1).toInt = (σ22 390 1).toInt := congrArg Int32.toInt (f65.at 390 1 (by decide))
                  have t70 : (σ65 387 18).toInt = (σ22 387 18).toInt := congrArg Int32.toInt (f65.at 387 18 (by decide))
                  have t71 : (σ65 390 j33).toInt = (σ22 390 j33).toInt := congrArg Int32.toInt (f65.atV 390 j33 (by intro q hq; simp only [L_X12_bad_v, List.mem_cons, List.not_mem_nil, or_false] at hq; rcases hq with rfl <;> dsimp only <;> omega))
                  exact r_zret hx hb hr hK hP hS hk (by omega) dX12_ofMan_116 (show P_X12_ofMan σ0 τ0 b N mo q h nm r65 σ65 τ16 from ⟨hR, hF, hFL, by omega, by omega, by omega, by first | exact MO.ofk (linM_x (z := (q, h, nm, σ0 387 20, σ0 387 21)) (by show tkq b N mo q < 0 ∨ (2 < tkq b N mo q ∧ tkq b N mo q < 7) ∨ 13 < tkq b N mo q; omega)) (by omega) (by omega) (by omega) | (obtain ⟨f, e1, x1, x2⟩ := o1.no (by omega); exact MO.ofl (by rw [linM_10 (z := (q, h, nm, σ0 387 20, σ0 387 21)) (by show tkq b N mo q = 10; omega)]; unfold oldP mnoP; dsimp only; rw [e1]; rfl) (by omega) x1 x2) | exact MO.ofk (by rw [linM_10 (z := (q, h, nm, σ0 387 20, σ0 387 21)) (by show tkq b N mo q = 10; omega)]; unfold oldP mnoP; dsimp only; rw [e1, bnd_r, if_pos (show 0 < h (55 + k.toNat) by rw [show 55 + k.toNat = j33 by omega]; omega)]; rfl) (by omega) (by omega) (by omega) | (obtain ⟨f, e1, x1, x2⟩ := o1.no (by omega); exact MO.ofl (by rw [linM_11 (z := (q, h, nm, σ0 387 20, σ0 387 21)) (by show tkq b N mo q = 11; omega)]; unfold deaP mnoP; dsimp only; rw [e1]; rfl) (by omega) x1 x2) | exact MO.ofk (by rw [linM_11 (z := (q, h, nm, σ0 387 20, σ0 387 21)) (by show tkq b N mo q = 11; omega)]; unfold deaP mnoP; dsimp only; rw [e1, bnd_r, if_pos (show 0 < h (63 + k.toNat) by rw [show 63 + k.toNat = j33 by omega]; omega)]; rfl) (by omega) (by omega) (by omega) | (obtain ⟨f, e1, x1, x2⟩ := o1.no (by omega); exact MO.ofl (by rw [linM_12 (z := (q, h, nm, σ0 387 20, σ0 387 21)) (by show tkq b N mo q = 12; omega)]; unfold neeP mnoP; dsimp only; rw [e1]; rfl) (by omega) x1 x2) | exact MO.ofk (by rw [linM_12 (z := (q, h, nm, σ0 387 20, σ0 387 21)) (by show tkq b N mo q = 12; omega)]; unfold neeP mnoP; dsimp only; rw [e1, bnd_r, if_pos (show 0 < h (71 + k.toNat) by rw [show 71 + k.toNat = j33 by omega]; omega)]; rfl) (by omega) (by omega) (by omega) | exact MO.ofr (by rw [linM_10 (z := (q, h, nm, σ0 387 20, σ0 387 21)) (by show tkq b N mo q = 10; omega)]; unfold oldP; dsimp only; rw [hne.1 (by omega), bnd_r]) (by omega) (MR.mk gMK gMH (gMN.h (uh_n _ _ (by omega)) (uh_n _ _ (by omega))) ((uq134 387 20 (by omega)).trans ((fq118.at 387 20 (by decide)).trans ((fq67.at 387 20 (by decide)).trans (fq55.at 387 20 (by decide))))) ((uq134 387 21 (by omega)).trans ((fq118.at 387 21 (by decide)).trans ((fq67.at 387 21 (by decide)).trans (fq55.at 387 21 (by decide)))))) | exact MO.ofr (by rw [linM_12 (z := (q, h, nm, σ0 387 20, σ0 387 21)) (by show tkq b N mo q = 12; omega)]; unfold neeP; dsimp only; rw [hne.2.2 (by omega), bnd_r, e2, bnd_r]) (by omega) (MR.mk gMK gMH (gMN.h (uh_n _ _ (by omega)) (uh_n _ _ (by omega))) ((uq169 387 20 (by omega)).trans ((fq147.at 387 20 (by decide)).trans ((fq118.at 387 20 (by decide)).trans ((fq67.at 387 20 (by decide)).trans (fq55.at 387 20 (by decide)))))) ((uq169 387 21 (by omega)).trans ((fq147.at 387 21 (by decide)).trans ((fq118.at 387 21 (by decide)).trans ((fq67.at 387 21 (by decide)).trans (fq55.at 387 21 (by decide))))))) | (obtain ⟨f, e2, x1, x2⟩ := o2.no (by omega); exact MO.ofl (by rw [linM_12 (z := (q, h, nm, σ0 387 20, σ0 387 21)) (by show tkq b N mo q = 12; omega)]; unfold neeP; dsimp only; rw [hne.2.2 (by omega), bnd_r, e2, bnd_l]) (by omega) x1 x2) | exact MO.ofr (by rw [linM_11 (z := (q, h, nm, σ0 387 20, σ0 387 21)) (by show tkq b N mo q = 11; omega)]; unfold deaP; dsimp only; rw [hne.2.1 (by omega), bnd_r, e2, bnd_r, if_neg (by omega)]) (by omega) (MR.mk gMK gMH (gMN.h (uh_n _ _ (by omega)) (uh_n _ _ (by omega))) ((fq219.at 387 20 (by decide)).trans ((uq217 387 20 (by omega)).trans ((fq181.at 387 20 (by decide)).trans ((fq118.at 387 20 (by decide)).trans ((fq67.at 387 20 (by decide)).trans (fq55.at 387 20 (by decide))))))) ((fq219.at 387 21 (by decide)).trans ((uq217 387 21 (by omega)).trans ((fq181.at 387 21 (by decide)).trans ((fq118.at 387 21 (by decide)).trans ((fq67.at 387 21 (by decide)).trans (fq55.at 387 21 (by decide)))))))) | exact MO.ofk (by rw [linM_11 (z := (q, h, nm, σ0 387 20, σ0 387 21)) (by show tkq b N mo q = 11; omega)]; unfold deaP; dsimp only; rw [hne.2.1 (by omega), bnd_r, e2, bnd_r, if_pos (by omega)]) (by omega) (by omega) (by omega) | (obtain ⟨f, e2, x1, x2⟩ := o2.no (by omega); exact MO.ofl (by rw [linM_11 (z := (q, h, nm, σ0 387 20, σ0 387 21)) (by show tkq b N mo q = 11; omega)]; unfold deaP; dsimp only; rw [hne.2.1 (by omega), bnd_r, e2, bnd_l]) (by omega) x1 x2), gHI, gMT, gRV⟩)
              · exfalso; omega
            · exfalso; omega
          · clear hp22_0 hp22_1
            refine r_iconst hx hb dX12_ofMan_73 (by decide) (fun z72 ez72 => ?_)
            exact r_zret hx hb hr hK hP hS hk (by omega) dX12_ofMan_74 (show P_X12_ofMan σ0 τ0 b N mo q h nm z72 σ22 τ16 from ⟨hR, hF, hFL, by omega, by omega, by omega, by first | exact MO.ofk (linM_x (z := (q, h, nm, σ0 387 20, σ0 387 21)) (by show tkq b N mo q < 0 ∨ (2 < tkq b N mo q ∧ tkq b N mo q < 7) ∨ 13 < tkq b N mo q; omega)) (by omega) (by omega) (by omega) | (obtain ⟨f, e1, x1, x2⟩ := o1.no (by omega); exact MO.ofl (by rw [linM_10 (z := (q, h, nm, σ0 387 20, σ0 387 21)) (by show tkq b N mo q = 10; omega)]; unfold oldP mnoP; dsimp only; rw [e1]; rfl) (by omega) x1 x2) | exact MO.ofk (by rw [linM_10 (z := (q, h, nm, σ0 387 20, σ0 387 21)) (by show tkq b N mo q = 10; omega)]; unfold oldP mnoP; dsimp only; rw [e1, bnd_r, if_pos (show 0 < h (55 + k.toNat) by rw [show 55 + k.toNat = 1 by omega]; omega)]; rfl) (by omega) (by omega) (by omega) | (obtain ⟨f, e1, x1, x2⟩ := o1.no (by omega); exact MO.ofl (by rw [linM_11 (z := (q, h, nm, σ0 387 20, σ0 387 21)) (by show tkq b N mo q = 11; omega)]; unfold deaP mnoP; dsimp only; rw [e1]; rfl) (by omega) x1 x2) | exact MO.ofk (by rw [linM_11 (z := (q, h, nm, σ0 387 20, σ0 387 21)) (by show tkq b N mo q = 11; omega)]; unfold deaP mnoP; dsimp only; rw [e1, bnd_r, if_pos (show 0 < h (63 + k.toNat) by rw [show 63 + k.toNat = 1 by omega]; omega)]; rfl) (by omega) (by omega) (by omega) | (obtain ⟨f, e1, x1, x2⟩ := o1.no (by omega); exact MO.ofl (by rw [linM_12 (z := (q, h, nm, σ0 387 20, σ0 387 21)) (by show tkq b N mo q = 12; omega)]; unfold neeP mnoP; dsimp only; rw [e1]; rfl) (by omega) x1 x2) | exact MO.ofk (by rw [linM_12 (z := (q, h, nm, σ0 387 20, σ0 387 21)) (by show tkq b N mo q = 12; omega)]; unfold neeP mnoP; dsimp only; rw [e1, bnd_r, if_pos (show 0 < h (71 + k.toNat) by rw [show 71 + k.toNat = 1 by omega]; omega)]; rfl) (by omega) (by omega) (by omega) | exact MO.ofr (by rw [linM_10 (z := (q, h, nm, σ0 387 20, σ0 387 21)) (by show tkq b N mo q = 10; omega)]; unfold oldP; dsimp only; rw [hne.1 (by omega), bnd_r]) (by omega) (MR.mk gMK gMH (gMN.h (uh_n _ _ (by omega)) (uh_n _ _ (by omega))) ((uq134 387 20 (by omega)).trans ((fq118.at 387 20 (by decide)).trans ((fq67.at 387 20 (by decide)).trans (fq55.at 387 20 (by decide))))) ((uq134 387 21 (by omega)).trans ((fq118.at 387 21 (by decide)).trans ((fq67.at 387 21 (by decide)).trans (fq55.at 387 21 (by decide)))))) | exact MO.ofr (by rw [linM_12 (z := (q, h, nm, σ0 387 20, σ0 387 21)) (by show tkq b N mo q = 12; omega)]; unfold neeP; dsimp only; rw [hne.2.2 (by omega), bnd_r, e2, bnd_r]) (by omega) (MR.mk gMK gMH (gMN.h (uh_n _ _ (by omega)) (uh_n _ _ (by omega))) ((uq169 387 20 (by omega)).trans ((fq147.at 387 20 (by decide)).trans ((fq118.at 387 20 (by decide)).trans ((fq67.at 387 20 (by decide)).trans (fq55.at 387 20 (by decide)))))) ((uq169 387 21 (by omega)).trans ((fq147.at 387 21 (by decide)).trans ((fq118.at 387 21 (by decide)).trans ((fq67.at 387 21 (by decide)).trans (fq55.at 387 21 (by decide))))))) | (obtain ⟨f, e2, x1, x2⟩ := o2.no (by omega); exact MO.ofl (by rw [linM_12 (z := (q, h, nm, σ0 387 20, σ0 387 21)) (by show tkq b N mo q = 12; omega)]; unfold neeP; dsimp only; rw [hne.2.2 (by omega), bnd_r, e2, bnd_l]) (by omega) x1 x2) | exact MO.ofr (by rw [linM_11 (z := (q, h, nm, σ0 387 20, σ0 387 21)) (by show tkq b N mo q = 11; omega)]; unfold deaP; dsimp only; rw [hne.2.1 (by omega), bnd_r, e2, bnd_r, if_neg (by omega)]) (by omega) (MR.mk gMK gMH (gMN.h (uh_n _ _ (by omega)) (uh_n _ _ (by omega))) ((fq219.at 387 20 (by decide)).trans ((uq217 387 20 (by omega)).trans ((fq181.at 387 20 (by decide)).trans ((fq118.at 387 20 (by decide)).trans ((fq67.at 387 20 (by decide)).trans (fq55.at 387 20 (by decide))))))) ((fq219.at 387 21 (by decide)).trans ((uq217 387 21 (by omega)).trans ((fq181.at 387 21 (by decide)).trans ((fq118.at 387 21 (by decide)).trans ((fq67.at 387 21 (by decide)).trans (fq55.at 387 21 (by decide)))))))) | exact MO.ofk (by rw [linM_11 (z := (q, h, nm, σ0 387 20, σ0 387 21)) (by show tkq b N mo q = 11; omega)]; unfold deaP; dsimp only; rw [hne.2.1 (by omega), bnd_r, e2, bnd_r, if_pos (by omega)]) (by omega) (by omega) (by omega) | (obtain ⟨f, e2, x1, x2⟩ := o2.no (by omega); exact MO.ofl (by rw [linM_11 (z := (q, h, nm, σ0 387 20, σ0 387 21)) (by show tkq b N mo q = 11; omega)]; unfold deaP; dsimp only; rw [hne.2.1 (by omega), bnd_r, e2, bnd_l]) (by omega) x1 x2), gHI, gMT, gRV⟩)
        · exfalso; omega
    · replace hp3_0 := hp3_0.resolve_left (by omega)
      refine r_iconst hx hb dX12_ofMan_24 (by decide) (fun z73 ez73 => ?_)
      refine lv_goto (tgt := 43) hx hb dX12_ofMan_25 (by decide) ?_
      refine lv_istore_n (lv' := [(1, .int z73), (0, .ref (ad 387))]) hx hb dX12_ofMan_43 rfl hl (by decide) rfl (fun ls hl => ?_)
      refine lv_iload_n hx hb dX12_ofMan_44 rfl (lv_at hl 0 rfl) ?_
      refine r_if_ge (tgt := 54) hx hb dX12_ofMan_45 (by decide) (fun c74 => ?_) (fun c74 => ?_)
      · have hh0 := gMH 0 (by omega)
        have hh1 := gMH 1 (by omega)
        have hra := ra_mh_0 hR (k := 390) (j := 0) (by decide) (by decide) (by decide) (by decide)
        have hrb := ra_mh_0 hR (k := 390) (j := 1) (by decide) (by decide) (by decide) (by decide)
        refine lv_aload_n hx hb dX12_ofMan_54 rfl (lv_at hl 1 rfl) ?_
        refine r_cVv (k := 387) (As := []) (rest := []) ⟨hx, hb, hml, hown, hts⟩ hK hP hN hS (c_X12_next_v l D cA ad hI σ0 τ0 hR _ _ _ _ gMK.mp gMT) (cwV 0 hts gX12_ofMan_X12_next rfl rfl rfl (by decide +kernel) ⟨by decide, by decide⟩) (rv_M hK hP (by decide) (by decide)) rfl hl.1 rfl (Nat.le_of_ble_eq_true rfl) dX12_ofMan_55 (Nat.zero_le _) (Nat.zero_le _) (fun u75 H75 locs75 hp75 hP hS => ?_)
        obtain ⟨σ75, τ75⟩ := u75
        obtain ⟨hR, f75, fL75, hp75_0, hp75_1, hp75_2, hp75_3, gnMT⟩ : P_X12_next_v σ0 τ0 _ _ _ _ σ75 τ75 := hp75
        have fq55 := f75
        have hP : va_P D vwCl (gw cA ad σ75 τ75) H75 := hP
        have hFL := hFL.step fL75 (by decide)
        have gMN := gMN.agL (AgrL.fr fL75 (by decide))
        have gRV := gRV.agL (AgrL.fr fL75 (by decide))
        have hF := hF.step f75 (by decide)
        have gHI := HI.fr gHI f75 (by decide)
        have gMH := gMH.ag (Agr.fr f75 (by decide))
        have gMT := gMT.ag (Agr.fr f75 (by decide))
        have t76 : (σ75 387 3).toInt = (σ0 387 3).toInt := congrArg Int32.toInt (f75.at 387 3 (by decide))
        have hr77 := rg_12_4 hR (k := 387) (by decide) (by decide)
        have gMK := hp75_3
        have hh1a := gMH 1 (by omega)
        refine lv_aload_n hx hb dX12_ofMan_58 rfl (lv_at hl 1 rfl) ?_
        refine r_bipush hx hb dX12_ofMan_59 (by decide) (fun z78 ez78 => ?_)
        refine lv_aload_n hx hb dX12_ofMan_61 rfl (lv_at hl 1 rfl) ?_
        refine fg_12_7 (k := 387) hx hb hts in_X12_ofMan_12 hown hK hP (by decide) (by decide) (hts _ lk_X12_ofMan_37) dX12_ofMan_62 ?_
        refine r_iconst hx hb dX12_ofMan_65 (by decide) (fun z79 ez79 => ?_)
        refine ad_mh (k := 390) (j := 1) hx hb hK hP (by decide) (by decide) (by omega) (by omega) dX12_ofMan_66 ?_
        have hr80 := ra_mh_0 hR (k := 390) (j := 1) (by decide) (by decide) (by decide) (by decide)
        refine r_cVi (k := 387) (As := [.int z78, .int (σ75 390 1)]) (rest := []) ⟨hx, hb, hml, hown, hts⟩ hK hP hN hS (c_X12_looksAt_v l D cA ad hI σ75 τ75 hR z78 (σ75 390 1) b N mo _ h nm (n8 nm) (h 1).toNat 24 (by omega) (by omega) (by omega) (Or.inr ⟨rfl, rfl, rfl, by omega⟩) (by omega) gMK gRV gMN) (cwV 2 hts gX12_ofMan_X12_looksAt rfl rfl rfl (by decide +kernel) ⟨by decide, by decide⟩) (rv_M hK hP (by decide) (by decide)) rfl hl.1 rfl (Nat.le_of_ble_eq_true rfl) dX12_ofMan_67 (Nat.zero_le _) (Nat.zero_le _) (fun r81 u81 H81 locs81 hp81 hP hS => ?_)
        obtain ⟨σ81, τ81⟩ := u81
        obtain ⟨hR, f81, fL81, hq81, hp81_0, hp81_1, hp81_2, gnMK, gnRV, gnMN⟩ : P_X12_looksAt_v σ75 τ75 z78 (σ75 390 1) b N mo _ h nm (n8 nm) (h 1).toNat 24 r81 σ81 τ81 := hp81
        have o1 := hp81_2
        have fq67 := f81
        have hP : va_P D vwCl (gw cA ad σ81 τ81) H81 := hP
        obtain rfl := FrL.nil fL81
        have hF := hF.step f81 (by decide)
        have gHI := HI.fr gHI f81 (by decide)
        have gMH := gMH.ag (Agr.fr f81 (by decide))
        have gMK := gMK.ag (Agr.fr f81 (by decide))
        have gMT := gMT.ag (Agr.fr f81 (by decide))
        have t82 : (σ81 387 3).toInt = (σ75 387 3).toInt := congrArg Int32.toInt (f81.at 387 3 (by decide))
        have t83 : (σ81 387 4).toInt = (σ75 387 4).toInt := congrArg Int32.toInt (f81.at 387 4 (by decide))
        have t84 : (σ81 387 11).toInt = (σ75 387 11).toInt := congrArg Int32.toInt (f81.at 387 11 (by decide))
        have t85 : (σ81 390 1).toInt = (σ75 390 1).toInt := congrArg Int32.toInt (f81.at 390 1 (by decide))
        refine r_if_ne (tgt := 75) hx hb dX12_ofMan_70 (by decide) (fun c86 => ?_) (fun c86 => ?_)
        · replace hp81_0 := hp81_0.resolve_left (by omega)
          replace hp81_1 := hp81_1.resolve_left (by omega)
          obtain ⟨k, e1, ek⟩ := o1.ye (by omega)
          have hlk := lok_ok e1
          refine lv_aload_n hx hb dX12_ofMan_75 rfl (lv_at hl 1 rfl) ?_
          refine fg_12_18 (k := 387) hx hb hts in_X12_ofMan_12 hown hK hP (by decide) (by decide) (hts _ lk_X12_ofMan_195) dX12_ofMan_76 ?_
          refine lv_istore_n (lv' := [(2, .int (σ81 387 18)), (1, .int z73), (0, .ref (ad 387))]) hx hb dX12_ofMan_79 rfl hl (by decide) rfl (fun ls hl => ?_)
          refine lv_aload_n hx hb dX12_ofMan_80 rfl (lv_at hl 2 rfl) ?_
          refine fg_12_7 (k := 387) hx hb hts in_X12_ofMan_12 hown hK hP (by decide) (by decide) (hts _ lk_X12_ofMan_37) dX12_ofMan_81 ?_
          refine lv_iload_n hx hb dX12_ofMan_84 rfl (lv_at hl 1 rfl) ?_
          refine r_if_ne (tgt := 93) hx hb dX12_ofMan_85 (by decide) (fun c87 => ?_) (fun c87 => ?_)
          · refine lv_iload_n hx hb dX12_ofMan_93 rfl (lv_at hl 1 rfl) ?_
            refine r_iconst hx hb dX12_ofMan_94 (by decide) (fun z88 ez88 => ?_)
            refine r_icmp_ne (tgt := 103) hx hb dX12_ofMan_95 (by decide) (fun c89 => ?_) (fun c89 => ?_)
            · exfalso; omega
            · refine r_bipush hx hb dX12_ofMan_98 (by decide) (fun z90 ez90 => ?_)
              refine lv_goto (tgt := 105) hx hb dX12_ofMan_100 (by decide) ?_
              refine lv_iload_n hx hb dX12_ofMan_105 rfl (lv_at hl 0 rfl) ?_
              refine r_iadd hx hb dX12_ofMan_106 (by omega) (fun z91 ez91 => ?_)
              obtain ⟨j92, ej92⟩ : ∃ j : Nat, z91.toInt = (j : Int) := ⟨_, ti_nat (by omega)⟩
              refine ad_mh (k := 390) (j := j92) hx hb hK hP (by decide) (by decide) ej92 (by omega) dX12_ofMan_107 ?_
              have hr93 := ra_mh_3 hR (k := 390) (j := j92) (by decide) (by decide) (by omega) (by omega)
              have hho := gMH j92 (by omega)
              refine r_if_le (tgt := 117) hx hb dX12_ofMan_108 (by decide) (fun c94 => ?_) (fun c94 => ?_)
              · have hnn : ¬ 0 < h j92 := by omega
                have hjn : (((j92 : Nat) : Int) = 55 + k ∧ tkq b N mo q = 10) ∨ (((j92 : Nat) : Int) = 63 + k ∧ tkq b N mo q = 11) ∨ (((j92 : Nat) : Int) = 71 + k ∧ tkq b N mo q = 12) := by omega
                have hne : mnoK b N mo h nm q k := mnoK.of e1 hnn hjn hlk.2.1
                refine lv_aload_n hx hb dX12_ofMan_117 rfl (lv_at hl 2 rfl) ?_
                refine r_cVv (k := 387) (As := []) (rest := []) ⟨hx, hb, hml, hown, hts⟩ hK hP hN hS (c_X12_next_v l D cA ad hI σ81 τ75 hR _ _ _ _ gMK.mp gMT) (cwV 0 hts gX12_ofMan_X12_next rfl rfl rfl (by decide +kernel) ⟨by decide, by decide⟩) (rv_M hK hP (by decide) (by decide)) rfl hl.1 rfl (Nat.le_of_ble_eq_true rfl) dX12_ofMan_118 (Nat.zero_le _) (Nat.zero_le _) (fun u95 H95 locs95 hp95 hP hS => ?_)
                obtain ⟨σ95, τ95⟩ := u95
                obtain ⟨hR, f95, fL95, hp95_0, hp95_1, hp95_2, hp95_3, gnMT⟩ : P_X12_next_v σ81 τ75 _ _ _ _ σ95 τ95 := hp95
                have fq118 := f95
                have hP : va_P D vwCl (gw cA ad σ95 τ95) H95 := hP
                clear hp75_1
                have hFL := hFL.step fL95 (by decide)
                have gMN := gMN.agL (AgrL.fr fL95 (by decide))
                have gRV := gRV.agL (AgrL.fr fL95 (by decide))
                have hF := hF.step f95 (by decide)
                have gHI := HI.fr gHI f95 (by decide)
                have gMH := gMH.ag (Agr.fr f95 (by decide))
                have gMT := gMT.ag (Agr.fr f95 (by decide))
                have t96 : (σ95 387 3).toInt = (σ81 387 3).toInt := congrArg Int32.toInt (f95.at 387 3 (by decide))
                have t97 : (σ95 390 1).toInt = (σ81 390 1).toInt := congrArg Int32.toInt (f95.at 390 1 (by decide))
                have t98 : (σ95 387 18).toInt = (σ81 387 18).toInt := congrArg Int32.toInt (f95.at 387 18 (by decide))
                have t99 : (σ95 390 j92).toInt = (σ81 390 j92).toInt := congrArg Int32.toInt (f95.atV 390 j92 (by intro q hq; simp only [L_X12_next_v, List.mem_cons, List.not_mem_nil, or_false] at hq; rcases hq with rfl | rfl <;> dsimp only <;> omega))
                have hr100 := rg_12_4 hR (k := 387) (by decide) (by decide)
                have gMK := hp95_3
                refine lv_iload_n hx hb dX12_ofMan_121 rfl (lv_at hl 1 rfl) ?_
                refine r_if_ne (tgt := 137) hx hb dX12_ofMan_122 (by decide) (fun c101 => ?_) (fun c101 => ?_)
                · refine lv_iload_n hx hb dX12_ofMan_137 rfl (lv_at hl 1 rfl) ?_
                  refine r_iconst hx hb dX12_ofMan_138 (by decide) (fun z102 ez102 => ?_)
                  refine r_icmp_ne (tgt := 172) hx hb dX12_ofMan_139 (by decide) (fun c103 => ?_) (fun c103 => ?_)
                  · have hh1b := gMH 1 (by omega)
                    refine lv_aload_n hx hb dX12_ofMan_172 rfl (lv_at hl 2 rfl) ?_
                    refine r_bipush hx hb dX12_ofMan_173 (by decide) (fun z104 ez104 => ?_)
                    refine lv_aload_n hx hb dX12_ofMan_175 rfl (lv_at hl 2 rfl) ?_
                    refine fg_12_7 (k := 387) hx hb hts in_X12_ofMan_12 hown hK hP (by decide) (by decide) (hts _ lk_X12_ofMan_37) dX12_ofMan_176 ?_
                    refine r_iconst hx hb dX12_ofMan_179 (by decide) (fun z105 ez105 => ?_)
                    refine ad_mh (k := 390) (j := 1) hx hb hK hP (by decide) (by decide) (by omega) (by omega) dX12_ofMan_180 ?_
                    have hr106 := ra_mh_0 hR (k := 390) (j := 1) (by decide) (by decide) (by decide) (by decide)
                    refine r_cVi (k := 387) (As := [.int z104, .int (σ95 390 1)]) (rest := []) ⟨hx, hb, hml, hown, hts⟩ hK hP hN hS (c_X12_looksAt_v l D cA ad hI σ95 τ95 hR z104 (σ95 390 1) b N mo _ h nm (n8 nm) (h 1).toNat 24 (by omega) (by omega) (by omega) (Or.inr ⟨rfl, rfl, rfl, by omega⟩) (by omega) gMK gRV gMN) (cwV 2 hts gX12_ofMan_X12_looksAt rfl rfl rfl (by decide +kernel) ⟨by decide, by decide⟩) (rv_M hK hP (by decide) (by decide)) rfl hl.1 rfl (Nat.le_of_ble_eq_true rfl) dX12_ofMan_181 (Nat.zero_le _) (Nat.zero_le _) (fun r107 u107 H107 locs107 hp107 hP hS => ?_)
                    obtain ⟨σ107, τ107⟩ := u107
                    obtain ⟨hR, f107, fL107, hq107, hp107_0, hp107_1, hp107_2, gnMK, gnRV, gnMN⟩ : P_X12_looksAt_v σ95 τ95 z104 (σ95 390 1) b N mo _ h nm (n8 nm) (h 1).toNat 24 r107 σ107 τ107 := hp107
                    have o2 := hp107_2
                    have fq181 := f107
                    have hP : va_P D vwCl (gw cA ad σ107 τ107) H107 := hP
                    obtain rfl := FrL.nil fL107
                    have hF := hF.step f107 (by decide)
                    have gHI := HI.fr gHI f107 (by decide)
                    have gMH := gMH.ag (Agr.fr f107 (by decide))
                    have gMK := gMK.ag (Agr.fr f107 (by decide))
                    have gMT := gMT.ag (Agr.fr f107 (by decide))
                    have t108 : (σ107 387 3).toInt = (σ95 387 3).toInt := congrArg Int32.toInt (f107.at 387 3 (by decide))
                    have t109 : (σ107 390 1).toInt = (σ95 390 1).toInt := congrArg Int32.toInt (f107.at 390 1 (by decide))
                    have t110 : (σ107 390 j92).toInt = (σ95 390 j92).toInt := congrArg Int32.toInt (f107.atV 390 j92 (by intro q hq; simp only [L_X12_looksAt_v, List.mem_cons, List.not_mem_nil, or_false] at hq; rcases hq with rfl | rfl <;> dsimp only <;> omega))
                    have t111 : (σ107 387 4).toInt = (σ95 387 4).toInt := congrArg Int32.toInt (f107.at 387 4 (by decide))
                    have t112 : (σ107 387 11).toInt = (σ95 387 11).toInt := congrArg Int32.toInt (f107.at 387 11 (by decide))
                    refine r_if_ne (tgt := 189) hx hb dX12_ofMan_184 (by decide) (fun c113 => ?_) (fun c113 => ?_)
                    · replace hp107_0 := hp107_0.resolve_left (by omega)
                      replace hp107_1 := hp107_1.resolve_left (by omega)
                      obtain ⟨k2, e2, ek2⟩ := o2.ye (by omega)
                      refine lv_aload_n hx hb dX12_ofMan_189 rfl (lv_at hl 2 rfl) ?_
                      refine fg_12_18 (k := 387) hx hb hts in_X12_ofMan_12 hown hK hP (by decide) (by decide) (hts _ lk_X12_ofMan_195) dX12_ofMan_190 ?_
                      refine lv_iload_n hx hb dX12_ofMan_193 rfl (lv_at hl 0 rfl) ?_
                      refine r_icmp_ne (tgt := 203) hx hb dX12_ofMan_194 (by decide) (fun c114 => ?_) (fun c114 => ?_)
                      · refine lv_aload_n hx hb dX12_ofMan_203 rfl (lv_at hl 2 rfl) ?_
                        refine fg_12_7 (k := 387) hx hb hts in_X12_ofMan_12 hown hK hP (by decide) (by decide) (hts _ lk_X12_ofMan_37) dX12_ofMan_204 ?_
                        refine r_bipush hx hb dX12_ofMan_207 (by decide) (fun z115 ez115 => ?_)
                        refine lv_iload_n hx hb dX12_ofMan_209 rfl (lv_at hl 0 rfl) ?_
                        refine r_iadd hx hb dX12_ofMan_210 (by omega) (fun z116 ez116 => ?_)
                        refine lv_aload_n hx hb dX12_ofMan_211 rfl (lv_at hl 2 rfl) ?_
                        refine fg_12_18 (k := 387) hx hb hts in_X12_ofMan_12 hown hK hP (by decide) (by decide) (hts _ lk_X12_ofMan_195) dX12_ofMan_212 ?_
                        refine r_iconst hx hb dX12_ofMan_215 (by decide) (fun z117 ez117 => ?_)
                        refine r_iadd hx hb dX12_ofMan_216 (by omega) (fun z118 ez118 => ?_)
                        refine as_mh (k := 390) (j := j92) hx hb hK hP hI hR hS (by decide) (by decide) (by omega) (by omega) (rw_mh_3 (by decide) (by decide) (by omega) (by omega) (by omega)) dX12_ofMan_217 (fun σ119 H119 locs119 u119 v119 hR hP hS => ?_)
                        have uq217 := u119
                        have vq217 := v119
                        have hF := hF.puts u119 3 rfl (by decide) (by decide) (by omega) (by omega)
                        have gHI := HI.putV gHI u119 (by intro q hq; simp only [Gd_HI, List.mem_cons, List.not_mem_nil, or_false] at hq; rcases hq with rfl | rfl <;> dsimp only [inRc] <;> omega)
                        have gMK := gMK.ag (Agr.putV u119 (by intro q hq; simp only [Gd_MK, List.mem_cons, List.not_mem_nil, or_false] at hq; rcases hq with rfl | rfl | rfl <;> dsimp only [inRc] <;> omega))
                        have gMT := gMT.ag (Agr.putV u119 (by intro q hq; simp only [Gd_MT, List.mem_cons, List.not_mem_nil, or_false] at hq; rcases hq with rfl | rfl | rfl <;> dsimp only [inRc] <;> omega))
                        have t120 : (σ119 387 3).toInt = (σ107 387 3).toInt := congrArg Int32.toInt (u119 387 3 (by omega))
                        have t121 : (σ119 390 1).toInt = (σ107 390 1).toInt := congrArg Int32.toInt (u119 390 1 (by omega))
                        have t122 : (σ119 387 4).toInt = (σ107 387 4).toInt := congrArg Int32.toInt (u119 387 4 (by omega))
                        have t123 : (σ119 387 11).toInt = (σ107 387 11).toInt := congrArg Int32.toInt (u119 387 11 (by omega))
                        have t124 : (σ119 387 18).toInt = (σ107 387 18).toInt := congrArg Int32.toInt (u119 387 18 (by omega))
                        have gMH := MH.up (k := 63 + k.toNat) (v := k2 + 1) gMH (by rw [show 63 + k.toNat = j92 by omega]; exact uq217) (by rw [show 63 + k.toNat = j92 by omega]; omega)
                        refine lv_aload_n hx hb dX12_ofMan_218 rfl (lv_at hl 2 rfl) ?_
                        refine r_cVv (k := 387) (As := []) (rest := []) ⟨hx, hb, hml, hown, hts⟩ hK hP hN hS (c_X12_next_v l D cA ad hI σ119 τ95 hR _ _ _ _ gMK.mp gMT) (cwV 0 hts gX12_ofMan_X12_next rfl rfl rfl (by decide +kernel) ⟨by decide, by decide⟩) (rv_M hK hP (by decide) (by decide)) rfl hl.1 rfl (Nat.le_of_ble_eq_true rfl) dX12_ofMan_219 (Nat.zero_le _) (Nat.zero_le _) (fun u125 H125 locs125 hp125 hP hS => ?_)
                        obtain ⟨σ125, τ125⟩ := u125
                        obtain ⟨hR, f125, fL125, hp125_0, hp125_1, hp125_2, hp125_3, gnMT⟩ : P_X12_next_v σ119 τ95 _ _ _ _ σ125 τ125 := hp125
                        have fq219 := f125
                        have hP : va_P D vwCl (gw cA ad σ125 τ125) H125 := hP
                        clear hp95_1
                        have hFL := hFL.step fL125 (by decide)
                        have gMN := gMN.agL (AgrL.fr fL125 (by decide))
                        have gRV := gRV.agL (AgrL.fr fL125 (by decide))
                        have hF := hF.step f125 (by decide)
                        have gHI := HI.fr gHI f125 (by decide)
                        have gMH := gMH.ag (Agr.fr f125 (by decide))
                        have gMT := gMT.ag (Agr.fr f125 (by decide))
                        have t126 : (σ125 387 3).toInt = (σ119 387 3).toInt := congrArg Int32.toInt (f125.at 387 3 (by decide))
                        have t127 : (σ125 390 1).toInt = (σ119 390 1).toInt := congrArg Int32.toInt (f125.at 390 1 (by decide))
                        have t128 : (σ125 387 18).toInt = (σ119 387 18).toInt := congrArg Int32.toInt (f125.at 387 18 (by decide))
                        have t129 : (σ125 390 j92).toInt = (σ119 390 j92).toInt := congrArg Int32.toInt (f125.atV 390 j92 (by intro q hq; simp only [L_X12_next_v, List.mem_cons, List.not_mem_nil, or_false] at hq; rcases hq with rfl | rfl <;> dsimp only <;> omega))
                        have hr130 := rg_12_4 hR (k := 387) (by decide) (by decide)
                        have gMK := hp125_3
                        refine r_iconst hx hb dX12_ofMan_222 (by decide) (fun z131 ez131 => ?_)
                        exact r_zret hx hb hr hK hP hS hk (by omega) dX12_ofMan_223 (show P_X12_ofMan σ0 τ0 b N mo q h nm z131 σ125 τ125 from ⟨hR, hF, hFL, by omega, by omega, by omega, by first | exact MO.ofk (linM_x (z := (q, h, nm, σ0 387 20, σ0 387 21)) (by show tkq b N mo q < 0 ∨ (2 < tkq b N mo q ∧ tkq b N mo q < 7) ∨ 13 < tkq b N mo q; omega)) (by omega) (by omega) (by omega) | (obtain ⟨f, e1, x1, x2⟩ := o1.no (by omega); exact MO.ofl (by rw [linM_10 (z := (q, h, nm, σ0 387 20, σ0 387 21)) (by show tkq b N mo q = 10; omega)]; unfold oldP mnoP; dsimp only; rw [e1]; rfl) (by omega) x1 x2) | exact MO.ofk (by rw [linM_10 (z := (q, h, nm, σ0 387 20, σ0 387 21)) (by show tkq b N mo q = 10; omega)]; unfold oldP mnoP; dsimp only; rw [e1, bnd_r, if_pos (show 0 < h (55 + k.toNat) by rw [show 55 + k.toNat = 1 by omega]; omega)]; rfl) (by omega) (by omega) (by omega) | (obtain ⟨f, e1, x1, x2⟩ := o1.no (by omega); exact MO.ofl (by rw [linM_11 (z := (q, h, nm, σ0 387 20, σ0 387 21)) (by show tkq b N mo q = 11; omega)]; unfold deaP mnoP; dsimp only; rw [e1]; rfl) (by omega) x1 x2) | exact MO.ofk (by rw [linM_11 (z := (q, h, nm, σ0 387 20, σ0 387 21)) (by show tkq b N mo q = 11; omega)]; unfold deaP mnoP; dsimp only; rw [e1, bnd_r, if_pos (show 0 < h (63 + k.toNat) by rw [show 63 + k.toNat = 1 by omega]; omega)]; rfl) (by omega) (by omega) (by omega) | (obtain ⟨f, e1, x1, x2⟩ := o1.no (by omega); exact MO.ofl (by rw [linM_12 (z := (q, h, nm, σ0 387 20, σ0 387 21)) (by show tkq b N mo q = 12; omega)]; unfold neeP mnoP; dsimp only; rw [e1]; rfl) (by omega) x1 x2) | exact MO.ofk (by rw [linM_12 (z := (q, h, nm, σ0 387 20, σ0 387 21)) (by show tkq b N mo q = 12; omega)]; unfold neeP mnoP; dsimp only; rw [e1, bnd_r, if_pos (show 0 < h (71 + k.toNat) by rw [show 71 + k.toNat = 1 by omega]; omega)]; rfl) (by omega) (by omega) (by omega) | exact MO.ofr (by rw [linM_10 (z := (q, h, nm, σ0 387 20, σ0 387 21)) (by show tkq b N mo q = 10; omega)]; unfold oldP; dsimp only; rw [hne.1 (by omega), bnd_r]) (by omega) (MR.mk gMK gMH (gMN.h (uh_n _ _ (by omega)) (uh_n _ _ (by omega))) ((uq134 387 20 (by omega)).trans ((fq118.at 387 20 (by decide)).trans ((fq67.at 387 20 (by decide)).trans (fq55.at 387 20 (by decide))))) ((uq134 387 21 (by omega)).trans ((fq118.at 387 21 (by decide)).trans ((fq67.at 387 21 (by decide)).trans (fq55.at 387 21 (by decide)))))) | exact MO.ofr (by rw [linM_12 (z := (q, h, nm, σ0 387 20, σ0 387 21)) (by show tkq b N mo q = 12; omega)]; unfold neeP; dsimp only; rw [hne.2.2 (by omega), bnd_r, e2, bnd_r]) (by omega) (MR.mk gMK gMH (gMN.h (uh_n _ _ (by omega)) (uh_n _ _ (by omega))) ((uq169 387 20 (by omega)).trans ((fq147.at 387 20 (by decide)).trans ((fq118.at 387 20 (by decide)).trans ((fq67.at 387 20 (by decide)).trans (fq55.at 387 20 (by decide)))))) ((uq169 387 21 (by omega)).trans ((fq147.at 387 21 (by decide)).trans ((fq118.at 387 21 (by decide)).trans ((fq67.at 387 21 (by decide)).trans (fq55.at 387 21 (by decide))))))) | (obtain ⟨f, e2, x1, x2⟩ := o2.no (by omega); exact MO.ofl (by rw [linM_12 (z := (q, h, nm, σ0 387 20, σ0 387 21)) (by show tkq b N mo q = 12; omega)]; unfold neeP; dsimp only; rw [hne.2.2 (by omega), bnd_r, e2, bnd_l]) (by omega) x1 x2) | exact MO.ofr (by rw [linM_11 (z := (q, h, nm, σ0 387 20, σ0 387 21)) (by show tkq b N mo q = 11; omega)]; unfold deaP; dsimp only; rw [hne.2.1 (by omega), bnd_r, e2, bnd_r, if_neg (by omega)]) (by omega) (MR.mk gMK gMH (gMN.h (uh_n _ _ (by omega)) (uh_n _ _ (by omega))) ((fq219.at 387 20 (by decide)).trans ((uq217 387 20 (by omega)).trans ((fq181.at 387 20 (by decide)).trans ((fq118.at 387 20 (by decide)).trans ((fq67.at 387 20 (by decide)).trans (fq55.at 387 20 (by decide))))))) ((fq219.at 387 21 (by decide)).trans ((uq217 387 21 (by omega)).trans ((fq181.at 387 21 (by decide)).trans ((fq118.at 387 21 (by decide)).trans ((fq67.at 387 21 (by decide)).trans (fq55.at 387 21 (by decide)))))))) | exact MO.ofk (by rw [linM_11 (z := (q, h, nm, σ0 387 20, σ0 387 21)) (by show tkq b N mo q = 11; omega)]; unfold deaP; dsimp only; rw [hne.2.1 (by omega), bnd_r, e2, bnd_r, if_pos (by omega)]) (by omega) (by omega) (by omega) | (obtain ⟨f, e2, x1, x2⟩ := o2.no (by omega); exact MO.ofl (by rw [linM_11 (z := (q, h, nm, σ0 387 20, σ0 387 21)) (by show tkq b N mo q = 11; omega)]; unfold deaP; dsimp only; rw [hne.2.1 (by omega), bnd_r, e2, bnd_l]) (by omega) x1 x2), gHI, gMT, gRV⟩)
                      · refine lv_aload_n hx hb dX12_ofMan_197 rfl (lv_at hl 2 rfl) ?_
                        refine r_iconst hx hb dX12_ofMan_198 (by decide) (fun z132 ez132 => ?_)
                        refine r_cVi (k := 387) (As := [.int z132]) (rest := []) ⟨hx, hb, hml, hown, hts⟩ hK hP hN hS (c_X12_bad_v l D cA ad hI σ107 τ95 hR z132 _ _ _ _ (by omega) gMK) (cwV 1 hts gX12_ofMan_X12_bad rfl rfl rfl (by decide +kernel) ⟨by decide, by decide⟩) (rv_M hK hP (by decide) (by decide)) rfl hl.1 rfl (Nat.le_of_ble_eq_true rfl) dX12_ofMan_199 (Nat.zero_le _) (Nat.zero_le _) (fun r133 u133 H133 locs133 hp133 hP hS => ?_)
                        obtain ⟨σ133, τ133⟩ := u133
                        obtain ⟨hR, f133, fL133, hq133, hp133_0, hp133_1, hp133_2, gnMK⟩ : P_X12_bad_v σ107 τ95 z132 _ _ _ _ r133 σ133 τ133 := hp133
                        have hP : va_P D vwCl (gw cA ad σ133 τ133) H133 := hP
                        obtain rfl := FrL.nil fL133
                        have hF := hF.step f133 (by decide)
                        have gHI := HI.fr gHI f133 (by decide)
                        have gMH := gMH.ag (Agr.fr f133 (by decide))
                        have gMK := gMK.ag (Agr.fr f133 (by decide))
                        have gMT := gMT.ag (Agr.fr f133 (by decide))
                        have t134 : (σ133 387 3).toInt = (σ107 387 3).toInt := congrArg Int32.toInt (f133.at 387 3 (by decide))
                        have t135 : (σ133 390 1).toInt = (σ107 390 1).toInt := congrArg Int32.toInt (f133.at 390 1 (by decide))
                        have t136 : (σ133 390 j92).toInt = (σ107 390 j92).toInt := congrArg Int32.toInt (f133.atV 390 j92 (by intro q hq; simp only [L_X12_bad_v, List.mem_cons, List.not_mem_nil, or_false] at hq; rcases hq with rfl <;> dsimp only <;> omega))
                        have t137 : (σ133 387 4).toInt = (σ107 387 4).toInt := congrArg Int32.toInt (f133.at 387 4 (by decide))
                        have t138 : (σ133 387 11).toInt = (σ107 387 11).toInt := congrArg Int32.toInt (f133.at 387 11 (by decide))
                        have t139 : (σ133 387 18).toInt = (σ107 387 18).toInt := congrArg Int32.toInt (f133.at 387 18 (by decide))
                        exact r_zret hx hb hr hK hP hS hk (by omega) dX12_ofMan_202 (show P_X12_ofMan σ0 τ0 b N mo q h nm r133 σ133 τ95 from ⟨hR, hF, hFL, by omega, by omega, by omega, by first | exact MO.ofk (linM_x (z := (q, h, nm, σ0 387 20, σ0 387 21)) (by show tkq b N mo q < 0 ∨ (2 < tkq b N mo q ∧ tkq b N mo q < 7) ∨ 13 < tkq b N mo q; omega)) (by omega) (by omega) (by omega) | (obtain ⟨f, e1, x1, x2⟩ := o1.no (by omega); exact MO.ofl (by rw [linM_10 (z := (q, h, nm, σ0 387 20, σ0 387 21)) (by show tkq b N mo q = 10; omega)]; unfold oldP mnoP; dsimp only; rw [e1]; rfl) (by omega) x1 x2) | exact MO.ofk (by rw [linM_10 (z := (q, h, nm, σ0 387 20, σ0 387 21)) (by show tkq b N mo q = 10; omega)]; unfold oldP mnoP; dsimp only; rw [e1, bnd_r, if_pos (show 0 < h (55 + k.toNat) by rw [show 55 + k.toNat = 1 by omega]; omega)]; rfl) (by omega) (by omega) (by omega) | (obtain ⟨f, e1, x1, x2⟩ := o1.no (by omega); exact MO.ofl (by rw [linM_11 (z := (q, h, nm, σ0 387 20, σ0 387 21)) (by show tkq b N mo q = 11; omega)]; unfold deaP mnoP; dsimp only; rw [e1]; rfl) (by omega) x1 x2) | exact MO.ofk (by rw [linM_11 (z := (q, h, nm, σ0 387 20, σ0 387 21)) (by show tkq b N mo q = 11; omega)]; unfold deaP mnoP; dsimp only; rw [e1, bnd_r, if_pos (show 0 < h (63 + k.toNat) by rw [show 63 + k.toNat = 1 by omega]; omega)]; rfl) (by omega) (by omega) (by omega) | (obtain ⟨f, e1, x1, x2⟩ := o1.no (by omega); exact MO.ofl (by rw [linM_12 (z := (q, h, nm, σ0 387 20, σ0 387 21)) (by show tkq b N mo q = 12; omega)]; unfold neeP mnoP; dsimp only; rw [e1]; rfl) (by omega) x1 x2) | exact MO.ofk (by rw [linM_12 (z := (q, h, nm, σ0 387 20, σ0 387 21)) (by show tkq b N mo q = 12; omega)]; unfold neeP mnoP; dsimp only; rw [e1, bnd_r, if_pos (show 0 < h (71 + k.toNat) by rw [show 71 + k.toNat = 1 by omega]; omega)]; rfl) (by omega) (by omega) (by omega) | exact MO.ofr (by rw [linM_10 (z := (q, h, nm, σ0 387 20, σ0 387 21)) (by show tkq b N mo q = 10; omega)]; unfold oldP; dsimp only; rw [hne.1 (by omega), bnd_r]) (by omega) (MR.mk gMK gMH (gMN.h (uh_n _ _ (by omega)) (uh_n _ _ (by omega))) ((uq134 387 20 (by omega)).trans ((fq118.at 387 20 (by decide)).trans ((fq67.at 387 20 (by decide)).trans (fq55.at 387 20 (by decide))))) ((uq134 387 21 (by omega)).trans ((fq118.at 387 21 (by decide)).trans ((fq67.at 387 21 (by decide)).trans (fq55.at 387 21 (by decide)))))) | exact MO.ofr (by rw [linM_12 (z := (q, h, nm, σ0 387 20, σ0 387 21)) (by show tkq b N mo q = 12; omega)]; unfold neeP; dsimp only; rw [hne.2.2 (by omega), bnd_r, e2, bnd_r]) (by omega) (MR.mk gMK gMH (gMN.h (uh_n _ _ (by omega)) (uh_n _ _ (by omega))) ((uq169 387 20 (by omega)).trans ((fq147.at 387 20 (by decide)).trans ((fq118.at 387 20 (by decide)).trans ((fq67.at 387 20 (by decide)).trans (fq55.at 387 20 (by decide)))))) ((uq169 387 21 (by omega)).trans ((fq147.at 387 21 (by decide)).trans ((fq118.at 387 21 (by decide)).trans ((fq67.at 387 21 (by decide)).trans (fq55.at 387 21 (by decide))))))) | (obtain ⟨f, e2, x1, x2⟩ := o2.no (by omega); exact MO.ofl (by rw [linM_12 (z := (q, h, nm, σ0 387 20, σ0 387 21)) (by show tkq b N mo q = 12; omega)]; unfold neeP; dsimp only; rw [hne.2.2 (by omega), bnd_r, e2, bnd_l]) (by omega) x1 x2) | exact MO.ofr (by rw [linM_11 (z := (q, h, nm, σ0 387 20, σ0 387 21)) (by show tkq b N mo q = 11; omega)]; unfold deaP; dsimp only; rw [hne.2.1 (by omega), bnd_r, e2, bnd_r, if_neg (by omega)]) (by omega) (MR.mk gMK gMH (gMN.h (uh_n _ _ (by omega)) (uh_n _ _ (by omega))) ((fq219.at 387 20 (by decide)).trans ((uq217 387 20 (by omega)).trans ((fq181.at 387 20 (by decide)).trans ((fq118.at 387 20 (by decide)).trans ((fq67.at 387 20 (by decide)).trans (fq55.at 387 20 (by decide))))))) ((fq219.at 387 21 (by decide)).trans ((uq217 387 21 (by omega)).trans ((fq181.at 387 21 (by decide)).trans ((fq118.at 387 21 (by decide)).trans ((fq67.at 387 21 (by decide)).trans (fq55.at 387 21 (by decide)))))))) | exact MO.ofk (by rw [linM_11 (z := (q, h, nm, σ0 387 20, σ0 387 21)) (by show tkq b N mo q = 11; omega)]; unfold deaP; dsimp only; rw [hne.2.1 (by omega), bnd_r, e2, bnd_r, if_pos (by omega)]) (by omega) (by omega) (by omega) | (obtain ⟨f, e2, x1, x2⟩ := o2.no (by omega); exact MO.ofl (by rw [linM_11 (z := (q, h, nm, σ0 387 20, σ0 387 21)) (by show tkq b N mo q = 11; omega)]; unfold deaP; dsimp only; rw [hne.2.1 (by omega), bnd_r, e2, bnd_l]) (by omega) x1 x2), gHI, gMT, gRV⟩)
                    · clear hp107_0 hp107_1
                      refine r_iconst hx hb dX12_ofMan_187 (by decide) (fun z140 ez140 => ?_)
                      exact r_zret hx hb hr hK hP hS hk (by omega) dX12_ofMan_188 (show P_X12_ofMan σ0 τ0 b N mo q h nm z140 σ107 τ95 from ⟨hR, hF, hFL, by omega, by omega, by omega, by first | exact MO.ofk (linM_x (z := (q, h, nm, σ0 387 20, σ0 387 21)) (by show tkq b N mo q < 0 ∨ (2 < tkq b N mo q ∧ tkq b N mo q < 7) ∨ 13 < tkq b N mo q; omega)) (by omega) (by omega) (by omega) | (obtain ⟨f, e1, x1, x2⟩ := o1.no (by omega); exact MO.ofl (by rw [linM_10 (z := (q, h, nm, σ0 387 20, σ0 387 21)) (by show tkq b N mo q = 10; omega)]; unfold oldP mnoP; dsimp only; rw [e1]; rfl) (by omega) x1 x2) | exact MO.ofk (by rw [linM_10 (z := (q, h, nm, σ0 387 20, σ0 387 21)) (by show tkq b N mo q = 10; omega)]; unfold oldP mnoP; dsimp only; rw [e1, bnd_r, if_pos (show 0 < h (55 + k.toNat) by rw [show 55 + k.toNat = 1 by omega]; omega)]; rfl) (by omega) (by omega) (by omega) | (obtain ⟨f, e1, x1, x2⟩ := o1.no (by omega); exact MO.ofl (by rw [linM_11 (z := (q, h, nm, σ0 387 20, σ0 387 21)) (by show tkq b N mo q = 11; omega)]; unfold deaP mnoP; dsimp only; rw [e1]; rfl) (by omega) x1 x2) | exact MO.ofk (by rw [linM_11 (z := (q, h, nm, σ0 387 20, σ0 387 21)) (by show tkq b N mo q = 11; omega)]; unfold deaP mnoP; dsimp only; rw [e1, bnd_r, if_pos (show 0 < h (63 + k.toNat) by rw [show 63 + k.toNat = 1 by omega]; omega)]; rfl) (by omega) (by omega) (by omega) | (obtain ⟨f, e1, x1, x2⟩ := o1.no (by omega); exact MO.ofl (by rw [linM_12 (z := (q, h, nm, σ0 387 20, σ0 387 21)) (by show tkq b N mo q = 12; omega)]; unfold neeP mnoP; dsimp only; rw [e1]; rfl) (by omega) x1 x2) | exact MO.ofk (by rw [linM_12 (z := (q, h, nm, σ0 387 20, σ0 387 21)) (by show tkq b N mo q = 12; omega)]; unfold neeP mnoP; dsimp only; rw [e1, bnd_r, if_pos (show 0 < h (71 + k.toNat) by rw [show 71 + k.toNat = 1 by omega]; omega)]; rfl) (by omega) (by omega) (by omega) | exact MO.ofr (by rw [linM_10 (z := (q, h, nm, σ0 387 20, σ0 387 21)) (by show tkq b N mo q = 10; omega)]; unfold oldP; dsimp only; rw [hne.1 (by omega), bnd_r]) (by omega) (MR.mk gMK gMH (gMN.h (uh_n _ _ (by omega)) (uh_n _ _ (by omega))) ((uq134 387 20 (by omega)).trans ((fq118.at 387 20 (by decide)).trans ((fq67.at 387 20 (by decide)).trans (fq55.at 387 20 (by decide))))) ((uq134 387 21 (by omega)).trans ((fq118.at 387 21 (by decide)).trans ((fq67.at 387 21 (by decide)).trans (fq55.at 387 21 (by decide)))))) | exact MO.ofr (by rw [linM_12 (z := (q, h, nm, σ0 387 20, σ0 387 21)) (by show tkq b N mo q = 12; omega)]; unfold neeP; dsimp only; rw [hne.2.2 (by omega), bnd_r, e2, bnd_r]) (by omega) (MR.mk gMK gMH (gMN.h (uh_n _ _ (by omega)) (uh_n _ _ (by omega))) ((uq169 387 20 (by omega)).trans ((fq147.at 387 20 (by decide)).trans ((fq118.at 387 20 (by decide)).trans ((fq67.at 387 20 (by decide)).trans (fq55.at 387 20 (by decide)))))) ((uq169 387 21 (by omega)).trans ((fq147.at 387 21 (by decide)).trans ((fq118.at 387 21 (by decide)).trans ((fq67.at 387 21 (by decide)).trans (fq55.at 387 21 (by decide))))))) | (obtain ⟨f, e2, x1, x2⟩ := o2.no (by omega); exact MO.ofl (by rw [linM_12 (z := (q, h, nm, σ0 387 20, σ0 387 21)) (by show tkq b N mo q = 12; omega)]; unfold neeP; dsimp only; rw [hne.2.2 (by omega), bnd_r, e2, bnd_l]) (by omega) x1 x2) | exact MO.ofr (by rw [linM_11 (z := (q, h, nm, σ0 387 20, σ0 387 21)) (by show tkq b N mo q = 11; omega)]; unfold deaP; dsimp only; rw [hne.2.1 (by omega), bnd_r, e2, bnd_r, if_neg (by omega)]) (by omega) (MR.mk gMK gMH (gMN.h (uh_n _ _ (by omega)) (uh_n _ _ (by omega))) ((fq219.at 387 20 (by decide)).trans ((uq217 387 20 (by omega)).trans ((fq181.at 387 20 (by decide)).trans ((fq118.at 387 20 (by decide)).trans ((fq67.at 387 20 (by decide)).trans (fq55.at 387 20 (by decide))))))) ((fq219.at 387 21 (by decide)).trans ((uq217 387 21 (by omega)).trans ((fq181.at 387 21 (by decide)).trans ((fq118.at 387 21 (by decide)).trans ((fq67.at 387 21 (by decide)).trans (fq55.at 387 21 (by decide)))))))) | exact MO.ofk (by rw [linM_11 (z := (q, h, nm, σ0 387 20, σ0 387 21)) (by show tkq b N mo q = 11; omega)]; unfold deaP; dsimp only; rw [hne.2.1 (by omega), bnd_r, e2, bnd_r, if_pos (by omega)]) (by omega) (by omega) (by omega) | (obtain ⟨f, e2, x1, x2⟩ := o2.no (by omega); exact MO.ofl (by rw [linM_11 (z := (q, h, nm, σ0 387 20, σ0 387 21)) (by show tkq b N mo q = 11; omega)]; unfold deaP; dsimp only; rw [hne.2.1 (by omega), bnd_r, e2, bnd_l]) (by omega) x1 x2), gHI, gMT, gRV⟩)
                  · exfalso; omega
                · exfalso; omega
              · refine lv_aload_n hx hb dX12_ofMan_111 rfl (lv_at hl 2 rfl) ?_
                refine r_iconst hx hb dX12_ofMan_112 (by decide) (fun z141 ez141 => ?_)
                refine r_cVi (k := 387) (As := [.int z141]) (rest := []) ⟨hx, hb, hml, hown, hts⟩ hK hP hN hS (c_X12_bad_v l D cA ad hI σ81 τ75 hR z141 _ _ _ _ (by omega) gMK) (cwV 1 hts gX12_ofMan_X12_bad rfl rfl rfl (by decide +kernel) ⟨by decide, by decide⟩) (rv_M hK hP (by decide) (by decide)) rfl hl.1 rfl (Nat.le_of_ble_eq_true rfl) dX12_ofMan_113 (Nat.zero_le _) (Nat.zero_le _) (fun r142 u142 H142 locs142 hp142 hP hS => ?_)
                obtain ⟨σ142, τ142⟩ := u142
                obtain ⟨hR, f142, fL142, hq142, hp142_0, hp142_1, hp142_2, gnMK⟩ : P_X12_bad_v σ81 τ75 z141 _ _ _ _ r142 σ142 τ142 := hp142
                have hP : va_P D vwCl (gw cA ad σ142 τ142) H142 := hP
                obtain rfl := FrL.nil fL142
                have hF := hF.step f142 (by decide)
                have gHI := HI.fr gHI f142 (by decide)
                have gMH := gMH.ag (Agr.fr f142 (by decide))
                have gMK := gMK.ag (Agr.fr f142 (by decide))
                have gMT := gMT.ag (Agr.fr f142 (by decide))
                have t143 : (σ142 387 3).toInt = (σ81 387 3).toInt := congrArg Int32.toInt (f142.at 387 3 (by decide))
                have t144 : (σ142 387 4).toInt = (σ81 387 4).toInt := congrArg Int32.toInt (f142.at 387 4 (by decide))
                have t145 : (σ142 387 11).toInt = (σ81 387 11).toInt := congrArg Int32.toInt (f142.at 387 11 (by decide))
                have t146 : (σ142 390 1).toInt = (σ81 390 1).toInt := congrArg Int32.toInt (f142.at 390 1 (by decide))
                have t147 : (σ142 387 18).toInt = (σ81 387 18).toInt := congrArg Int32.toInt (f142.at 387 18 (by decide))
                have t148 : (σ142 390 j92).toInt = (σ81 390 j92).toInt := congrArg Int32.toInt (f142.atV 390 j92 (by intro q hq; simp only [L_X12_bad_v, List.mem_cons, List.not_mem_nil, or_false] at hq; rcases hq with rfl <;> dsimp only <;> omega))
                exact r_zret hx hb hr hK hP hS hk (by omega) dX12_ofMan_116 (show P_X12_ofMan σ0 τ0 b N mo q h nm r142 σ142 τ75 from ⟨hR, hF, hFL, by omega, by omega, by omega, by first | exact MO.ofk (linM_x (z := (q, h, nm, σ0 387 20, σ0 387 21)) (by show tkq b N mo q < 0 ∨ (2 < tkq b N mo q ∧ tkq b N mo q < 7) ∨ 13 < tkq b N mo q; omega)) (by omega) (by omega) (by omega) | (obtain ⟨f, e1, x1, x2⟩ := o1.no (by omega); exact MO.ofl (by rw [linM_10 (z := (q, h, nm, σ0 387 20, σ0 387 21)) (by show tkq b N mo q = 10; omega)]; unfold oldP mnoP; dsimp only; rw [e1]; rfl) (by omega) x1 x2) | exact MO.ofk (by rw [linM_10 (z := (q, h, nm, σ0 387 20, σ0 387 21)) (by show tkq b N mo q = 10; omega)]; unfold oldP mnoP; dsimp only; rw [e1, bnd_r, if_pos (show 0 < h (55 + k.toNat) by rw [show 55 + k.toNat = j92 by omega]; omega)]; rfl) (by omega) (by omega) (by omega) | (obtain ⟨f, e1, x1, x2⟩ := o1.no (by omega); exact MO.ofl (by rw [linM_11 (z := (q, h, nm, σ0 387 20, σ0 387 21)) (by show tkq b N mo q = 11; omega)]; unfold deaP mnoP; dsimp only; rw [e1]; rfl) (by omega) x1 x2) | exact MO.ofk (by rw [linM_11 (z := (q, h, nm, σ0 387 20, σ0 387 21)) (by show tkq b N mo q = 11; omega)]; unfold deaP mnoP; dsimp only; rw [e1, bnd_r, if_pos (show 0 < h (63 + k.toNat) by rw [show 63 + k.toNat = j92 by omega]; omega)]; rfl) (by omega) (by omega) (by omega) | (obtain ⟨f, e1, x1, x2⟩ := o1.no (by omega); exact MO.ofl (by rw [linM_12 (z := (q, h, nm, σ0 387 20, σ0 387 21)) (by show tkq b N mo q = 12; omega)]; unfold neeP mnoP; dsimp only; rw [e1]; rfl) (by omega) x1 x2) | exact MO.ofk (by rw [linM_12 (z := (q, h, nm, σ0 387 20, σ0 387 21)) (by show tkq b N mo q = 12; omega)]; unfold neeP mnoP; dsimp only; rw [e1, bnd_r, if_pos (show 0 < h (71 + k.toNat) by rw [show 71 + k.toNat = j92 by omega]; omega)]; rfl) (by omega) (by omega) (by omega) | exact MO.ofr (by rw [linM_10 (z := (q, h, nm, σ0 387 20, σ0 387 21)) (by show tkq b N mo q = 10; omega)]; unfold oldP; dsimp only; rw [hne.1 (by omega), bnd_r]) (by omega) (MR.mk gMK gMH (gMN.h (uh_n _ _ (by omega)) (uh_n _ _ (by omega))) ((uq134 387 20 (by omega)).trans ((fq118.at 387 20 (by decide)).trans ((fq67.at 387 20 (by decide)).trans (fq55.at 387 20 (by decide))))) ((uq134 387 21 (by omega)).trans ((fq118.at 387 21 (by decide)).trans ((fq67.at 387 21 (by decide)).trans (fq55.at 387 21 (by decide)))))) | exact MO.ofr (by rw [linM_12 (z := (q, h, nm, σ0 387 20, σ0 387 21)) (by show tkq b N mo q = 12; omega)]; unfold neeP; dsimp only; rw [hne.2.2 (by omega), bnd_r, e2, bnd_r]) (by omega) (MR.mk gMK gMH (gMN.h (uh_n _ _ (by omega)) (uh_n _ _ (by omega))) ((uq169 387 20 (by omega)).trans ((fq147.at 387 20 (by decide)).trans ((fq118.at 387 20 (by decide)).trans ((fq67.at 387 20 (by decide)).trans (fq55.at 387 20 (by decide)))))) ((uq169 387 21 (by omega)).trans ((fq147.at 387 21 (by decide)).trans ((fq118.at 387 21 (by decide)).trans ((fq67.at 387 21 (by decide)).trans (fq55.at 387 21 (by decide))))))) | (obtain ⟨f, e2, x1, x2⟩ := o2.no (by omega); exact MO.ofl (by rw [linM_12 (z := (q, h, nm, σ0 387 20, σ0 387 21)) (by show tkq b N mo q = 12; omega)]; unfold neeP; dsimp only; rw [hne.2.2 (by omega), bnd_r, e2, bnd_l]) (by omega) x1 x2) | exact MO.ofr (by rw [linM_11 (z := (q, h, nm, σ0 387 20, σ0 387 21)) (by show tkq b N mo q = 11; omega)]; unfold deaP; dsimp only; rw [hne.2.1 (by omega), bnd_r, e2, bnd_r, if_neg (by omega)]) (by omega) (MR.mk gMK gMH (gMN.h (uh_n _ _ (by omega)) (uh_n _ _ (by omega))) ((fq219.at 387 20 (by decide)).trans ((uq217 387 20 (by omega)).trans ((fq181.at 387 20 (by decide)).trans ((fq118.at 387 20 (by decide)).trans ((fq67.at 387 20 (by decide)).trans (fq55.at 387 20 (by decide))))))) ((fq219.at 387 21 (by decide)).trans ((uq217 387 21 (by omega)).trans ((fq181.at 387 21 (by decide)).trans ((fq118.at 387 21 (by decide)).trans ((fq67.at 387 21 (by decide)).trans (fq55.at 387 21 (by decide)))))))) | exact MO.ofk (by rw [linM_11 (z := (q, h, nm, σ0 387 20, σ0 387 21)) (by show tkq b N mo q = 11; omega)]; unfold deaP; dsimp only; rw [hne.2.1 (by omega), bnd_r, e2, bnd_r, if_pos (by omega)]) (by omega) (by omega) (by omega) | (obtain ⟨f, e2, x1, x2⟩ := o2.no (by omega); exact MO.ofl (by rw [linM_11 (z := (q, h, nm, σ0 387 20, σ0 387 21)) (by show tkq b N mo q = 11; omega)]; unfold deaP; dsimp only; rw [hne.2.1 (by omega), bnd_r, e2, bnd_l]) (by omega) x1 x2), gHI, gMT, gRV⟩)
          · exfalso; omega
        · clear hp81_0 hp81_1
          refine r_iconst hx hb dX12_ofMan_73 (by decide) (fun z149 ez149 => ?_)
          exact r_zret hx hb hr hK hP hS hk (by omega) dX12_ofMan_74 (show P_X12_ofMan σ0 τ0 b N mo q h nm z149 σ81 τ75 from ⟨hR, hF, hFL, by omega, by omega, by omega, by first | exact MO.ofk (linM_x (z := (q, h, nm, σ0 387 20, σ0 387 21)) (by show tkq b N mo q < 0 ∨ (2 < tkq b N mo q ∧ tkq b N mo q < 7) ∨ 13 < tkq b N mo q; omega)) (by omega) (by omega) (by omega) | (obtain ⟨f, e1, x1, x2⟩ := o1.no (by omega); exact MO.ofl (by rw [linM_10 (z := (q, h, nm, σ0 387 20, σ0 387 21)) (by show tkq b N mo q = 10; omega)]; unfold oldP mnoP; dsimp only; rw [e1]; rfl) (by omega) x1 x2) | exact MO.ofk (by rw [linM_10 (z := (q, h, nm, σ0 387 20, σ0 387 21)) (by show tkq b N mo q = 10; omega)]; unfold oldP mnoP; dsimp only; rw [e1, bnd_r, if_pos (show 0 < h (55 + k.toNat) by rw [show 55 + k.toNat = 1 by omega]; omega)]; rfl) (by omega) (by omega) (by omega) | (obtain ⟨f, e1, x1, x2⟩ := o1.no (by omega); exact MO.ofl (by rw [linM_11 (z := (q, h, nm, σ0 387 20, σ0 387 21)) (by show tkq b N mo q = 11; omega)]; unfold deaP mnoP; dsimp only; rw [e1]; rfl) (by omega) x1 x2) | exact MO.ofk (by rw [linM_11 (z := (q, h, nm, σ0 387 20, σ0 387 21)) (by show tkq b N mo q = 11; omega)]; unfold deaP mnoP; dsimp only; rw [e1, bnd_r, if_pos (show 0 < h (63 + k.toNat) by rw [show 63 + k.toNat = 1 by omega]; omega)]; rfl) (by omega) (by omega) (by omega) | (obtain ⟨f, e1, x1, x2⟩ := o1.no (by omega); exact MO.ofl (by rw [linM_12 (z := (q, h, nm, σ0 387 20, σ0 387 21)) (by show tkq b N mo q = 12; omega)]; unfold neeP mnoP; dsimp only; rw [e1]; rfl) (by omega) x1 x2) | exact MO.ofk (by rw [linM_12 (z := (q, h, nm, σ0 387 20, σ0 387 21)) (by show tkq b N mo q = 12; omega)]; unfold neeP mnoP; dsimp only; rw [e1, bnd_r, if_pos (show 0 < h (71 + k.toNat) by rw [show 71 + k.toNat = 1 by omega]; omega)]; rfl) (by omega) (by omega) (by omega) | exact MO.ofr (by rw [linM_10 (z := (q, h, nm, σ0 387 20, σ0 387 21)) (by show tkq b N mo q = 10; omega)]; unfold oldP; dsimp only; rw [hne.1 (by omega), bnd_r]) (by omega) (MR.mk gMK gMH (gMN.h (uh_n _ _ (by omega)) (uh_n _ _ (by omega))) ((uq134 387 20 (by omega)).trans ((fq118.at 387 20 (by decide)).trans ((fq67.at 387 20 (by decide)).trans (fq55.at 387 20 (by decide))))) ((uq134 387 21 (by omega)).trans ((fq118.at 387 21 (by decide)).trans ((fq67.at 387 21 (by decide)).trans (fq55.at 387 21 (by decide)))))) | exact MO.ofr (by rw [linM_12 (z := (q, h, nm, σ0 387 20, σ0 387 21)) (by show tkq b N mo q = 12; omega)]; unfold neeP; dsimp only; rw [hne.2.2 (by omega), bnd_r, e2, bnd_r]) (by omega) (MR.mk gMK gMH (gMN.h (uh_n _ _ (by omega)) (uh_n _ _ (by omega))) ((uq169 387 20 (by omega)).trans ((fq147.at 387 20 (by decide)).trans ((fq118.at 387 20 (by decide)).trans ((fq67.at 387 20 (by decide)).trans (fq55.at 387 20 (by decide)))))) ((uq169 387 21 (by omega)).trans ((fq147.at 387 21 (by decide)).trans ((fq118.at 387 21 (by decide)).trans ((fq67.at 387 21 (by decide)).trans (fq55.at 387 21 (by decide))))))) | (obtain ⟨f, e2, x1, x2⟩ := o2.no (by omega); exact MO.ofl (by rw [linM_12 (z := (q, h, nm, σ0 387 20, σ0 387 21)) (by show tkq b N mo q = 12; omega)]; unfold neeP; dsimp only; rw [hne.2.2 (by omega), bnd_r, e2, bnd_l]) (by omega) x1 x2) | exact MO.ofr (by rw [linM_11 (z := (q, h, nm, σ0 387 20, σ0 387 21)) (by show tkq b N mo q = 11; omega)]; unfold deaP; dsimp only; rw [hne.2.1 (by omega), bnd_r, e2, bnd_r, if_neg (by omega)]) (by omega) (MR.mk gMK gMH (gMN.h (uh_n _ _ (by omega)) (uh_n _ _ (by omega))) ((fq219.at 387 20 (by decide)).trans ((uq217 387 20 (by omega)).trans ((fq181.at 387 20 (by decide)).trans ((fq118.at 387 20 (by decide)).trans ((fq67.at 387 20 (by decide)).trans (fq55.at 387 20 (by decide))))))) ((fq219.at 387 21 (by decide)).trans ((uq217 387 21 (by omega)).trans ((fq181.at 387 21 (by decide)).trans ((fq118.at 387 21 (by decide)).trans ((fq67.at 387 21 (by decide)).trans (fq55.at 387 21 (by decide)))))))) | exact MO.ofk (by rw [linM_11 (z := (q, h, nm, σ0 387 20, σ0 387 21)) (by show tkq b N mo q = 11; omega)]; unfold deaP; dsimp only; rw [hne.2.1 (by omega), bnd_r, e2, bnd_r, if_pos (by omega)]) (by omega) (by omega) (by omega) | (obtain ⟨f, e2, x1, x2⟩ := o2.no (by omega); exact MO.ofl (by rw [linM_11 (z := (q, h, nm, σ0 387 20, σ0 387 21)) (by show tkq b N mo q = 11; omega)]; unfold deaP; dsimp only; rw [hne.2.1 (by omega), bnd_r, e2, bnd_l]) (by omega) x1 x2), gHI, gMT, gRV⟩)
      · exfalso; omega
  · replace hp1_0 := hp1_0.resolve_left (by omega)
    refine r_iconst hx hb dX12_ofMan_10 (by decide) (fun z150 ez150 => ?_)
    refine lv_goto (tgt := 43) hx hb dX12_ofMan_11 (by decide) ?_
    refine lv_istore_n (lv' := [(1, .int z150), (0, .ref (ad 387))]) hx hb dX12_ofMan_43 rfl hl (by decide) rfl (fun ls hl => ?_)
    refine lv_iload_n hx hb dX12_ofMan_44 rfl (lv_at hl 0 rfl) ?_
    refine r_if_ge (tgt := 54) hx hb dX12_ofMan_45 (by decide) (fun c151 => ?_) (fun c151 => ?_)
    · have hh0 := gMH 0 (by omega)
      have hh1 := gMH 1 (by omega)
      have hra := ra_mh_0 hR (k := 390) (j := 0) (by decide) (by decide) (by decide) (by decide)
      have hrb := ra_mh_0 hR (k := 390) (j := 1) (by decide) (by decide) (by decide) (by decide)
      refine lv_aload_n hx hb dX12_ofMan_54 rfl (lv_at hl 1 rfl) ?_
      refine r_cVv (k := 387) (As := []) (rest := []) ⟨hx, hb, hml, hown, hts⟩ hK hP hN hS (c_X12_next_v l D cA ad hI σ0 τ0 hR _ _ _ _ gMK.mp gMT) (cwV 0 hts gX12_ofMan_X12_next rfl rfl rfl (by decide +kernel) ⟨by decide, by decide⟩) (rv_M hK hP (by decide) (by decide)) rfl hl.1 rfl (Nat.le_of_ble_eq_true rfl) dX12_ofMan_55 (Nat.zero_le _) (Nat.zero_le _) (fun u152 H152 locs152 hp152 hP hS => ?_)
      obtain ⟨σ152, τ152⟩ := u152
      obtain ⟨hR, f152, fL152, hp152_0, hp152_1, hp152_2, hp152_3, gnMT⟩ : P_X12_next_v σ0 τ0 _ _ _ _ σ152 τ152 := hp152
      have fq55 := f152
      have hP : va_P D vwCl (gw cA ad σ152 τ152) H152 := hP
      have hFL := hFL.step fL152 (by decide)
      have gMN := gMN.agL (AgrL.fr fL152 (by decide))
      have gRV := gRV.agL (AgrL.fr fL152 (by decide))
      have hF := hF.step f152 (by decide)
      have gHI := HI.fr gHI f152 (by decide)
      have gMH := gMH.ag (Agr.fr f152 (by decide))
      have gMT := gMT.ag (Agr.fr f152 (by decide))
      have t153 : (σ152 387 3).toInt = (σ0 387 3).toInt := congrArg Int32.toInt (f152.at 387 3 (by decide))
      have hr154 := rg_12_4 hR (k := 387) (by decide) (by decide)
      have gMK := hp152_3
      have hh1a := gMH 1 (by omega)
      refine lv_aload_n hx hb dX12_ofMan_58 rfl (lv_at hl 1 rfl) ?_
      refine r_bipush hx hb dX12_ofMan_59 (by decide) (fun z155 ez155 => ?_)
      refine lv_aload_n hx hb dX12_ofMan_61 rfl (lv_at hl 1 rfl) ?_
      refine fg_12_7 (k := 387) hx hb hts in_X12_ofMan_12 hown hK hP (by decide) (by decide) (hts _ lk_X12_ofMan_37) dX12_ofMan_62 ?_
      refine r_iconst hx hb dX12_ofMan_65 (by decide) (fun z156 ez156 => ?_)
      refine ad_mh (k := 390) (j := 1) hx hb hK hP (by decide) (by decide) (by omega) (by omega) dX12_ofMan_66 ?_
      have hr157 := ra_mh_0 hR (k := 390) (j := 1) (by decide) (by decide) (by decide) (by decide)
      refine r_cVi (k := 387) (As := [.int z155, .int (σ152 390 1)]) (rest := []) ⟨hx, hb, hml, hown, hts⟩ hK hP hN hS (c_X12_looksAt_v l D cA ad hI σ152 τ152 hR z155 (σ152 390 1) b N mo _ h nm (n8 nm) (h 1).toNat 24 (by omega) (by omega) (by omega) (Or.inr ⟨rfl, rfl, rfl, by omega⟩) (by omega) gMK gRV gMN) (cwV 2 hts gX12_ofMan_X12_looksAt rfl rfl rfl (by decide +kernel) ⟨by decide, by decide⟩) (rv_M hK hP (by decide) (by decide)) rfl hl.1 rfl (Nat.le_of_ble_eq_true rfl) dX12_ofMan_67 (Nat.zero_le _) (Nat.zero_le _) (fun r158 u158 H158 locs158 hp158 hP hS => ?_)
      obtain ⟨σ158, τ158⟩ := u158
      obtain ⟨hR, f158, fL158, hq158, hp158_0, hp158_1, hp158_2, gnMK, gnRV, gnMN⟩ : P_X12_looksAt_v σ152 τ152 z155 (σ152 390 1) b N mo _ h nm (n8 nm) (h 1).toNat 24 r158 σ158 τ158 := hp158
      have o1 := hp158_2
      have fq67 := f158
      have hP : va_P D vwCl (gw cA ad σ158 τ158) H158 := hP
      obtain rfl := FrL.nil fL158
      have hF := hF.step f158 (by decide)
      have gHI := HI.fr gHI f158 (by decide)
      have gMH := gMH.ag (Agr.fr f158 (by decide))
      have gMK := gMK.ag (Agr.fr f158 (by decide))
      have gMT := gMT.ag (Agr.fr f158 (by decide))
      have t159 : (σ158 387 3).toInt = (σ152 387 3).toInt := congrArg Int32.toInt (f158.at 387 3 (by decide))
      have t160 : (σ158 387 4).toInt = (σ152 387 4).toInt := congrArg Int32.toInt (f158.at 387 4 (by decide))
      have t161 : (σ158 387 11).toInt = (σ152 387 11).toInt := congrArg Int32.toInt (f158.at 387 11 (by decide))
      have t162 : (σ158 390 1).toInt = (σ152 390 1).toInt := congrArg Int32.toInt (f158.at 390 1 (by decide))
      refine r_if_ne (tgt := 75) hx hb dX12_ofMan_70 (by decide) (fun c163 => ?_) (fun c163 => ?_)
      · replace hp158_0 := hp158_0.resolve_left (by omega)
        replace hp158_1 := hp158_1.resolve_left (by omega)
        obtain ⟨k, e1, ek⟩ := o1.ye (by omega)
        have hlk := lok_ok e1
        refine lv_aload_n hx hb dX12_ofMan_75 rfl (lv_at hl 1 rfl) ?_
        refine fg_12_18 (k := 387) hx hb hts in_X12_ofMan_12 hown hK hP (by decide) (by decide) (hts _ lk_X12_ofMan_195) dX12_ofMan_76 ?_
        refine lv_istore_n (lv' := [(2, .int (σ158 387 18)), (1, .int z150), (0, .ref (ad 387))]) hx hb dX12_ofMan_79 rfl hl (by decide) rfl (fun ls hl => ?_)
        refine lv_aload_n hx hb dX12_ofMan_80 rfl (lv_at hl 2 rfl) ?_
        refine fg_12_7 (k := 387) hx hb hts in_X12_ofMan_12 hown hK hP (by decide) (by decide) (hts _ lk_X12_ofMan_37) dX12_ofMan_81 ?_
        refine lv_iload_n hx hb dX12_ofMan_84 rfl (lv_at hl 1 rfl) ?_
        refine r_if_ne (tgt := 93) hx hb dX12_ofMan_85 (by decide) (fun c164 => ?_) (fun c164 => ?_)
        · exfalso; omega
        · refine r_bipush hx hb dX12_ofMan_88 (by decide) (fun z165 ez165 => ?_)
          refine lv_goto (tgt := 105) hx hb dX12_ofMan_90 (by decide) ?_
          refine lv_iload_n hx hb dX12_ofMan_105 rfl (lv_at hl 0 rfl) ?_
          refine r_iadd hx hb dX12_ofMan_106 (by omega) (fun z166 ez166 => ?_)
          obtain ⟨j167, ej167⟩ : ∃ j : Nat, z166.toInt = (j : Int) := ⟨_, ti_nat (by omega)⟩
          refine ad_mh (k := 390) (j := j167) hx hb hK hP (by decide) (by decide) ej167 (by omega) dX12_ofMan_107 ?_
          have hho := gMH j167 (by omega)
          refine r_if_le (tgt := 117) hx hb dX12_ofMan_108 (by decide) (fun c168 => ?_) (fun c168 => ?_)
          · have hnn : ¬ 0 < h j167 := by omega
            have hjn : (((j167 : Nat) : Int) = 55 + k ∧ tkq b N mo q = 10) ∨ (((j167 : Nat) : Int) = 63 + k ∧ tkq b N mo q = 11) ∨ (((j167 : Nat) : Int) = 71 + k ∧ tkq b N mo q = 12) := by omega
            have hne : mnoK b N mo h nm q k := mnoK.of e1 hnn hjn hlk.2.1
            refine lv_aload_n hx hb dX12_ofMan_117 rfl (lv_at hl 2 rfl) ?_
            refine r_cVv (k := 387) (As := []) (rest := []) ⟨hx, hb, hml, hown, hts⟩ hK hP hN hS (c_X12_next_v l D cA ad hI σ158 τ152 hR _ _ _ _ gMK.mp gMT) (cwV 0 hts gX12_ofMan_X12_next rfl rfl rfl (by decide +kernel) ⟨by decide, by decide⟩) (rv_M hK hP (by decide) (by decide)) rfl hl.1 rfl (Nat.le_of_ble_eq_true rfl) dX12_ofMan_118 (Nat.zero_le _) (Nat.zero_le _) (fun u169 H169 locs169 hp169 hP hS => ?_)
            obtain ⟨σ169, τ169⟩ := u169
            obtain ⟨hR, f169, fL169, hp169_0, hp169_1, hp169_2, hp169_3, gnMT⟩ : P_X12_next_v σ158 τ152 _ _ _ _ σ169 τ169 := hp169
            have fq118 := f169
            have hP : va_P D vwCl (gw cA ad σ169 τ169) H169 := hP
            clear hp152_1
            have hFL := hFL.step fL169 (by decide)
            have gMN := gMN.agL (AgrL.fr fL169 (by decide))
            have gRV := gRV.agL (AgrL.fr fL169 (by decide))
            have hF := hF.step f169 (by decide)
            have gHI := HI.fr gHI f169 (by decide)
            have gMH := gMH.ag (Agr.fr f169 (by decide))
            have gMT := gMT.ag (Agr.fr f169 (by decide))
            have t170 : (σ169 387 3).toInt = (σ158 387 3).toInt := congrArg Int32.toInt (f169.at 387 3 (by decide))
            have t171 : (σ169 390 1).toInt = (σ158 390 1).toInt := congrArg Int32.toInt (f169.at 390 1 (by decide))
            have t172 : (σ169 387 18).toInt = (σ158 387 18).toInt := congrArg Int32.toInt (f169.at 387 18 (by decide))
            have t173 : (σ169 390 j167).toInt = (σ158 390 j167).toInt := congrArg Int32.toInt (f169.atV 390 j167 (by intro q hq; simp only [L_X12_next_v, List.mem_cons, List.not_mem_nil, or_false] at hq; rcases hq with rfl | rfl <;> dsimp only <;> omega))
            have hr174 := rg_12_4 hR (k := 387) (by decide) (by decide)
            have gMK := hp169_3
            refine lv_iload_n hx hb dX12_ofMan_121 rfl (lv_at hl 1 rfl) ?_
            refine r_if_ne (tgt := 137) hx hb dX12_ofMan_122 (by decide) (fun c175 => ?_) (fun c175 => ?_)
            · exfalso; omega
            · refine lv_aload_n hx hb dX12_ofMan_125 rfl (lv_at hl 2 rfl) ?_
              refine fg_12_7 (k := 387) hx hb hts in_X12_ofMan_12 hown hK hP (by decide) (by decide) (hts _ lk_X12_ofMan_37) dX12_ofMan_126 ?_
              refine r_bipush hx hb dX12_ofMan_129 (by decide) (fun z176 ez176 => ?_)
              refine lv_iload_n hx hb dX12_ofMan_131 rfl (lv_at hl 0 rfl) ?_
              refine r_iadd hx hb dX12_ofMan_132 (by omega) (fun z177 ez177 => ?_)
              refine r_iconst hx hb dX12_ofMan_133 (by decide) (fun z178 ez178 => ?_)
              refine as_mh (k := 390) (j := j167) hx hb hK hP hI hR hS (by decide) (by decide) (by omega) (by omega) (rx_mh_39 (by decide) (by decide) (by omega) (by omega)) dX12_ofMan_134 (fun σ179 H179 locs179 u179 v179 hR hP hS => ?_)
              have uq134 := u179
              have vq134 := v179
              have hF := hF.puts u179 3 rfl (by decide) (by decide) (by omega) (by omega)
              have gHI := HI.putV gHI u179 (by intro q hq; simp only [Gd_HI, List.mem_cons, List.not_mem_nil, or_false] at hq; rcases hq with rfl | rfl <;> dsimp only [inRc] <;> omega)
              have gMK := gMK.ag (Agr.putV u179 (by intro q hq; simp only [Gd_MK, List.mem_cons, List.not_mem_nil, or_false] at hq; rcases hq with rfl | rfl | rfl <;> dsimp only [inRc] <;> omega))
              have gMT := gMT.ag (Agr.putV u179 (by intro q hq; simp only [Gd_MT, List.mem_cons, List.not_mem_nil, or_false] at hq; rcases hq with rfl | rfl | rfl <;> dsimp only [inRc] <;> omega))
              have t180 : (σ179 387 3).toInt = (σ169 387 3).toInt := congrArg Int32.toInt (u179 387 3 (by omega))
              have t181 : (σ179 390 1).toInt = (σ169 390 1).toInt := congrArg Int32.toInt (u179 390 1 (by omega))
              have t182 : (σ179 387 18).toInt = (σ169 387 18).toInt := congrArg Int32.toInt (u179 387 18 (by omega))
              have t183 : (σ179 387 4).toInt = (σ169 387 4).toInt := congrArg Int32.toInt (u179 387 4 (by omega))
              have t184 : (σ179 387 11).toInt = (σ169 387 11).toInt := congrArg Int32.toInt (u179 387 11 (by omega))
              have gMH := MH.up (k := 55 + k.toNat) (v := 1) gMH (by rw [show 55 + k.toNat = j167 by omega]; exact uq134) (by rw [show 55 + k.toNat = j167 by omega]; omega)
              refine r_iconst hx hb dX12_ofMan_135 (by decide) (fun z185 ez185 => ?_)
              exact r_zret hx hb hr hK hP hS hk (by omega) dX12_ofMan_136 (show P_X12_ofMan σ0 τ0 b N mo q h nm z185 σ179 τ169 from ⟨hR, hF, hFL, by omega, by omega, by omega, by first | exact MO.ofk (linM_x (z := (q, h, nm, σ0 387 20, σ0 387 21)) (by show tkq b N mo q < 0 ∨ (2 < tkq b N mo q ∧ tkq b N mo q < 7) ∨ 13 < tkq b N mo q; omega)) (by omega) (by omega) (by omega) | (obtain ⟨f, e1, x1, x2⟩ := o1.no (by omega); exact MO.ofl (by rw [linM_10 (z := (q, h, nm, σ0 387 20, σ0 387 21)) (by show tkq b N mo q = 10; omega)]; unfold oldP mnoP; dsimp only; rw [e1]; rfl) (by omega) x1 x2) | exact MO.ofk (by rw [linM_10 (z := (q, h, nm, σ0 387 20, σ0 387 21)) (by show tkq b N mo q = 10; omega)]; unfold oldP mnoP; dsimp only; rw [e1, bnd_r, if_pos (show 0 < h (55 + k.toNat) by rw [show 55 + k.toNat = j167 by omega]; omega)]; rfl) (by omega) (by omega) (by omega) | (obtain ⟨f, e1, x1, x2⟩ := o1.no (by omega); exact MO.ofl (by rw [linM_11 (z := (q, h, nm, σ0 387 20, σ0 387 21)) (by show tkq b N mo q = 11; omega)]; unfold deaP mnoP; dsimp only; rw [e1]; rfl) (by omega) x1 x2) | exact MO.ofk (by rw [linM_11 (z := (q, h, nm, σ0 387 20, σ0 387 21)) (by show tkq b N mo q = 11; omega)]; unfold deaP mnoP; dsimp only; rw [e1, bnd_r, if_pos (show 0 < h (63 + k.toNat) by rw [show 63 + k.toNat = j167 by omega]; omega)]; rfl) (by omega) (by omega) (by omega) | (obtain ⟨f, e1, x1, x2⟩ := o1.no (by omega); exact MO.ofl (by rw [linM_12 (z := (q, h, nm, σ0 387 20, σ0 387 21)) (by show tkq b N mo q = 12; omega)]; unfold neeP mnoP; dsimp only; rw [e1]; rfl) (by omega) x1 x2) | exact MO.ofk (by rw [linM_12 (z := (q, h, nm, σ0 387 20, σ0 387 21)) (by show tkq b N mo q = 12; omega)]; unfold neeP mnoP; dsimp only; rw [e1, bnd_r, if_pos (show 0 < h (71 + k.toNat) by rw [show 71 + k.toNat = j167 by omega]; omega)]; rfl) (by omega) (by omega) (by omega) | exact MO.ofr (by rw [linM_10 (z := (q, h, nm, σ0 387 20, σ0 387 21)) (by show tkq b N mo q = 10; omega)]; unfold oldP; dsimp only; rw [hne.1 (by omega), bnd_r]) (by omega) (MR.mk gMK gMH (gMN.h (uh_n _ _ (by omega)) (uh_n _ _ (by omega))) ((uq134 387 20 (by omega)).trans ((fq118.at 387 20 (by decide)).trans ((fq67.at 387 20 (by decide)).trans (fq55.at 387 20 (by decide))))) ((uq134 387 21 (by omega)).trans ((fq118.at 387 21 (by decide)).trans ((fq67.at 387 21 (by decide)).trans (fq55.at 387 21 (by decide)))))) | exact MO.ofr (by rw [linM_12 (z := (q, h, nm, σ0 387 20, σ0 387 21)) (by show tkq b N mo q = 12; omega)]; unfold neeP; dsimp only; rw [hne.2.2 (by omega), bnd_r, e2, bnd_r]) (by omega) (MR.mk gMK gMH (gMN.h (uh_n _ _ (by omega)) (uh_n _ _ (by omega))) ((uq169 387 20 (by omega)).trans ((fq147.at 387 20 (by decide)).trans ((fq118.at 387 20 (by decide)).trans ((fq67.at 387 20 (by decide)).trans (fq55.at 387 20 (by decide)))))) ((uq169 387 21 (by omega)).trans ((fq147.at 387 21 (by decide)).trans ((fq118.at 387 21 (by decide)).trans ((fq67.at 387 21 (by decide)).trans (fq55.at 387 21 (by decide))))))) | (obtain ⟨f, e2, x1, x2⟩ := o2.no (by omega); exact MO.ofl (by rw [linM_12 (z := (q, h, nm, σ0 387 20, σ0 387 21)) (by show tkq b N mo q = 12; omega)]; unfold neeP; dsimp only; rw [hne.2.2 (by omega), bnd_r, e2, bnd_l]) (by omega) x1 x2) | exact MO.ofr (by rw [linM_11 (z := (q, h, nm, σ0 387 20, σ0 387 21)) (by show tkq b N mo q = 11; omega)]; unfold deaP; dsimp only; rw [hne.2.1 (by omega), bnd_r, e2, bnd_r, if_neg (by omega)]) (by omega) (MR.mk gMK gMH (gMN.h (uh_n _ _ (by omega)) (uh_n _ _ (by omega))) ((fq219.at 387 20 (by decide)).trans ((uq217 387 20 (by omega)).trans ((fq181.at 387 20 (by decide)).trans ((fq118.at 387 20 (by decide)).trans ((fq67.at 387 20 (by decide)).trans (fq55.at 387 20 (by decide))))))) ((fq219.at 387 21 (by decide)).trans ((uq217 387 21 (by omega)).trans ((fq181.at 387 21 (by decide)).trans ((fq118.at 387 21 (by decide)).trans ((fq67.at 387 21 (by decide)).trans (fq55.at 387 21 (by decide)))))))) | exact MO.ofk (by rw [linM_11 (z := (q, h, nm, σ0 387 20, σ0 387 21)) (by show tkq b N mo q = 11; omega)]; unfold deaP; dsimp only; rw [hne.2.1 (by omega), bnd_r, e2, bnd_r, if_pos (by omega)]) (by omega) (by omega) (by omega) | (obtain ⟨f, e2, x1, x2⟩ := o2.no (by omega); exact MO.ofl (by rw [linM_11 (z := (q, h, nm, σ0 387 20, σ0 387 21)) (by show tkq b N mo q = 11; omega)]; unfold deaP; dsimp only; rw [hne.2.1 (by omega), bnd_r, e2, bnd_l]) (by omega) x1 x2), gHI, gMT, gRV⟩)
          · refine lv_aload_n hx hb dX12_ofMan_111 rfl (lv_at hl 2 rfl) ?_
            refine r_iconst hx hb dX12_ofMan_112 (by decide) (fun z186 ez186 => ?_)
            refine r_cVi (k := 387) (As := [.int z186]) (rest := []) ⟨hx, hb, hml, hown, hts⟩ hK hP hN hS (c_X12_bad_v l D cA ad hI σ158 τ152 hR z186 _ _ _ _ (by omega) gMK) (cwV 1 hts gX12_ofMan_X12_bad rfl rfl rfl (by decide +kernel) ⟨by decide, by decide⟩) (rv_M hK hP (by decide) (by decide)) rfl hl.1 rfl (Nat.le_of_ble_eq_true rfl) dX12_ofMan_113 (Nat.zero_le _) (Nat.zero_le _) (fun r187 u187 H187 locs187 hp187 hP hS => ?_)
            obtain ⟨σ187, τ187⟩ := u187
            obtain ⟨hR, f187, fL187, hq187, hp187_0, hp187_1, hp187_2, gnMK⟩ : P_X12_bad_v σ158 τ152 z186 _ _ _ _ r187 σ187 τ187 := hp187
            have hP : va_P D vwCl (gw cA ad σ187 τ187) H187 := hP
            obtain rfl := FrL.nil fL187
            have hF := hF.step f187 (by decide)
            have gHI := HI.fr gHI f187 (by decide)
            have gMH := gMH.ag (Agr.fr f187 (by decide))
            have gMK := gMK.ag (Agr.fr f187 (by decide))
            have gMT := gMT.ag (Agr.fr f187 (by decide))
            have t188 : (σ187 387 3).toInt = (σ158 387 3).toInt := congrArg Int32.toInt (f187.at 387 3 (by decide))
            have t189 : (σ187 387 4).toInt = (σ158 387 4).toInt := congrArg Int32.toInt (f187.at 387 4 (by decide))
            have t190 : (σ187 387 11).toInt = (σ158 387 11).toInt := congrArg Int32.toInt (f187.at 387 11 (by decide))
            have t191 : (σ187 390 1).toInt = (σ158 390 1).toInt := congrArg Int32.toInt (f187.at 390 1 (by decide))
            have t192 : (σ187 387 18).toInt = (σ158 387 18).toInt := congrArg Int32.toInt (f187.at 387 18 (by decide))
            have t193 : (σ187 390 j167).toInt = (σ158 390 j167).toInt := congrArg Int32.toInt (f187.atV 390 j167 (by intro q hq; simp only [L_X12_bad_v, List.mem_cons, List.not_mem_nil, or_false] at hq; rcases hq with rfl <;> dsimp only <;> omega))
            exact r_zret hx hb hr hK hP hS hk (by omega) dX12_ofMan_116 (show P_X12_ofMan σ0 τ0 b N mo q h nm r187 σ187 τ152 from ⟨hR, hF, hFL, by omega, by omega, by omega, by first | exact MO.ofk (linM_x (z := (q, h, nm, σ0 387 20, σ0 387 21)) (by show tkq b N mo q < 0 ∨ (2 < tkq b N mo q ∧ tkq b N mo q < 7) ∨ 13 < tkq b N mo q; omega)) (by omega) (by omega) (by omega) | (obtain ⟨f, e1, x1, x2⟩ := o1.no (by omega); exact MO.ofl (by rw [linM_10 (z := (q, h, nm, σ0 387 20, σ0 387 21)) (by show tkq b N mo q = 10; omega)]; unfold oldP mnoP; dsimp only; rw [e1]; rfl) (by omega) x1 x2) | exact MO.ofk (by rw [linM_10 (z := (q, h, nm, σ0 387 20, σ0 387 21)) (by show tkq b N mo q = 10; omega)]; unfold oldP mnoP; dsimp only; rw [e1, bnd_r, if_pos (show 0 < h (55 + k.toNat) by rw [show 55 + k.toNat = j167 by omega]; omega)]; rfl) (by omega) (by omega) (by omega) | (obtain ⟨f, e1, x1, x2⟩ := o1.no (by omega); exact MO.ofl (by rw [linM_11 (z := (q, h, nm, σ0 387 20, σ0 387 21)) (by show tkq b N mo q = 11; omega)]; unfold deaP mnoP; dsimp only; rw [e1]; rfl) (by omega) x1 x2) | exact MO.ofk (by rw [linM_11 (z := (q, h, nm, σ0 387 20, σ0 387 21)) (by show tkq b N mo q = 11; omega)]; unfold deaP mnoP; dsimp only; rw [e1, bnd_r, if_pos (show 0 < h (63 + k.toNat) by rw [show 63 + k.toNat = j167 by omega]; omega)]; rfl) (by omega) (by omega) (by omega) | (obtain ⟨f, e1, x1, x2⟩ := o1.no (by omega); exact MO.ofl (by rw [linM_12 (z := (q, h, nm, σ0 387 20, σ0 387 21)) (by show tkq b N mo q = 12; omega)]; unfold neeP mnoP; dsimp only; rw [e1]; rfl) (by omega) x1 x2) | exact MO.ofk (by rw [linM_12 (z := (q, h, nm, σ0 387 20, σ0 387 21)) (by show tkq b N mo q = 12; omega)]; unfold neeP mnoP; dsimp only; rw [e1, bnd_r, if_pos (show 0 < h (71 + k.toNat) by rw [show 71 + k.toNat = j167 by omega]; omega)]; rfl) (by omega) (by omega) (by omega) | exact MO.ofr (by rw [linM_10 (z := (q, h, nm, σ0 387 20, σ0 387 21)) (by show tkq b N mo q = 10; omega)]; unfold oldP; dsimp only; rw [hne.1 (by omega), bnd_r]) (by omega) (MR.mk gMK gMH (gMN.h (uh_n _ _ (by omega)) (uh_n _ _ (by omega))) ((uq134 387 20 (by omega)).trans ((fq118.at 387 20 (by decide)).trans ((fq67.at 387 20 (by decide)).trans (fq55.at 387 20 (by decide))))) ((uq134 387 21 (by omega)).trans ((fq118.at 387 21 (by decide)).trans ((fq67.at 387 21 (by decide)).trans (fq55.at 387 21 (by decide)))))) | exact MO.ofr (by rw [linM_12 (z := (q, h, nm, σ0 387 20, σ0 387 21)) (by show tkq b N mo q = 12; omega)]; unfold neeP; dsimp only; rw [hne.2.2 (by omega), bnd_r, e2, bnd_r]) (by omega) (MR.mk gMK gMH (gMN.h (uh_n _ _ (by omega)) (uh_n _ _ (by omega))) ((uq169 387 20 (by omega)).trans ((fq147.at 387 20 (by decide)).trans ((fq118.at 387 20 (by decide)).trans ((fq67.at 387 20 (by decide)).trans (fq55.at 387 20 (by decide)))))) ((uq169 387 21 (by omega)).trans ((fq147.at 387 21 (by decide)).trans ((fq118.at 387 21 (by decide)).trans ((fq67.at 387 21 (by decide)).trans (fq55.at 387 21 (by decide))))))) | (obtain ⟨f, e2, x1, x2⟩ := o2.no (by omega); exact MO.ofl (by rw [linM_12 (z := (q, h, nm, σ0 387 20, σ0 387 21)) (by show tkq b N mo q = 12; omega)]; unfold neeP; dsimp only; rw [hne.2.2 (by omega), bnd_r, e2, bnd_l]) (by omega) x1 x2) | exact MO.ofr (by rw [linM_11 (z := (q, h, nm, σ0 387 20, σ0 387 21)) (by show tkq b N mo q = 11; omega)]; unfold deaP; dsimp only; rw [hne.2.1 (by omega), bnd_r, e2, bnd_r, if_neg (by omega)]) (by omega) (MR.mk gMK gMH (gMN.h (uh_n _ _ (by omega)) (uh_n _ _ (by omega))) ((fq219.at 387 20 (by decide)).trans ((uq217 387 20 (by omega)).trans ((fq181.at 387 20 (by decide)).trans ((fq118.at 387 20 (by decide)).trans ((fq67.at 387 20 (by decide)).trans (fq55.at 387 20 (by decide))))))) ((fq219.at 387 21 (by decide)).trans ((uq217 387 21 (by omega)).trans ((fq181.at 387 21 (by decide)).trans ((fq118.at 387 21 (by decide)).trans ((fq67.at 387 21 (by decide)).trans (fq55.at 387 21 (by decide)))))))) | exact MO.ofk (by rw [linM_11 (z := (q, h, nm, σ0 387 20, σ0 387 21)) (by show tkq b N mo q = 11; omega)]; unfold deaP; dsimp only; rw [hne.2.1 (by omega), bnd_r, e2, bnd_r, if_pos (by omega)]) (by omega) (by omega) (by omega) | (obtain ⟨f, e2, x1, x2⟩ := o2.no (by omega); exact MO.ofl (by rw [linM_11 (z := (q, h, nm, σ0 387 20, σ0 387 21)) (by show tkq b N mo q = 11; omega)]; unfold deaP; dsimp only; rw [hne.2.1 (by omega), bnd_r, e2, bnd_l]) (by omega) x1 x2), gHI, gMT, gRV⟩)
      · clear hp158_0 hp158_1
        refine r_iconst hx hb dX12_ofMan_73 (by decide) (fun z194 ez194 => ?_)
        exact r_zret hx hb hr hK hP hS hk (by omega) dX12_ofMan_74 (show P_X12_ofMan σ0 τ0 b N mo q h nm z194 σ158 τ152 from ⟨hR, hF, hFL, by omega, by omega, by omega, by first | exact MO.ofk (linM_x (z := (q, h, nm, σ0 387 20, σ0 387 21)) (by show tkq b N mo q < 0 ∨ (2 < tkq b N mo q ∧ tkq b N mo q < 7) ∨ 13 < tkq b N mo q; omega)) (by omega) (by omega) (by omega) | (obtain ⟨f, e1, x1, x2⟩ := o1.no (by omega); exact MO.ofl (by rw [linM_10 (z := (q, h, nm, σ0 387 20, σ0 387 21)) (by show tkq b N mo q = 10; omega)]; unfold oldP mnoP; dsimp only; rw [e1]; rfl) (by omega) x1 x2) | exact MO.ofk (by rw [linM_10 (z := (q, h, nm, σ0 387 20, σ0 387 21)) (by show tkq b N mo q = 10; omega)]; unfold oldP mnoP; dsimp only; rw [e1, bnd_r, if_pos (show 0 < h (55 + k.toNat) by rw [show 55 + k.toNat = 1 by omega]; omega)]; rfl) (by omega) (by omega) (by omega) | (obtain ⟨f, e1, x1, x2⟩ := o1.no (by omega); exact MO.ofl (by rw [linM_11 (z := (q, h, nm, σ0 387 20, σ0 387 21)) (by show tkq b N mo q = 11; omega)]; unfold deaP mnoP; dsimp only; rw [e1]; rfl) (by omega) x1 x2) | exact MO.ofk (by rw [linM_11 (z := (q, h, nm, σ0 387 20, σ0 387 21)) (by show tkq b N mo q = 11; omega)]; unfold deaP mnoP; dsimp only; rw [e1, bnd_r, if_pos (show 0 < h (63 + k.toNat) by rw [show 63 + k.toNat = 1 by omega]; omega)]; rfl) (by omega) (by omega) (by omega) | (obtain ⟨f, e1, x1, x2⟩ := o1.no (by omega); exact MO.ofl (by rw [linM_12 (z := (q, h, nm, σ0 387 20, σ0 387 21)) (by show tkq b N mo q = 12; omega)]; unfold neeP mnoP; dsimp only; rw [e1]; rfl) (by omega) x1 x2) | exact MO.ofk (by rw [linM_12 (z := (q, h, nm, σ0 387 20, σ0 387 21)) (by show tkq b N mo q = 12; omega)]; unfold neeP mnoP; dsimp only; rw [e1, bnd_r, if_pos (show 0 < h (71 + k.toNat) by rw [show 71 + k.toNat = 1 by omega]; omega)]; rfl) (by omega) (by omega) (by omega) | exact MO.ofr (by rw [linM_10 (z := (q, h, nm, σ0 387 20, σ0 387 21)) (by show tkq b N mo q = 10; omega)]; unfold oldP; dsimp only; rw [hne.1 (by omega), bnd_r]) (by omega) (MR.mk gMK gMH (gMN.h (uh_n _ _ (by omega)) (uh_n _ _ (by omega))) ((uq134 387 20 (by omega)).trans ((fq118.at 387 20 (by decide)).trans ((fq67.at 387 20 (by decide)).trans (fq55.at 387 20 (by decide))))) ((uq134 387 21 (by omega)).trans ((fq118.at 387 21 (by decide)).trans ((fq67.at 387 21 (by decide)).trans (fq55.at 387 21 (by decide)))))) | exact MO.ofr (by rw [linM_12 (z := (q, h, nm, σ0 387 20, σ0 387 21)) (by show tkq b N mo q = 12; omega)]; unfold neeP; dsimp only; rw [hne.2.2 (by omega), bnd_r, e2, bnd_r]) (by omega) (MR.mk gMK gMH (gMN.h (uh_n _ _ (by omega)) (uh_n _ _ (by omega))) ((uq169 387 20 (by omega)).trans ((fq147.at 387 20 (by decide)).trans ((fq118.at 387 20 (by decide)).trans ((fq67.at 387 20 (by decide)).trans (fq55.at 387 20 (by decide)))))) ((uq169 387 21 (by omega)).trans ((fq147.at 387 21 (by decide)).trans ((fq118.at 387 21 (by decide)).trans ((fq67.at 387 21 (by decide)).trans (fq55.at 387 21 (by decide))))))) | (obtain ⟨f, e2, x1, x2⟩ := o2.no (by omega); exact MO.ofl (by rw [linM_12 (z := (q, h, nm, σ0 387 20, σ0 387 21)) (by show tkq b N mo q = 12; omega)]; unfold neeP; dsimp only; rw [hne.2.2 (by omega), bnd_r, e2, bnd_l]) (by omega) x1 x2) | exact MO.ofr (by rw [linM_11 (z := (q, h, nm, σ0 387 20, σ0 387 21)) (by show tkq b N mo q = 11; omega)]; unfold deaP; dsimp only; rw [hne.2.1 (by omega), bnd_r, e2, bnd_r, if_neg (by omega)]) (by omega) (MR.mk gMK gMH (gMN.h (uh_n _ _ (by omega)) (uh_n _ _ (by omega))) ((fq219.at 387 20 (by decide)).trans ((uq217 387 20 (by omega)).trans ((fq181.at 387 20 (by decide)).trans ((fq118.at 387 20 (by decide)).trans ((fq67.at 387 20 (by decide)).trans (fq55.at 387 20 (by decide))))))) ((fq219.at 387 21 (by decide)).trans ((uq217 387 21 (by omega)).trans ((fq181.at 387 21 (by decide)).trans ((fq118.at 387 21 (by decide)).trans ((fq67.at 387 21 (by decide)).trans (fq55.at 387 21 (by decide)))))))) | exact MO.ofk (by rw [linM_11 (z := (q, h, nm, σ0 387 20, σ0 387 21)) (by show tkq b N mo q = 11; omega)]; unfold deaP; dsimp only; rw [hne.2.1 (by omega), bnd_r, e2, bnd_r, if_pos (by omega)]) (by omega) (by omega) (by omega) | (obtain ⟨f, e2, x1, x2⟩ := o2.no (by omega); exact MO.ofl (by rw [linM_11 (z := (q, h, nm, σ0 387 20, σ0 387 21)) (by show tkq b N mo q = 11; omega)]; unfold deaP; dsimp only; rw [hne.2.1 (by omega), bnd_r, e2, bnd_l]) (by omega) x1 x2), gHI, gMT, gRV⟩)
    · exfalso; omega
