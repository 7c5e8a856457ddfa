theorem lk_X12_leafOf_107 : Cond.constantLong RX12 107 (7302244) ∈ wsX12_leafOf := by decide +kernel
theorem lk_X12_leafOf_109 : Cond.constantLong RX12 109 (1684365670) ∈ wsX12_leafOf := by decide +kernel
theorem lk_X12_leafOf_133 : Cond.constantLong RX12 133 (495925031534) ∈ wsX12_leafOf := by decide +kernel
theorem lk_X12_leafOf_135 : Cond.constantLong RX12 135 (1818846564) ∈ wsX12_leafOf := by decide +kernel
theorem lk_X12_leafOf_137 : Cond.constantLong RX12 137 (28526) ∈ wsX12_leafOf := by decide +kernel
theorem lk_X12_leafOf_139 : Cond.constantLong RX12 139 (448377483876) ∈ wsX12_leafOf := by decide +kernel
theorem lk_X12_leafOf_141 : Cond.constantLong RX12 141 (1668245870) ∈ wsX12_leafOf := by decide +kernel
theorem lk_X12_leafOf_143 : Cond.constantLong RX12 143 (495874699877) ∈ wsX12_leafOf := by decide +kernel
theorem lk_X12_leafOf_145 : Cond.constantLong RX12 145 (6644082) ∈ wsX12_leafOf := by decide +kernel
theorem lk_X12_leafOf_147 : Cond.constantLong RX12 147 (121450625394034) ∈ wsX12_leafOf := by decide +kernel
abbrev L_X12_leafOf : List Rc := []
abbrev LL_X12_leafOf : List Rc := []
def P_X12_leafOf (σ0 : Nat → Nat → Int32) (τ0 : Nat → Nat → Int64) (b : Nat → Int) (N : Nat) (mo : Nat) (q : Nat) (r : Int32) (σ : Nat → Nat → Int32) (τ : Nat → Nat → Int64) : Prop := Rg σ ∧ Fr L_X12_leafOf σ0 σ ∧ FrL LL_X12_leafOf τ0 τ ∧ (-1 ≤ r.toInt ∧ r.toInt ≤ 9) ∧ ((r.toInt = -1 ∧ (tkq b N mo q < 10 ∨ (12 ≤ tkq b N mo q ∧ tkq b N mo q ≤ 22) ∨ 30 < tkq b N mo q)) ∨ (r.toInt = 5 ∧ tkq b N mo q = 25) ∨ (6 ≤ r.toInt ∧ r.toInt ≤ 9 ∧ 27 ≤ tkq b N mo q ∧ tkq b N mo q ≤ 30) ∨ (0 ≤ r.toInt ∧ r.toInt ≤ 4 ∧ ((10 ≤ tkq b N mo q ∧ tkq b N mo q ≤ 11) ∨ (23 ≤ tkq b N mo q ∧ tkq b N mo q ≤ 24) ∨ tkq b N mo q = 26))) ∧ MK σ τ b N mo q
set_option maxHeartbeats 4000000 in
theorem c_X12_leafOf (l : Launch) (D : va_G) (cA : Nat → ClassId) (ad : Nat → Nat) (hI : Inj ad) (σ0 : Nat → Nat → Int32) (τ0 : Nat → Nat → Int64) (hR : Rg σ0) (b : Nat → Int) (N : Nat) (mo : Nat) (q : Nat) (gMK0 : MK σ0 τ0 b N mo q) : Met l yX12_leafOf wsX12_leafOf ({ frames := 1, cells := 0, slots := 0, locals := 22 } : Room) (WQc D cA ad [.ref (ad 387)] σ0 τ0) (va_Qi (fun (r : Int32) (u : SS) => P_X12_leafOf σ0 τ0 b N mo q r u.1 u.2) (WB D cA ad) (AA ad)) 0 0 (AA ad) := by
  refine Met.ofW (cc := cX12_leafOf) (maxL := 1) (ret := (some .int)) (by decide) rfl ?_
  intro p e s m args below meth c s₁ B hml hv
  obtain ⟨rfl, hP, hK, hN⟩ := hv
  have C : Cy p s m _ meth c cX12_leafOf 1 wsX12_leafOf RX12 D cA ad (some .int) := ⟨B.exec, B.bytes, hml, findClass_of_methodNamed B.named, atoms_spec (ws := wsX12_leafOf) B.pre, hK, B.notSynchronized, B.returns, hI, hN⟩
  have hl := lv_entry ([.ref (ad 387)]) (n := 1) (Nat.le_of_ble_eq_true rfl)
  rw [lg_entry_eq]
  generalize (lg_sl ([.ref (ad 387)]) ++ List.replicate (1 - (lg_sl ([.ref (ad 387)])).length) Slot.unset).toArray = ls at hl ⊢
  have hl : lv_has ls 1 [(0, .ref (ad 387))] := hl
  have hS : va_S (AA ad) s.heap s.heap [] := va_S.rf
  have hF : Fr L_X12_leafOf σ0 σ0 := Fr.rf
  have hFL : FrL LL_X12_leafOf τ0 τ0 := FrL.rf
  have gMK := gMK0
  obtain ⟨hx, hb, _, hown, hts, _, hk, hr, _, _⟩ := C
  refine lv_aload_n hx hb dX12_leafOf_0 rfl (lv_at hl 0 rfl) ?_
  refine lv_ldc2 (v := 7302244) hx hb hown (hts _ lk_X12_leafOf_107) dX12_leafOf_1 ?_
  refine r_cVi (k := 387) (As := [.long (7302244)]) (rest := []) ⟨hx, hb, hml, hown, hts⟩ hK hP hN hS (c_X12_isWord_v l D cA ad hI σ0 τ0 hR (7302244) _ _ _ _ 10 (by decide) (by decide) gMK) (cwV 1 hts gX12_leafOf_X12_isWord rfl rfl rfl (by decide +kernel) ⟨by decide, by decide⟩) (rv_M hK hP (by decide) (by decide)) rfl hl.1 rfl (Nat.le_of_ble_eq_true rfl) dX12_leafOf_4 (Nat.zero_le _) (Nat.zero_le _) (fun r1 u1 H1 locs1 hp1 hP hS => ?_)
  obtain ⟨σ1, τ1⟩ := u1
  obtain ⟨hR, f1, fL1, hq1, hp1_0, hp1_1, gnMK⟩ : P_X12_isWord_v σ0 τ0 (7302244) _ _ _ _ 10 r1 σ1 τ1 := hp1
  have ia0 := hp1_1
  have hP : va_P D vwCl (gw cA ad σ1 τ1) H1 := hP
  obtain rfl := FrL.nil fL1
  obtain rfl := Fr.nil f1
  replace hp1_1 : True := trivial
  refine r_if_eq (tgt := 14) hx hb dX12_leafOf_7 (by decide) (fun c2 => ?_) (fun c2 => ?_)
  · clear hp1_0
    have na0 := (ia0.resolve_left (fun c => by omega)).2
    clear ia0
    refine lv_aload_n hx hb dX12_leafOf_14 rfl (lv_at hl 0 rfl) ?_
    refine lv_ldc2 (v := 1684365670) hx hb hown (hts _ lk_X12_leafOf_109) dX12_leafOf_15 ?_
    refine r_cVi (k := 387) (As := [.long (1684365670)]) (rest := []) ⟨hx, hb, hml, hown, hts⟩ hK hP hN hS (c_X12_isWord_v l D cA ad hI σ0 τ0 hR (1684365670) _ _ _ _ 11 (by decide) (by decide) gMK) (cwV 1 hts gX12_leafOf_X12_isWord rfl rfl rfl (by decide +kernel) ⟨by decide, by decide⟩) (rv_M hK hP (by decide) (by decide)) rfl hl.1 rfl (Nat.le_of_ble_eq_true rfl) dX12_leafOf_18 (Nat.zero_le _) (Nat.zero_le _) (fun r3 u3 H3 locs3 hp3 hP hS => ?_)
    obtain ⟨σ3, τ3⟩ := u3
    obtain ⟨hR, f3, fL3, hq3, hp3_0, hp3_1, gnMK⟩ : P_X12_isWord_v σ0 τ0 (1684365670) _ _ _ _ 11 r3 σ3 τ3 := hp3
    have ia1 := hp3_1
    have hP : va_P D vwCl (gw cA ad σ3 τ3) H3 := hP
    obtain rfl := FrL.nil fL3
    obtain rfl := Fr.nil f3
    replace hp3_1 : True := trivial
    refine r_if_eq (tgt := 28) hx hb dX12_leafOf_21 (by decide) (fun c4 => ?_) (fun c4 => ?_)
    · clear hp3_0
      have na1 := (ia1.resolve_left (fun c => by omega)).2
      clear ia1
      refine lv_aload_n hx hb dX12_leafOf_28 rfl (lv_at hl 0 rfl) ?_
      refine lv_ldc2 (v := 495925031534) hx hb hown (hts _ lk_X12_leafOf_133) dX12_leafOf_29 ?_
      refine r_cVi (k := 387) (As := [.long (495925031534)]) (rest := []) ⟨hx, hb, hml, hown, hts⟩ hK hP hN hS (c_X12_isWord_v l D cA ad hI σ0 τ0 hR (495925031534) _ _ _ _ 23 (by decide) (by decide) gMK) (cwV 1 hts gX12_leafOf_X12_isWord rfl rfl rfl (by decide +kernel) ⟨by decide, by decide⟩) (rv_M hK hP (by decide) (by decide)) rfl hl.1 rfl (Nat.le_of_ble_eq_true rfl) dX12_leafOf_32 (Nat.zero_le _) (Nat.zero_le _) (fun r5 u5 H5 locs5 hp5 hP hS => ?_)
      obtain ⟨σ5, τ5⟩ := u5
      obtain ⟨hR, f5, fL5, hq5, hp5_0, hp5_1, gnMK⟩ : P_X12_isWord_v σ0 τ0 (495925031534) _ _ _ _ 23 r5 σ5 τ5 := hp5
      have ia2 := hp5_1
      have hP : va_P D vwCl (gw cA ad σ5 τ5) H5 := hP
      obtain rfl := FrL.nil fL5
      obtain rfl := Fr.nil f5
      replace hp5_1 : True := trivial
      refine r_if_eq (tgt := 42) hx hb dX12_leafOf_35 (by decide) (fun c6 => ?_) (fun c6 => ?_)
      · clear hp5_0
        have na2 := (ia2.resolve_left (fun c => by omega)).2
        clear ia2
        refine lv_aload_n hx hb dX12_leafOf_42 rfl (lv_at hl 0 rfl) ?_
        refine lv_ldc2 (v := 1818846564) hx hb hown (hts _ lk_X12_leafOf_135) dX12_leafOf_43 ?_
        refine r_cVi (k := 387) (As := [.long (1818846564)]) (rest := []) ⟨hx, hb, hml, hown, hts⟩ hK hP hN hS (c_X12_isWord_v l D cA ad hI σ0 τ0 hR (1818846564) _ _ _ _ 24 (by decide) (by decide) gMK) (cwV 1 hts gX12_leafOf_X12_isWord rfl rfl rfl (by decide +kernel) ⟨by decide, by decide⟩) (rv_M hK hP (by decide) (by decide)) rfl hl.1 rfl (Nat.le_of_ble_eq_true rfl) dX12_leafOf_46 (Nat.zero_le _) (Nat.zero_le _) (fun r7 u7 H7 locs7 hp7 hP hS => ?_)
        obtain ⟨σ7, τ7⟩ := u7
        obtain ⟨hR, f7, fL7, hq7, hp7_0, hp7_1, gnMK⟩ : P_X12_isWord_v σ0 τ0 (1818846564) _ _ _ _ 24 r7 σ7 τ7 := hp7
        have ia3 := hp7_1
        have hP : va_P D vwCl (gw cA ad σ7 τ7) H7 := hP
        obtain rfl := FrL.nil fL7
        obtain rfl := Fr.nil f7
        replace hp7_1 : True := trivial
        refine r_if_eq (tgt := 56) hx hb dX12_leafOf_49 (by decide) (fun c8 => ?_) (fun c8 => ?_)
        · clear hp7_0
          have na3 := (ia3.resolve_left (fun c => by omega)).2
          clear ia3
          refine lv_aload_n hx hb dX12_leafOf_56 rfl (lv_at hl 0 rfl) ?_
          refine lv_ldc2 (v := 448377483876) hx hb hown (hts _ lk_X12_leafOf_139) dX12_leafOf_57 ?_
          refine r_cVi (k := 387) (As := [.long (448377483876)]) (rest := []) ⟨hx, hb, hml, hown, hts⟩ hK hP hN hS (c_X12_isWord_v l D cA ad hI σ0 τ0 hR (448377483876) _ _ _ _ 26 (by decide) (by decide) gMK) (cwV 1 hts gX12_leafOf_X12_isWord rfl rfl rfl (by decide +kernel) ⟨by decide, by decide⟩) (rv_M hK hP (by decide) (by decide)) rfl hl.1 rfl (Nat.le_of_ble_eq_true rfl) dX12_leafOf_60 (Nat.zero_le _) (Nat.zero_le _) (fun r9 u9 H9 locs9 hp9 hP hS => ?_)
          obtain ⟨σ9, τ9⟩ := u9
          obtain ⟨hR, f9, fL9, hq9, hp9_0, hp9_1, gnMK⟩ : P_X12_isWord_v σ0 τ0 (448377483876) _ _ _ _ 26 r9 σ9 τ9 := hp9
          have ia4 := hp9_1
          have hP : va_P D vwCl (gw cA ad σ9 τ9) H9 := hP
          obtain rfl := FrL.nil fL9
          obtain rfl := Fr.nil f9
          replace hp9_1 : True := trivial
          refine r_if_eq (tgt := 70) hx hb dX12_leafOf_63 (by decide) (fun c10 => ?_) (fun c10 => ?_)
          · clear hp9_0
            have na4 := (ia4.resolve_left (fun c => by omega)).2
            clear ia4
            refine lv_aload_n hx hb dX12_leafOf_70 rfl (lv_at hl 0 rfl) ?_
            refine lv_ldc2 (v := 28526) hx hb hown (hts _ lk_X12_leafOf_137) dX12_leafOf_71 ?_
            refine r_cVi (k := 387) (As := [.long (28526)]) (rest := []) ⟨hx, hb, hml, hown, hts⟩ hK hP hN hS (c_X12_isWord_v l D cA ad hI σ0 τ0 hR (28526) _ _ _ _ 25 (by decide) (by decide) gMK) (cwV 1 hts gX12_leafOf_X12_isWord rfl rfl rfl (by decide +kernel) ⟨by decide, by decide⟩) (rv_M hK hP (by decide) (by decide)) rfl hl.1 rfl (Nat.le_of_ble_eq_true rfl) dX12_leafOf_74 (Nat.zero_le _) (Nat.zero_le _) (fun r11 u11 H11 locs11 hp11 hP hS => ?_)
            obtain ⟨σ11, τ11⟩ := u11
            obtain ⟨hR, f11, fL11, hq11, hp11_0, hp11_1, gnMK⟩ : P_X12_isWord_v σ0 τ0 (28526) _ _ _ _ 25 r11 σ11 τ11 := hp11
            have ia5 := hp11_1
            have hP : va_P D vwCl (gw cA ad σ11 τ11) H11 := hP
            obtain rfl := FrL.nil fL11
            obtain rfl := Fr.nil f11
            replace hp11_1 : True := trivial
            refine r_if_eq (tgt := 84) hx hb dX12_leafOf_77 (by decide) (fun c12 => ?_) (fun c12 => ?_)
            · clear hp11_0
              have na5 := (ia5.resolve_left (fun c => by omega)).2
              clear ia5
              refine lv_aload_n hx hb dX12_leafOf_84 rfl (lv_at hl 0 rfl) ?_
              refine lv_ldc2 (v := 1668245870) hx hb hown (hts _ lk_X12_leafOf_141) dX12_leafOf_85 ?_
              refine r_cVi (k := 387) (As := [.long (1668245870)]) (rest := []) ⟨hx, hb, hml, hown, hts⟩ hK hP hN hS (c_X12_isWord_v l D cA ad hI σ0 τ0 hR (1668245870) _ _ _ _ 27 (by decide) (by decide) gMK) (cwV 1 hts gX12_leafOf_X12_isWord rfl rfl rfl (by decide +kernel) ⟨by decide, by decide⟩) (rv_M hK hP (by decide) (by decide)) rfl hl.1 rfl (Nat.le_of_ble_eq_true rfl) dX12_leafOf_88 (Nat.zero_le _) (Nat.zero_le _) (fun r13 u13 H13 locs13 hp13 hP hS => ?_)
              obtain ⟨σ13, τ13⟩ := u13
              obtain ⟨hR, f13, fL13, hq13, hp13_0, hp13_1, gnMK⟩ : P_X12_isWord_v σ0 τ0 (1668245870) _ _ _ _ 27 r13 σ13 τ13 := hp13
              have ia6 := hp13_1
              have hP : va_P D vwCl (gw cA ad σ13 τ13) H13 := hP
              obtain rfl := FrL.nil fL13
              obtain rfl := Fr.nil f13
              replace hp13_1 : True := trivial
              refine r_if_eq (tgt := 99) hx hb dX12_leafOf_91 (by decide) (fun c14 => ?_) (fun c14 => ?_)
              · clear hp13_0
                have na6 := (ia6.resolve_left (fun c => by omega)).2
                clear ia6
                refine lv_aload_n hx hb dX12_leafOf_99 rfl (lv_at hl 0 rfl) ?_
                refine lv_ldc2 (v := 495874699877) hx hb hown (hts _ lk_X12_leafOf_143) dX12_leafOf_100 ?_
                refine r_cVi (k := 387) (As := [.long (495874699877)]) (rest := []) ⟨hx, hb, hml, hown, hts⟩ hK hP hN hS (c_X12_isWord_v l D cA ad hI σ0 τ0 hR (495874699877) _ _ _ _ 28 (by decide) (by decide) gMK) (cwV 1 hts gX12_leafOf_X12_isWord rfl rfl rfl (by decide +kernel) ⟨by decide, by decide⟩) (rv_M hK hP (by decide) (by decide)) rfl hl.1 rfl (Nat.le_of_ble_eq_true rfl) dX12_leafOf_103 (Nat.zero_le _) (Nat.zero_le _) (fun r15 u15 H15 locs15 hp15 hP hS => ?_)
                obtain ⟨σ15, τ15⟩ := u15
                obtain ⟨hR, f15, fL15, hq15, hp15_0, hp15_1, gnMK⟩ : P_X12_isWord_v σ0 τ0 (495874699877) _ _ _ _ 28 r15 σ15 τ15 := hp15
                have ia7 := hp15_1
                have hP : va_P D vwCl (gw cA ad σ15 τ15) H15 := hP
                obtain rfl := FrL.nil fL15
                obtain rfl := Fr.nil f15
                replace hp15_1 : True := trivial
                refine r_if_eq (tgt := 114) hx hb dX12_leafOf_106 (by decide) (fun c16 => ?_) (fun c16 => ?_)
                · clear hp15_0
                  have na7 := (ia7.resolve_left (fun c => by omega)).2
                  clear ia7
                  refine lv_aload_n hx hb dX12_leafOf_114 rfl (lv_at hl 0 rfl) ?_
                  refine lv_ldc2 (v := 6644082) hx hb hown (hts _ lk_X12_leafOf_145) dX12_leafOf_115 ?_
                  refine r_cVi (k := 387) (As := [.long (6644082)]) (rest := []) ⟨hx, hb, hml, hown, hts⟩ hK hP hN hS (c_X12_isWord_v l D cA ad hI σ0 τ0 hR (6644082) _ _ _ _ 29 (by decide) (by decide) gMK) (cwV 1 hts gX12_leafOf_X12_isWord rfl rfl rfl (by decide +kernel) ⟨by decide, by decide⟩) (rv_M hK hP (by decide) (by decide)) rfl hl.1 rfl (Nat.le_of_ble_eq_true rfl) dX12_leafOf_118 (Nat.zero_le _) (Nat.zero_le _) (fun r17 u17 H17 locs17 hp17 hP hS => ?_)
                  obtain ⟨σ17, τ17⟩ := u17
                  obtain ⟨hR, f17, fL17, hq17, hp17_0, hp17_1, gnMK⟩ : P_X12_isWord_v σ0 τ0 (6644082) _ _ _ _ 29 r17 σ17 τ17 := hp17
                  have ia8 := hp17_1
                  have hP : va_P D vwCl (gw cA ad σ17 τ17) H17 := hP
                  obtain rfl := FrL.nil fL17
                  obtain rfl := Fr.nil f17
                  replace hp17_1 : True := trivial
                  refine r_if_eq (tgt := 129) hx hb dX12_leafOf_121 (by decide) (fun c18 => ?_) (fun c18 => ?_)
                  · clear hp17_0
                    have na8 := (ia8.resolve_left (fun c => by omega)).2
                    clear ia8
                    refine lv_aload_n hx hb dX12_leafOf_129 rfl (lv_at hl 0 rfl) ?_
                    refine lv_ldc2 (v := 121450625394034) hx hb hown (hts _ lk_X12_leafOf_147) dX12_leafOf_130 ?_
                    refine r_cVi (k := 387) (As := [.long (121450625394034)]) (rest := []) ⟨hx, hb, hml, hown, hts⟩ hK hP hN hS (c_X12_isWord_v l D cA ad hI σ0 τ0 hR (121450625394034) _ _ _ _ 30 (by decide) (by decide) gMK) (cwV 1 hts gX12_leafOf_X12_isWord rfl rfl rfl (by decide +kernel) ⟨by decide, by decide⟩) (rv_M hK hP (by decide) (by decide)) rfl hl.1 rfl (Nat.le_of_ble_eq_true rfl) dX12_leafOf_133 (Nat.zero_le _) (Nat.zero_le _) (fun r19 u19 H19 locs19 hp19 hP hS => ?_)
                    obtain ⟨σ19, τ19⟩ := u19
                    obtain ⟨hR, f19, fL19, hq19, hp19_0, hp19_1, gnMK⟩ : P_X12_isWord_v σ0 τ0 (121450625394034) _ _ _ _ 30 r19 σ19 τ19 := hp19
                    have ia9 := hp19_1
                    have hP : va_P D vwCl (gw cA ad σ19 τ19) H19 := hP
                    obtain rfl := FrL.nil fL19
                    obtain rfl := Fr.nil f19
                    replace hp19_1 : True := trivial
                    refine r_if_eq (tgt := 144) hx hb dX12_leafOf_136 (by decide) (fun c20 => ?_) (fun c20 => ?_)
                    · clear hp19_0
                      have na9 := (ia9.resolve_left (fun c => by omega)).2
                      clear ia9
                      refine r_iconst hx hb dX12_leafOf_144 (by decide) (fun z21 ez21 => ?_)
                      exact r_iret hx hb hr hK hP hS hk dX12_leafOf_145 (show P_X12_leafOf σ0 τ0 b N mo q z21 σ0 τ0 from ⟨hR, hF, hFL, by omega, by first | exact Or.inr (Or.inl ⟨by omega, by omega⟩) | exact Or.inr (Or.inr (Or.inl ⟨by omega, by omega, by omega, by omega⟩)) | exact Or.inr (Or.inr (Or.inr ⟨by omega, by omega, by omega⟩)) | exact Or.inl ⟨by omega, by omega⟩, gMK⟩)
                    · replace hp19_0 := hp19_0.resolve_left (by omega)
                      have ea9 := (ia9.resolve_right (fun c => by omega)).2
                      clear ia9
                      refine r_bipush hx hb dX12_leafOf_139 (by decide) (fun z22 ez22 => ?_)
                      refine lv_goto (tgt := 145) hx hb dX12_leafOf_141 (by decide) ?_
                      exact r_iret hx hb hr hK hP hS hk dX12_leafOf_145 (show P_X12_leafOf σ0 τ0 b N mo q z22 σ0 τ0 from ⟨hR, hF, hFL, by omega, by first | exact Or.inr (Or.inl ⟨by omega, by omega⟩) | exact Or.inr (Or.inr (Or.inl ⟨by omega, by omega, by omega, by omega⟩)) | exact Or.inr (Or.inr (Or.inr ⟨by omega, by omega, by omega⟩)) | exact Or.inl ⟨by omega, by omega⟩, gMK⟩)
                  · replace hp17_0 := hp17_0.resolve_left (by omega)
                    have ea8 := (ia8.resolve_right (fun c => by omega)).2
                    clear ia8
                    refine r_bipush hx hb dX12_leafOf_124 (by decide) (fun z23 ez23 => ?_)
                    refine lv_goto (tgt := 145) hx hb dX12_leafOf_126 (by decide) ?_
                    exact r_iret hx hb hr hK hP hS hk dX12_leafOf_145 (show P_X12_leafOf σ0 τ0 b N mo q z23 σ0 τ0 from ⟨hR, hF, hFL, by omega, by first | exact Or.inr (Or.inl ⟨by omega, by omega⟩) | exact Or.inr (Or.inr (Or.inl ⟨by omega, by omega, by omega, by omega⟩)) | exact Or.inr (Or.inr (Or.inr ⟨by omega, by omega, by omega⟩)) | exact Or.inl ⟨by omega, by omega⟩, gMK⟩)
                · replace hp15_0 := hp15_0.resolve_left (by omega)
                  have ea7 := (ia7.resolve_right (fun c => by omega)).2
                  clear ia7
                  refine r_bipush hx hb dX12_leafOf_109 (by decide) (fun z24 ez24 => ?_)
                  refine lv_goto (tgt := 145) hx hb dX12_leafOf_111 (by decide) ?_
                  exact r_iret hx hb hr hK hP hS hk dX12_leafOf_145 (show P_X12_leafOf σ0 τ0 b N mo q z24 σ0 τ0 from ⟨hR, hF, hFL, by omega, by first | exact Or.inr (Or.inl ⟨by omega, by omega⟩) | exact Or.inr (Or.inr (Or.inl ⟨by omega, by omega, by omega, by omega⟩)) | exact Or.inr (Or.inr (Or.inr ⟨by omega, by omega, by omega⟩)) | exact Or.inl ⟨by omega, by omega⟩, gMK⟩)
              · replace hp13_0 := hp13_0.resolve_left (by omega)
                have ea6 := (ia6.resolve_right (fun c => by omega)).2
                clear ia6
                refine r_bipush hx hb dX12_leafOf_94 (by decide) (fun z25 ez25 => ?_)
                refine lv_goto (tgt := 145) hx hb dX12_leafOf_96 (by decide) ?_
                exact r_iret hx hb hr hK hP hS hk dX12_leafOf_145 (show P_X12_leafOf σ0 τ0 b N mo q z25 σ0 τ0 from ⟨hR, hF, hFL, by omega, by first | exact Or.inr (Or.inl ⟨by omega, by omega⟩) | exact Or.inr (Or.inr (Or.inl ⟨by omega, by omega, by omega, by omega⟩)) | exact Or.inr (Or.inr (Or.inr ⟨by omega, by omega, by omega⟩)) | exact Or.inl ⟨by omega, by omega⟩, gMK⟩)
            · replace hp11_0 := hp11_0.resolve_left (by omega)
              have ea5 := (ia5.resolve_right (fun c => by omega)).2
              clear ia5
              refine r_iconst hx hb dX12_leafOf_80 (by decide) (fun z26 ez26 => ?_)
              refine lv_goto (tgt := 145) hx hb dX12_leafOf_81 (by decide) ?_
              exact r_iret hx hb hr hK hP hS hk dX12_leafOf_145 (show P_X12_leafOf σ0 τ0 b N mo q z26 σ0 τ0 from ⟨hR, hF, hFL, by omega, by first | exact Or.inr (Or.inl ⟨by omega, by omega⟩) | exact Or.inr (Or.inr (Or.inl ⟨by omega, by omega, by omega, by omega⟩)) | exact Or.inr (Or.inr (Or.inr ⟨by omega, by omega, by omega⟩)) | exact Or.inl ⟨by omega, by omega⟩, gMK⟩)
          · replace hp9_0 := hp9_0.resolve_left (by omega)
            have ea4 := (ia4.resolve_right (fun c => by omega)).2
            clear ia4
            refine r_iconst hx hb dX12_leafOf_66 (by decide) (fun z27 ez27 => ?_)
            refine lv_goto (tgt := 145) hx hb dX12_leafOf_67 (by decide) ?_
            exact r_iret hx hb hr hK hP hS hk dX12_leafOf_145 (show P_X12_leafOf σ0 τ0 b N mo q z27 σ0 τ0 from ⟨hR, hF, hFL, by omega, by first | exact Or.inr (Or.inl ⟨by omega, by omega⟩) | exact Or.inr (Or.inr (Or.inl ⟨by omega, by omega, by omega, by omega⟩)) | exact Or.inr (Or.inr (Or.inr ⟨by omega, by omega, by omega⟩)) | exact Or.inl ⟨by omega, by omega⟩, gMK⟩)
        · replace hp7_0 := hp7_0.resolve_left (by omega)
          have ea3 := (ia3.resolve_right (fun c => by omega)).2
          clear ia3
          refine r_iconst hx hb dX12_leafOf_52 (by decide) (fun z28 ez28 => ?_)
          refine lv_goto (tgt := 145) hx hb dX12_leafOf_53 (by decide) ?_
          exact r_iret hx hb hr hK hP hS hk dX12_leafOf_145 (show P_X12_leafOf σ0 τ0 b N mo q z28 σ0 τ0 from ⟨hR, hF, hFL, by omega, by first | exact Or.inr (Or.inl ⟨by omega, by omega⟩) | exact Or.inr (Or.inr (Or.inl ⟨by omega, by omega, by omega, by omega⟩)) | exact Or.inr (Or.inr (Or.inr ⟨by omega, by omega, by omega⟩)) | exact Or.inl ⟨by omega, by omega⟩, gMK⟩)
      · replace hp5_0 := hp5_0.resolve_left (by omega)
        have ea2 := (ia2.resolve_right (fun c => by omega)).2
        clear ia2
        refine r_iconst hx hb dX12_leafOf_38 (by decide) (fun z29 ez29 => ?_)
        refine lv_goto (tgt := 145) hx hb dX12_leafOf_39 (by decide) ?_
        exact r_iret hx hb hr hK hP hS hk dX12_leafOf_145 (show P_X12_leafOf σ0 τ0 b N mo q z29 σ0 τ0 from ⟨hR, hF, hFL, by omega, by first | exact Or.inr (Or.inl ⟨by omega, by omega⟩) | exact Or.inr (Or.inr (Or.inl ⟨by omega, by omega, by omega, by omega⟩)) | exact Or.inr (Or.inr (Or.inr ⟨by omega, by omega, by omega⟩)) | exact Or.inl ⟨by omega, by omega⟩, gMK⟩)
    · replace hp3_0 := hp3_0.resolve_left (by omega)
      have ea1 := (ia1.resolve_right (fun c => by omega)).2
      clear ia1
      refine r_iconst hx hb dX12_leafOf_24 (by decide) (fun z30 ez30 => ?_)
      refine lv_goto (tgt := 145) hx hb dX12_leafOf_25 (by decide) ?_
      exact r_iret hx hb hr hK hP hS hk dX12_leafOf_145 (show P_X12_leafOf σ0 τ0 b N mo q z30 σ0 τ0 from ⟨hR, hF, hFL, by omega, by first | exact Or.inr (Or.inl ⟨by omega, by omega⟩) | exact Or.inr (Or.inr (Or.inl ⟨by omega, by omega, by omega, by omega⟩)) | exact Or.inr (Or.inr (Or.inr ⟨by omega, by omega, by omega⟩)) | exact Or.inl ⟨by omega, by omega⟩, gMK⟩)
  · replace hp1_0 := hp1_0.resolve_left (by omega)
    have ea0 := (ia0.resolve_right (fun c => by omega)).2
    clear ia0
    refine r_iconst hx hb dX12_leafOf_10 (by decide) (fun z31 ez31 => ?_)
    refine lv_goto (tgt := 145) hx hb dX12_leafOf_11 (by decide) ?_
    exact r_iret hx hb hr hK hP hS hk dX12_leafOf_145 (show P_X12_leafOf σ0 τ0 b N mo q z31 σ0 τ0 from ⟨hR, hF, hFL, by omega, by first | exact Or.inr (Or.inl ⟨by omega, by omega⟩) | exact Or.inr (Or.inr (Or.inl ⟨by omega, by omega, by omega, by omega⟩)) | exact Or.inr (Or.inr (Or.inr ⟨by omega, by omega, by omega⟩)) | exact Or.inl ⟨by omega, by omega⟩, gMK⟩)
abbrev L_X12_find_w : List Rc := []
abbrev LL_X12_find_w : List Rc := []
def P_X12_find_w (σ0 : Nat → Nat → Int32) (τ0 : Nat → Nat → Int64) (a1 : Int32) (a2 : Int32) (r : Int32) (σ : Nat → Nat → Int32) (τ : Nat → Nat → Int64) : Prop := Rg σ ∧ Fr L_X12_find_w σ0 σ ∧ FrL LL_X12_find_w τ0 τ ∧ (-1 ≤ r.toInt ∧ r.toInt ≤ 7) ∧ (r.toInt = -1 ∨ r.toInt < a2.toInt) ∧ (r.toInt = fndq (fun i => τ0 392 (a1.toInt.toNat + i)) (τ0 387 17) a2.toInt.toNat)
def J_X12_find_w_2 (p : Program) (l : Launch) (e : Env) (s : State) (m : MethodId) (args : Array Value) (below : List Frame) (meth : Method) (c : Code) (D : va_G) (cA : Nat → ClassId) (ad : Nat → Nat) (σ0 : Nat → Nat → Int32) (τ0 : Nat → Nat → Int64) (a1 : Int32) (a2 : Int32) (n : Nat) : Prop := ∀ (σ : Nat → Nat → Int32) (τ : Nat → Nat → Int64) (H : Heap) (locs : List Loc) (x3 : Int32) (ls : Array Slot), Rg σ → Fr L_X12_find_w σ0 σ → FrL LL_X12_find_w τ0 τ → va_P D vwCl (gw cA ad σ τ) H → va_S (AA ad) s.heap H locs → (0 ≤ x3.toInt ∧ x3.toInt ≤ 8) → (∀ i : Nat, (i : Int) < x3.toInt → τ0 392 (a1.toInt.toNat + i) ≠ τ0 387 17) → lv_has ls 4 [(0, .ref (ad 387)), (1, .int a1), (2, .int a2), (3, .int x3)] → 2 * (8 - x3.toInt) + 1 < (n : Int) → W p l e ({ frames := 0, cells := 0, slots := 0, locals := 0 } : Room) s m args below meth c H locs 0 0 (MQ below (va_Qi (fun (r : Int32) (u : SS) => P_X12_find_w σ0 τ0 a1 a2 r u.1 u.2) (WB D cA ad) (AA ad)) args s 0 0 (AA ad)) (F0 m 2 ls [])
set_option maxHeartbeats 4000000 in
theorem B_X12_find_w_2 (p : Program) (l : Launch) (e : Env) (s : State) (m : MethodId) (args : Array Value) (below : List Frame) (meth : Method) (c : Code) (D : va_G) (cA : Nat → ClassId) (ad : Nat → Nat) (σ0 : Nat → Nat → Int32) (τ0 : Nat → Nat → Int64) (a1 : Int32) (a2 : Int32) (n : Nat) (C : Cy p s m args meth c cX12_find 4 wsX12_find RX12 D cA ad (some .int)) (ha1 : 0 ≤ a1.toInt ∧ a1.toInt ≤ 0) (ha2 : 0 ≤ a2.toInt ∧ a2.toInt ≤ 8) (K2 : J_X12_find_w_2 p l e s m args below meth c D cA ad σ0 τ0 a1 a2 n) : J_X12_find_w_2 p l e s m args below meth c D cA ad σ0 τ0 a1 a2 (n + 1) := by
  obtain ⟨hx, hb, hml, hown, hts, hK, hk, hr, hI, hN⟩ := C
  intro σ τ H locs x3 ls hR hF hFL hP hS hc0 hi0 hl hm
  obtain rfl := Fr.nil hF
  obtain rfl := FrL.nil hFL
  refine lv_iload_n hx hb dX12_find_2 rfl (lv_at hl 3 rfl) ?_
  refine lv_iload_n hx hb dX12_find_3 rfl (lv_at hl 2 rfl) ?_
  refine r_icmp_ge (tgt := 31) hx hb dX12_find_4 (by decide) (fun c1 => ?_) (fun c1 => ?_)
  · refine r_iconst hx hb dX12_find_31 (by decide) (fun z2 ez2 => ?_)
    exact r_iret hx hb hr hK hP hS hk dX12_find_32 (show P_X12_find_w σ0 τ0 a1 a2 z2 σ0 τ0 from ⟨hR, hF, hFL, by omega, by omega, by first | (rw [fndq_at (i := x3.toInt.toNat) (show τ0 392 (a1.toInt.toNat + x3.toInt.toNat) = τ0 387 17 by rw [← show 0 = a1.toInt.toNat + x3.toInt.toNat by omega]; exact lc.mp (by omega)) (fun j hj => hi0 j (by omega)) (by omega)]; omega) | (rw [fndq_no (fun i hi => hi0 i (by omega))]; omega)⟩)
  · refine lv_aload_n hx hb dX12_find_7 rfl (lv_at hl 0 rfl) ?_
    refine fg_12_9 (k := 387) hx hb hts in_X12_find_12 hown hK hP (by decide) (by decide) (hts _ lk_X12_find_43) dX12_find_8 ?_
    refine lv_iload_n hx hb dX12_find_11 rfl (lv_at hl 1 rfl) ?_
    refine lv_iload_n hx hb dX12_find_12 rfl (lv_at hl 3 rfl) ?_
    refine r_iadd hx hb dX12_find_13 (by omega) (fun z3 ez3 => ?_)
    obtain ⟨j4, ej4⟩ : ∃ j : Nat, z3.toInt = (j : Int) := ⟨_, ti_nat (by omega)⟩
    refine adL_mnames (k := 392) (j := j4) hx hb hK hP (by decide) (by decide) ej4 (by omega) dX12_find_14 ?_
    refine lv_aload_n hx hb dX12_find_15 rfl (lv_at hl 0 rfl) ?_
    refine fg_12_17 (k := 387) hx hb hts in_X12_find_12 hown hK hP (by decide) (by decide) (hts _ lk_X12_find_172) dX12_find_16 ?_
    refine r_lcmpE hx hb dX12_find_19 (fun z5 ez5 => ?_)
    have lc := ez5
    refine r_if_ne (tgt := 25) hx hb dX12_find_20 (by decide) (fun c6 => ?_) (fun c6 => ?_)
    · refine r_iinc (k := 3) (lv1 := fun z7 => [(3, .int z7), (0, .ref (ad 387)), (1, .int a1), (2, .int a2)]) hx hb dX12_find_25 hl rfl (by decide) (fun _ => rfl) (by decide) (by omega) (fun z7 ls ez7 hl => ?_)
      refine lv_goto (tgt := 2) hx hb dX12_find_28 (by decide) ?_
      exact K2 σ0 τ0 H locs z7 ls hR hF hFL hP hS (by omega) (by first | exact (fun i hi => absurd hi (by omega)) | exact allS hi0 (fun g => absurd (lc.mpr (by rw [show j4 = a1.toInt.toNat + x3.toInt.toNat by omega]; exact g)) (by omega)) (by omega) (by omega)) (lv_sub hl [1, 2, 3, 0] rfl) (by omega)
    · refine lv_iload_n hx hb dX12_find_23 rfl (lv_at hl 3 rfl) ?_
      exact r_iret hx hb hr hK hP hS hk dX12_find_24 (show P_X12_find_w σ0 τ0 a1 a2 x3 σ0 τ0 from ⟨hR, hF, hFL, by omega, by omega, by first | (rw [fndq_at (i := x3.toInt.toNat) (show τ0 392 (a1.toInt.toNat + x3.toInt.toNat) = τ0 387 17 by rw [← show j4 = a1.toInt.toNat + x3.toInt.toNat by omega]; exact lc.mp (by omega)) (fun j hj => hi0 j (by omega)) (by omega)]; omega) | (rw [fndq_no (fun i hi => hi0 i (by omega))]; omega)⟩)
theorem A_X12_find_w (p : Program) (l : Launch) (e : Env) (s : State) (m : MethodId) (args : Array Value) (below : List Frame) (meth : Method) (c : Code) (D : va_G) (cA : Nat → ClassId) (ad : Nat → Nat) (σ0 : Nat → Nat → Int32) (τ0 : Nat → Nat → Int64) (a1 : Int32) (a2 : Int32) (C : Cy p s m args meth c cX12_find 4 wsX12_find RX12 D cA ad (some .int)) (ha1 : 0 ≤ a1.toInt ∧ a1.toInt ≤ 0) (ha2 : 0 ≤ a2.toInt ∧ a2.toInt ≤ 8) : ∀ n : Nat, J_X12_find_w_2 p l e s m args below meth c D cA ad σ0 τ0 a1 a2 n := by
  intro n
  induction n with
  | zero =>
    exact (by intro σ τ H locs x3 ls hR hF hFL hP hS hc0 hi0 hl hm; exfalso; omega)
  | succ n ih =>
    exact B_X12_find_w_2 p l e s m args below meth c D cA ad σ0 τ0 a1 a2 n C ha1 ha2 ih
set_option maxHeartbeats 4000000 in
theorem c_X12_find_w (l : Launch) (D : va_G) (cA : Nat → ClassId) (ad : Nat → Nat) (hI : Inj ad) (σ0 : Nat → Nat → Int32) (τ0 : Nat → Nat → Int64) (hR : Rg σ0) (a1 : Int32) (a2 : Int32) (ha1 : 0 ≤ a1.toInt ∧ a1.toInt ≤ 0) (ha2 : 0 ≤ a2.toInt ∧ a2.toInt ≤ 8) : Met l yX12_find wsX12_find ({ frames := 0, cells := 0, slots := 0, locals := 0 } : Room) (WQc D cA ad [.ref (ad 387), .int a1, .int a2] σ0 τ0) (va_Qi (fun (r : Int32) (u : SS) => P_X12_find_w σ0 τ0 a1 a2 r u.1 u.2) (WB D cA ad) (AA ad)) 0 0 (AA ad) := by
  refine Met.ofW (cc := cX12_find) (maxL := 4) (ret := (some .int)) (by decide) rfl ?_
  intro p e s m args below meth c s₁ B hml hv
  obtain ⟨rfl, hP, hK, hN⟩ := hv
  have C : Cy p s m _ meth c cX12_find 4 wsX12_find RX12 D cA ad (some .int) := ⟨B.exec, B.bytes, hml, findClass_of_methodNamed B.named, atoms_spec (ws := wsX12_find) B.pre, hK, B.notSynchronized, B.returns, hI, hN⟩
  have hl := lv_entry ([.ref (ad 387), .int a1, .int a2]) (n := 4) (Nat.le_of_ble_eq_true rfl)
  rw [lg_entry_eq]
  generalize (lg_sl ([.ref (ad 387), .int a1, .int a2]) ++ List.replicate (4 - (lg_sl ([.ref (ad 387), .int a1, .int a2])).length) Slot.unset).toArray = ls at hl ⊢
  have hl : lv_has ls 4 [(0, .ref (ad 387)), (1, .int a1), (2, .int a2)] := hl
  have hS : va_S (AA ad) s.heap s.heap [] := va_S.rf
  have hF : Fr L_X12_find_w σ0 σ0 := Fr.rf
  have hFL : FrL LL_X12_find_w τ0 τ0 := FrL.rf
  have hA := A_X12_find_w p l e s m _ below meth c D cA ad σ0 τ0 a1 a2 C ha1 ha2 42
  have K2 := hA
  clear hA
  obtain ⟨hx, hb, _, hown, hts, _, hk, hr, _, _⟩ := C
  refine r_iconst hx hb dX12_find_0 (by decide) (fun z1 ez1 => ?_)
  refine lv_istore_n (lv' := [(3, .int z1), (0, .ref (ad 387)), (1, .int a1), (2, .int a2)]) hx hb dX12_find_1 rfl hl (by decide) rfl (fun ls hl => ?_)
  exact K2 σ0 τ0 s.heap [] z1 ls hR hF hFL hP hS (by omega) (by first | exact (fun i hi => absurd hi (by omega)) | exact allS hi0 (fun g => absurd (lc.mpr (by rw [show 0 = a1.toInt.toNat + x3.toInt.toNat by omega]; exact g)) (by omega)) (by omega) (by omega)) (lv_sub hl [1, 2, 3, 0] rfl) (by omega)
abbrev L_X12_looksAt_w : List Rc := [(387, 387, 15, 16), (387, 387, 18, 18)]
abbrev LL_X12_looksAt_w : List Rc := []
def P_X12_looksAt_w (σ0 : Nat → Nat → Int32) (τ0 : Nat → Nat → Int64) (a1 : Int32) (a2 : Int32) (b : Nat → Int) (N : Nat) (mo : Nat) (q : Nat) (nm : Nat → Int) (hc : Nat) (r : Int32) (σ : Nat → Nat → Int32) (τ : Nat → Nat → Int64) : Prop := Rg σ ∧ Fr L_X12_looksAt_w σ0 σ ∧ FrL LL_X12_looksAt_w τ0 τ ∧ (0 ≤ r.toInt ∧ r.toInt ≤ 1) ∧ (r.toInt = 0 ∨ (0 ≤ (σ 387 18).toInt ∧ (σ 387 18).toInt ≤ 7)) ∧ (r.toInt = 0 ∨ 1 ≤ a2.toInt) ∧ (MO r σ (lokP b N mo nm hc q) (fun k => (σ 387 18).toInt = k)) ∧ MK σ τ b N mo q ∧ RV τ  ∧ WJ σ τ nm hc
set_option maxHeartbeats 4000000 in
theorem c_X12_looksAt_w (l : Launch) (D : va_G) (cA : Nat → ClassId) (ad : Nat → Nat) (hI : Inj ad) (σ0 : Nat → Nat → Int32) (τ0 : Nat → Nat → Int64) (hR : Rg σ0) (a1 : Int32) (a2 : Int32) (b : Nat → Int) (N : Nat) (mo : Nat) (q : Nat) (nm : Nat → Int) (hc : Nat) (ha1 : 0 ≤ a1.toInt ∧ a1.toInt ≤ 0) (ha2 : 0 ≤ a2.toInt ∧ a2.toInt ≤ 8) (hpre0 : a1.toInt = 0) (hpre1 : a2.toInt = (hc : Int)) (hpre2 : hc ≤ 8) (gMK0 : MK σ0 τ0 b N mo q) (gRV0 : RV τ0 ) (gWJ0 : WJ σ0 τ0 nm hc) : Met l yX12_looksAt wsX12_looksAt ({ frames := 1, cells := 0, slots := 0, locals := 23 } : Room) (WQc D cA ad [.ref (ad 387), .int a1, .int a2] σ0 τ0) (va_Qi (fun (r : Int32) (u : SS) => P_X12_looksAt_w σ0 τ0 a1 a2 b N mo q nm hc r u.1 u.2) (WB D cA ad) (AA ad)) 0 0 (AA ad) := by
  refine Met.ofW (cc := cX12_looksAt) (maxL := 3) (ret := (some .boolean)) (by decide) rfl ?_
  intro p e s m args below meth c s₁ B hml hv
  obtain ⟨rfl, hP, hK, hN⟩ := hv
  have C : Cy p s m _ meth c cX12_looksAt 3 wsX12_looksAt RX12 D cA ad (some .boolean) := ⟨B.exec, B.bytes, hml, findClass_of_methodNamed B.named, atoms_spec (ws := wsX12_looksAt) B.pre, hK, B.notSynchronized, B.returns, hI, hN⟩
  have hl := lv_entry ([.ref (ad 387), .int a1, .int a2]) (n := 3) (Nat.le_of_ble_eq_true rfl)
  rw [lg_entry_eq]
  generalize (lg_sl ([.ref (ad 387), .int a1, .int a2]) ++ List.replicate (3 - (lg_sl ([.ref (ad 387), .int a1, .int a2])).length) Slot.unset).toArray = ls at hl ⊢
  have hl : lv_has ls 3 [(0, .ref (ad 387)), (1, .int a1), (2, .int a2)] := hl
  have hS : va_S (AA ad) s.heap s.heap [] := va_S.rf
  have hF : Fr L_X12_looksAt_w σ0 σ0 := Fr.rf
  have hFL : FrL LL_X12_looksAt_w τ0 τ0 := FrL.rf
  have gMK := gMK0
  have gRV := gRV0
  have gWJ := gWJ0
  obtain ⟨hx, hb, _, hown, hts, _, hk, hr, _, _⟩ := C
  refine lv_aload_n hx hb dX12_looksAt_0 rfl (lv_at hl 0 rfl) ?_
  refine r_cVi (k := 387) (As := []) (rest := []) ⟨hx, hb, hml, hown, hts⟩ hK hP hN hS (c_X12_isName_v l D cA ad hI σ0 τ0 hR _ _ _ _ gMK gRV) (cwV 0 hts gX12_looksAt_X12_isName rfl rfl rfl (by decide +kernel) ⟨by decide, by decide⟩) (rv_M hK hP (by decide) (by decide)) rfl hl.1 rfl (Nat.le_of_ble_eq_true rfl) dX12_looksAt_1 (Nat.zero_le _) (Nat.zero_le _) (fun r1 u1 H1 locs1 hp1 hP hS => ?_)
  obtain ⟨σ1, τ1⟩ := u1
  obtain ⟨hR, f1, fL1, hq1, hp1_0, gnMK, gnRV⟩ : P_X12_isName_v σ0 τ0 _ _ _ _ r1 σ1 τ1 := hp1
  have hP : va_P D vwCl (gw cA ad σ1 τ1) H1 := hP
  obtain rfl := FrL.nil fL1
  obtain rfl := Fr.nil f1
  refine r_if_ne (tgt := 13) hx hb dX12_looksAt_4 (by decide) (fun c2 => ?_) (fun c2 => ?_)
  · refine lv_aload_n hx hb dX12_looksAt_13 rfl (lv_at hl 0 rfl) ?_
    refine lv_aload_n hx hb dX12_looksAt_14 rfl (lv_at hl 0 rfl) ?_
    refine lv_iload_n hx hb dX12_looksAt_15 rfl (lv_at hl 1 rfl) ?_
    refine lv_iload_n hx hb dX12_looksAt_16 rfl (lv_at hl 2 rfl) ?_
    refine r_cVi (k := 387) (As := [.int a1, .int a2]) (rest := [.ref (ad 387)]) ⟨hx, hb, hml, hown, hts⟩ hK hP hN hS (c_X12_find_w l D cA ad hI σ0 τ0 hR a1 a2 (by omega) (by omega)) (cwV 2 hts gX12_looksAt_X12_find rfl rfl rfl (by decide +kernel) ⟨by decide, by decide⟩) (rv_M hK hP (by decide) (by decide)) rfl hl.1 rfl (Nat.le_of_ble_eq_true rfl) dX12_looksAt_17 (Nat.zero_le _) (Nat.zero_le _) (fun r3 u3 H3 locs3 hp3 hP hS => ?_)
    obtain ⟨σ3, τ3⟩ := u3
    obtain ⟨hR, f3, fL3, hq3, hp3_0, hp3_1⟩ : P_X12_find_w σ0 τ0 a1 a2 r3 σ3 τ3 := hp3
    have hP : va_P D vwCl (gw cA ad σ3 τ3) H3 := hP
    obtain rfl := FrL.nil fL3
    obtain rfl := Fr.nil f3
    have hfd := WJ.fa gWJ gMK (by omega) (show a1.toInt.toNat = 0 by omega) (show a2.toInt.toNat = hc by omega) hp3_1
    have hfr := fndq_rg nm (wdq b N q) hc
    refine fp_12_18 (k := 387) hx hb hts in_X12_looksAt_12 hown hK hP (by decide) (by decide) (hts _ lk_X12_looksAt_195) hI hR hS dX12_looksAt_20 (fun σ4 H4 locs4 u4 v4 hR hP hS => ?_)
    have hF := hF.puts u4 1 rfl (by decide) (by decide) (by decide) (by decide)
    have gMK := gMK.ag (Agr.put u4 (by decide))
    have gWJ := gWJ.ag (Agr.put u4 (by decide))
    refine lv_aload_n hx hb dX12_looksAt_23 rfl (lv_at hl 0 rfl) ?_
    refine fg_12_18 (k := 387) hx hb hts in_X12_looksAt_12 hown hK hP (by decide) (by decide) (hts _ lk_X12_looksAt_195) dX12_looksAt_24 ?_
    refine r_if_ge (tgt := 38) hx hb dX12_looksAt_27 (by decide) (fun c5 => ?_) (fun c5 => ?_)
    · refine r_iconst hx hb dX12_looksAt_38 (by decide) (fun z6 ez6 => ?_)
      refine lv_goto (tgt := 43) hx hb dX12_looksAt_39 (by decide) ?_
      exact r_zret hx hb hr hK hP hS hk (by omega) dX12_looksAt_43 (show P_X12_looksAt_w σ0 τ0 a1 a2 b N mo q nm hc z6 σ4 τ0 from ⟨hR, hF, hFL, by omega, by omega, by omega, by first | exact MO.ofk (by unfold lokP; rw [if_pos (by omega)]) (by omega) (by omega) (by omega) | exact MO.ofk (by unfold lokP; rw [if_neg (by omega), if_pos (by omega)]) (by omega) (by omega) (by omega) | exact MO.ofr (by unfold lokP; rw [if_neg (by omega), if_neg (by omega)]) (by omega) (by omega), gMK, gRV, gWJ⟩)
    · refine lv_aload_n hx hb dX12_looksAt_30 rfl (lv_at hl 0 rfl) ?_
      refine r_iconst hx hb dX12_looksAt_31 (by decide) (fun z7 ez7 => ?_)
      refine r_cVi (k := 387) (As := [.int z7]) (rest := []) ⟨hx, hb, hml, hown, hts⟩ hK hP hN hS (c_X12_bad_v l D cA ad hI σ4 τ0 hR z7 _ _ _ _ (by omega) gMK) (cwV 1 hts gX12_looksAt_X12_bad rfl rfl rfl (by decide +kernel) ⟨by decide, by decide⟩) (rv_M hK hP (by decide) (by decide)) rfl hl.1 rfl (Nat.le_of_ble_eq_true rfl) dX12_looksAt_32 (Nat.zero_le _) (Nat.zero_le _) (fun r8 u8 H8 locs8 hp8 hP hS => ?_)
      obtain ⟨σ8, τ8⟩ := u8
      obtain ⟨hR, f8, fL8, hq8, hp8_0, hp8_1, hp8_2, gnMK⟩ : P_X12_bad_v σ4 τ0 z7 _ _ _ _ r8 σ8 τ8 := hp8
      have hP : va_P D vwCl (gw cA ad σ8 τ8) H8 := hP
      obtain rfl := FrL.nil fL8
      have hF := hF.step f8 (by decide)
      have gMK := gMK.ag (Agr.fr f8 (by decide))
      have gWJ := gWJ.ag (Agr.fr f8 (by decide))
      have t9 : (σ8 387 18).toInt = (σ4 387 18).toInt := congrArg Int32.toInt (f8.at 387 18 (by decide))
      refine r_if_eq (tgt := 42) hx hb dX12_looksAt_35 (by decide) (fun c10 => ?_) (fun c10 => ?_)
      · refine r_iconst hx hb dX12_looksAt_42 (by decide) (fun z11 ez11 => ?_)
        exact r_zret hx hb hr hK hP hS hk (by omega) dX12_looksAt_43 (show P_X12_looksAt_w σ0 τ0 a1 a2 b N mo q nm hc z11 σ8 τ0 from ⟨hR, hF, hFL, by omega, by omega, by omega, by first | exact MO.ofk (by unfold lokP; rw [if_pos (by omega)]) (by omega) (by omega) (by omega) | exact MO.ofk (by unfold lokP; rw [if_neg (by omega), if_pos (by omega)]) (by omega) (by omega) (by omega) | exact MO.ofr (by unfold lokP; rw [if_neg (by omega), if_neg (by omega)]) (by omega) (by omega), gMK, gRV, gWJ⟩)
      · exfalso; omega
  · refine lv_aload_n hx hb dX12_looksAt_7 rfl (lv_at hl 0 rfl) ?_
    refine r_iconst hx hb dX12_looksAt_8 (by decide) (fun z12 ez12 => ?_)
    refine r_cVi (k := 387) (As := [.int z12]) (rest := []) ⟨hx, hb, hml, hown, hts⟩ hK hP hN hS (c_X12_bad_v l D cA ad hI σ0 τ0 hR z12 _ _ _ _ (by omega) gMK) (cwV 1 hts gX12_looksAt_X12_bad rfl rfl rfl (by decide +kernel) ⟨by decide, by decide⟩) (rv_M hK hP (by decide) (by decide)) rfl hl.1 rfl (Nat.le_of_ble_eq_true rfl) dX12_looksAt_9 (Nat.zero_le _) (Nat.zero_le _) (fun r13 u13 H13 locs13 hp13 hP hS => ?_)
    obtain ⟨σ13, τ13⟩ := u13
    obtain ⟨hR, f13, fL13, hq13, hp13_0, hp13_1, hp13_2, gnMK⟩ : P_X12_bad_v σ0 τ0 z12 _ _ _ _ r13 σ13 τ13 := hp13
    have hP : va_P D vwCl (gw cA ad σ13 τ13) H13 := hP
    obtain rfl := FrL.nil fL13
    have hF := hF.step f13 (by decide)
    have gMK := gMK.ag (Agr.fr f13 (by decide))
    have gWJ := gWJ.ag (Agr.fr f13 (by decide))
    have t14 : (σ13 387 18).toInt = (σ0 387 18).toInt := congrArg Int32.toInt (f13.at 387 18 (by decide))
    exact r_zret hx hb hr hK hP hS hk (by omega) dX12_looksAt_12 (show P_X12_looksAt_w σ0 τ0 a1 a2 b N mo q nm hc r13 σ13 τ0 from ⟨hR, hF, hFL, by omega, by omega, by omega, by first | exact MO.ofk (by unfold lokP; rw [if_pos (by omega)]) (by omega) (by omega) (by omega) | exact MO.ofk (by unfold lokP; rw [if_neg (by omega), if_pos (by omega)]) (by omega) (by omega) (by omega) | exact MO.ofr (by unfold lokP; rw [if_neg (by omega), if_neg (by omega)]) (by omega) (by omega), gMK, gRV, gWJ⟩)
theorem in_X12_operand_12 : ∀ w ∈ u_ws RX12 TX12 47, w ∈ wsX12_operand := by decide +kernel
theorem lk_X12_operand_131 : Cond.constantLong RX12 131 (7237492) ∈ wsX12_operand := by decide +kernel
theorem lk_X12_operand_159 : Cond.fieldLink RX12 159 "CuckooSharesModel" "token" "I" ∈ wsX12_operand := by decide +kernel
theorem lk_X12_operand_169 : Cond.fieldLink RX12 169 "CuckooSharesModel" "number" "I" ∈ wsX12_operand := by decide +kernel
theorem lk_X12_operand_195 : Cond.fieldLink RX12 195 "CuckooSharesModel" "got" "I" ∈ wsX12_operand := by decide +kernel
theorem lk_X12_operand_33 : Cond.fieldLink RX12 33 "CuckooSharesModel" "s" "[I" ∈ wsX12_operand := by decide +kernel
theorem lk_X12_operand_434 : Cond.fieldLink RX12 434 "CuckooSharesModel" "top" "I" ∈ wsX12_operand := by decide +kernel
theorem lk_X12_operand_440 : Cond.fieldLink RX12 440 "CuckooSharesModel" "deep" "I" ∈ wsX12_operand := by decide +kernel
theorem lk_X12_operand_446 : Cond.fieldLink RX12 446 "CuckooSharesModel" "ones" "I" ∈ wsX12_operand := by decide +kernel
theorem lk_X12_operand_449 : Cond.fieldLink RX12 449 "CuckooSharesModel" "isWhole" "Z" ∈ wsX12_operand := by decide +kernel
theorem lk_X12_operand_71 : Cond.fieldLink RX12 71 "CuckooSharesModel" "stack" "[I" ∈ wsX12_operand := by decide +kernel
abbrev L_X12_operand : List Rc := [(387, 387, 4, 4), (387, 387, 11, 16), (401, 401, 0, 40), (391, 391, 0, 119), (387, 387, 38, 42), (387, 387, 18, 18)]
abbrev LL_X12_operand : List Rc := [(387, 387, 17, 17)]
def P_X12_operand (σ0 : Nat → Nat → Int32) (τ0 : Nat → Nat → Int64) (b : Nat → Int) (N : Nat) (mo : Nat) (q : Nat) (nn : Nat) (K : List Bool) (nm : Nat → Int) (hc : Nat) (r : Int32) (σ : Nat → Nat → Int32) (τ : Nat → Nat → Int64) : Prop := Rg σ ∧ Fr L_X12_operand σ0 σ ∧ FrL LL_X12_operand τ0 τ ∧ (0 ≤ r.toInt ∧ r.toInt ≤ 1) ∧ (r.toInt = 0 ∨ PV σ) ∧ (r.toInt = 0 ∨ (σ 387 38).toInt + (σ 387 40).toInt + (σ 387 42).toInt ≤ 2 * (σ 387 39).toInt) ∧ (r.toInt = 0 ∨ ((σ 387 39).toInt = (σ0 387 39).toInt + 1 ∧ (σ 387 40).toInt ≤ (σ0 387 40).toInt + 1)) ∧ (MO r σ (opeP b N mo nm hc q nn K) (MS σ τ b N mo)) ∧ MT σ b N mo ∧ RV τ  ∧ WJ σ τ nm hc
set_option maxHeartbeats 4000000 in
theorem c_X12_operand (l : Launch) (D : va_G) (cA : Nat → ClassId) (ad : Nat → Nat) (hI : Inj ad) (σ0 : Nat → Nat → Int32) (τ0 : Nat → Nat → Int64) (hR : Rg σ0) (b : Nat → Int) (N : Nat) (mo : Nat) (q : Nat) (nn : Nat) (K : List Bool) (nm : Nat → Int) (hc : Nat) (hpre0 : (σ0 387 42).toInt = 0) (hpre1 : (σ0 387 38).toInt + (σ0 387 40).toInt ≤ 2 * (σ0 387 39).toInt) (hpre2 : (σ0 387 39).toInt = (nn : Int)) (gPV0 : PV σ0) (gMT0 : MT σ0 b N mo) (gMK0 : MK σ0 τ0 b N mo q) (gRV0 : RV τ0 ) (gSN0 : SN σ0 K) (gWJ0 : WJ σ0 τ0 nm hc) : Met l yX12_operand wsX12_operand ({ frames := 2, cells := 0, slots := 0, locals := 45 } : Room) (WQc D cA ad [.ref (ad 387)] σ0 τ0) (va_Qi (fun (r : Int32) (u : SS) => P_X12_operand σ0 τ0 b N mo q nn K nm hc r u.1 u.2) (WB D cA ad) (AA ad)) 0 0 (AA ad) := by
  refine Met.ofW (cc := cX12_operand) (maxL := 5) (ret := (some .boolean)) (by decide) rfl ?_
  intro p e s m args below meth c s₁ B hml hv
  obtain ⟨rfl, hP, hK, hN⟩ := hv
  have C : Cy p s m _ meth c cX12_operand 5 wsX12_operand RX12 D cA ad (some .boolean) := ⟨B.exec, B.bytes, hml, findClass_of_methodNamed B.named, atoms_spec (ws := wsX12_operand) B.pre, hK, B.notSynchronized, B.returns, hI, hN⟩
  have hl := lv_entry ([.ref (ad 387)]) (n := 5) (Nat.le_of_ble_eq_true rfl)
  rw [lg_entry_eq]
  generalize (lg_sl ([.ref (ad 387)]) ++ List.replicate (5 - (lg_sl ([.ref (ad 387)])).length) Slot.unset).toArray = ls at hl ⊢
  have hl : lv_has ls 5 [(0, .ref (ad 387))] := hl
  have hS : va_S (AA ad) s.heap s.heap [] := va_S.rf
  have hF : Fr L_X12_operand σ0 σ0 := Fr.rf
  have hFL : FrL LL_X12_operand τ0 τ0 := FrL.rf
  have gPV := gPV0
  have gMT := gMT0
  have gMK := gMK0
  have gRV := gRV0
  have gSN := gSN0
  have gWJ := gWJ0
  obtain ⟨hx, hb, _, hown, hts, _, hk, hr, _, _⟩ := C
  have hrt38 := rg_12_38 hR (k := 387) (by decide) (by decide)
  have hrt39 := rg_12_39 hR (k := 387) (by decide) (by decide)
  have hrt40 := rg_12_40 hR (k := 387) (by decide) (by decide)
  have hrt42 := rg_12_42 hR (k := 387) (by decide) (by decide)
  have gPW := gPV.toPW (by omega)
  have hdp := gSN.2.2
  have hwb := gWJ.1
  have hwc := gWJ.2.1
  refine lv_aload_n hx hb dX12_operand_0 rfl (lv_at hl 0 rfl) ?_
  refine lv_ldc2 (v := 7237492) hx hb hown (hts _ lk_X12_operand_131) dX12_operand_1 ?_
  refine r_cVi (k := 387) (As := [.long (7237492)]) (rest := []) ⟨hx, hb, hml, hown, hts⟩ hK hP hN hS (c_X12_isWord_v l D cA ad hI σ0 τ0 hR (7237492) _ _ _ _ 22 (by decide) (by decide) gMK) (cwV 1 hts gX12_operand_X12_isWord rfl rfl rfl (by decide +kernel) ⟨by decide, by decide⟩) (rv_M hK hP (by decide) (by decide)) rfl hl.1 rfl (Nat.le_of_ble_eq_true rfl) dX12_operand_4 (Nat.zero_le _) (Nat.zero_le _) (fun r1 u1 H1 locs1 hp1 hP hS => ?_)
  obtain ⟨σ1, τ1⟩ := u1
  obtain ⟨hR, f1, fL1, hq1, hp1_0, hp1_1, gnMK⟩ : P_X12_isWord_v σ0 τ0 (7237492) _ _ _ _ 22 r1 σ1 τ1 := hp1
  have anot := hp1_1
  have hP : va_P D vwCl (gw cA ad σ1 τ1) H1 := hP
  obtain rfl := FrL.nil fL1
  obtain rfl := Fr.nil f1
  replace hp1_1 : True := trivial
  refine lv_istore_n (lv' := [(1, .int r1), (0, .ref (ad 387))]) hx hb dX12_operand_7 rfl hl (by decide) rfl (fun ls hl => ?_)
  refine lv_aload_n hx hb dX12_operand_8 rfl (lv_at hl 1 rfl) ?_
  refine r_bipush hx hb dX12_operand_9 (by decide) (fun z2 ez2 => ?_)
  refine r_cVi (k := 387) (As := [.int z2]) (rest := []) ⟨hx, hb, hml, hown, hts⟩ hK hP hN hS (c_X12_isSign_s l D cA ad hI σ0 τ0 hR z2 b N mo q 44 (by omega) (by omega) gMK) (cwV 1 hts gX12_operand_X12_isSign rfl rfl rfl (by decide +kernel) ⟨by decide, by decide⟩) (rv_M hK hP (by decide) (by decide)) rfl hl.1 rfl (Nat.le_of_ble_eq_true rfl) dX12_operand_11 (Nat.zero_le _) (Nat.zero_le _) (fun r3 u3 H3 locs3 hp3 hP hS => ?_)
  obtain ⟨σ3, τ3⟩ := u3
  obtain ⟨hR, f3, fL3, hq3, hp3_0, hp3_1, gnMK⟩ : P_X12_isSign_s σ0 τ0 z2 b N mo q 44 r3 σ3 τ3 := hp3
  have aopen := hp3_1
  have hP : va_P D vwCl (gw cA ad σ3 τ3) H3 := hP
  obtain rfl := FrL.nil fL3
  obtain rfl := Fr.nil f3
  replace hp3_1 : True := trivial
  refine lv_istore_n (lv' := [(2, .int r3), (1, .int r1), (0, .ref (ad 387))]) hx hb dX12_operand_14 rfl hl (by decide) rfl (fun ls hl => ?_)
  refine lv_aload_n hx hb dX12_operand_15 rfl (lv_at hl 2 rfl) ?_
  refine r_cVi (k := 387) (As := []) (rest := []) ⟨hx, hb, hml, hown, hts⟩ hK hP hN hS (c_X12_leafOf l D cA ad hI σ0 τ0 hR b N mo q gMK) (cwV 0 hts gX12_operand_X12_leafOf rfl rfl rfl (by decide +kernel) ⟨by decide, by decide⟩) (rv_M hK hP (by decide) (by decide)) rfl hl.1 rfl (Nat.le_of_ble_eq_true rfl) dX12_operand_16 (Nat.zero_le _) (Nat.zero_le _) (fun r4 u4 H4 locs4 hp4 hP hS => ?_)
  obtain ⟨σ4, τ4⟩ := u4
  obtain ⟨hR, f4, fL4, hq4, hp4_0, gnMK⟩ : P_X12_leafOf σ0 τ0 b N mo q r4 σ4 τ4 := hp4
  have alf := hp4_0
  have hP : va_P D vwCl (gw cA ad σ4 τ4) H4 := hP
  obtain rfl := FrL.nil fL4
  obtain rfl := Fr.nil f4
  replace hp4_0 : True := trivial
  refine lv_istore_n (lv' := [(3, .int r4), (2, .int r3), (1, .int r1), (0, .ref (ad 387))]) hx hb dX12_operand_19 rfl hl (by decide) rfl (fun ls hl => ?_)
  refine lv_iload_n hx hb dX12_operand_20 rfl (lv_at hl 2 rfl) ?_
  refine r_if_ne (tgt := 38) hx hb dX12_operand_21 (by decide) (fun c5 => ?_) (fun c5 => ?_)
  · replace hp1_0 := hp1_0.resolve_left (by omega)
    first | (have an := (anot.resolve_right (fun c => by omega)).2; clear anot aopen alf) | (have ao := (aopen.resolve_right (fun c => by omega)).2; clear aopen alf) | (have al := alf.resolve_left (fun c => by omega); clear alf)
    refine lv_aload_n hx hb dX12_operand_38 rfl (lv_at hl 3 rfl) ?_
    refine fg_12_39 (k := 387) hx hb hts in_X12_operand_12 hown hK hP (by decide) (by decide) (hts _ lk_X12_operand_446) dX12_operand_39 ?_
    refine r_bipush hx hb dX12_operand_42 (by decide) (fun z6 ez6 => ?_)
    refine r_icmp_eq (tgt := 56) hx hb dX12_operand_44 (by decide) (fun c7 => ?_) (fun c7 => ?_)
    · refine lv_aload_n hx hb dX12_operand_56 rfl (lv_at hl 3 rfl) ?_
      refine r_iconst hx hb dX12_operand_57 (by decide) (fun z8 ez8 => ?_)
      refine r_cVi (k := 387) (As := [.int z8]) (rest := []) ⟨hx, hb, hml, hown, hts⟩ hK hP hN hS (c_X12_bad_v l D cA ad hI σ0 τ0 hR z8 _ _ _ _ (by omega) gMK) (cwV 1 hts gX12_operand_X12_bad rfl rfl rfl (by decide +kernel) ⟨by decide, by decide⟩) (rv_M hK hP (by decide) (by decide)) rfl hl.1 rfl (Nat.le_of_ble_eq_true rfl) dX12_operand_58 (Nat.zero_le _) (Nat.zero_le _) (fun r9 u9 H9 locs9 hp9 hP hS => ?_)
      obtain ⟨σ9, τ9⟩ := u9
      obtain ⟨hR, f9, fL9, hq9, hp9_0, hp9_1, hp9_2, gnMK⟩ : P_X12_bad_v σ0 τ0 z8 _ _ _ _ r9 σ9 τ9 := hp9
      have hP : va_P D vwCl (gw cA ad σ9 τ9) H9 := hP
      obtain rfl := FrL.nil fL9
      have hF := hF.step f9 (by decide)
      have gMK := gMK.ag (Agr.fr f9 (by decide))
      have gMT := gMT.ag (Agr.fr f9 (by decide))
      have gPV := PV.fr gPV hR f9 (by decide)
      have gPW := PW.fr gPW hR f9 (by decide)
      have gSN := gSN.ag (Agr.fr f9 (by decide))
      have gWJ := gWJ.ag (Agr.fr f9 (by decide))
      have t10 : (σ9 387 38).toInt = (σ0 387 38).toInt := congrArg Int32.toInt (f9.at 387 38 (by decide))
      have t11 : (σ9 387 39).toInt = (σ0 387 39).toInt := congrArg Int32.toInt (f9.at 387 39 (by decide))
      have t12 : (σ9 387 40).toInt = (σ0 387 40).toInt := congrArg Int32.toInt (f9.at 387 40 (by decide))
      have t13 : (σ9 387 42).toInt = (σ0 387 42).toInt := congrArg Int32.toInt (f9.at 387 42 (by decide))
      exact r_zret hx hb hr hK hP hS hk (by omega) dX12_operand_61 (show P_X12_operand σ0 τ0 b N mo q nn K nm hc r9 σ9 τ0 from ⟨hR, hF, hFL, by omega, by first | exact Or.inl (by omega) | exact Or.inr gPV, by omega, by omega, by first | (exfalso; omega) | exact MO.ofk (ope_x (by omega)) (by omega) (by omega) (by omega) | exact MO.ofk (ope_4 (by omega) (by omega)) (by omega) (by omega) (by omega) | exact MO.ofr (ope_n (by omega) (by omega) (by omega)) (by omega) ⟨gMK, by show _ = ((nn + 1 : Nat) : Int); omega, SN.deep (x := false) gSN (by omega) (by omega) ua (by show _ = (20 : Int); omega) ub (by omega) ud (by omega), by show _ = (0 : Int); omega⟩ | exact MO.ofr (ope_o (by omega) (by omega) (by omega)) (by omega) ⟨gMK, by show _ = ((nn + 1 : Nat) : Int); omega, SN.deep (x := true) gSN (by omega) (by omega) ua (by show _ = (23 : Int); omega) ub (by omega) ud (by omega), by show _ = (0 : Int); omega⟩ | exact MO.ofr (ope_l (by omega) (by omega) (by omega) (by omega) (by omega) (lea_n (by omega) (by omega))) (by omega) ⟨gMK, by show _ = ((nn + 1 : Nat) : Int); omega, gSN, by show _ = (1 : Int); omega⟩ | (obtain ⟨f, e1, x1, x2⟩ := o1.no (by omega); exact MO.ofl (ope_l (by omega) (by omega) (by omega) (by omega) (by omega) (lea_onl (by omega) e1)) (by omega) x1 x2) | exact MO.ofr (ope_l (by omega) (by omega) (by omega) (by omega) (by omega) (lea_onr (by omega) e1)) (by omega) ⟨gMK, by show _ = ((nn + 1 : Nat) : Int); omega, gSN, by show _ = (1 : Int); omega⟩ | exact MO.ofk (ope_l (by omega) (by omega) (by omega) (by omega) (by omega) (lea_m1 (by omega) (by omega))) (by omega) (by omega) (by omega) | exact MO.ofk (ope_l (by omega) (by omega) (by omega) (by omega) (by omega) (lea_m2 (by omega) (by omega) (by omega))) (by omega) (by omega) (by omega) | exact MO.ofr (ope_l (by omega) (by omega) (by omega) (by omega) (by omega) (lea_m3 (by omega) (by omega) (by omega))) (by omega) ⟨gMK, by show _ = ((nn + 1 : Nat) : Int); omega, gSN, by show _ = (1 : Int); omega⟩, gMT, gRV, gWJ⟩)
    · refine lv_aload_n hx hb dX12_operand_47 rfl (lv_at hl 3 rfl) ?_
      refine fg_12_41 (k := 387) hx hb hts in_X12_operand_12 hown hK hP (by decide) (by decide) (hts _ lk_X12_operand_440) dX12_operand_48 ?_
      refine r_bipush hx hb dX12_operand_51 (by decide) (fun z14 ez14 => ?_)
      refine r_icmp_le (tgt := 62) hx hb dX12_operand_53 (by decide) (fun c15 => ?_) (fun c15 => ?_)
      · refine lv_aload_n hx hb dX12_operand_62 rfl (lv_at hl 3 rfl) ?_
        refine lv_dup hx hb dX12_operand_63 rfl ?_
        refine fg_12_39 (k := 387) hx hb hts in_X12_operand_12 hown hK hP (by decide) (by decide) (hts _ lk_X12_operand_446) dX12_operand_64 ?_
        refine r_iconst hx hb dX12_operand_67 (by decide) (fun z16 ez16 => ?_)
        refine r_iadd hx hb dX12_operand_68 (by omega) (fun z17 ez17 => ?_)
        refine fp_12_39 (k := 387) hx hb hts in_X12_operand_12 hown hK hP (by decide) (by decide) (hts _ lk_X12_operand_446) hI hR hS (by omega) dX12_operand_69 (fun σ18 H18 locs18 u18 v18 hR hP hS => ?_)
        have hF := hF.puts u18 4 rfl (by decide) (by decide) (by decide) (by decide)
        have gMK := gMK.ag (Agr.put u18 (by decide))
        have gMT := gMT.ag (Agr.put u18 (by decide))
        have gPV := PV.put gPV hR u18 (by decide)
        have gPW := PW.put gPW hR u18 (by decide)
        have gSN := gSN.ag (Agr.put u18 (by decide))
        have gWJ := gWJ.ag (Agr.put u18 (by decide))
        have t19 : (σ18 387 38).toInt = (σ0 387 38).toInt := congrArg Int32.toInt (u18 387 38 (by omega))
        have t20 : (σ18 387 40).toInt = (σ0 387 40).toInt := congrArg Int32.toInt (u18 387 40 (by omega))
        have t21 : (σ18 387 42).toInt = (σ0 387 42).toInt := congrArg Int32.toInt (u18 387 42 (by omega))
        have t22 : (σ18 387 41).toInt = (σ0 387 41).toInt := congrArg Int32.toInt (u18 387 41 (by omega))
        refine lv_aload_n hx hb dX12_operand_72 rfl (lv_at hl 3 rfl) ?_
        refine r_cVv (k := 387) (As := []) (rest := []) ⟨hx, hb, hml, hown, hts⟩ hK hP hN hS (c_X12_next_v l D cA ad hI σ18 τ0 hR _ _ _ _ gMK.mp gMT) (cwV 0 hts gX12_operand_X12_next rfl rfl rfl (by decide +kernel) ⟨by decide, by decide⟩) (rv_M hK hP (by decide) (by decide)) rfl hl.1 rfl (Nat.le_of_ble_eq_true rfl) dX12_operand_73 (Nat.zero_le _) (Nat.zero_le _) (fun u23 H23 locs23 hp23 hP hS => ?_)
        obtain ⟨σ23, τ23⟩ := u23
        obtain ⟨hR, f23, fL23, hp23_0, hp23_1, hp23_2, hp23_3, gnMT⟩ : P_X12_next_v σ18 τ0 _ _ _ _ σ23 τ23 := hp23
        have hP : va_P D vwCl (gw cA ad σ23 τ23) H23 := hP
        have hFL := hFL.step fL23 (by decide)
        have gRV := gRV.agL (AgrL.fr fL23 (by decide))
        have gWJ := gWJ.agL (AgrL.fr fL23 (by decide))
        have hF := hF.step f23 (by decide)
        have gMT := gMT.ag (Agr.fr f23 (by decide))
        have gPV := PV.fr gPV hR f23 (by decide)
        have gPW := PW.fr gPW hR f23 (by decide)
        have gSN := gSN.ag (Agr.fr f23 (by decide))
        have gWJ := gWJ.ag (Agr.fr f23 (by decide))
        have t24 : (σ23 387 38).toInt = (σ18 387 38).toInt := congrArg Int32.toInt (f23.at 387 38 (by decide))
        have t25 : (σ23 387 40).toInt = (σ18 387 40).toInt := congrArg Int32.toInt (f23.at 387 40 (by decide))
        have t26 : (σ23 387 42).toInt = (σ18 387 42).toInt := congrArg Int32.toInt (f23.at 387 42 (by decide))
        have t27 : (σ23 387 41).toInt = (σ18 387 41).toInt := congrArg Int32.toInt (f23.at 387 41 (by decide))
        have t28 : (σ23 387 39).toInt = (σ18 387 39).toInt := congrArg Int32.toInt (f23.at 387 39 (by decide))
        have gMK := hp23_3
        replace hp23_1 : True := trivial
        refine lv_iload_n hx hb dX12_operand_76 rfl (lv_at hl 2 rfl) ?_
        refine r_if_ne (tgt := 84) hx hb dX12_operand_77 (by decide) (fun c29 => ?_) (fun c29 => ?_)
        · refine lv_aload_n hx hb dX12_operand_84 rfl (lv_at hl 3 rfl) ?_
          refine fg_12_37 (k := 387) hx hb hts in_X12_operand_12 hown hK hP (by decide) (by decide) (hts _ lk_X12_operand_71) dX12_operand_85 ?_
          refine lv_aload_n hx hb dX12_operand_88 rfl (lv_at hl 3 rfl) ?_
          refine fg_12_40 (k := 387) hx hb hts in_X12_operand_12 hown hK hP (by decide) (by decide) (hts _ lk_X12_operand_434) dX12_operand_89 ?_
          refine lv_iload_n hx hb dX12_operand_92 rfl (lv_at hl 2 rfl) ?_
          refine r_if_eq (tgt := 101) hx hb dX12_operand_93 (by decide) (fun c30 => ?_) (fun c30 => ?_)
          · exfalso; omega
          · refine r_bipush hx hb dX12_operand_96 (by decide) (fun z31 ez31 => ?_)
            refine lv_goto (tgt := 103) hx hb dX12_operand_98 (by decide) ?_
            obtain ⟨j32, ej32⟩ : ∃ j : Nat, (σ23 387 40).toInt = (j : Int) := ⟨_, ti_nat (by omega)⟩
            refine as_mstack (k := 401) (j := j32) hx hb hK hP hI hR hS (by decide) (by decide) ej32 (by omega) dX12_operand_103 (fun σ33 H33 locs33 u33 v33 hR hP hS => ?_)
            have ua := u33
            have va := v33
            have hF := hF.puts u33 2 rfl (by decide) (by decide) (by omega) (by omega)
            have gMK := gMK.ag (Agr.putV u33 (by intro q hq; simp only [Gd_MK, List.mem_cons, List.not_mem_nil, or_false] at hq; rcases hq with rfl | rfl | rfl <;> dsimp only [inRc] <;> omega))
            have gMT := gMT.ag (Agr.putV u33 (by intro q hq; simp only [Gd_MT, List.mem_cons, List.not_mem_nil, or_false] at hq; rcases hq with rfl | rfl | rfl <;> dsimp only [inRc] <;> omega))
            have gWJ := gWJ.ag (Agr.putV u33 (by intro q hq; simp only [Gd_WJ, List.mem_cons, List.not_mem_nil, or_false] at hq; rcases hq with rfl <;> dsimp only [inRc] <;> omega))
            have t34 : (σ33 387 38).toInt = (σ23 387 38).toInt := congrArg Int32.toInt (u33 387 38 (by omega))
            have t35 : (σ33 387 40).toInt = (σ23 387 40).toInt := congrArg Int32.toInt (u33 387 40 (by omega))
            have t36 : (σ33 387 42).toInt = (σ23 387 42).toInt := congrArg Int32.toInt (u33 387 42 (by omega))
            have t37 : (σ33 387 41).toInt = (σ23 387 41).toInt := congrArg Int32.toInt (u33 387 41 (by omega))
            have t38 : (σ33 387 39).toInt = (σ23 387 39).toInt := congrArg Int32.toInt (u33 387 39 (by omega))
            refine lv_aload_n hx hb dX12_operand_104 rfl (lv_at hl 3 rfl) ?_
            refine lv_dup hx hb dX12_operand_105 rfl ?_
            refine fg_12_40 (k := 387) hx hb hts in_X12_operand_12 hown hK hP (by decide) (by decide) (hts _ lk_X12_operand_434) dX12_operand_106 ?_
            refine r_iconst hx hb dX12_operand_109 (by decide) (fun z39 ez39 => ?_)
            refine r_iadd hx hb dX12_operand_110 (by omega) (fun z40 ez40 => ?_)
            refine fp_12_40 (k := 387) hx hb hts in_X12_operand_12 hown hK hP (by decide) (by decide) (hts _ lk_X12_operand_434) hI hR hS (by omega) dX12_operand_111 (fun σ41 H41 locs41 u41 v41 hR hP hS => ?_)
            have ub := u41
            have vb := v41
            have hF := hF.puts u41 4 rfl (by decide) (by decide) (by decide) (by decide)
            have gMK := gMK.ag (Agr.put u41 (by decide))
            have gMT := gMT.ag (Agr.put u41 (by decide))
            have gWJ := gWJ.ag (Agr.put u41 (by decide))
            have t42 : (σ41 387 38).toInt = (σ33 387 38).toInt := congrArg Int32.toInt (u41 387 38 (by omega))
            have t43 : (σ41 387 42).toInt = (σ33 387 42).toInt := congrArg Int32.toInt (u41 387 42 (by omega))
            have t44 : (σ41 387 41).toInt = (σ33 387 41).toInt := congrArg Int32.toInt (u41 387 41 (by omega))
            have t45 : (σ41 387 39).toInt = (σ33 387 39).toInt := congrArg Int32.toInt (u41 387 39 (by omega))
            have gPV := PV.push gPV ua va (by omega) (by omega) ub (by omega)
            refine lv_aload_n hx hb dX12_operand_114 rfl (lv_at hl 3 rfl) ?_
            refine lv_dup hx hb dX12_operand_115 rfl ?_
            refine fg_12_41 (k := 387) hx hb hts in_X12_operand_12 hown hK hP (by decide) (by decide) (hts _ lk_X12_operand_440) dX12_operand_116 ?_
            have hdl := SN.dl gSN
            have hd9 := congrArg Int32.toInt ((ub 387 41 (by omega)).trans (ua 387 41 (by omega)))
            refine r_iconst hx hb dX12_operand_119 (by decide) (fun z46 ez46 => ?_)
            refine r_iadd hx hb dX12_operand_120 (by omega) (fun z47 ez47 => ?_)
            refine fp_12_41 (k := 387) hx hb hts in_X12_operand_12 hown hK hP (by decide) (by decide) (hts _ lk_X12_operand_440) hI hR hS dX12_operand_121 (fun σ48 H48 locs48 u48 v48 hR hP hS => ?_)
            have ud := u48
            have vd := v48
            have hF := hF.puts u48 4 rfl (by decide) (by decide) (by decide) (by decide)
            have gMK := gMK.ag (Agr.put u48 (by decide))
            have gMT := gMT.ag (Agr.put u48 (by decide))
            have gPV := PV.put gPV hR u48 (by decide)
            have gWJ := gWJ.ag (Agr.put u48 (by decide))
            have t49 : (σ48 387 38).toInt = (σ41 387 38).toInt := congrArg Int32.toInt (u48 387 38 (by omega))
            have t50 : (σ48 387 42).toInt = (σ41 387 42).toInt := congrArg Int32.toInt (u48 387 42 (by omega))
            have t51 : (σ48 387 39).toInt = (σ41 387 39).toInt := congrArg Int32.toInt (u48 387 39 (by omega))
            have t52 : (σ48 387 40).toInt = (σ41 387 40).toInt := congrArg Int32.toInt (u48 387 40 (by omega))
            refine r_iconst hx hb dX12_operand_124 (by decide) (fun z53 ez53 => ?_)
            exact r_zret hx hb hr hK hP hS hk (by omega) dX12_operand_125 (show P_X12_operand σ0 τ0 b N mo q nn K nm hc z53 σ48 τ23 from ⟨hR, hF, hFL, by omega, by first | exact Or.inl (by omega) | exact Or.inr gPV, by omega, by omega, by first | (exfalso; omega) | exact MO.ofk (ope_x (by omega)) (by omega) (by omega) (by omega) | exact MO.ofk (ope_4 (by omega) (by omega)) (by omega) (by omega) (by omega) | exact MO.ofr (ope_n (by omega) (by omega) (by omega)) (by omega) ⟨gMK, by show _ = ((nn + 1 : Nat) : Int); omega, SN.deep (x := false) gSN (by omega) (by omega) ua (by show _ = (20 : Int); omega) ub (by omega) ud (by omega), by show _ = (0 : Int); omega⟩ | exact MO.ofr (ope_o (by omega) (by omega) (by omega)) (by omega) ⟨gMK, by show _ = ((nn + 1 : Nat) : Int); omega, SN.deep (x := true) gSN (by omega) (by omega) ua (by show _ = (23 : Int); omega) ub (by omega) ud (by omega), by show _ = (0 : Int); omega⟩ | exact MO.ofr (ope_l (by omega) (by omega) (by omega) (by omega) (by omega) (lea_n (by omega) (by omega))) (by omega) ⟨gMK, by show _ = ((nn + 1 : Nat) : Int); omega, gSN, by show _ = (1 : Int); omega⟩ | (obtain ⟨f, e1, x1, x2⟩ := o1.no (by omega); exact MO.ofl (ope_l (by omega) (by omega) (by omega) (by omega) (by omega) (lea_onl (by omega) e1)) (by omega) x1 x2) | exact MO.ofr (ope_l (by omega) (by omega) (by omega) (by omega) (by omega) (lea_onr (by omega) e1)) (by omega) ⟨gMK, by show _ = ((nn + 1 : Nat) : Int); omega, gSN, by show _ = (1 : Int); omega⟩ | exact MO.ofk (ope_l (by omega) (by omega) (by omega) (by omega) (by omega) (lea_m1 (by omega) (by omega))) (by omega) (by omega) (by omega) | exact MO.ofk (ope_l (by omega) (by omega) (by omega) (by omega) (by omega) (lea_m2 (by omega) (by omega) (by omega))) (by omega) (by omega) (by omega) | exact MO.ofr (ope_l (by omega) (by omega) (by omega) (by omega) (by omega) (lea_m3 (by omega) (by omega) (by omega))) (by omega) ⟨gMK, by show _ = ((nn + 1 : Nat) : Int); omega, gSN, by show _ = (1 : Int); omega⟩, gMT, gRV, gWJ⟩)
        · exfalso; omega
      · refine lv_aload_n hx hb dX12_operand_56 rfl (lv_at hl 3 rfl) ?_
        refine r_iconst hx hb dX12_operand_57 (by decide) (fun z54 ez54 => ?_)
        refine r_cVi (k := 387) (As := [.int z54]) (rest := []) ⟨hx, hb, hml, hown, hts⟩ hK hP hN hS (c_X12_bad_v l D cA ad hI σ0 τ0 hR z54 _ _ _ _ (by omega) gMK) (cwV 1 hts gX12_operand_X12_bad rfl rfl rfl (by decide +kernel) ⟨by decide, by decide⟩) (rv_M hK hP (by decide) (by decide)) rfl hl.1 rfl (Nat.le_of_ble_eq_true rfl) dX12_operand_58 (Nat.zero_le _) (Nat.zero_le _) (fun r55 u55 H55 locs55 hp55 hP hS => ?_)
        obtain ⟨σ55, τ55⟩ := u55
        obtain ⟨hR, f55, fL55, hq55, hp55_0, hp55_1, hp55_2, gnMK⟩ : P_X12_bad_v σ0 τ0 z54 _ _ _ _ r55 σ55 τ55 := hp55
        have hP : va_P D vwCl (gw cA ad σ55 τ55) H55 := hP
        obtain rfl := FrL.nil fL55
        have hF := hF.step f55 (by decide)
        have gMK := gMK.ag (Agr.fr f55 (by decide))
        have gMT := gMT.ag (Agr.fr f55 (by decide))
        have gPV := PV.fr gPV hR f55 (by decide)
        have gPW := PW.fr gPW hR f55 (by decide)
        have gSN := gSN.ag (Agr.fr f55 (by decide))
        have gWJ := gWJ.ag (Agr.fr f55 (by decide))
        have t56 : (σ55 387 38).toInt = (σ0 387 38).toInt := congrArg Int32.toInt (f55.at 387 38 (by decide))
        have t57 : (σ55 387 39).toInt = (σ0 387 39).toInt := congrArg Int32.toInt (f55.at 387 39 (by decide))
        have t58 : (σ55 387 40).toInt = (σ0 387 40).toInt := congrArg Int32.toInt (f55.at 387 40 (by decide))
        have t59 : (σ55 387 42).toInt = (σ0 387 42).toInt := congrArg Int32.toInt (f55.at 387 42 (by decide))
        have t60 : (σ55 387 41).toInt = (σ0 387 41).toInt := congrArg Int32.toInt (f55.at 387 41 (by decide))
        exact r_zret hx hb hr hK hP hS hk (by omega) dX12_operand_61 (show P_X12_operand σ0 τ0 b N mo q nn K nm hc r55 σ55 τ0 from ⟨hR, hF, hFL, by omega, by first | exact Or.inl (by omega) | exact Or.inr gPV, by omega, by omega, by first | (exfalso; omega) | exact MO.ofk (ope_x (by omega)) (by omega) (by omega) (by omega) | exact MO.ofk (ope_4 (by omega) (by omega)) (by omega) (by omega) (by omega) | exact MO.ofr (ope_n (by omega) (by omega) (by omega)) (by omega) ⟨gMK, by show _ = ((nn + 1 : Nat) : Int); omega, SN.deep (x := false) gSN (by omega) (by omega) ua (by show _ = (20 : Int); omega) ub (by omega) ud (by omega), by show _ = (0 : Int); omega⟩ | exact MO.ofr (ope_o (by omega) (by omega) (by omega)) (by omega) ⟨gMK, by show _ = ((nn + 1 : Nat) : Int); omega, SN.deep (x := true) gSN (by omega) (by omega) ua (by show _ = (23 : Int); omega) ub (by omega) ud (by omega), by show _ = (0 : Int); omega⟩ | exact MO.ofr (ope_l (by omega) (by omega) (by omega) (by omega) (by omega) (lea_n (by omega) (by omega))) (by omega) ⟨gMK, by show _ = ((nn + 1 : Nat) : Int); omega, gSN, by show _ = (1 : Int); omega⟩ | (obtain ⟨f, e1, x1, x2⟩ := o1.no (by omega); exact MO.ofl (ope_l (by omega) (by omega) (by omega) (by omega) (by omega) (lea_onl (by omega) e1)) (by omega) x1 x2) | exact MO.ofr (ope_l (by omega) (by omega) (by omega) (by omega) (by omega) (lea_onr (by omega) e1)) (by omega) ⟨gMK, by show _ = ((nn + 1 : Nat) : Int); omega, gSN, by show _ = (1 : Int); omega⟩ | exact MO.ofk (ope_l (by omega) (by omega) (by omega) (by omega) (by omega) (lea_m1 (by omega) (by omega))) (by omega) (by omega) (by omega) | exact MO.ofk (ope_l (by omega) (by omega) (by omega) (by omega) (by omega) (lea_m2 (by omega) (by omega) (by omega))) (by omega) (by omega) (by omega) | exact MO.ofr (ope_l (by omega) (by omega) (by omega) (by omega) (by omega) (lea_m3 (by omega) (by omega) (by omega))) (by omega) ⟨gMK, by show _ = ((nn + 1 : Nat) : Int); omega, gSN, by show _ = (1 : Int); omega⟩, gMT, gRV, gWJ⟩)
  · clear hp1_0
    have an := (anot.resolve_left (fun c => by omega)).2
    clear anot
    refine lv_iload_n hx hb dX12_operand_24 rfl (lv_at hl 1 rfl) ?_
    refine r_if_ne (tgt := 38) hx hb dX12_operand_25 (by decide) (fun c61 => ?_) (fun c61 => ?_)
    · replace hp3_0 := hp3_0.resolve_left (by omega)
      first | (have an := (anot.resolve_right (fun c => by omega)).2; clear anot aopen alf) | (have ao := (aopen.resolve_right (fun c => by omega)).2; clear aopen alf) | (have al := alf.resolve_left (fun c => by omega); clear alf)
      refine lv_aload_n hx hb dX12_operand_38 rfl (lv_at hl 3 rfl) ?_
      refine fg_12_39 (k := 387) hx hb hts in_X12_operand_12 hown hK hP (by decide) (by decide) (hts _ lk_X12_operand_446) dX12_operand_39 ?_
      refine r_bipush hx hb dX12_operand_42 (by decide) (fun z62 ez62 => ?_)
      refine r_icmp_eq (tgt := 56) hx hb dX12_operand_44 (by decide) (fun c63 => ?_) (fun c63 => ?_)
      · refine lv_aload_n hx hb dX12_operand_56 rfl (lv_at hl 3 rfl) ?_
        refine r_iconst hx hb dX12_operand_57 (by decide) (fun z64 ez64 => ?_)
        refine r_cVi (k := 387) (As := [.int z64]) (rest := []) ⟨hx, hb, hml, hown, hts⟩ hK hP hN hS (c_X12_bad_v l D cA ad hI σ0 τ0 hR z64 _ _ _ _ (by omega) gMK) (cwV 1 hts gX12_operand_X12_bad rfl rfl rfl (by decide +kernel) ⟨by decide, by decide⟩) (rv_M hK hP (by decide) (by decide)) rfl hl.1 rfl (Nat.le_of_ble_eq_true rfl) dX12_operand_58 (Nat.zero_le _) (Nat.zero_le _) (fun r65 u65 H65 locs65 hp65 hP hS => ?_)
        obtain ⟨σ65, τ65⟩ := u65
        obtain ⟨hR, f65, fL65, hq65, hp65_0, hp65_1, hp65_2, gnMK⟩ : P_X12_bad_v σ0 τ0 z64 _ _ _ _ r65 σ65 τ65 := hp65
        have hP : va_P D vwCl (gw cA ad σ65 τ65) H65 := hP
        obtain rfl := FrL.nil fL65
        have hF := hF.step f65 (by decide)
        have gMK := gMK.ag (Agr.fr f65 (by decide))
        have gMT := gMT.ag (Agr.fr f65 (by decide))
        have gPV := PV.fr gPV hR f65 (by decide)
        have gPW := PW.fr gPW hR f65 (by decide)
        have gSN := gSN.ag (Agr.fr f65 (by decide))
        have gWJ := gWJ.ag (Agr.fr f65 (by decide))
        have t66 : (σ65 387 38).toInt = (σ0 387 38).toInt := congrArg Int32.toInt (f65.at 387 38 (by decide))
        have t67 : (σ65 387 39).toInt = (σ0 387 39).toInt := congrArg Int32.toInt (f65.at 387 39 (by decide))
        have t68 : (σ65 387 40).toInt = (σ0 387 40).toInt := congrArg Int32.toInt (f65.at 387 40 (by decide))
        have t69 : (σ65 387 42).toInt = (σ0 387 42).toInt := congrArg Int32.toInt (f65.at 387 42 (by decide))
        exact r_zret hx hb hr hK hP hS hk (by omega) dX12_operand_61 (show P_X12_operand σ0 τ0 b N mo q nn K nm hc r65 σ65 τ0 from ⟨hR, hF, hFL, by omega, by first | exact Or.inl (by omega) | exact Or.inr gPV, by omega, by omega, by first | (exfalso; omega) | exact MO.ofk (ope_x (by omega)) (by omega) (by omega) (by omega) | exact MO.ofk (ope_4 (by omega) (by omega)) (by omega) (by omega) (by omega) | exact MO.ofr (ope_n (by omega) (by omega) (by omega)) (by omega) ⟨gMK, by show _ = ((nn + 1 : Nat) : Int); omega, SN.deep (x := false) gSN (by omega) (by omega) ua (by show _ = (20 : Int); omega) ub (by omega) ud (by omega), by show _ = (0 : Int); omega⟩ | exact MO.ofr (ope_o (by omega) (by omega) (by omega)) (by omega) ⟨gMK, by show _ = ((nn + 1 : Nat) : Int); omega, SN.deep (x := true) gSN (by omega) (by omega) ua (by show _ = (23 : Int); omega) ub (by omega) ud (by omega), by show _ = (0 : Int); omega⟩ | exact MO.ofr (ope_l (by omega) (by omega) (by omega) (by omega) (by omega) (lea_n (by omega) (by omega))) (by omega) ⟨gMK, by show _ = ((nn + 1 : Nat) : Int); omega, gSN, by show _ = (1 : Int); omega⟩ | (obtain ⟨f, e1, x1, x2⟩ := o1.no (by omega); exact MO.ofl (ope_l (by omega) (by omega) (by omega) (by omega) (by omega) (lea_onl (by omega) e1)) (by omega) x1 x2) | exact MO.ofr (ope_l (by omega) (by omega) (by omega) (by omega) (by omega) (lea_onr (by omega) e1)) (by omega) ⟨gMK, by show _ = ((nn + 1 : Nat) : Int); omega, gSN, by show _ = (1 : Int); omega⟩ | exact MO.ofk (ope_l (by omega) (by omega) (by omega) (by omega) (by omega) (lea_m1 (by omega) (by omega))) (by omega) (by omega) (by omega) | exact MO.ofk (ope_l (by omega) (by omega) (by omega) (by omega) (by omega) (lea_m2 (by omega) (by omega) (by omega))) (by omega) (by omega) (by omega) | exact MO.ofr (ope_l (by omega) (by omega) (by omega) (by omega) (by omega) (lea_m3 (by omega) (by omega) (by omega))) (by omega) ⟨gMK, by show _ = ((nn + 1 : Nat) : Int); omega, gSN, by show _ = (1 : Int); omega⟩, gMT, gRV, gWJ⟩)
      · refine lv_aload_n hx hb dX12_operand_47 rfl (lv_at hl 3 rfl) ?_
        refine fg_12_41 (k := 387) hx hb hts in_X12_operand_12 hown hK hP (by decide) (by decide) (hts _ lk_X12_operand_440) dX12_operand_48 ?_
        refine r_bipush hx hb dX12_operand_51 (by decide) (fun z70 ez70 => ?_)
        refine r_icmp_le (tgt := 62) hx hb dX12_operand_53 (by decide) (fun c71 => ?_) (fun c71 => ?_)
        · refine lv_aload_n hx hb dX12_operand_62 rfl (lv_at hl 3 rfl) ?_
          refine lv_dup hx hb dX12_operand_63 rfl ?_
          refine fg_12_39 (k := 387) hx hb hts in_X12_operand_12 hown hK hP (by decide) (by decide) (hts _ lk_X12_operand_446) dX12_operand_64 ?_
          refine r_iconst hx hb dX12_operand_67 (by decide) (fun z72 ez72 => ?_)
          refine r_iadd hx hb dX12_operand_68 (by omega) (fun z73 ez73 => ?_)
          refine fp_12_39 (k := 387) hx hb hts in_X12_operand_12 hown hK hP (by decide) (by decide) (hts _ lk_X12_operand_446) hI hR hS (by omega) dX12_operand_69 (fun σ74 H74 locs74 u74 v74 hR hP hS => ?_)
          have hF := hF.puts u74 4 rfl (by decide) (by decide) (by decide) (by decide)
          have gMK := gMK.ag (Agr.put u74 (by decide))
          have gMT := gMT.ag (Agr.put u74 (by decide))
          have gPV := PV.put gPV hR u74 (by decide)
          have gPW := PW.put gPW hR u74 (by decide)
          have gSN := gSN.ag (Agr.put u74 (by decide))
          have gWJ := gWJ.ag (Agr.put u74 (by decide))
          have t75 : (σ74 387 38).toInt = (σ0 387 38).toInt := congrArg Int32.toInt (u74 387 38 (by omega))
          have t76 : (σ74 387 40).toInt = (σ0 387 40).toInt := congrArg Int32.toInt (u74 387 40 (by omega))
          have t77 : (σ74 387 42).toInt = (σ0 387 42).toInt := congrArg Int32.toInt (u74 387 42 (by omega))
          have t78 : (σ74 387 41).toInt = (σ0 387 41).toInt := congrArg Int32.toInt (u74 387 41 (by omega))
          refine lv_aload_n hx hb dX12_operand_72 rfl (lv_at hl 3 rfl) ?_
          refine r_cVv (k := 387) (As := []) (rest := []) ⟨hx, hb, hml, hown, hts⟩ hK hP hN hS (c_X12_next_v l D cA ad hI σ74 τ0 hR _ _ _ _ gMK.mp gMT) (cwV 0 hts gX12_operand_X12_next rfl rfl rfl (by decide +kernel) ⟨by decide, by decide⟩) (rv_M hK hP (by decide) (by decide)) rfl hl.1 rfl (Nat.le_of_ble_eq_true rfl) dX12_operand_73 (Nat.zero_le _) (Nat.zero_le _) (fun u79 H79 locs79 hp79 hP hS => ?_)
          obtain ⟨σ79, τ79⟩ := u79
          obtain ⟨hR, f79, fL79, hp79_0, hp79_1, hp79_2, hp79_3, gnMT⟩ : P_X12_next_v σ74 τ0 _ _ _ _ σ79 τ79 := hp79
          have hP : va_P D vwCl (gw cA ad σ79 τ79) H79 := hP
          have hFL := hFL.step fL79 (by decide)
          have gRV := gRV.agL (AgrL.fr fL79 (by decide))
          have gWJ := gWJ.agL (AgrL.fr fL79 (by decide))
          have hF := hF.step f79 (by decide)
          have gMT := gMT.ag (Agr.fr f79 (by decide))
          have gPV := PV.fr gPV hR f79 (by decide)
          have gPW := PW.fr gPW hR f79 (by decide)
          have gSN := gSN.ag (Agr.fr f79 (by decide))
          have gWJ := gWJ.ag (Agr.fr f79 (by decide))
          have t80 : (σ79 387 38).toInt = (σ74 387 38).toInt := congrArg Int32.toInt (f79.at 387 38 (by decide))
          have t81 : (σ79 387 40).toInt = (σ74 387 40).toInt := congrArg Int32.toInt (f79.at 387 40 (by decide))
          have t82 : (σ79 387 42).toInt = (σ74 387 42).toInt := congrArg Int32.toInt (f79.at 387 42 (by decide))
          have t83 : (σ79 387 41).toInt = (σ74 387 41).toInt := congrArg Int32.toInt (f79.at 387 41 (by decide))
          have t84 : (σ79 387 39).toInt = (σ74 387 39).toInt := congrArg Int32.toInt (f79.at 387 39 (by decide))
          have gMK := hp79_3
          replace hp79_1 : True := trivial
          refine lv_iload_n hx hb dX12_operand_76 rfl (lv_at hl 2 rfl) ?_
          refine r_if_ne (tgt := 84) hx hb dX12_operand_77 (by decide) (fun c85 => ?_) (fun c85 => ?_)
          · exfalso; omega
          · refine lv_iload_n hx hb dX12_operand_80 rfl (lv_at hl 1 rfl) ?_
            refine r_if_eq (tgt := 126) hx hb dX12_operand_81 (by decide) (fun c86 => ?_) (fun c86 => ?_)
            · exfalso; omega
            · refine lv_aload_n hx hb dX12_operand_84 rfl (lv_at hl 3 rfl) ?_
              refine fg_12_37 (k := 387) hx hb hts in_X12_operand_12 hown hK hP (by decide) (by decide) (hts _ lk_X12_operand_71) dX12_operand_85 ?_
              refine lv_aload_n hx hb dX12_operand_88 rfl (lv_at hl 3 rfl) ?_
              refine fg_12_40 (k := 387) hx hb hts in_X12_operand_12 hown hK hP (by decide) (by decide) (hts _ lk_X12_operand_434) dX12_operand_89 ?_
              refine lv_iload_n hx hb dX12_operand_92 rfl (lv_at hl 2 rfl) ?_
              refine r_if_eq (tgt := 101) hx hb dX12_operand_93 (by decide) (fun c87 => ?_) (fun c87 => ?_)
              · refine r_bipush hx hb dX12_operand_101 (by decide) (fun z88 ez88 => ?_)
                obtain ⟨j89, ej89⟩ : ∃ j : Nat, (σ79 387 40).toInt = (j : Int) := ⟨_, ti_nat (by omega)⟩
                refine as_mstack (k := 401) (j := j89) hx hb hK hP hI hR hS (by decide) (by decide) ej89 (by omega) dX12_operand_103 (fun σ90 H90 locs90 u90 v90 hR hP hS => ?_)
                have ua := u90
                have va := v90
                have hF := hF.puts u90 2 rfl (by decide) (by decide) (by omega) (by omega)
                have gMK := gMK.ag (Agr.putV u90 (by intro q hq; simp only [Gd_MK, List.mem_cons, List.not_mem_nil, or_false] at hq; rcases hq with rfl | rfl | rfl <;> dsimp only [inRc] <;> omega))
                have gMT := gMT.ag (Agr.putV u90 (by intro q hq; simp only [Gd_MT, List.mem_cons, List.not_mem_nil, or_false] at hq; rcases hq with rfl | rfl | rfl <;> dsimp only [inRc] <;> omega))
                have gWJ := gWJ.ag (Agr.putV u90 (by intro q hq; simp only [Gd_WJ, List.mem_cons, List.not_mem_nil, or_false] at hq; rcases hq with rfl <;> dsimp only [inRc] <;> omega))
                have t91 : (σ90 387 38).toInt = (σ79 387 38).toInt := congrArg Int32.toInt (u90 387 38 (by omega))
                have t92 : (σ90 387 40).toInt = (σ79 387 40).toInt := congrArg Int32.toInt (u90 387 40 (by omega))
                have t93 : (σ90 387 42).toInt = (σ79 387 42).toInt := congrArg Int32.toInt (u90 387 42 (by omega))
                have t94 : (σ90 387 41).toInt = (σ79 387 41).toInt := congrArg Int32.toInt (u90 387 41 (by omega))
                have t95 : (σ90 387 39).toInt = (σ79 387 39).toInt := congrArg Int32.toInt (u90 387 39 (by omega))
                refine lv_aload_n hx hb dX12_operand_104 rfl (lv_at hl 3 rfl) ?_
                refine lv_dup hx hb dX12_operand_105 rfl ?_
                refine fg_12_40 (k := 387) hx hb hts in_X12_operand_12 hown hK hP (by decide) (by decide) (hts _ lk_X12_operand_434) dX12_operand_106 ?_
                refine r_iconst hx hb dX12_operand_109 (by decide) (fun z96 ez96 => ?_)
                refine r_iadd hx hb dX12_operand_110 (by omega) (fun z97 ez97 => ?_)
                refine fp_12_40 (k := 387) hx hb hts in_X12_operand_12 hown hK hP (by decide) (by decide) (hts _ lk_X12_operand_434) hI hR hS (by omega) dX12_operand_111 (fun σ98 H98 locs98 u98 v98 hR hP hS => ?_)
                have ub := u98
                have vb := v98
                have hF := hF.puts u98 4 rfl (by decide) (by decide) (by decide) (by decide)
                have gMK := gMK.ag (Agr.put u98 (by decide))
                have gMT := gMT.ag (Agr.put u98 (by decide))
                have gWJ := gWJ.ag (Agr.put u98 (by decide))
                have t99 : (σ98 387 38).toInt = (σ90 387 38).toInt := congrArg Int32.toInt (u98 387 38 (by omega))
                have t100 : (σ98 387 42).toInt = (σ90 387 42).toInt := congrArg Int32.toInt (u98 387 42 (by omega))
                have t101 : (σ98 387 41).toInt = (σ90 387 41).toInt := congrArg Int32.toInt (u98 387 41 (by omega))
                have t102 : (σ98 387 39).toInt = (σ90 387 39).toInt := congrArg Int32.toInt (u98 387 39 (by omega))
                have gPV := PV.push gPV ua va (by omega) (by omega) ub (by omega)
                refine lv_aload_n hx hb dX12_operand_114 rfl (lv_at hl 3 rfl) ?_
                refine lv_dup hx hb dX12_operand_115 rfl ?_
                refine fg_12_41 (k := 387) hx hb hts in_X12_operand_12 hown hK hP (by decide) (by decide) (hts _ lk_X12_operand_440) dX12_operand_116 ?_
                have hdl := SN.dl gSN
                have hd9 := congrArg Int32.toInt ((ub 387 41 (by omega)).trans (ua 387 41 (by omega)))
                refine r_iconst hx hb dX12_operand_119 (by decide) (fun z103 ez103 => ?_)
                refine r_iadd hx hb dX12_operand_120 (by omega) (fun z104 ez104 => ?_)
                refine fp_12_41 (k := 387) hx hb hts in_X12_operand_12 hown hK hP (by decide) (by decide) (hts _ lk_X12_operand_440) hI hR hS dX12_operand_121 (fun σ105 H105 locs105 u105 v105 hR hP hS => ?_)
                have ud := u105
                have vd := v105
                have hF := hF.puts u105 4 rfl (by decide) (by decide) (by decide) (by decide)
                have gMK := gMK.ag (Agr.put u105 (by decide))
                have gMT := gMT.ag (Agr.put u105 (by decide))
                have gPV := PV.put gPV hR u105 (by decide)
                have gWJ := gWJ.ag (Agr.put u105 (by decide))
                have t106 : (σ105 387 38).toInt = (σ98 387 38).toInt := congrArg Int32.toInt (u105 387 38 (by omega))
                have t107 : (σ105 387 42).toInt = (σ98 387 42).toInt := congrArg Int32.toInt (u105 387 42 (by omega))
                have t108 : (σ105 387 39).toInt = (σ98 387 39).toInt := congrArg Int32.toInt (u105 387 39 (by omega))
                have t109 : (σ105 387 40).toInt = (σ98 387 40).toInt := congrArg Int32.toInt (u105 387 40 (by omega))
                refine r_iconst hx hb dX12_operand_124 (by decide) (fun z110 ez110 => ?_)
                exact r_zret hx hb hr hK hP hS hk (by omega) dX12_operand_125 (show P_X12_operand σ0 τ0 b N mo q nn K nm hc z110 σ105 τ79 from ⟨hR, hF, hFL, by omega, by first | exact Or.inl (by omega) | exact Or.inr gPV, by omega, by omega, by first | (exfalso; omega) | exact MO.ofk (ope_x (by omega)) (by omega) (by omega) (by omega) | exact MO.ofk (ope_4 (by omega) (by omega)) (by omega) (by omega) (by omega) | exact MO.ofr (ope_n (by omega) (by omega) (by omega)) (by omega) ⟨gMK, by show _ = ((nn + 1 : Nat) : Int); omega, SN.deep (x := false) gSN (by omega) (by omega) ua (by show _ = (20 : Int); omega) ub (by omega) ud (by omega), by show _ = (0 : Int); omega⟩ | exact MO.ofr (ope_o (by omega) (by omega) (by omega)) (by omega) ⟨gMK, by show _ = ((nn + 1 : Nat) : Int); omega, SN.deep (x := true) gSN (by omega) (by omega) ua (by show _ = (23 : Int); omega) ub (by omega) ud (by omega), by show _ = (0 : Int); omega⟩ | exact MO.ofr (ope_l (by omega) (by omega) (by omega) (by omega) (by omega) (lea_n (by omega) (by omega))) (by omega) ⟨gMK, by show _ = ((nn + 1 : Nat) : Int); omega, gSN, by show _ = (1 : Int); omega⟩ | (obtain ⟨f, e1, x1, x2⟩ := o1.no (by omega); exact MO.ofl (ope_l (by omega) (by omega) (by omega) (by omega) (by omega) (lea_onl (by omega) e1)) (by omega) x1 x2) | exact MO.ofr (ope_l (by omega) (by omega) (by omega) (by omega) (by omega) (lea_onr (by omega) e1)) (by omega) ⟨gMK, by show _ = ((nn + 1 : Nat) : Int); omega, gSN, by show _ = (1 : Int); omega⟩ | exact MO.ofk (ope_l (by omega) (by omega) (by omega) (by omega) (by omega) (lea_m1 (by omega) (by omega))) (by omega) (by omega) (by omega) | exact MO.ofk (ope_l (by omega) (by omega) (by omega) (by omega) (by omega) (lea_m2 (by omega) (by omega) (by omega))) (by omega) (by omega) (by omega) | exact MO.ofr (ope_l (by omega) (by omega) (by omega) (by omega) (by omega) (lea_m3 (by omega) (by omega) (by omega))) (by omega) ⟨gMK, by show _ = ((nn + 1 : Nat) : Int); omega, gSN, by show _ = (1 : Int); omega⟩, gMT, gRV, gWJ⟩)
              · exfalso; omega
        · refine lv_aload_n hx hb dX12_operand_56 rfl (lv_at hl 3 rfl) ?_
          refine r_iconst hx hb dX12_operand_57 (by decide) (fun z111 ez111 => ?_)
          refine r_cVi (k := 387) (As := [.int z111]) (rest := []) ⟨hx, hb, hml, hown, hts⟩ hK hP hN hS (c_X12_bad_v l D cA ad hI σ0 τ0 hR z111 _ _ _ _ (by omega) gMK) (cwV 1 hts gX12_operand_X12_bad rfl rfl rfl (by decide +kernel) ⟨by decide, by decide⟩) (rv_M hK hP (by decide) (by decide)) rfl hl.1 rfl (Nat.le_of_ble_eq_true rfl) dX12_operand_58 (Nat.zero_le _) (Nat.zero_le _) (fun r112 u112 H112 locs112 hp112 hP hS => ?_)
          obtain ⟨σ112, τ112⟩ := u112
          obtain ⟨hR, f112, fL112, hq112, hp112_0, hp112_1, hp112_2, gnMK⟩ : P_X12_bad_v σ0 τ0 z111 _ _ _ _ r112 σ112 τ112 := hp112
          have hP : va_P D vwCl (gw cA ad σ112 τ112) H112 := hP
          obtain rfl := FrL.nil fL112
          have hF := hF.step f112 (by decide)
          have gMK := gMK.ag (Agr.fr f112 (by decide))
          have gMT := gMT.ag (Agr.fr f112 (by decide))
          have gPV := PV.fr gPV hR f112 (by decide)
          have gPW := PW.fr gPW hR f112 (by decide)
          have gSN := gSN.ag (Agr.fr f112 (by decide))
          have gWJ := gWJ.ag (Agr.fr f112 (by decide))
          have t113 : (σ112 387 38).toInt = (σ0 387 38).toInt := congrArg Int32.toInt (f112.at 387 38 (by decide))
          have t114 : (σ112 387 39).toInt = (σ0 387 39).toInt := congrArg Int32.toInt (f112.at 387 39 (by decide))
          have t115 : (σ112 387 40).toInt = (σ0 387 40).toInt := congrArg Int32.toInt (f112.at 387 40 (by decide))
          have t116 : (σ112 387 42).toInt = (σ0 387 42).toInt := congrArg Int32.toInt (f112.at 387 42 (by decide))
          have t117 : (σ112 387 41).toInt = (σ0 387 41).toInt := congrArg Int32.toInt (f112.at 387 41 (by decide))
          exact r_zret hx hb hr hK hP hS hk (by omega) dX12_operand_61 (show P_X12_operand σ0 τ0 b N mo q nn K nm hc r112 σ112 τ0 from ⟨hR, hF, hFL, by omega, by first | exact Or.inl (by omega) | exact Or.inr gPV, by omega, by omega, by first | (exfalso; omega) | exact MO.ofk (ope_x (by omega)) (by omega) (by omega) (by omega) | exact MO.ofk (ope_4 (by omega) (by omega)) (by omega) (by omega) (by omega) | exact MO.ofr (ope_n (by omega) (by omega) (by omega)) (by omega) ⟨gMK, by show _ = ((nn + 1 : Nat) : Int); omega, SN.deep (x := false) gSN (by omega) (by omega) ua (by show _ = (20 : Int); omega) ub (by omega) ud (by omega), by show _ = (0 : Int); omega⟩ | exact MO.ofr (ope_o (by omega) (by omega) (by omega)) (by omega) ⟨gMK, by show _ = ((nn + 1 : Nat) : Int); omega, SN.deep (x := true) gSN (by omega) (by omega) ua (by show _ = (23 : Int); omega) ub (by omega) ud (by omega), by show _ = (0 : Int); omega⟩ | exact MO.ofr (ope_l (by omega) (by omega) (by omega) (by omega) (by omega) (lea_n (by omega) (by omega))) (by omega) ⟨gMK, by show _ = ((nn + 1 : Nat) : Int); omega, gSN, by show _ = (1 : Int); omega⟩ | (obtain ⟨f, e1, x1, x2⟩ := o1.no (by omega); exact MO.ofl (ope_l (by omega) (by omega) (by omega) (by omega) (by omega) (lea_onl (by omega) e1)) (by omega) x1 x2) | exact MO.ofr (ope_l (by omega) (by omega) (by omega) (by omega) (by omega) (lea_onr (by omega) e1)) (by omega) ⟨gMK, by show _ = ((nn + 1 : Nat) : Int); omega, gSN, by show _ = (1 : Int); omega⟩ | exact MO.ofk (ope_l (by omega) (by omega) (by omega) (by omega) (by omega) (lea_m1 (by omega) (by omega))) (by omega) (by omega) (by omega) | exact MO.ofk (ope_l (by omega) (by omega) (by omega) (by omega) (by omega) (lea_m2 (by omega) (by omega) (by omega))) (by omega) (by omega) (by omega) | exact MO.ofr (ope_l (by omega) (by omega) (by omega) (by omega) (by omega) (lea_m3 (by omega) (by omega) (by omega))) (by omega) ⟨gMK, by show _ = ((nn + 1 : Nat) : Int); omega, gSN, by show _ = (1 : Int); omega⟩, gMT, gRV, gWJ⟩)
    · clear hp3_0
      have ao := (aopen.resolve_left (fun c => by omega)).2
      clear aopen
      refine lv_iload_n hx hb dX12_operand_28 rfl (lv_at hl 0 rfl) ?_
      refine r_if_ge (tgt := 38) hx hb dX12_operand_29 (by decide) (fun c118 => ?_) (fun c118 => ?_)
      · first | (have an := (anot.resolve_right (fun c => by omega)).2; clear anot aopen alf) | (have ao := (aopen.resolve_right (fun c => by omega)).2; clear aopen alf) | (have al := alf.resolve_left (fun c => by omega); clear alf)
        refine lv_aload_n hx hb dX12_operand_38 rfl (lv_at hl 3 rfl) ?_
        refine fg_12_39 (k := 387) hx hb hts in_X12_operand_12 hown hK hP (by decide) (by decide) (hts _ lk_X12_operand_446) dX12_operand_39 ?_
        refine r_bipush hx hb dX12_operand_42 (by decide) (fun z119 ez119 => ?_)
        refine r_icmp_eq (tgt := 56) hx hb dX12_operand_44 (by decide) (fun c120 => ?_) (fun c120 => ?_)
        · refine lv_aload_n hx hb dX12_operand_56 rfl (lv_at hl 3 rfl) ?_
          refine r_iconst hx hb dX12_operand_57 (by decide) (fun z121 ez121 => ?_)
          refine r_cVi (k := 387) (As := [.int z121]) (rest := []) ⟨hx, hb, hml, hown, hts⟩ hK hP hN hS (c_X12_bad_v l D cA ad hI σ0 τ0 hR z121 _ _ _ _ (by omega) gMK) (cwV 1 hts gX12_operand_X12_bad rfl rfl rfl (by decide +kernel) ⟨by decide, by decide⟩) (rv_M hK hP (by decide) (by decide)) rfl hl.1 rfl (Nat.le_of_ble_eq_true rfl) dX12_operand_58 (Nat.zero_le _) (Nat.zero_le _) (fun r122 u122 H122 locs122 hp122 hP hS => ?_)
          obtain ⟨σ122, τ122⟩ := u122
          obtain ⟨hR, f122, fL122, hq122, hp122_0, hp122_1, hp122_2, gnMK⟩ : P_X12_bad_v σ0 τ0 z121 _ _ _ _ r122 σ122 τ122 := hp122
          have hP : va_P D vwCl (gw cA ad σ122 τ122) H122 := hP
          obtain rfl := FrL.nil fL122
          have hF := hF.step f122 (by decide)
          have gMK := gMK.ag (Agr.fr f122 (by decide))
          have gMT := gMT.ag (Agr.fr f122 (by decide))
          have gPV := PV.fr gPV hR f122 (by decide)
          have gPW := PW.fr gPW hR f122 (by decide)
          have gSN := gSN.ag (Agr.fr f122 (by decide))
          have gWJ := gWJ.ag (Agr.fr f122 (by decide))
          have t123 : (σ122 387 38).toInt = (σ0 387 38).toInt := congrArg Int32.toInt (f122.at 387 38 (by decide))
          have t124 : (σ122 387 39).toInt = (σ0 387 39).toInt := congrArg Int32.toInt (f122.at 387 39 (by decide))
          have t125 : (σ122 387 40).toInt = (σ0 387 40).toInt := congrArg Int32.toInt (f122.at 387 40 (by decide))
          have t126 : (σ122 387 42).toInt = (σ0 387 42).toInt := congrArg Int32.toInt (f122.at 387 42 (by decide))
          exact r_zret hx hb hr hK hP hS hk (by omega) dX12_operand_61 (show P_X12_operand σ0 τ0 b N mo q nn K nm hc r122 σ122 τ0 from ⟨hR, hF, hFL, by omega, by first | exact Or.inl (by omega) | exact Or.inr gPV, by omega, by omega, by first | (exfalso; omega) | exact MO.ofk (ope_x (by omega)) (by omega) (by omega) (by omega) | exact MO.ofk (ope_4 (by omega) (by omega)) (by omega) (by omega) (by omega) | exact MO.ofr (ope_n (by omega) (by omega) (by omega)) (by omega) ⟨gMK, by show _ = ((nn + 1 : Nat) : Int); omega, SN.deep (x := false) gSN (by omega) (by omega) ua (by show _ = (20 : Int); omega) ub (by omega) ud (by omega), by show _ = (0 : Int); omega⟩ | exact MO.ofr (ope_o (by omega) (by omega) (by omega)) (by omega) ⟨gMK, by show _ = ((nn + 1 : Nat) : Int); omega, SN.deep (x := true) gSN (by omega) (by omega) ua (by show _ = (23 : Int); omega) ub (by omega) ud (by omega), by show _ = (0 : Int); omega⟩ | exact MO.ofr (ope_l (by omega) (by omega) (by omega) (by omega) (by omega) (lea_n (by omega) (by omega))) (by omega) ⟨gMK, by show _ = ((nn + 1 : Nat) : Int); omega, gSN, by show _ = (1 : Int); omega⟩ | (obtain ⟨f, e1, x1, x2⟩ := o1.no (by omega); exact MO.ofl (ope_l (by omega) (by omega) (by omega) (by omega) (by omega) (lea_onl (by omega) e1)) (by omega) x1 x2) | exact MO.ofr (ope_l (by omega) (by omega) (by omega) (by omega) (by omega) (lea_onr (by omega) e1)) (by omega) ⟨gMK, by show _ = ((nn + 1 : Nat) : Int); omega, gSN, by show _ = (1 : Int); omega⟩ | exact MO.ofk (ope_l (by omega) (by omega) (by omega) (by omega) (by omega) (lea_m1 (by omega) (by omega))) (by omega) (by omega) (by omega) | exact MO.ofk (ope_l (by omega) (by omega) (by omega) (by omega) (by omega) (lea_m2 (by omega) (by omega) (by omega))) (by omega) (by omega) (by omega) | exact MO.ofr (ope_l (by omega) (by omega) (by omega) (by omega) (by omega) (lea_m3 (by omega) (by omega) (by omega))) (by omega) ⟨gMK, by show _ = ((nn + 1 : Nat) : Int); omega, gSN, by show _ = (1 : Int); omega⟩, gMT, gRV, gWJ⟩)
        · refine lv_aload_n hx hb dX12_operand_47 rfl (lv_at hl 3 rfl) ?_
          refine fg_12_41 (k := 387) hx hb hts in_X12_operand_12 hown hK hP (by decide) (by decide) (hts _ lk_X12_operand_440) dX12_operand_48 ?_
          refine r_bipush hx hb dX12_operand_51 (by decide) (fun z127 ez127 => ?_)
          refine r_icmp_le (tgt := 62) hx hb dX12_operand_53 (by decide) (fun c128 => ?_) (fun c128 => ?_)
          · refine lv_aload_n hx hb dX12_operand_62 rfl (lv_at hl 3 rfl) ?_
            refine lv_dup hx hb dX12_operand_63 rfl ?_
            refine fg_12_39 (k := 387) hx hb hts in_X12_operand_12 hown hK hP (by decide) (by decide) (hts _ lk_X12_operand_446) dX12_operand_64 ?_
            refine r_iconst hx hb dX12_operand_67 (by decide) (fun z129 ez129 => ?_)
            refine r_iadd hx hb dX12_operand_68 (by omega) (fun z130 ez130 => ?_)
            refine fp_12_39 (k := 387) hx hb hts in_X12_operand_12 hown hK hP (by decide) (by decide) (hts _ lk_X12_operand_446) hI hR hS (by omega) dX12_operand_69 (fun σ131 H131 locs131 u131 v131 hR hP hS => ?_)
            have hF := hF.puts u131 4 rfl (by decide) (by decide) (by decide) (by decide)
            have gMK := gMK.ag (Agr.put u131 (by decide))
            have gMT := gMT.ag (Agr.put u131 (by decide))
            have gPV := PV.put gPV hR u131 (by decide)
            have gPW := PW.put gPW hR u131 (by decide)
            have gSN := gSN.ag (Agr.put u131 (by decide))
            have gWJ := gWJ.ag (Agr.put u131 (by decide))
            have t132 : (σ131 387 38).toInt = (σ0 387 38).toInt := congrArg Int32.toInt (u131 387 38 (by omega))
            have t133 : (σ131 387 40).toInt = (σ0 387 40).toInt := congrArg Int32.toInt (u131 387 40 (by omega))
            have t134 : (σ131 387 42).toInt = (σ0 387 42).toInt := congrArg Int32.toInt (u131 387 42 (by omega))
            have t135 : (σ131 387 41).toInt = (σ0 387 41).toInt := congrArg Int32.toInt (u131 387 41 (by omega))
            refine lv_aload_n hx hb dX12_operand_72 rfl (lv_at hl 3 rfl) ?_
            refine r_cVv (k := 387) (As := []) (rest := []) ⟨hx, hb, hml, hown, hts⟩ hK hP hN hS (c_X12_next_v l D cA ad hI σ131 τ0 hR _ _ _ _ gMK.mp gMT) (cwV 0 hts gX12_operand_X12_next rfl rfl rfl (by decide +kernel) ⟨by decide, by decide⟩) (rv_M hK hP (by decide) (by decide)) rfl hl.1 rfl (Nat.le_of_ble_eq_true rfl) dX12_operand_73 (Nat.zero_le _) (Nat.zero_le _) (fun u136 H136 locs136 hp136 hP hS => ?_)
            obtain ⟨σ136, τ136⟩ := u136
            obtain ⟨hR, f136, fL136, hp136_0, hp136_1, hp136_2, hp136_3, gnMT⟩ : P_X12_next_v σ131 τ0 _ _ _ _ σ136 τ136 := hp136
            have hP : va_P D vwCl (gw cA ad σ136 τ136) H136 := hP
            have hFL := hFL.step fL136 (by decide)
            have gRV := gRV.agL (AgrL.fr fL136 (by decide))
            have gWJ := gWJ.agL (AgrL.fr fL136 (by decide))
            have hF := hF.step f136 (by decide)
            have gMT := gMT.ag (Agr.fr f136 (by decide))
            have gPV := PV.fr gPV hR f136 (by decide)
            have gPW := PW.fr gPW hR f136 (by decide)
            have gSN := gSN.ag (Agr.fr f136 (by decide))
            have gWJ := gWJ.ag (Agr.fr f136 (by decide))
            have t137 : (σ136 387 38).toInt = (σ131 387 38).toInt := congrArg Int32.toInt (f136.at 387 38 (by decide))
            have t138 : (σ136 387 40).toInt = (σ131 387 40).toInt := congrArg Int32.toInt (f136.at 387 40 (by decide))
            have t139 : (σ136 387 42).toInt = (σ131 387 42).toInt := congrArg Int32.toInt (f136.at 387 42 (by decide))
            have t140 : (σ136 387 41).toInt = (σ131 387 41).toInt := congrArg Int32.toInt (f136.at 387 41 (by decide))
            have t141 : (σ136 387 39).toInt = (σ131 387 39).toInt := congrArg Int32.toInt (f136.at 387 39 (by decide))
            have gMK := hp136_3
            replace hp136_1 : True := trivial
            refine lv_iload_n hx hb dX12_operand_76 rfl (lv_at hl 2 rfl) ?_
            refine r_if_ne (tgt := 84) hx hb dX12_operand_77 (by decide) (fun c142 => ?_) (fun c142 => ?_)
            · exfalso; omega
            · refine lv_iload_n hx hb dX12_operand_80 rfl (lv_at hl 1 rfl) ?_
              refine r_if_eq (tgt := 126) hx hb dX12_operand_81 (by decide) (fun c143 => ?_) (fun c143 => ?_)
              · refine lv_aload_n hx hb dX12_operand_126 rfl (lv_at hl 3 rfl) ?_
                refine r_iconst hx hb dX12_operand_127 (by decide) (fun z144 ez144 => ?_)
                refine fp_12_42 (k := 387) hx hb hts in_X12_operand_12 hown hK hP (by decide) (by decide) (hts _ lk_X12_operand_449) hI hR hS (by omega) dX12_operand_128 (fun σ145 H145 locs145 u145 v145 hR hP hS => ?_)
                have uw := u145
                have vw := v145
                have hF := hF.puts u145 4 rfl (by decide) (by decide) (by decide) (by decide)
                have gMK := gMK.ag (Agr.put u145 (by decide))
                have gMT := gMT.ag (Agr.put u145 (by decide))
                have gPW := PW.put gPW hR u145 (by decide)
                have gSN := gSN.ag (Agr.put u145 (by decide))
                have gWJ := gWJ.ag (Agr.put u145 (by decide))
                have t146 : (σ145 387 38).toInt = (σ136 387 38).toInt := congrArg Int32.toInt (u145 387 38 (by omega))
                have t147 : (σ145 387 40).toInt = (σ136 387 40).toInt := congrArg Int32.toInt (u145 387 40 (by omega))
                have t148 : (σ145 387 41).toInt = (σ136 387 41).toInt := congrArg Int32.toInt (u145 387 41 (by omega))
                have t149 : (σ145 387 39).toInt = (σ136 387 39).toInt := congrArg Int32.toInt (u145 387 39 (by omega))
                refine lv_iload_n hx hb dX12_operand_131 rfl (lv_at hl 0 rfl) ?_
                refine r_iconst hx hb dX12_operand_132 (by decide) (fun z150 ez150 => ?_)
                refine r_icmp_ge (tgt := 145) hx hb dX12_operand_133 (by decide) (fun c151 => ?_) (fun c151 => ?_)
                · refine lv_iload_n hx hb dX12_operand_145 rfl (lv_at hl 0 rfl) ?_
                  refine r_iconst hx hb dX12_operand_146 (by decide) (fun z152 ez152 => ?_)
                  refine r_icmp_ne (tgt := 182) hx hb dX12_operand_147 (by decide) (fun c153 => ?_) (fun c153 => ?_)
                  · have al2 := ((al.resolve_left (fun c => by omega)).resolve_right (fun c => by omega)).2.2
                    clear al
                    refine lv_aload_n hx hb dX12_operand_182 rfl (lv_at hl 3 rfl) ?_
                    have hms := gMK.ms
                    refine fg_12_11 (k := 387) hx hb hts in_X12_operand_12 hown hK hP (by decide) (by decide) (hts _ lk_X12_operand_159) dX12_operand_183 ?_
                    refine r_iconst hx hb dX12_operand_186 (by decide) (fun z154 ez154 => ?_)
                    refine r_icmp_ne (tgt := 208) hx hb dX12_operand_187 (by decide) (fun c155 => ?_) (fun c155 => ?_)
                    · have hm2 : ¬ (41 ≤ tkq b N mo (nxq b N mo q) ∧ tkq b N mo (nxq b N mo q) ≤ 43) := fun h => by have h9 := hms.mpr h; omega
                      clear hms
                      refine lv_aload_n hx hb dX12_operand_208 rfl (lv_at hl 3 rfl) ?_
                      refine r_iconst hx hb dX12_operand_209 (by decide) (fun z156 ez156 => ?_)
                      refine r_cVi (k := 387) (As := [.int z156]) (rest := []) ⟨hx, hb, hml, hown, hts⟩ hK hP hN hS (c_X12_bad_v l D cA ad hI σ145 τ136 hR z156 _ _ _ _ (by omega) gMK) (cwV 1 hts gX12_operand_X12_bad rfl rfl rfl (by decide +kernel) ⟨by decide, by decide⟩) (rv_M hK hP (by decide) (by decide)) rfl hl.1 rfl (Nat.le_of_ble_eq_true rfl) dX12_operand_210 (Nat.zero_le _) (Nat.zero_le _) (fun r157 u157 H157 locs157 hp157 hP hS => ?_)
                      obtain ⟨σ157, τ157⟩ := u157
                      obtain ⟨hR, f157, fL157, hq157, hp157_0, hp157_1, hp157_2, gnMK⟩ : P_X12_bad_v σ145 τ136 z156 _ _ _ _ r157 σ157 τ157 := hp157
                      have hP : va_P D vwCl (gw cA ad σ157 τ157) H157 := hP
                      obtain rfl := FrL.nil fL157
                      have hF := hF.step f157 (by decide)
                      have gMK := gMK.ag (Agr.fr f157 (by decide))
                      have gMT := gMT.ag (Agr.fr f157 (by decide))
                      have gPW := PW.fr gPW hR f157 (by decide)
                      have gSN := gSN.ag (Agr.fr f157 (by decide))
                      have gWJ := gWJ.ag (Agr.fr f157 (by decide))
                      have t158 : (σ157 387 38).toInt = (σ145 387 38).toInt := congrArg Int32.toInt (f157.at 387 38 (by decide))
                      have t159 : (σ157 387 40).toInt = (σ145 387 40).toInt := congrArg Int32.toInt (f157.at 387 40 (by decide))
                      have t160 : (σ157 387 41).toInt = (σ145 387 41).toInt := congrArg Int32.toInt (f157.at 387 41 (by decide))
                      have t161 : (σ157 387 39).toInt = (σ145 387 39).toInt := congrArg Int32.toInt (f157.at 387 39 (by decide))
                      have t162 : (σ157 387 42).toInt = (σ145 387 42).toInt := congrArg Int32.toInt (f157.at 387 42 (by decide))
                      have t163 : (σ157 387 11).toInt = (σ145 387 11).toInt := congrArg Int32.toInt (f157.at 387 11 (by decide))
                      exact r_zret hx hb hr hK hP hS hk (by omega) dX12_operand_213 (show P_X12_operand σ0 τ0 b N mo q nn K nm hc r157 σ157 τ136 from ⟨hR, hF, hFL, by omega, by first | exact Or.inl (by omega) | exact Or.inr gPV, by omega, by omega, by first | (exfalso; omega) | exact MO.ofk (ope_x (by omega)) (by omega) (by omega) (by omega) | exact MO.ofk (ope_4 (by omega) (by omega)) (by omega) (by omega) (by omega) | exact MO.ofr (ope_n (by omega) (by omega) (by omega)) (by omega) ⟨gMK, by show _ = ((nn + 1 : Nat) : Int); omega, SN.deep (x := false) gSN (by omega) (by omega) ua (by show _ = (20 : Int); omega) ub (by omega) ud (by omega), by show _ = (0 : Int); omega⟩ | exact MO.ofr (ope_o (by omega) (by omega) (by omega)) (by omega) ⟨gMK, by show _ = ((nn + 1 : Nat) : Int); omega, SN.deep (x := true) gSN (by omega) (by omega) ua (by show _ = (23 : Int); omega) ub (by omega) ud (by omega), by show _ = (0 : Int); omega⟩ | exact MO.ofr (ope_l (by omega) (by omega) (by omega) (by omega) (by omega) (lea_n (by omega) (by omega))) (by omega) ⟨gMK, by show _ = ((nn + 1 : Nat) : Int); omega, gSN, by show _ = (1 : Int); omega⟩ | (obtain ⟨f, e1, x1, x2⟩ := o1.no (by omega); exact MO.ofl (ope_l (by omega) (by omega) (by omega) (by omega) (by omega) (lea_onl (by omega) e1)) (by omega) x1 x2) | exact MO.ofr (ope_l (by omega) (by omega) (by omega) (by omega) (by omega) (lea_onr (by omega) e1)) (by omega) ⟨gMK, by show _ = ((nn + 1 : Nat) : Int); omega, gSN, by show _ = (1 : Int); omega⟩ | exact MO.ofk (ope_l (by omega) (by omega) (by omega) (by omega) (by omega) (lea_m1 (by omega) (by omega))) (by omega) (by omega) (by omega) | exact MO.ofk (ope_l (by omega) (by omega) (by omega) (by omega) (by omega) (lea_m2 (by omega) (by omega) (by omega))) (by omega) (by omega) (by omega) | exact MO.ofr (ope_l (by omega) (by omega) (by omega) (by omega) (by omega) (lea_m3 (by omega) (by omega) (by omega))) (by omega) ⟨gMK, by show _ = ((nn + 1 : Nat) : Int); omega, gSN, by show _ = (1 : Int); omega⟩, gMT, gRV, gWJ⟩)
                    · refine lv_aload_n hx hb dX12_operand_190 rfl (lv_at hl 3 rfl) ?_
                      refine fg_12_14 (k := 387) hx hb hts in_X12_operand_12 hown hK hP (by decide) (by decide) (hts _ lk_X12_operand_169) dX12_operand_191 ?_
                      refine r_bipush hx hb dX12_operand_194 (by decide) (fun z164 ez164 => ?_)
                      refine r_icmp_lt (tgt := 208) hx hb dX12_operand_196 (by decide) (fun c165 => ?_) (fun c165 => ?_)
                      · have hm2 : ¬ (41 ≤ tkq b N mo (nxq b N mo q) ∧ tkq b N mo (nxq b N mo q) ≤ 43) := fun h => by have h9 := hms.mpr h; omega
                        clear hms
                        refine lv_aload_n hx hb dX12_operand_208 rfl (lv_at hl 3 rfl) ?_
                        refine r_iconst hx hb dX12_operand_209 (by decide) (fun z166 ez166 => ?_)
                        refine r_cVi (k := 387) (As := [.int z166]) (rest := []) ⟨hx, hb, hml, hown, hts⟩ hK hP hN hS (c_X12_bad_v l D cA ad hI σ145 τ136 hR z166 _ _ _ _ (by omega) gMK) (cwV 1 hts gX12_operand_X12_bad rfl rfl rfl (by decide +kernel) ⟨by decide, by decide⟩) (rv_M hK hP (by decide) (by decide)) rfl hl.1 rfl (Nat.le_of_ble_eq_true rfl) dX12_operand_210 (Nat.zero_le _) (Nat.zero_le _) (fun r167 u167 H167 locs167 hp167 hP hS => ?_)
                        obtain ⟨σ167, τ167⟩ := u167
                        obtain ⟨hR, f167, fL167, hq167, hp167_0, hp167_1, hp167_2, gnMK⟩ : P_X12_bad_v σ145 τ136 z166 _ _ _ _ r167 σ167 τ167 := hp167
                        have hP : va_P D vwCl (gw cA ad σ167 τ167) H167 := hP
                        obtain rfl := FrL.nil fL167
                        have hF := hF.step f167 (by decide)
                        have gMK := gMK.ag (Agr.fr f167 (by decide))
                        have gMT := gMT.ag (Agr.fr f167 (by decide))
                        have gPW := PW.fr gPW hR f167 (by decide)
                        have gSN := gSN.ag (Agr.fr f167 (by decide))
                        have gWJ := gWJ.ag (Agr.fr f167 (by decide))
                        have t168 : (σ167 387 38).toInt = (σ145 387 38).toInt := congrArg Int32.toInt (f167.at 387 38 (by decide))
                        have t169 : (σ167 387 40).toInt = (σ145 387 40).toInt := congrArg Int32.toInt (f167.at 387 40 (by decide))
                        have t170 : (σ167 387 41).toInt = (σ145 387 41).toInt := congrArg Int32.toInt (f167.at 387 41 (by decide))
                        have t171 : (σ167 387 39).toInt = (σ145 387 39).toInt := congrArg Int32.toInt (f167.at 387 39 (by decide))
                        have t172 : (σ167 387 42).toInt = (σ145 387 42).toInt := congrArg Int32.toInt (f167.at 387 42 (by decide))
                        have t173 : (σ167 387 11).toInt = (σ145 387 11).toInt := congrArg Int32.toInt (f167.at 387 11 (by decide))
                        have t174 : (σ167 387 14).toInt = (σ145 387 14).toInt := congrArg Int32.toInt (f167.at 387 14 (by decide))
                        exact r_zret hx hb hr hK hP hS hk (by omega) dX12_operand_213 (show P_X12_operand σ0 τ0 b N mo q nn K nm hc r167 σ167 τ136 from ⟨hR, hF, hFL, by omega, by first | exact Or.inl (by omega) | exact Or.inr gPV, by omega, by omega, by first | (exfalso; omega) | exact MO.ofk (ope_x (by omega)) (by omega) (by omega) (by omega) | exact MO.ofk (ope_4 (by omega) (by omega)) (by omega) (by omega) (by omega) | exact MO.ofr (ope_n (by omega) (by omega) (by omega)) (by omega) ⟨gMK, by show _ = ((nn + 1 : Nat) : Int); omega, SN.deep (x := false) gSN (by omega) (by omega) ua (by show _ = (20 : Int); omega) ub (by omega) ud (by omega), by show _ = (0 : Int); omega⟩ | exact MO.ofr (ope_o (by omega) (by omega) (by omega)) (by omega) ⟨gMK, by show _ = ((nn + 1 : Nat) : Int); omega, SN.deep (x := true) gSN (by omega) (by omega) ua (by show _ = (23 : Int); omega) ub (by omega) ud (by omega), by show _ = (0 : Int); omega⟩ | exact MO.ofr (ope_l (by omega) (by omega) (by omega) (by omega) (by omega) (lea_n (by omega) (by omega))) (by omega) ⟨gMK, by show _ = ((nn + 1 : Nat) : Int); omega, gSN, by show _ = (1 : Int); omega⟩ | (obtain ⟨f, e1, x1, x2⟩ := o1.no (by omega); exact MO.ofl (ope_l (by omega) (by omega) (by omega) (by omega) (by omega) (lea_onl (by omega) e1)) (by omega) x1 x2) | exact MO.ofr (ope_l (by omega) (by omega) (by omega) (by omega) (by omega) (lea_onr (by omega) e1)) (by omega) ⟨gMK, by show _ = ((nn + 1 : Nat) : Int); omega, gSN, by show _ = (1 : Int); omega⟩ | exact MO.ofk (ope_l (by omega) (by omega) (by omega) (by omega) (by omega) (lea_m1 (by omega) (by omega))) (by omega) (by omega) (by omega) | exact MO.ofk (ope_l (by omega) (by omega) (by omega) (by omega) (by omega) (lea_m2 (by omega) (by omega) (by omega))) (by omega) (by omega) (by omega) | exact MO.ofr (ope_l (by omega) (by omega) (by omega) (by omega) (by omega) (lea_m3 (by omega) (by omega) (by omega))) (by omega) ⟨gMK, by show _ = ((nn + 1 : Nat) : Int); omega, gSN, by show _ = (1 : Int); omega⟩, gMT, gRV, gWJ⟩)
                      · refine lv_aload_n hx hb dX12_operand_199 rfl (lv_at hl 3 rfl) ?_
                        refine fg_12_14 (k := 387) hx hb hts in_X12_operand_12 hown hK hP (by decide) (by decide) (hts _ lk_X12_operand_169) dX12_operand_200 ?_
                        refine r_bipush hx hb dX12_operand_203 (by decide) (fun z175 ez175 => ?_)
                        refine r_icmp_le (tgt := 214) hx hb dX12_operand_205 (by decide) (fun c176 => ?_) (fun c176 => ?_)
                        · have hm2 := hms.mp ⟨by omega, by omega, by omega⟩
                          clear hms
                          refine lv_aload_n hx hb dX12_operand_214 rfl (lv_at hl 3 rfl) ?_
                          refine fg_12_14 (k := 387) hx hb hts in_X12_operand_12 hown hK hP (by decide) (by decide) (hts _ lk_X12_operand_169) dX12_operand_215 ?_
                          refine lv_istore (lv' := [(4, .int (σ145 387 14)), (3, .int r4), (2, .int r3), (1, .int r1), (0, .ref (ad 387))]) hx hb dX12_operand_218 hl (by decide) rfl (fun ls hl => ?_)
                          refine lv_aload_n hx hb dX12_operand_220 rfl (lv_at hl 4 rfl) ?_
                          refine r_cVv (k := 387) (As := []) (rest := []) ⟨hx, hb, hml, hown, hts⟩ hK hP hN hS (c_X12_next_v l D cA ad hI σ145 τ136 hR _ _ _ _ gMK.mp gMT) (cwV 0 hts gX12_operand_X12_next rfl rfl rfl (by decide +kernel) ⟨by decide, by decide⟩) (rv_M hK hP (by decide) (by decide)) rfl hl.1 rfl (Nat.le_of_ble_eq_true rfl) dX12_operand_221 (Nat.zero_le _) (Nat.zero_le _) (fun u177 H177 locs177 hp177 hP hS => ?_)
                          obtain ⟨σ177, τ177⟩ := u177
                          obtain ⟨hR, f177, fL177, hp177_0, hp177_1, hp177_2, hp177_3, gnMT⟩ : P_X12_next_v σ145 τ136 _ _ _ _ σ177 τ177 := hp177
                          have hP : va_P D vwCl (gw cA ad σ177 τ177) H177 := hP
                          clear hp136_1
                          have hFL := hFL.step fL177 (by decide)
                          have gRV := gRV.agL (AgrL.fr fL177 (by decide))
                          have gWJ := gWJ.agL (AgrL.fr fL177 (by decide))
                          have hF := hF.step f177 (by decide)
                          have gMT := gMT.ag (Agr.fr f177 (by decide))
                          have gPW := PW.fr gPW hR f177 (by decide)
                          have gSN := gSN.ag (Agr.fr f177 (by decide))
                          have gWJ := gWJ.ag (Agr.fr f177 (by decide))
                          have t178 : (σ177 387 38).toInt = (σ145 387 38).toInt := congrArg Int32.toInt (f177.at 387 38 (by decide))
                          have t179 : (σ177 387 40).toInt = (σ145 387 40).toInt := congrArg Int32.toInt (f177.at 387 40 (by decide))
                          have t180 : (σ177 387 41).toInt = (σ145 387 41).toInt := congrArg Int32.toInt (f177.at 387 41 (by decide))
                          have t181 : (σ177 387 39).toInt = (σ145 387 39).toInt := congrArg Int32.toInt (f177.at 387 39 (by decide))
                          have t182 : (σ177 387 42).toInt = (σ145 387 42).toInt := congrArg Int32.toInt (f177.at 387 42 (by decide))
                          have gMK := hp177_3
                          replace hp177_1 : True := trivial
                          refine lv_aload_n hx hb dX12_operand_224 rfl (lv_at hl 4 rfl) ?_
                          have hkd := gMK.kd
                          refine fg_12_11 (k := 387) hx hb hts in_X12_operand_12 hown hK hP (by decide) (by decide) (hts _ lk_X12_operand_159) dX12_operand_225 ?_
                          refine r_iconst hx hb dX12_operand_228 (by decide) (fun z183 ez183 => ?_)
                          refine r_icmp_eq (tgt := 238) hx hb dX12_operand_229 (by decide) (fun c184 => ?_) (fun c184 => ?_)
                          · have hk2 := hkd.2.1.mp (by omega)
                            clear hkd
                            refine lv_aload_n hx hb dX12_operand_238 rfl (lv_at hl 4 rfl) ?_
                            refine lv_iload_n hx hb dX12_operand_239 rfl (lv_at hl 1 rfl) ?_
                            refine lv_iload hx hb dX12_operand_240 (lv_at hl 0 rfl) ?_
                            refine lv_aload_n hx hb dX12_operand_242 rfl (lv_at hl 4 rfl) ?_
                            refine fg_12_14 (k := 387) hx hb hts in_X12_operand_12 hown hK hP (by decide) (by decide) (hts _ lk_X12_operand_169) dX12_operand_243 ?_
                            refine r_cVv (k := 387) (As := [.int r4, .int (σ145 387 14), .int (σ177 387 14)]) (rest := []) ⟨hx, hb, hml, hown, hts⟩ hK hP hN hS (c_X12_code l D cA ad hI σ177 τ177 hR r4 (σ145 387 14) (σ177 387 14) (by omega) (by omega) (by omega)) (cwV 3 hts gX12_operand_X12_code rfl rfl rfl (by decide +kernel) ⟨by decide, by decide⟩) (rv_M hK hP (by decide) (by decide)) rfl hl.1 rfl (Nat.le_of_ble_eq_true rfl) dX12_operand_246 (Nat.zero_le _) (Nat.zero_le _) (fun u185 H185 locs185 hp185 hP hS => ?_)
                            obtain ⟨σ185, τ185⟩ := u185
                            obtain ⟨hR, f185, fL185, hp185_0⟩ : P_X12_code σ177 τ177 r4 (σ145 387 14) (σ177 387 14) σ185 τ185 := hp185
                            have cd := hp185_0
                            have fc := f185
                            have hP : va_P D vwCl (gw cA ad σ185 τ185) H185 := hP
                            obtain rfl := FrL.nil fL185
                            have hF := hF.step f185 (by decide)
                            have gMK := gMK.ag (Agr.fr f185 (by decide))
                            have gMT := gMT.ag (Agr.fr f185 (by decide))
                            have gSN := gSN.ag (Agr.fr f185 (by decide))
                            have gWJ := gWJ.ag (Agr.fr f185 (by decide))
                            have t186 : (σ185 387 40).toInt = (σ177 387 40).toInt := congrArg Int32.toInt (f185.at 387 40 (by decide))
                            have t187 : (σ185 387 41).toInt = (σ177 387 41).toInt := congrArg Int32.toInt (f185.at 387 41 (by decide))
                            have t188 : (σ185 387 39).toInt = (σ177 387 39).toInt := congrArg Int32.toInt (f185.at 387 39 (by decide))
                            have t189 : (σ185 387 42).toInt = (σ177 387 42).toInt := congrArg Int32.toInt (f185.at 387 42 (by decide))
                            have t190 : (σ185 387 11).toInt = (σ177 387 11).toInt := congrArg Int32.toInt (f185.at 387 11 (by decide))
                            have t191 : (σ185 387 14).toInt = (σ177 387 14).toInt := congrArg Int32.toInt (f185.at 387 14 (by decide))
                            have hr192 := rg_12_38 hR (k := 387) (by decide) (by decide)
                            have gPV := PW.leaf gPW (by omega) cd (by omega) fc (by decide) (by omega)
                            obtain ⟨cc0, hcc1, hcc2, _, _⟩ := id cd
                            refine lv_aload_n hx hb dX12_operand_249 rfl (lv_at hl 4 rfl) ?_
                            refine r_cVv (k := 387) (As := []) (rest := []) ⟨hx, hb, hml, hown, hts⟩ hK hP hN hS (c_X12_next_v l D cA ad hI σ185 τ177 hR _ _ _ _ gMK.mp gMT) (cwV 0 hts gX12_operand_X12_next rfl rfl rfl (by decide +kernel) ⟨by decide, by decide⟩) (rv_M hK hP (by decide) (by decide)) rfl hl.1 rfl (Nat.le_of_ble_eq_true rfl) dX12_operand_250 (Nat.zero_le _) (Nat.zero_le _) (fun u193 H193 locs193 hp193 hP hS => ?_)
                            obtain ⟨σ193, τ193⟩ := u193
                            obtain ⟨hR, f193, fL193, hp193_0, hp193_1, hp193_2, hp193_3, gnMT⟩ : P_X12_next_v σ185 τ177 _ _ _ _ σ193 τ193 := hp193
                            have hP : va_P D vwCl (gw cA ad σ193 τ193) H193 := hP
                            clear hp177_1
                            have hFL := hFL.step fL193 (by decide)
                            have gRV := gRV.agL (AgrL.fr fL193 (by decide))
                            have gWJ := gWJ.agL (AgrL.fr fL193 (by decide))
                            have hF := hF.step f193 (by decide)
                            have gMT := gMT.ag (Agr.fr f193 (by decide))
                            have gPV := PV.fr gPV hR f193 (by decide)
                            have gSN := gSN.ag (Agr.fr f193 (by decide))
                            have gWJ := gWJ.ag (Agr.fr f193 (by decide))
                            have t194 : (σ193 387 40).toInt = (σ185 387 40).toInt := congrArg Int32.toInt (f193.at 387 40 (by decide))
                            have t195 : (σ193 387 41).toInt = (σ185 387 41).toInt := congrArg Int32.toInt (f193.at 387 41 (by decide))
                            have t196 : (σ193 387 39).toInt = (σ185 387 39).toInt := congrArg Int32.toInt (f193.at 387 39 (by decide))
                            have t197 : (σ193 387 42).toInt = (σ185 387 42).toInt := congrArg Int32.toInt (f193.at 387 42 (by decide))
                            have t198 : (σ193 387 38).toInt = (σ185 387 38).toInt := congrArg Int32.toInt (f193.at 387 38 (by decide))
                            have gMK := hp193_3
                            refine r_iconst hx hb dX12_operand_253 (by decide) (fun z199 ez199 => ?_)
                            exact r_zret hx hb hr hK hP hS hk (by omega) dX12_operand_254 (show P_X12_operand σ0 τ0 b N mo q nn K nm hc z199 σ193 τ193 from ⟨hR, hF, hFL, by omega, by first | exact Or.inl (by omega) | exact Or.inr gPV, by omega, by omega, by first | (exfalso; omega) | exact MO.ofk (ope_x (by omega)) (by omega) (by omega) (by omega) | exact MO.ofk (ope_4 (by omega) (by omega)) (by omega) (by omega) (by omega) | exact MO.ofr (ope_n (by omega) (by omega) (by omega)) (by omega) ⟨gMK, by show _ = ((nn + 1 : Nat) : Int); omega, SN.deep (x := false) gSN (by omega) (by omega) ua (by show _ = (20 : Int); omega) ub (by omega) ud (by omega), by show _ = (0 : Int); omega⟩ | exact MO.ofr (ope_o (by omega) (by omega) (by omega)) (by omega) ⟨gMK, by show _ = ((nn + 1 : Nat) : Int); omega, SN.deep (x := true) gSN (by omega) (by omega) ua (by show _ = (23 : Int); omega) ub (by omega) ud (by omega), by show _ = (0 : Int); omega⟩ | exact MO.ofr (ope_l (by omega) (by omega) (by omega) (by omega) (by omega) (lea_n (by omega) (by omega))) (by omega) ⟨gMK, by show _ = ((nn + 1 : Nat) : Int); omega, gSN, by show _ = (1 : Int); omega⟩ | (obtain ⟨f, e1, x1, x2⟩ := o1.no (by omega); exact MO.ofl (ope_l (by omega) (by omega) (by omega) (by omega) (by omega) (lea_onl (by omega) e1)) (by omega) x1 x2) | exact MO.ofr (ope_l (by omega) (by omega) (by omega) (by omega) (by omega) (lea_onr (by omega) e1)) (by omega) ⟨gMK, by show _ = ((nn + 1 : Nat) : Int); omega, gSN, by show _ = (1 : Int); omega⟩ | exact MO.ofk (ope_l (by omega) (by omega) (by omega) (by omega) (by omega) (lea_m1 (by omega) (by omega))) (by omega) (by omega) (by omega) | exact MO.ofk (ope_l (by omega) (by omega) (by omega) (by omega) (by omega) (lea_m2 (by omega) (by omega) (by omega))) (by omega) (by omega) (by omega) | exact MO.ofr (ope_l (by omega) (by omega) (by omega) (by omega) (by omega) (lea_m3 (by omega) (by omega) (by omega))) (by omega) ⟨gMK, by show _ = ((nn + 1 : Nat) : Int); omega, gSN, by show _ = (1 : Int); omega⟩, gMT, gRV, gWJ⟩)
                          · have hk2 : tkq b N mo (nxq b N mo (nxq b N mo q)) ≠ 46 := fun h => by have h9 := hkd.2.1.mpr h; omega
                            clear hkd
                            refine lv_aload_n hx hb dX12_operand_232 rfl (lv_at hl 4 rfl) ?_
                            refine r_iconst hx hb dX12_operand_233 (by decide) (fun z200 ez200 => ?_)
                            refine r_cVi (k := 387) (As := [.int z200]) (rest := []) ⟨hx, hb, hml, hown, hts⟩ hK hP hN hS (c_X12_bad_v l D cA ad hI σ177 τ177 hR z200 _ _ _ _ (by omega) gMK) (cwV 1 hts gX12_operand_X12_bad rfl rfl rfl (by decide +kernel) ⟨by decide, by decide⟩) (rv_M hK hP (by decide) (by decide)) rfl hl.1 rfl (Nat.le_of_ble_eq_true rfl) dX12_operand_234 (Nat.zero_le _) (Nat.zero_le _) (fun r201 u201 H201 locs201 hp201 hP hS => ?_)
                            obtain ⟨σ201, τ201⟩ := u201
                            obtain ⟨hR, f201, fL201, hq201, hp201_0, hp201_1, hp201_2, gnMK⟩ : P_X12_bad_v σ177 τ177 z200 _ _ _ _ r201 σ201 τ201 := hp201
                            have hP : va_P D vwCl (gw cA ad σ201 τ201) H201 := hP
                            obtain rfl := FrL.nil fL201
                            have hF := hF.step f201 (by decide)
                            have gMK := gMK.ag (Agr.fr f201 (by decide))
                            have gMT := gMT.ag (Agr.fr f201 (by decide))
                            have gPW := PW.fr gPW hR f201 (by decide)
                            have gSN := gSN.ag (Agr.fr f201 (by decide))
                            have gWJ := gWJ.ag (Agr.fr f201 (by decide))
                            have t202 : (σ201 387 38).toInt = (σ177 387 38).toInt := congrArg Int32.toInt (f201.at 387 38 (by decide))
                            have t203 : (σ201 387 40).toInt = (σ177 387 40).toInt := congrArg Int32.toInt (f201.at 387 40 (by decide))
                            have t204 : (σ201 387 41).toInt = (σ177 387 41).toInt := congrArg Int32.toInt (f201.at 387 41 (by decide))
                            have t205 : (σ201 387 39).toInt = (σ177 387 39).toInt := congrArg Int32.toInt (f201.at 387 39 (by decide))
                            have t206 : (σ201 387 42).toInt = (σ177 387 42).toInt := congrArg Int32.toInt (f201.at 387 42 (by decide))
                            have t207 : (σ201 387 11).toInt = (σ177 387 11).toInt := congrArg Int32.toInt (f201.at 387 11 (by decide))
                            exact r_zret hx hb hr hK hP hS hk (by omega) dX12_operand_237 (show P_X12_operand σ0 τ0 b N mo q nn K nm hc r201 σ201 τ177 from ⟨hR, hF, hFL, by omega, by first | exact Or.inl (by omega) | exact Or.inr gPV, by omega, by omega, by first | (exfalso; omega) | exact MO.ofk (ope_x (by omega)) (by omega) (by omega) (by omega) | exact MO.ofk (ope_4 (by omega) (by omega)) (by omega) (by omega) (by omega) | exact MO.ofr (ope_n (by omega) (by omega) (by omega)) (by omega) ⟨gMK, by show _ = ((nn + 1 : Nat) : Int); omega, SN.deep (x := false) gSN (by omega) (by omega) ua (by show _ = (20 : Int); omega) ub (by omega) ud (by omega), by show _ = (0 : Int); omega⟩ | exact MO.ofr (ope_o (by omega) (by omega) (by omega)) (by omega) ⟨gMK, by show _ = ((nn + 1 : Nat) : Int); omega, SN.deep (x := true) gSN (by omega) (by omega) ua (by show _ = (23 : Int); omega) ub (by omega) ud (by omega), by show _ = (0 : Int); omega⟩ | exact MO.ofr (ope_l (by omega) (by omega) (by omega) (by omega) (by omega) (lea_n (by omega) (by omega))) (by omega) ⟨gMK, by show _ = ((nn + 1 : Nat) : Int); omega, gSN, by show _ = (1 : Int); omega⟩ | (obtain ⟨f, e1, x1, x2⟩ := o1.no (by omega); exact MO.ofl (ope_l (by omega) (by omega) (by omega) (by omega) (by omega) (lea_onl (by omega) e1)) (by omega) x1 x2) | exact MO.ofr (ope_l (by omega) (by omega) (by omega) (by omega) (by omega) (lea_onr (by omega) e1)) (by omega) ⟨gMK, by show _ = ((nn + 1 : Nat) : Int); omega, gSN, by show _ = (1 : Int); omega⟩ | exact MO.ofk (ope_l (by omega) (by omega) (by omega) (by omega) (by omega) (lea_m1 (by omega) (by omega))) (by omega) (by omega) (by omega) | exact MO.ofk (ope_l (by omega) (by omega) (by omega) (by omega) (by omega) (lea_m2 (by omega) (by omega) (by omega))) (by omega) (by omega) (by omega) | exact MO.ofr (ope_l (by omega) (by omega) (by omega) (by omega) (by omega) (lea_m3 (by omega) (by omega) (by omega))) (by omega) ⟨gMK, by show _ = ((nn + 1 : Nat) : Int); omega, gSN, by show _ = (1 : Int); omega⟩, gMT, gRV, gWJ⟩)
                        · have hm2 : ¬ (41 ≤ tkq b N mo (nxq b N mo q) ∧ tkq b N mo (nxq b N mo q) ≤ 43) := fun h => by have h9 := hms.mpr h; omega
                          clear hms
                          refine lv_aload_n hx hb dX12_operand_208 rfl (lv_at hl 3 rfl) ?_
                          refine r_iconst hx hb dX12_operand_209 (by decide) (fun z208 ez208 => ?_)
                          refine r_cVi (k := 387) (As := [.int z208]) (rest := []) ⟨hx, hb, hml, hown, hts⟩ hK hP hN hS (c_X12_bad_v l D cA ad hI σ145 τ136 hR z208 _ _ _ _ (by omega) gMK) (cwV 1 hts gX12_operand_X12_bad rfl rfl rfl (by decide +kernel) ⟨by decide, by decide⟩) (rv_M hK hP (by decide) (by decide)) rfl hl.1 rfl (Nat.le_of_ble_eq_true rfl) dX12_operand_210 (Nat.zero_le _) (Nat.zero_le _) (fun r209 u209 H209 locs209 hp209 hP hS => ?_)
                          obtain ⟨σ209, τ209⟩ := u209
                          obtain ⟨hR, f209, fL209, hq209, hp209_0, hp209_1, hp209_2, gnMK⟩ : P_X12_bad_v σ145 τ136 z208 _ _ _ _ r209 σ209 τ209 := hp209
                          have hP : va_P D vwCl (gw cA ad σ209 τ209) H209 := hP
                          obtain rfl := FrL.nil fL209
                          have hF := hF.step f209 (by decide)
                          have gMK := gMK.ag (Agr.fr f209 (by decide))
                          have gMT := gMT.ag (Agr.fr f209 (by decide))
                          have gPW := PW.fr gPW hR f209 (by decide)
                          have gSN := gSN.ag (Agr.fr f209 (by decide))
                          have gWJ := gWJ.ag (Agr.fr f209 (by decide))
                          have t210 : (σ209 387 38).toInt = (σ145 387 38).toInt := congrArg Int32.toInt (f209.at 387 38 (by decide))
                          have t211 : (σ209 387 40).toInt = (σ145 387 40).toInt := congrArg Int32.toInt (f209.at 387 40 (by decide))
                          have t212 : (σ209 387 41).toInt = (σ145 387 41).toInt := congrArg Int32.toInt (f209.at 387 41 (by decide))
                          have t213 : (σ209 387 39).toInt = (σ145 387 39).toInt := congrArg Int32.toInt (f209.at 387 39 (by decide))
                          have t214 : (σ209 387 42).toInt = (σ145 387 42).toInt := congrArg Int32.toInt (f209.at 387 42 (by decide))
                          have t215 : (σ209 387 11).toInt = (σ145 387 11).toInt := congrArg Int32.toInt (f209.at 387 11 (by decide))
                          have t216 : (σ209 387 14).toInt = (σ145 387 14).toInt := congrArg Int32.toInt (f209.at 387 14 (by decide))
                          exact r_zret hx hb hr hK hP hS hk (by omega) dX12_operand_213 (show P_X12_operand σ0 τ0 b N mo q nn K nm hc r209 σ209 τ136 from ⟨hR, hF, hFL, by omega, by first | exact Or.inl (by omega) | exact Or.inr gPV, by omega, by omega, by first | (exfalso; omega) | exact MO.ofk (ope_x (by omega)) (by omega) (by omega) (by omega) | exact MO.ofk (ope_4 (by omega) (by omega)) (by omega) (by omega) (by omega) | exact MO.ofr (ope_n (by omega) (by omega) (by omega)) (by omega) ⟨gMK, by show _ = ((nn + 1 : Nat) : Int); omega, SN.deep (x := false) gSN (by omega) (by omega) ua (by show _ = (20 : Int); omega) ub (by omega) ud (by omega), by show _ = (0 : Int); omega⟩ | exact MO.ofr (ope_o (by omega) (by omega) (by omega)) (by omega) ⟨gMK, by show _ = ((nn + 1 : Nat) : Int); omega, SN.deep (x := true) gSN (by omega) (by omega) ua (by show _ = (23 : Int); omega) ub (by omega) ud (by omega), by show _ = (0 : Int); omega⟩ | exact MO.ofr (ope_l (by omega) (by omega) (by omega) (by omega) (by omega) (lea_n (by omega) (by omega))) (by omega) ⟨gMK, by show _ = ((nn + 1 : Nat) : Int); omega, gSN, by show _ = (1 : Int); omega⟩ | (obtain ⟨f, e1, x1, x2⟩ := o1.no (by omega); exact MO.ofl (ope_l (by omega) (by omega) (by omega) (by omega) (by omega) (lea_onl (by omega) e1)) (by omega) x1 x2) | exact MO.ofr (ope_l (by omega) (by omega) (by omega) (by omega) (by omega) (lea_onr (by omega) e1)) (by omega) ⟨gMK, by show _ = ((nn + 1 : Nat) : Int); omega, gSN, by show _ = (1 : Int); omega⟩ | exact MO.ofk (ope_l (by omega) (by omega) (by omega) (by omega) (by omega) (lea_m1 (by omega) (by omega))) (by omega) (by omega) (by omega) | exact MO.ofk (ope_l (by omega) (by omega) (by omega) (by omega) (by omega) (lea_m2 (by omega) (by omega) (by omega))) (by omega) (by omega) (by omega) | exact MO.ofr (ope_l (by omega) (by omega) (by omega) (by omega) (by omega) (lea_m3 (by omega) (by omega) (by omega))) (by omega) ⟨gMK, by show _ = ((nn + 1 : Nat) : Int); omega, gSN, by show _ = (1 : Int); omega⟩, gMT, gRV, gWJ⟩)
                  · have al2 := (al.resolve_right (fun c => by omega)).2
                    clear al
                    have hwb2 := gWJ.1
                    refine lv_aload_n hx hb dX12_operand_150 rfl (lv_at hl 3 rfl) ?_
                    refine r_iconst hx hb dX12_operand_151 (by decide) (fun z217 ez217 => ?_)
                    refine lv_aload_n hx hb dX12_operand_152 rfl (lv_at hl 3 rfl) ?_
                    refine fg_12_6 (k := 387) hx hb hts in_X12_operand_12 hown hK hP (by decide) (by decide) (hts _ lk_X12_operand_33) dX12_operand_153 ?_
                    refine r_iconst hx hb dX12_operand_156 (by decide) (fun z218 ez218 => ?_)
                    refine ad_ms (k := 389) (j := 0) hx hb hK hP (by decide) (by decide) (by omega) (by omega) dX12_operand_157 ?_
                    have hr219 := ra_ms_0 hR (k := 389) (j := 0) (by decide) (by decide) (by decide) (by decide)
                    refine r_cVi (k := 387) (As := [.int z217, .int (σ145 389 0)]) (rest := []) ⟨hx, hb, hml, hown, hts⟩ hK hP hN hS (c_X12_looksAt_w l D cA ad hI σ145 τ136 hR z217 (σ145 389 0) b N mo _ nm hc (by omega) (by omega) (by omega) (by omega) (by omega) gMK gRV gWJ) (cwV 2 hts gX12_operand_X12_looksAt rfl rfl rfl (by decide +kernel) ⟨by decide, by decide⟩) (rv_M hK hP (by decide) (by decide)) rfl hl.1 rfl (Nat.le_of_ble_eq_true rfl) dX12_operand_158 (Nat.zero_le _) (Nat.zero_le _) (fun r220 u220 H220 locs220 hp220 hP hS => ?_)
                    obtain ⟨σ220, τ220⟩ := u220
                    obtain ⟨hR, f220, fL220, hq220, hp220_0, hp220_1, hp220_2, gnMK, gnRV, gnWJ⟩ : P_X12_looksAt_w σ145 τ136 z217 (σ145 389 0) b N mo _ nm hc r220 σ220 τ220 := hp220
                    have o1 := hp220_2
                    have hP : va_P D vwCl (gw cA ad σ220 τ220) H220 := hP
                    obtain rfl := FrL.nil fL220
                    have hF := hF.step f220 (by decide)
                    have gMK := gMK.ag (Agr.fr f220 (by decide))
                    have gMT := gMT.ag (Agr.fr f220 (by decide))
                    have gPW := PW.fr gPW hR f220 (by decide)
                    have gSN := gSN.ag (Agr.fr f220 (by decide))
                    have gWJ := gWJ.ag (Agr.fr f220 (by decide))
                    have t221 : (σ220 387 38).toInt = (σ145 387 38).toInt := congrArg Int32.toInt (f220.at 387 38 (by decide))
                    have t222 : (σ220 387 40).toInt = (σ145 387 40).toInt := congrArg Int32.toInt (f220.at 387 40 (by decide))
                    have t223 : (σ220 387 41).toInt = (σ145 387 41).toInt := congrArg Int32.toInt (f220.at 387 41 (by decide))
                    have t224 : (σ220 387 39).toInt = (σ145 387 39).toInt := congrArg Int32.toInt (f220.at 387 39 (by decide))
                    have t225 : (σ220 387 42).toInt = (σ145 387 42).toInt := congrArg Int32.toInt (f220.at 387 42 (by decide))
                    refine r_if_ne (tgt := 166) hx hb dX12_operand_161 (by decide) (fun c226 => ?_) (fun c226 => ?_)
                    · replace hp220_0 := hp220_0.resolve_left (by omega)
                      replace hp220_1 := hp220_1.resolve_left (by omega)
                      obtain ⟨k1, e1, ek⟩ := o1.ye (by omega)
                      refine lv_aload_n hx hb dX12_operand_166 rfl (lv_at hl 3 rfl) ?_
                      refine lv_iload_n hx hb dX12_operand_167 rfl (lv_at hl 0 rfl) ?_
                      refine r_iconst hx hb dX12_operand_168 (by decide) (fun z227 ez227 => ?_)
                      refine lv_aload_n hx hb dX12_operand_169 rfl (lv_at hl 3 rfl) ?_
                      refine fg_12_18 (k := 387) hx hb hts in_X12_operand_12 hown hK hP (by decide) (by decide) (hts _ lk_X12_operand_195) dX12_operand_170 ?_
                      refine r_cVv (k := 387) (As := [.int r4, .int z227, .int (σ220 387 18)]) (rest := []) ⟨hx, hb, hml, hown, hts⟩ hK hP hN hS (c_X12_code l D cA ad hI σ220 τ136 hR r4 z227 (σ220 387 18) (by omega) (by omega) (by omega)) (cwV 3 hts gX12_operand_X12_code rfl rfl rfl (by decide +kernel) ⟨by decide, by decide⟩) (rv_M hK hP (by decide) (by decide)) rfl hl.1 rfl (Nat.le_of_ble_eq_true rfl) dX12_operand_173 (Nat.zero_le _) (Nat.zero_le _) (fun u228 H228 locs228 hp228 hP hS => ?_)
                      obtain ⟨σ228, τ228⟩ := u228
                      obtain ⟨hR, f228, fL228, hp228_0⟩ : P_X12_code σ220 τ136 r4 z227 (σ220 387 18) σ228 τ228 := hp228
                      have cd := hp228_0
                      have fc := f228
                      have hP : va_P D vwCl (gw cA ad σ228 τ228) H228 := hP
                      obtain rfl := FrL.nil fL228
                      have hF := hF.step f228 (by decide)
                      have gMK := gMK.ag (Agr.fr f228 (by decide))
                      have gMT := gMT.ag (Agr.fr f228 (by decide))
                      have gSN := gSN.ag (Agr.fr f228 (by decide))
                      have gWJ := gWJ.ag (Agr.fr f228 (by decide))
                      have t229 : (σ228 387 40).toInt = (σ220 387 40).toInt := congrArg Int32.toInt (f228.at 387 40 (by decide))
                      have t230 : (σ228 387 41).toInt = (σ220 387 41).toInt := congrArg Int32.toInt (f228.at 387 41 (by decide))
                      have t231 : (σ228 387 39).toInt = (σ220 387 39).toInt := congrArg Int32.toInt (f228.at 387 39 (by decide))
                      have t232 : (σ228 387 42).toInt = (σ220 387 42).toInt := congrArg Int32.toInt (f228.at 387 42 (by decide))
                      have t233 : (σ228 387 18).toInt = (σ220 387 18).toInt := congrArg Int32.toInt (f228.at 387 18 (by decide))
                      have hr234 := rg_12_38 hR (k := 387) (by decide) (by decide)
                      have gPV := PW.leaf gPW (by omega) cd (by omega) fc (by decide) (by omega)
                      obtain ⟨cc0, hcc1, hcc2, _, _⟩ := id cd
                      refine lv_aload_n hx hb dX12_operand_176 rfl (lv_at hl 3 rfl) ?_
                      refine r_cVv (k := 387) (As := []) (rest := []) ⟨hx, hb, hml, hown, hts⟩ hK hP hN hS (c_X12_next_v l D cA ad hI σ228 τ136 hR _ _ _ _ gMK.mp gMT) (cwV 0 hts gX12_operand_X12_next rfl rfl rfl (by decide +kernel) ⟨by decide, by decide⟩) (rv_M hK hP (by decide) (by decide)) rfl hl.1 rfl (Nat.le_of_ble_eq_true rfl) dX12_operand_177 (Nat.zero_le _) (Nat.zero_le _) (fun u235 H235 locs235 hp235 hP hS => ?_)
                      obtain ⟨σ235, τ235⟩ := u235
                      obtain ⟨hR, f235, fL235, hp235_0, hp235_1, hp235_2, hp235_3, gnMT⟩ : P_X12_next_v σ228 τ136 _ _ _ _ σ235 τ235 := hp235
                      have hP : va_P D vwCl (gw cA ad σ235 τ235) H235 := hP
                      clear hp136_1
                      have hFL := hFL.step fL235 (by decide)
                      have gRV := gRV.agL (AgrL.fr fL235 (by decide))
                      have gWJ := gWJ.agL (AgrL.fr fL235 (by decide))
                      have hF := hF.step f235 (by decide)
                      have gMT := gMT.ag (Agr.fr f235 (by decide))
                      have gPV := PV.fr gPV hR f235 (by decide)
                      have gSN := gSN.ag (Agr.fr f235 (by decide))
                      have gWJ := gWJ.ag (Agr.fr f235 (by decide))
                      have t236 : (σ235 387 40).toInt = (σ228 387 40).toInt := congrArg Int32.toInt (f235.at 387 40 (by decide))
                      have t237 : (σ235 387 41).toInt = (σ228 387 41).toInt := congrArg Int32.toInt (f235.at 387 41 (by decide))
                      have t238 : (σ235 387 39).toInt = (σ228 387 39).toInt := congrArg Int32.toInt (f235.at 387 39 (by decide))
                      have t239 : (σ235 387 42).toInt = (σ228 387 42).toInt := congrArg Int32.toInt (f235.at 387 42 (by decide))
                      have t240 : (σ235 387 18).toInt = (σ228 387 18).toInt := congrArg Int32.toInt (f235.at 387 18 (by decide))
                      have t241 : (σ235 387 38).toInt = (σ228 387 38).toInt := congrArg Int32.toInt (f235.at 387 38 (by decide))
                      have gMK := hp235_3
                      refine r_iconst hx hb dX12_operand_180 (by decide) (fun z242 ez242 => ?_)
                      exact r_zret hx hb hr hK hP hS hk (by omega) dX12_operand_181 (show P_X12_operand σ0 τ0 b N mo q nn K nm hc z242 σ235 τ235 from ⟨hR, hF, hFL, by omega, by first | exact Or.inl (by omega) | exact Or.inr gPV, by omega, by omega, by first | (exfalso; omega) | exact MO.ofk (ope_x (by omega)) (by omega) (by omega) (by omega) | exact MO.ofk (ope_4 (by omega) (by omega)) (by omega) (by omega) (by omega) | exact MO.ofr (ope_n (by omega) (by omega) (by omega)) (by omega) ⟨gMK, by show _ = ((nn + 1 : Nat) : Int); omega, SN.deep (x := false) gSN (by omega) (by omega) ua (by show _ = (20 : Int); omega) ub (by omega) ud (by omega), by show _ = (0 : Int); omega⟩ | exact MO.ofr (ope_o (by omega) (by omega) (by omega)) (by omega) ⟨gMK, by show _ = ((nn + 1 : Nat) : Int); omega, SN.deep (x := true) gSN (by omega) (by omega) ua (by show _ = (23 : Int); omega) ub (by omega) ud (by omega), by show _ = (0 : Int); omega⟩ | exact MO.ofr (ope_l (by omega) (by omega) (by omega) (by omega) (by omega) (lea_n (by omega) (by omega))) (by omega) ⟨gMK, by show _ = ((nn + 1 : Nat) : Int); omega, gSN, by show _ = (1 : Int); omega⟩ | (obtain ⟨f, e1, x1, x2⟩ := o1.no (by omega); exact MO.ofl (ope_l (by omega) (by omega) (by omega) (by omega) (by omega) (lea_onl (by omega) e1)) (by omega) x1 x2) | exact MO.ofr (ope_l (by omega) (by omega) (by omega) (by omega) (by omega) (lea_onr (by omega) e1)) (by omega) ⟨gMK, by show _ = ((nn + 1 : Nat) : Int); omega, gSN, by show _ = (1 : Int); omega⟩ | exact MO.ofk (ope_l (by omega) (by omega) (by omega) (by omega) (by omega) (lea_m1 (by omega) (by omega))) (by omega) (by omega) (by omega) | exact MO.ofk (ope_l (by omega) (by omega) (by omega) (by omega) (by omega) (lea_m2 (by omega) (by omega) (by omega))) (by omega) (by omega) (by omega) | exact MO.ofr (ope_l (by omega) (by omega) (by omega) (by omega) (by omega) (lea_m3 (by omega) (by omega) (by omega))) (by omega) ⟨gMK, by show _ = ((nn + 1 : Nat) : Int); omega, gSN, by show _ = (1 : Int); omega⟩, gMT, gRV, gWJ⟩)
                    · clear hp220_0 hp220_1
                      refine r_iconst hx hb dX12_operand_164 (by decide) (fun z243 ez243 => ?_)
                      exact r_zret hx hb hr hK hP hS hk (by omega) dX12_operand_165 (show P_X12_operand σ0 τ0 b N mo q nn K nm hc z243 σ220 τ136 from ⟨hR, hF, hFL, by omega, by first | exact Or.inl (by omega) | exact Or.inr gPV, by omega, by omega, by first | (exfalso; omega) | exact MO.ofk (ope_x (by omega)) (by omega) (by omega) (by omega) | exact MO.ofk (ope_4 (by omega) (by omega)) (by omega) (by omega) (by omega) | exact MO.ofr (ope_n (by omega) (by omega) (by omega)) (by omega) ⟨gMK, by show _ = ((nn + 1 : Nat) : Int); omega, SN.deep (x := false) gSN (by omega) (by omega) ua (by show _ = (20 : Int); omega) ub (by omega) ud (by omega), by show _ = (0 : Int); omega⟩ | exact MO.ofr (ope_o (by omega) (by omega) (by omega)) (by omega) ⟨gMK, by show _ = ((nn + 1 : Nat) : Int); omega, SN.deep (x := true) gSN (by omega) (by omega) ua (by show _ = (23 : Int); omega) ub (by omega) ud (by omega), by show _ = (0 : Int); omega⟩ | exact MO.ofr (ope_l (by omega) (by omega) (by omega) (by omega) (by omega) (lea_n (by omega) (by omega))) (by omega) ⟨gMK, by show _ = ((nn + 1 : Nat) : Int); omega, gSN, by show _ = (1 : Int); omega⟩ | (obtain ⟨f, e1, x1, x2⟩ := o1.no (by omega); exact MO.ofl (ope_l (by omega) (by omega) (by omega) (by omega) (by omega) (lea_onl (by omega) e1)) (by omega) x1 x2) | exact MO.ofr (ope_l (by omega) (by omega) (by omega) (by omega) (by omega) (lea_onr (by omega) e1)) (by omega) ⟨gMK, by show _ = ((nn + 1 : Nat) : Int); omega, gSN, by show _ = (1 : Int); omega⟩ | exact MO.ofk (ope_l (by omega) (by omega) (by omega) (by omega) (by omega) (lea_m1 (by omega) (by omega))) (by omega) (by omega) (by omega) | exact MO.ofk (ope_l (by omega) (by omega) (by omega) (by omega) (by omega) (lea_m2 (by omega) (by omega) (by omega))) (by omega) (by omega) (by omega) | exact MO.ofr (ope_l (by omega) (by omega) (by omega) (by omega) (by omega) (lea_m3 (by omega) (by omega) (by omega))) (by omega) ⟨gMK, by show _ = ((nn + 1 : Nat) : Int); omega, gSN, by show _ = (1 : Int); omega⟩, gMT, gRV, gWJ⟩)
                · have al2 := ((al.resolve_left (fun c => by omega)).resolve_left (fun c => by omega)).2.2
                  clear al
                  refine lv_aload_n hx hb dX12_operand_136 rfl (lv_at hl 3 rfl) ?_
                  refine lv_iload_n hx hb dX12_operand_137 rfl (lv_at hl 0 rfl) ?_
                  refine r_iconst hx hb dX12_operand_138 (by decide) (fun z244 ez244 => ?_)
                  refine r_iconst hx hb dX12_operand_139 (by decide) (fun z245 ez245 => ?_)
                  refine r_cVv (k := 387) (As := [.int r4, .int z244, .int z245]) (rest := []) ⟨hx, hb, hml, hown, hts⟩ hK hP hN hS (c_X12_code l D cA ad hI σ145 τ136 hR r4 z244 z245 (by omega) (by omega) (by omega)) (cwV 3 hts gX12_operand_X12_code rfl rfl rfl (by decide +kernel) ⟨by decide, by decide⟩) (rv_M hK hP (by decide) (by decide)) rfl hl.1 rfl (Nat.le_of_ble_eq_true rfl) dX12_operand_140 (Nat.zero_le _) (Nat.zero_le _) (fun u246 H246 locs246 hp246 hP hS => ?_)
                  obtain ⟨σ246, τ246⟩ := u246
                  obtain ⟨hR, f246, fL246, hp246_0⟩ : P_X12_code σ145 τ136 r4 z244 z245 σ246 τ246 := hp246
                  have cd := hp246_0
                  have fc := f246
                  have hP : va_P D vwCl (gw cA ad σ246 τ246) H246 := hP
                  obtain rfl := FrL.nil fL246
                  have hF := hF.step f246 (by decide)
                  have gMK := gMK.ag (Agr.fr f246 (by decide))
                  have gMT := gMT.ag (Agr.fr f246 (by decide))
                  have gSN := gSN.ag (Agr.fr f246 (by decide))
                  have gWJ := gWJ.ag (Agr.fr f246 (by decide))
                  have t247 : (σ246 387 40).toInt = (σ145 387 40).toInt := congrArg Int32.toInt (f246.at 387 40 (by decide))
                  have t248 : (σ246 387 41).toInt = (σ145 387 41).toInt := congrArg Int32.toInt (f246.at 387 41 (by decide))
                  have t249 : (σ246 387 39).toInt = (σ145 387 39).toInt := congrArg Int32.toInt (f246.at 387 39 (by decide))
                  have t250 : (σ246 387 42).toInt = (σ145 387 42).toInt := congrArg Int32.toInt (f246.at 387 42 (by decide))
                  have hr251 := rg_12_38 hR (k := 387) (by decide) (by decide)
                  have gPV := PW.leaf gPW (by omega) cd (by omega) fc (by decide) (by omega)
                  obtain ⟨cc0, hcc1, hcc2, _, _⟩ := id cd
                  refine r_iconst hx hb dX12_operand_143 (by decide) (fun z252 ez252 => ?_)
                  exact r_zret hx hb hr hK hP hS hk (by omega) dX12_operand_144 (show P_X12_operand σ0 τ0 b N mo q nn K nm hc z252 σ246 τ136 from ⟨hR, hF, hFL, by omega, by first | exact Or.inl (by omega) | exact Or.inr gPV, by omega, by omega, by first | (exfalso; omega) | exact MO.ofk (ope_x (by omega)) (by omega) (by omega) (by omega) | exact MO.ofk (ope_4 (by omega) (by omega)) (by omega) (by omega) (by omega) | exact MO.ofr (ope_n (by omega) (by omega) (by omega)) (by omega) ⟨gMK, by show _ = ((nn + 1 : Nat) : Int); omega, SN.deep (x := false) gSN (by omega) (by omega) ua (by show _ = (20 : Int); omega) ub (by omega) ud (by omega), by show _ = (0 : Int); omega⟩ | exact MO.ofr (ope_o (by omega) (by omega) (by omega)) (by omega) ⟨gMK, by show _ = ((nn + 1 : Nat) : Int); omega, SN.deep (x := true) gSN (by omega) (by omega) ua (by show _ = (23 : Int); omega) ub (by omega) ud (by omega), by show _ = (0 : Int); omega⟩ | exact MO.ofr (ope_l (by omega) (by omega) (by omega) (by omega) (by omega) (lea_n (by omega) (by omega))) (by omega) ⟨gMK, by show _ = ((nn + 1 : Nat) : Int); omega, gSN, by show _ = (1 : Int); omega⟩ | (obtain ⟨f, e1, x1, x2⟩ := o1.no (by omega); exact MO.ofl (ope_l (by omega) (by omega) (by omega) (by omega) (by omega) (lea_onl (by omega) e1)) (by omega) x1 x2) | exact MO.ofr (ope_l (by omega) (by omega) (by omega) (by omega) (by omega) (lea_onr (by omega) e1)) (by omega) ⟨gMK, by show _ = ((nn + 1 : Nat) : Int); omega, gSN, by show _ = (1 : Int); omega⟩ | exact MO.ofk (ope_l (by omega) (by omega) (by omega) (by omega) (by omega) (lea_m1 (by omega) (by omega))) (by omega) (by omega) (by omega) | exact MO.ofk (ope_l (by omega) (by omega) (by omega) (by omega) (by omega) (lea_m2 (by omega) (by omega) (by omega))) (by omega) (by omega) (by omega) | exact MO.ofr (ope_l (by omega) (by omega) (by omega) (by omega) (by omega) (lea_m3 (by omega) (by omega) (by omega))) (by omega) ⟨gMK, by show _ = ((nn + 1 : Nat) : Int); omega, gSN, by show _ = (1 : Int); omega⟩, gMT, gRV, gWJ⟩)
              · exfalso; omega
          · refine lv_aload_n hx hb dX12_operand_56 rfl (lv_at hl 3 rfl) ?_
            refine r_iconst hx hb dX12_operand_57 (by decide) (fun z253 ez253 => ?_)
            refine r_cVi (k := 387) (As := [.int z253]) (rest := []) ⟨hx, hb, hml, hown, hts⟩ hK hP hN hS (c_X12_bad_v l D cA ad hI σ0 τ0 hR z253 _ _ _ _ (by omega) gMK) (cwV 1 hts gX12_operand_X12_bad rfl rfl rfl (by decide +kernel) ⟨by decide, by decide⟩) (rv_M hK hP (by decide) (by decide)) rfl hl.1 rfl (Nat.le_of_ble_eq_true rfl) dX12_operand_58 (Nat.zero_le _) (Nat.zero_le _) (fun r254 u254 H254 locs254 hp254 hP hS => ?_)
            obtain ⟨σ254, τ254⟩ := u254
            obtain ⟨hR, f254, fL254, hq254, hp254_0, hp254_1, hp254_2, gnMK⟩ : P_X12_bad_v σ0 τ0 z253 _ _ _ _ r254 σ254 τ254 := hp254
            have hP : va_P D vwCl (gw cA ad σ254 τ254) H254 := hP
            obtain rfl := FrL.nil fL254
            have hF := hF.step f254 (by decide)
            have gMK := gMK.ag (Agr.fr f254 (by decide))
            have gMT := gMT.ag (Agr.fr f254 (by decide))
            have gPV := PV.fr gPV hR f254 (by decide)
            have gPW := PW.fr gPW hR f254 (by decide)
            have gSN := gSN.ag (Agr.fr f254 (by decide))
            have gWJ := gWJ.ag (Agr.fr f254 (by decide))
            have t255 : (σ254 387 38).toInt = (σ0 387 38).toInt := congrArg Int32.toInt (f254.at 387 38 (by decide))
            have t256 : (σ254 387 39).toInt = (σ0 387 39).toInt := congrArg Int32.toInt (f254.at 387 39 (by decide))
            have t257 : (σ254 387 40).toInt = (σ0 387 40).toInt := congrArg Int32.toInt (f254.at 387 40 (by decide))
            have t258 : (σ254 387 42).toInt = (σ0 387 42).toInt := congrArg Int32.toInt (f254.at 387 42 (by decide))
            have t259 : (σ254 387 41).toInt = (σ0 387 41).toInt := congrArg Int32.toInt (f254.at 387 41 (by decide))
            exact r_zret hx hb hr hK hP hS hk (by omega) dX12_operand_61 (show P_X12_operand σ0 τ0 b N mo q nn K nm hc r254 σ254 τ0 from ⟨hR, hF, hFL, by omega, by first | exact Or.inl (by omega) | exact Or.inr gPV, by omega, by omega, by first | (exfalso; omega) | exact MO.ofk (ope_x (by omega)) (by omega) (by omega) (by omega) | exact MO.ofk (ope_4 (by omega) (by omega)) (by omega) (by omega) (by omega) | exact MO.ofr (ope_n (by omega) (by omega) (by omega)) (by omega) ⟨gMK, by show _ = ((nn + 1 : Nat) : Int); omega, SN.deep (x := false) gSN (by omega) (by omega) ua (by show _ = (20 : Int); omega) ub (by omega) ud (by omega), by show _ = (0 : Int); omega⟩ | exact MO.ofr (ope_o (by omega) (by omega) (by omega)) (by omega) ⟨gMK, by show _ = ((nn + 1 : Nat) : Int); omega, SN.deep (x := true) gSN (by omega) (by omega) ua (by show _ = (23 : Int); omega) ub (by omega) ud (by omega), by show _ = (0 : Int); omega⟩ | exact MO.ofr (ope_l (by omega) (by omega) (by omega) (by omega) (by omega) (lea_n (by omega) (by omega))) (by omega) ⟨gMK, by show _ = ((nn + 1 : Nat) : Int); omega, gSN, by show _ = (1 : Int); omega⟩ | (obtain ⟨f, e1, x1, x2⟩ := o1.no (by omega); exact MO.ofl (ope_l (by omega) (by omega) (by omega) (by omega) (by omega) (lea_onl (by omega) e1)) (by omega) x1 x2) | exact MO.ofr (ope_l (by omega) (by omega) (by omega) (by omega) (by omega) (lea_onr (by omega) e1)) (by omega) ⟨gMK, by show _ = ((nn + 1 : Nat) : Int); omega, gSN, by show _ = (1 : Int); omega⟩ | exact MO.ofk (ope_l (by omega) (by omega) (by omega) (by omega) (by omega) (lea_m1 (by omega) (by omega))) (by omega) (by omega) (by omega) | exact MO.ofk (ope_l (by omega) (by omega) (by omega) (by omega) (by omega) (lea_m2 (by omega) (by omega) (by omega))) (by omega) (by omega) (by omega) | exact MO.ofr (ope_l (by omega) (by omega) (by omega) (by omega) (by omega) (lea_m3 (by omega) (by omega) (by omega))) (by omega) ⟨gMK, by show _ = ((nn + 1 : Nat) : Int); omega, gSN, by show _ = (1 : Int); omega⟩, gMT, gRV, gWJ⟩)
      · have al := (alf.resolve_right (fun c => by omega)).2
        clear alf
        refine lv_aload_n hx hb dX12_operand_32 rfl (lv_at hl 3 rfl) ?_
        refine r_iconst hx hb dX12_operand_33 (by decide) (fun z260 ez260 => ?_)
        refine r_cVi (k := 387) (As := [.int z260]) (rest := []) ⟨hx, hb, hml, hown, hts⟩ hK hP hN hS (c_X12_bad_v l D cA ad hI σ0 τ0 hR z260 _ _ _ _ (by omega) gMK) (cwV 1 hts gX12_operand_X12_bad rfl rfl rfl (by decide +kernel) ⟨by decide, by decide⟩) (rv_M hK hP (by decide) (by decide)) rfl hl.1 rfl (Nat.le_of_ble_eq_true rfl) dX12_operand_34 (Nat.zero_le _) (Nat.zero_le _) (fun r261 u261 H261 locs261 hp261 hP hS => ?_)
        obtain ⟨σ261, τ261⟩ := u261
        obtain ⟨hR, f261, fL261, hq261, hp261_0, hp261_1, hp261_2, gnMK⟩ : P_X12_bad_v σ0 τ0 z260 _ _ _ _ r261 σ261 τ261 := hp261
        have hP : va_P D vwCl (gw cA ad σ261 τ261) H261 := hP
        obtain rfl := FrL.nil fL261
        have hF := hF.step f261 (by decide)
        have gMK := gMK.ag (Agr.fr f261 (by decide))
        have gMT := gMT.ag (Agr.fr f261 (by decide))
        have gPV := PV.fr gPV hR f261 (by decide)
        have gPW := PW.fr gPW hR f261 (by decide)
        have gSN := gSN.ag (Agr.fr f261 (by decide))
        have gWJ := gWJ.ag (Agr.fr f261 (by decide))
        have t262 : (σ261 387 38).toInt = (σ0 387 38).toInt := congrArg Int32.toInt (f261.at 387 38 (by decide))
        have t263 : (σ261 387 39).toInt = (σ0 387 39).toInt := congrArg Int32.toInt (f261.at 387 39 (by decide))
        have t264 : (σ261 387 40).toInt = (σ0 387 40).toInt := congrArg Int32.toInt (f261.at 387 40 (by decide))
        have t265 : (σ261 387 42).toInt = (σ0 387 42).toInt := congrArg Int32.toInt (f261.at 387 42 (by decide))
        exact r_zret hx hb hr hK hP hS hk (by omega) dX12_operand_37 (show P_X12_operand σ0 τ0 b N mo q nn K nm hc r261 σ261 τ0 from ⟨hR, hF, hFL, by omega, by first | exact Or.inl (by omega) | exact Or.inr gPV, by omega, by omega, by first | (exfalso; omega) | exact MO.ofk (ope_x (by omega)) (by omega) (by omega) (by omega) | exact MO.ofk (ope_4 (by omega) (by omega)) (by omega) (by omega) (by omega) | exact MO.ofr (ope_n (by omega) (by omega) (by omega)) (by omega) ⟨gMK, by show _ = ((nn + 1 : Nat) : Int); omega, SN.deep (x := false) gSN (by omega) (by omega) ua (by show _ = (20 : Int); omega) ub (by omega) ud (by omega), by show _ = (0 : Int); omega⟩ | exact MO.ofr (ope_o (by omega) (by omega) (by omega)) (by omega) ⟨gMK, by show _ = ((nn + 1 : Nat) : Int); omega, SN.deep (x := true) gSN (by omega) (by omega) ua (by show _ = (23 : Int); omega) ub (by omega) ud (by omega), by show _ = (0 : Int); omega⟩ | exact MO.ofr (ope_l (by omega) (by omega) (by omega) (by omega) (by omega) (lea_n (by omega) (by omega))) (by omega) ⟨gMK, by show _ = ((nn + 1 : Nat) : Int); omega, gSN, by show _ = (1 : Int); omega⟩ | (obtain ⟨f, e1, x1, x2⟩ := o1.no (by omega); exact MO.ofl (ope_l (by omega) (by omega) (by omega) (by omega) (by omega) (lea_onl (by omega) e1)) (by omega) x1 x2) | exact MO.ofr (ope_l (by omega) (by omega) (by omega) (by omega) (by omega) (lea_onr (by omega) e1)) (by omega) ⟨gMK, by show _ = ((nn + 1 : Nat) : Int); omega, gSN, by show _ = (1 : Int); omega⟩ | exact MO.ofk (ope_l (by omega) (by omega) (by omega) (by omega) (by omega) (lea_m1 (by omega) (by omega))) (by omega) (by omega) (by omega) | exact MO.ofk (ope_l (by omega) (by omega) (by omega) (by omega) (by omega) (lea_m2 (by omega) (by omega) (by omega))) (by omega) (by omega) (by omega) | exact MO.ofr (ope_l (by omega) (by omega) (by omega) (by omega) (by omega) (lea_m3 (by omega) (by omega) (by omega))) (by omega) ⟨gMK, by show _ = ((nn + 1 : Nat) : Int); omega, gSN, by show _ = (1 : Int); omega⟩, gMT, gRV, gWJ⟩)
