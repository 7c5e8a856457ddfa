theorem lk_X12_leafOf_107 : Cond.constantLong RX12 107 (7302244) ∈ wsX12_leafOf := by decide +kernel
theorem lk_X12_leafOf_109 : Cond.constantLong RX12 109 (1684365670) ∈ wsX12_leafOf := by decide +kernel
theorem lk_X12_leafOf_133 : Cond.constantLong RX12 133 (495925031534) ∈ wsX12_leafOf := by decide +kernel
theorem lk_X12_leafOf_135 : Cond.constantLong RX12 135 (1818846564) ∈ wsX12_leafOf := by decide +kernel
theorem lk_X12_leafOf_137 : Cond.constantLong RX12 137 (28526) ∈ wsX12_leafOf := by decide +kernel
theorem lk_X12_leafOf_139 : Cond.constantLong RX12 139 (448377483876) ∈ wsX12_leafOf := by decide +kernel
theorem lk_X12_leafOf_141 : Cond.constantLong RX12 141 (1668245870) ∈ wsX12_leafOf := by decide +kernel
theorem lk_X12_leafOf_143 : Cond.constantLong RX12 143 (495874699877) ∈ wsX12_leafOf := by decide +kernel
theorem lk_X12_leafOf_145 : Cond.constantLong RX12 145 (6644082) ∈ wsX12_leafOf := by decide +kernel
theorem lk_X12_leafOf_147 : Cond.constantLong RX12 147 (121450625394034) ∈ wsX12_leafOf := by decide +kernel
abbrev L_X12_leafOf : List Rc := []
abbrev LL_X12_leafOf : List Rc := []
def P_X12_leafOf (σ0 : Nat → Nat → Int32) (τ0 : Nat → Nat → Int64) (b : Nat → Int) (N : Nat) (mo : Nat) (q : Nat) (r : Int32) (σ : Nat → Nat → Int32) (τ : Nat → Nat → Int64) : Prop := Rg σ ∧ Fr L_X12_leafOf σ0 σ ∧ FrL LL_X12_leafOf τ0 τ ∧ (-1 ≤ r.toInt ∧ r.toInt ≤ 9) ∧ ((r.toInt = -1 ∧ (tkq b N mo q < 10 ∨ (12 ≤ tkq b N mo q ∧ tkq b N mo q ≤ 22) ∨ 30 < tkq b N mo q)) ∨ (r.toInt = 5 ∧ tkq b N mo q = 25) ∨ (6 ≤ r.toInt ∧ r.toInt ≤ 9 ∧ 27 ≤ tkq b N mo q ∧ tkq b N mo q ≤ 30) ∨ (0 ≤ r.toInt ∧ r.toInt ≤ 4 ∧ ((10 ≤ tkq b N mo q ∧ tkq b N mo q ≤ 11) ∨ (23 ≤ tkq b N mo q ∧ tkq b N mo q ≤ 24) ∨ tkq b N mo q = 26))) ∧ MK σ τ b N mo q
set_option maxHeartbeats 4000000 in
theorem c_X12_leafOf (l : Launch) (D : va_G) (cA : Nat → ClassId) (ad : Nat → Nat) (hI : Inj ad) (σ0 : Nat → Nat → Int32) (τ0 : Nat → Nat → Int64) (hR : Rg σ0) (b : Nat → Int) (N : Nat) (mo : Nat) (q : Nat) (gMK0 : MK σ0 τ0 b N mo q) : Met l yX12_leafOf wsX12_leafOf ({ frames := 1, cells := 0, slots := 0, locals := 22 } : Room) (WQc D cA ad [.ref (ad 387)] σ0 τ0) (va_Qi (fun (r : Int32) (u : SS) => P_X12_leafOf σ0 τ0 b N mo q r u.1 u.2) (WB D cA ad) (AA ad)) 0 0 (AA ad) := by
  refine Met.ofW (cc := cX12_leafOf) (maxL := 1) (ret := (some .int)) (by decide) rfl ?_
  intro p e s m args below meth c s₁ B hml hv
  obtain ⟨rfl, hP, hK, hN⟩ := hv
  have C : Cy p s m _ meth c cX12_leafOf 1 wsX12_leafOf RX12 D cA ad (some .int) := ⟨B.exec, B.bytes, hml, findClass_of_methodNamed B.named, atoms_spec (ws := wsX12_leafOf) B.pre, hK, B.notSynchronized, B.returns, hI, hN⟩
  have hl := lv_entry ([.ref (ad 387)]) (n := 1) (Nat.le_of_ble_eq_true rfl)
  rw [lg_entry_eq]
  generalize (lg_sl ([.ref (ad 387)]) ++ List.replicate (1 - (lg_sl ([.ref (ad 387)])).length) Slot.unset).toArray = ls at hl ⊢
  have hl : lv_has ls 1 [(0, .ref (ad 387))] := hl
  have hS : va_S (AA ad) s.heap s.heap [] := va_S.rf
  have hF : Fr L_X12_leafOf σ0 σ0 := Fr.rf
  have hFL : FrL LL_X12_leafOf τ0 τ0 := FrL.rf
  have gMK := gMK0
  obtain ⟨hx, hb, _, hown, hts, _, hk, hr, _, _⟩ := C
  refine lv_aload_n hx hb dX12_leafOf_0 rfl (lv_at hl 0 rfl) ?_
  refine lv_ldc2 (v := 7302244) hx hb hown (hts _ lk_X12_leafOf_107) dX12_leafOf_1 ?_
  refine r_cVi (k := 387) (As := [.long (7302244)]) (rest := []) ⟨hx, hb, hml, hown, hts⟩ hK hP hN hS (c_X12_isWord_v l D cA ad hI σ0 τ0 hR (7302244) _ _ _ _ 10 (by decide) (by decide) gMK) (cwV 1 hts gX12_leafOf_X12_isWord rfl rfl rfl (by decide +kernel) ⟨by decide, by decide⟩) (rv_M hK hP (by decide) (by decide)) rfl hl.1 rfl (Nat.le_of_ble_eq_true rfl) dX12_leafOf_4 (Nat.zero_le _) (Nat.zero_le _) (fun r1 u1 H1 locs1 hp1 hP hS => ?_)
  obtain ⟨σ1, τ1⟩ := u1
  obtain ⟨hR, f1, fL1, hq1, hp1_0, hp1_1, gnMK⟩ : P_X12_isWord_v σ0 τ0 (7302244) _ _ _ _ 10 r1 σ1 τ1 := hp1
  have ia0 := hp1_1
  have hP : va_P D vwCl (gw cA ad σ1 τ1) H1 := hP
  obtain rfl := FrL.nil fL1
  obtain rfl := Fr.nil f1
  replace hp1_1 : True := trivial
  refine r_if_eq (tgt := 14) hx hb dX12_leafOf_7 (by decide) (fun c2 => ?_) (fun c2 => ?_)
  · clear hp1_0
    have na0 := (ia0.resolve_left (fun c => by omega)).2
    clear ia0
    refine lv_aload_n hx hb dX12_leafOf_14 rfl (lv_at hl 0 rfl) ?_
    refine lv_ldc2 (v := 1684365670) hx hb hown (hts _ lk_X12_leafOf_109) dX12_leafOf_15 ?_
    refine r_cVi (k := 387) (As := [.long (1684365670)]) (rest := []) ⟨hx, hb, hml, hown, hts⟩ hK hP hN hS (c_X12_isWord_v l D cA ad hI σ0 τ0 hR (1684365670) _ _ _ _ 11 (by decide) (by decide) gMK) (cwV 1 hts gX12_leafOf_X12_isWord rfl rfl rfl (by decide +kernel) ⟨by decide, by decide⟩) (rv_M hK hP (by decide) (by decide)) rfl hl.1 rfl (Nat.le_of_ble_eq_true rfl) dX12_leafOf_18 (Nat.zero_le _) (Nat.zero_le _) (fun r3 u3 H3 locs3 hp3 hP hS => ?_)
    obtain ⟨σ3, τ3⟩ := u3
    obtain ⟨hR, f3, fL3, hq3, hp3_0, hp3_1, gnMK⟩ : P_X12_isWord_v σ0 τ0 (1684365670) _ _ _ _ 11 r3 σ3 τ3 := hp3
    have ia1 := hp3_1
    have hP : va_P D vwCl (gw cA ad σ3 τ3) H3 := hP
    obtain rfl := FrL.nil fL3
    obtain rfl := Fr.nil f3
    replace hp3_1 : True := trivial
    refine r_if_eq (tgt := 28) hx hb dX12_leafOf_21 (by decide) (fun c4 => ?_) (fun c4 => ?_)
    · clear hp3_0
      have na1 := (ia1.resolve_left (fun c => by omega)).2
      clear ia1
      refine lv_aload_n hx hb dX12_leafOf_28 rfl (lv_at hl 0 rfl) ?_
      refine lv_ldc2 (v := 495925031534) hx hb hown (hts _ lk_X12_leafOf_133) dX12_leafOf_29 ?_
      refine r_cVi (k := 387) (As := [.long (495925031534)]) (rest := []) ⟨hx, hb, hml, hown, hts⟩ hK hP hN hS (c_X12_isWord_v l D cA ad hI σ0 τ0 hR (495925031534) _ _ _ _ 23 (by decide) (by decide) gMK) (cwV 1 hts gX12_leafOf_X12_isWord rfl rfl rfl (by decide +kernel) ⟨by decide, by decide⟩) (rv_M hK hP (by decide) (by decide)) rfl hl.1 rfl (Nat.le_of_ble_eq_true rfl) dX12_leafOf_32 (Nat.zero_le _) (Nat.zero_le _) (fun r5 u5 H5 locs5 hp5 hP hS => ?_)
      obtain ⟨σ5, τ5⟩ := u5
      obtain ⟨hR, f5, fL5, hq5, hp5_0, hp5_1, gnMK⟩ : P_X12_isWord_v σ0 τ0 (495925031534) _ _ _ _ 23 r5 σ5 τ5 := hp5
      have ia2 := hp5_1
      have hP : va_P D vwCl (gw cA ad σ5 τ5) H5 := hP
      obtain rfl := FrL.nil fL5
      obtain rfl := Fr.nil f5
      replace hp5_1 : True := trivial
      refine r_if_eq (tgt := 42) hx hb dX12_leafOf_35 (by decide) (fun c6 => ?_) (fun c6 => ?_)
      · clear hp5_0
        have na2 := (ia2.resolve_left (fun c => by omega)).2
        clear ia2
        refine lv_aload_n hx hb dX12_leafOf_42 rfl (lv_at hl 0 rfl) ?_
        refine lv_ldc2 (v := 1818846564) hx hb hown (hts _ lk_X12_leafOf_135) dX12_leafOf_43 ?_
        refine r_cVi (k := 387) (As := [.long (1818846564)]) (rest := []) ⟨hx, hb, hml, hown, hts⟩ hK hP hN hS (c_X12_isWord_v l D cA ad hI σ0 τ0 hR (1818846564) _ _ _ _ 24 (by decide) (by decide) gMK) (cwV 1 hts gX12_leafOf_X12_isWord rfl rfl rfl (by decide +kernel) ⟨by decide, by decide⟩) (rv_M hK hP (by decide) (by decide)) rfl hl.1 rfl (Nat.le_of_ble_eq_true rfl) dX12_leafOf_46 (Nat.zero_le _) (Nat.zero_le _) (fun r7 u7 H7 locs7 hp7 hP hS => ?_)
        obtain ⟨σ7, τ7⟩ := u7
        obtain ⟨hR, f7, fL7, hq7, hp7_0, hp7_1, gnMK⟩ : P_X12_isWord_v σ0 τ0 (1818846564) _ _ _ _ 24 r7 σ7 τ7 := hp7
        have ia3 := hp7_1
        have hP : va_P D vwCl (gw cA ad σ7 τ7) H7 := hP
        obtain rfl := FrL.nil fL7
        obtain rfl := Fr.nil f7
        replace hp7_1 : True := trivial
        refine r_if_eq (tgt := 56) hx hb dX12_leafOf_49 (by decide) (fun c8 => ?_) (fun c8 => ?_)
        · clear hp7_0
          have na3 := (ia3.resolve_left (fun c => by omega)).2
          clear ia3
          refine lv_aload_n hx hb dX12_leafOf_56 rfl (lv_at hl 0 rfl) ?_
          refine lv_ldc2 (v := 448377483876) hx hb hown (hts _ lk_X12_leafOf_139) dX12_leafOf_57 ?_
          refine r_cVi (k := 387) (As := [.long (448377483876)]) (rest := []) ⟨hx, hb, hml, hown, hts⟩ hK hP hN hS (c_X12_isWord_v l D cA ad hI σ0 τ0 hR (448377483876) _ _ _ _ 26 (by decide) (by decide) gMK) (cwV 1 hts gX12_leafOf_X12_isWord rfl rfl rfl (by decide +kernel) ⟨by decide, by decide⟩) (rv_M hK hP (by decide) (by decide)) rfl hl.1 rfl (Nat.le_of_ble_eq_true rfl) dX12_leafOf_60 (Nat.zero_le _) (Nat.zero_le _) (fun r9 u9 H9 locs9 hp9 hP hS => ?_)
          obtain ⟨σ9, τ9⟩ := u9
          obtain ⟨hR, f9, fL9, hq9, hp9_0, hp9_1, gnMK⟩ : P_X12_isWord_v σ0 τ0 (448377483876) _ _ _ _ 26 r9 σ9 τ9 := hp9
          have ia4 := hp9_1
          have hP : va_P D vwCl (gw cA ad σ9 τ9) H9 := hP
          obtain rfl := FrL.nil fL9
          obtain rfl := Fr.nil f9
          replace hp9_1 : True := trivial
          refine r_if_eq (tgt := 70) hx hb dX12_leafOf_63 (by decide) (fun c10 => ?_) (fun c10 => ?_)
          · clear hp9_0
            have na4 := (ia4.resolve_left (fun c => by omega)).2
            clear ia4
            refine lv_aload_n hx hb dX12_leafOf_70 rfl (lv_at hl 0 rfl) ?_
            refine lv_ldc2 (v := 28526) hx hb hown (hts _ lk_X12_leafOf_137) dX12_leafOf_71 ?_
            refine r_cVi (k := 387) (As := [.long (28526)]) (rest := []) ⟨hx, hb, hml, hown, hts⟩ hK hP hN hS (c_X12_isWord_v l D cA ad hI σ0 τ0 hR (28526) _ _ _ _ 25 (by decide) (by decide) gMK) (cwV 1 hts gX12_leafOf_X12_isWord rfl rfl rfl (by decide +kernel) ⟨by decide, by decide⟩) (rv_M hK hP (by decide) (by decide)) rfl hl.1 rfl (Nat.le_of_ble_eq_true rfl) dX12_leafOf_74 (Nat.zero_le _) (Nat.zero_le _) (fun r11 u11 H11 locs11 hp11 hP hS => ?_)
            obtain ⟨σ11, τ11⟩ := u11
            obtain ⟨hR, f11, fL11, hq11, hp11_0, hp11_1, gnMK⟩ : P_X12_isWord_v σ0 τ0 (28526) _ _ _ _ 25 r11 σ11 τ11 := hp11
            have ia5 := hp11_1
            have hP : va_P D vwCl (gw cA ad σ11 τ11) H11 := hP
            obtain rfl := FrL.nil fL11
            obtain rfl := Fr.nil f11
            replace hp11_1 : True := trivial
            refine r_if_eq (tgt := 84) hx hb dX12_leafOf_77 (by decide) (fun c12 => ?_) (fun c12 => ?_)
            · clear hp11_0
              have na5 := (ia5.resolve_left (fun c => by omega)).2
              clear ia5
              refine lv_aload_n hx hb dX12_leafOf_84 rfl (lv_at hl 0 rfl) ?_
              refine lv_ldc2 (v := 1668245870) hx hb hown (hts _ lk_X12_leafOf_141) dX12_leafOf_85 ?_
              refine r_cVi (k := 387) (As := [.long (1668245870)]) (rest := []) ⟨hx, hb, hml, hown, hts⟩ hK hP hN hS (c_X12_isWord_v l D cA ad hI σ0 τ0 hR (1668245870) _ _ _ _ 27 (by decide) (by decide) gMK) (cwV 1 hts gX12_leafOf_X12_isWord rfl rfl rfl (by decide +kernel) ⟨by decide, by decide⟩) (rv_M hK hP (by decide) (by decide)) rfl hl.1 rfl (Nat.le_of_ble_eq_true rfl) dX12_leafOf_88 (Nat.zero_le _) (Nat.zero_le _) (fun r13 u13 H13 locs13 hp13 hP hS => ?_)
              obtain ⟨σ13, τ13⟩ := u13
              obtain ⟨hR, f13, fL13, hq13, hp13_0, hp13_1, gnMK⟩ : P_X12_isWord_v σ0 τ0 (1668245870) _ _ _ _ 27 r13 σ13 τ13 := hp13
              have ia6 := hp13_1
              have hP : va_P D vwCl (gw cA ad σ13 τ13) H13 := hP
              obtain rfl := FrL.nil fL13
              obtain rfl := Fr.nil f13
              replace hp13_1 : True := trivial
              refine r_if_eq (tgt := 99) hx hb dX12_leafOf_91 (by decide) (fun c14 => ?_) (fun c14 => ?_)
              · clear hp13_0
                have na6 := (ia6.resolve_left (fun c => by omega)).2
                clear ia6
                refine lv_aload_n hx hb dX12_leafOf_99 rfl (lv_at hl 0 rfl) ?_
                refine lv_ldc2 (v := 495874699877) hx hb hown (hts _ lk_X12_leafOf_143) dX12_leafOf_100 ?_
                refine r_cVi (k := 387) (As := [.long (495874699877)]) (rest := []) ⟨hx, hb, hml, hown, hts⟩ hK hP hN hS (c_X12_isWord_v l D cA ad hI σ0 τ0 hR (495874699877) _ _ _ _ 28 (by decide) (by decide) gMK) (cwV 1 hts gX12_leafOf_X12_isWord rfl rfl rfl (by decide +kernel) ⟨by decide, by decide⟩) (rv_M hK hP (by decide) (by decide)) rfl hl.1 rfl (Nat.le_of_ble_eq_true rfl) dX12_leafOf_103 (Nat.zero_le _) (Nat.zero_le _) (fun r15 u15 H15 locs15 hp15 hP hS => ?_)
                obtain ⟨σ15, τ15⟩ := u15
                obtain ⟨hR, f15, fL15, hq15, hp15_0, hp15_1, gnMK⟩ : P_X12_isWord_v σ0 τ0 (495874699877) _ _ _ _ 28 r15 σ15 τ15 := hp15
                have ia7 := hp15_1
                have hP : va_P D vwCl (gw cA ad σ15 τ15) H15 := hP
                obtain rfl := FrL.nil fL15
                obtain rfl := Fr.nil f15
                replace hp15_1 : True := trivial
                refine r_if_eq (tgt := 114) hx hb dX12_leafOf_106 (by decide) (fun c16 => ?_) (fun c16 => ?_)
                · clear hp15_0
                  have na7 := (ia7.resolve_left (fun c => by omega)).2
                  clear ia7
                  refine lv_aload_n hx hb dX12_leafOf_114 rfl (lv_at hl 0 rfl) ?_
                  refine lv_ldc2 (v := 6644082) hx hb hown (hts _ lk_X12_leafOf_145) dX12_leafOf_115 ?_
                  refine r_cVi (k := 387) (As := [.long (6644082)]) (rest := []) ⟨hx, hb, hml, hown, hts⟩ hK hP hN hS (c_X12_isWord_v l D cA ad hI σ0 τ0 hR (6644082) _ _ _ _ 29 (by decide) (by decide) gMK) (cwV 1 hts gX12_leafOf_X12_isWord rfl rfl rfl (by decide +kernel) ⟨by decide, by decide⟩) (rv_M hK hP (by decide) (by decide)) rfl hl.1 rfl (Nat.le_of_ble_eq_true rfl) dX12_leafOf_118 (Nat.zero_le _) (Nat.zero_le _) (fun r17 u17 H17 locs17 hp17 hP hS => ?_)
                  obtain ⟨σ17, τ17⟩ := u17
                  obtain ⟨hR, f17, fL17, hq17, hp17_0, hp17_1, gnMK⟩ : P_X12_isWord_v σ0 τ0 (6644082) _ _ _ _ 29 r17 σ17 τ17 := hp17
                  have ia8 := hp17_1
                  have hP : va_P D vwCl (gw cA ad σ17 τ17) H17 := hP
                  obtain rfl := FrL.nil fL17
                  obtain rfl := Fr.nil f17
                  replace hp17_1 : True := trivial
                  refine r_if_eq (tgt := 129) hx hb dX12_leafOf_121 (by decide) (fun c18 => ?_) (fun c18 => ?_)
                  · clear hp17_0
                    have na8 := (ia8.resolve_left (fun c => by omega)).2
                    clear ia8
                    refine lv_aload_n hx hb dX12_leafOf_129 rfl (lv_at hl 0 rfl) ?_
                    refine lv_ldc2 (v := 121450625394034) hx hb hown (hts _ lk_X12_leafOf_147) dX12_leafOf_130 ?_
                    refine r_cVi (k := 387) (As := [.long (121450625394034)]) (rest := []) ⟨hx, hb, hml, hown, hts⟩ hK hP hN hS (c_X12_isWord_v l D cA ad hI σ0 τ0 hR (121450625394034) _ _ _ _ 30 (by decide) (by decide) gMK) (cwV 1 hts gX12_leafOf_X12_isWord rfl rfl rfl (by decide +kernel) ⟨by decide, by decide⟩) (rv_M hK hP (by decide) (by decide)) rfl hl.1 rfl (Nat.le_of_ble_eq_true rfl) dX12_leafOf_133 (Nat.zero_le _) (Nat.zero_le _) (fun r19 u19 H19 locs19 hp19 hP hS => ?_)
                    obtain ⟨σ19, τ19⟩ := u19
                    obtain ⟨hR, f19, fL19, hq19, hp19_0, hp19_1, gnMK⟩ : P_X12_isWord_v σ0 τ0 (121450625394034) _ _ _ _ 30 r19 σ19 τ19 := hp19
                    have ia9 := hp19_1
                    have hP : va_P D vwCl (gw cA ad σ19 τ19) H19 := hP
                    obtain rfl := FrL.nil fL19
                    obtain rfl := Fr.nil f19
                    replace hp19_1 : True := trivial
                    refine r_if_eq (tgt := 144) hx hb dX12_leafOf_136 (by decide) (fun c20 => ?_) (fun c20 => ?_)
                    · clear hp19_0
                      have na9 := (ia9.resolve_left (fun c => by omega)).2
                      clear ia9
                      refine r_iconst hx hb dX12_leafOf_144 (by decide) (fun z21 ez21 => ?_)
                      exact r_iret hx hb hr hK hP hS hk dX12_leafOf_145 (show P_X12_leafOf σ0 τ0 b N mo q z21 σ0 τ0 from ⟨hR, hF, hFL, by omega, by first | exact Or.inr (Or.inl ⟨by omega, by omega⟩) | exact Or.inr (Or.inr (Or.inl ⟨by omega, by omega, by omega, by omega⟩)) | exact Or.inr (Or.inr (Or.inr ⟨by omega, by omega, by omega⟩)) | exact Or.inl ⟨by omega, by omega⟩, gMK⟩)
                    · replace hp19_0 := hp19_0.resolve_left (by omega)
                      have ea9 := (ia9.resolve_right (fun c => by omega)).2
                      clear ia9
                      refine r_bipush hx hb dX12_leafOf_139 (by decide) (fun z22 ez22 => ?_)
                      refine lv_goto (tgt := 145) hx hb dX12_leafOf_141 (by decide) ?_
                      exact r_iret hx hb hr hK hP hS hk dX12_leafOf_145 (show P_X12_leafOf σ0 τ0 b N mo q z22 σ0 τ0 from ⟨hR, hF, hFL, by omega, by first | exact Or.inr (Or.inl ⟨by omega, by omega⟩) | exact Or.inr (Or.inr (Or.inl ⟨by omega, by omega, by omega, by omega⟩)) | exact Or.inr (Or.inr (Or.inr ⟨by omega, by omega, by omega⟩)) | exact Or.inl ⟨by omega, by omega⟩, gMK⟩)
                  · replace hp17_0 := hp17_0.resolve_left (by omega)
                    have ea8 := (ia8.resolve_right (fun c => by omega)).2
                    clear ia8
                    refine r_bipush hx hb dX12_leafOf_124 (by decide) (fun z23 ez23 => ?_)
                    refine lv_goto (tgt := 145) hx hb dX12_leafOf_126 (by decide) ?_
                    exact r_iret hx hb hr hK hP hS hk dX12_leafOf_145 (show P_X12_leafOf σ0 τ0 b N mo q z23 σ0 τ0 from ⟨hR, hF, hFL, by omega, by first | exact Or.inr (Or.inl ⟨by omega, by omega⟩) | exact Or.inr (Or.inr (Or.inl ⟨by omega, by omega, by omega, by omega⟩)) | exact Or.inr (Or.inr (Or.inr ⟨by omega, by omega, by omega⟩)) | exact Or.inl ⟨by omega, by omega⟩, gMK⟩)
                · replace hp15_0 := hp15_0.resolve_left (by omega)
                  have ea7 := (ia7.resolve_right (fun c => by omega)).2
                  clear ia7
                  refine r_bipush hx hb dX12_leafOf_109 (by decide) (fun z24 ez24 => ?_)
                  refine lv_goto (tgt := 145) hx hb dX12_leafOf_111 (by decide) ?_
                  exact r_iret hx hb hr hK hP hS hk dX12_leafOf_145 (show P_X12_leafOf σ0 τ0 b N mo q z24 σ0 τ0 from ⟨hR, hF, hFL, by omega, by first | exact Or.inr (Or.inl ⟨by omega, by omega⟩) | exact Or.inr (Or.inr (Or.inl ⟨by omega, by omega, by omega, by omega⟩)) | exact Or.inr (Or.inr (Or.inr ⟨by omega, by omega, by omega⟩)) | exact Or.inl ⟨by omega, by omega⟩, gMK⟩)
              · replace hp13_0 := hp13_0.resolve_left (by omega)
                have ea6 := (ia6.resolve_right (fun c => by omega)).2
                clear ia6
                refine r_bipush hx hb dX12_leafOf_94 (by decide) (fun z25 ez25 => ?_)
                refine lv_goto (tgt := 145) hx hb dX12_leafOf_96 (by decide) ?_
                exact r_iret hx hb hr hK hP hS hk dX12_leafOf_145 (show P_X12_leafOf σ0 τ0 b N mo q z25 σ0 τ0 from ⟨hR, hF, hFL, by omega, by first | exact Or.inr (Or.inl ⟨by omega, by omega⟩) | exact Or.inr (Or.inr (Or.inl ⟨by omega, by omega, by omega, by omega⟩)) | exact Or.inr (Or.inr (Or.inr ⟨by omega, by omega, by omega⟩)) | exact Or.inl ⟨by omega, by omega⟩, gMK⟩)
            · replace hp11_0 := hp11_0.resolve_left (by omega)
              have ea5 := (ia5.resolve_right (fun c => by omega)).2
              clear ia5
              refine r_iconst hx hb dX12_leafOf_80 (by decide) (fun z26 ez26 => ?_)
              refine lv_goto (tgt := 145) hx hb dX12_leafOf_81 (by decide) ?_
              exact r_iret hx hb hr hK hP hS hk dX12_leafOf_145 (show P_X12_leafOf σ0 τ0 b N mo q z26 σ0 τ0 from ⟨hR, hF, hFL, by omega, by first | exact Or.inr (Or.inl ⟨by omega, by omega⟩) | exact Or.inr (Or.inr (Or.inl ⟨by omega, by omega, by omega, by omega⟩)) | exact Or.inr (Or.inr (Or.inr ⟨by omega, by omega, by omega⟩)) | exact Or.inl ⟨by omega, by omega⟩, gMK⟩)
          · replace hp9_0 := hp9_0.resolve_left (by omega)
            have ea4 := (ia4.resolve_right (fun c => by omega)).2
            clear ia4
            refine r_iconst hx hb dX12_leafOf_66 (by decide) (fun z27 ez27 => ?_)
            refine lv_goto (tgt := 145) hx hb dX12_leafOf_67 (by decide) ?_
            exact r_iret hx hb hr hK hP hS hk dX12_leafOf_145 (show P_X12_leafOf σ0 τ0 b N mo q z27 σ0 τ0 from ⟨hR, hF, hFL, by omega, by first | exact Or.inr (Or.inl ⟨by omega, by omega⟩) | exact Or.inr (Or.inr (Or.inl ⟨by omega, by omega, by omega, by omega⟩)) | exact Or.inr (Or.inr (Or.inr ⟨by omega, by omega, by omega⟩)) | exact Or.inl ⟨by omega, by omega⟩, gMK⟩)
        · replace hp7_0 := hp7_0.resolve_left (by omega)
          have ea3 := (ia3.resolve_right (fun c => by omega)).2
          clear ia3
          refine r_iconst hx hb dX12_leafOf_52 (by decide) (fun z28 ez28 => ?_)
          refine lv_goto (tgt := 145) hx hb dX12_leafOf_53 (by decide) ?_
          exact r_iret hx hb hr hK hP hS hk dX12_leafOf_145 (show P_X12_leafOf σ0 τ0 b N mo q z28 σ0 τ0 from ⟨hR, hF, hFL, by omega, by first | exact Or.inr (Or.inl ⟨by omega, by omega⟩) | exact Or.inr (Or.inr (Or.inl ⟨by omega, by omega, by omega, by omega⟩)) | exact Or.inr (Or.inr (Or.inr ⟨by omega, by omega, by omega⟩)) | exact Or.inl ⟨by omega, by omega⟩, gMK⟩)
      · replace hp5_0 := hp5_0.resolve_left (by omega)
        have ea2 := (ia2.resolve_right (fun c => by omega)).2
        clear ia2
        refine r_iconst hx hb dX12_leafOf_38 (by decide) (fun z29 ez29 => ?_)
        refine lv_goto (tgt := 145) hx hb dX12_leafOf_39 (by decide) ?_
        exact r_iret hx hb hr hK hP hS hk dX12_leafOf_145 (show P_X12_leafOf σ0 τ0 b N mo q z29 σ0 τ0 from ⟨hR, hF, hFL, by omega, by first | exact Or.inr (Or.inl ⟨by omega, by omega⟩) | exact Or.inr (Or.inr (Or.inl ⟨by omega, by omega, by omega, by omega⟩)) | exact Or.inr (Or.inr (Or.inr ⟨by omega, by omega, by omega⟩)) | exact Or.inl ⟨by omega, by omega⟩, gMK⟩)
    · replace hp3_0 := hp3_0.resolve_left (by omega)
      have ea1 := (ia1.resolve_right (fun c => by omega)).2
      clear ia1
      refine r_iconst hx hb dX12_leafOf_24 (by decide) (fun z30 ez30 => ?_)
      refine lv_goto (tgt := 145) hx hb dX12_leafOf_25 (by decide) ?_
      exact r_iret hx hb hr hK hP hS hk dX12_leafOf_145 (show P_X12_leafOf σ0 τ0 b N mo q z30 σ0 τ0 from ⟨hR, hF, hFL, by omega, by first | exact Or.inr (Or.inl ⟨by omega, by omega⟩) | exact Or.inr (Or.inr (Or.inl ⟨by omega, by omega, by omega, by omega⟩)) | exact Or.inr (Or.inr (Or.inr ⟨by omega, by omega, by omega⟩)) | exact Or.inl ⟨by omega, by omega⟩, gMK⟩)
  · replace hp1_0 := hp1_0.resolve_left (by omega)
    have ea0 := (ia0.resolve_right (fun c => by omega)).2
    clear ia0
    refine r_iconst hx hb dX12_leafOf_10 (by decide) (fun z31 ez31 => ?_)
    refine lv_goto (tgt := 145) hx hb dX12_leafOf_11 (by decide) ?_
    exact r_iret hx hb hr hK hP hS hk dX12_leafOf_145 (show P_X12_leafOf σ0 τ0 b N mo q z31 σ0 τ0 from ⟨hR, hF, hFL, by omega, by first | exact Or.inr (Or.inl ⟨by omega, by omega⟩) | exact Or.inr (Or.inr (Or.inl ⟨by omega, by omega, by omega, by omega⟩)) | exact Or.inr (Or.inr (Or.inr ⟨by omega, by omega, by omega⟩)) | exact Or.inl ⟨by omega, by omega⟩, gMK⟩)
abbrev L_X12_find_w : List Rc := []
abbrev LL_X12_find_w : List Rc := []
def P_X12_find_w (σ0 : Nat → Nat → Int32) (τ0 : Nat → Nat → Int64) (a1 : Int32) (a2 : Int32) (r : Int32) (σ : Nat → Nat → Int32) (τ : Nat → Nat → Int64) : Prop := Rg σ ∧ Fr L_X12_find_w σ0 σ ∧ FrL LL_X12_find_w τ0 τ ∧ (-1 ≤ r.toInt ∧ r.toInt ≤ 7) ∧ (r.toInt = -1 ∨ r.toInt < a2.toInt) ∧ (r.toInt = fndq (fun i => τ0 392 (a1.toInt.toNat + i)) (τ0 387 17) a2.toInt.toNat)
def J_X12_find_w_2 (p : Program) (l : Launch) (e : Env) (s : State) (m : MethodId) (args : Array Value) (below : List Frame) (meth : Method) (c : Code) (D : va_G) (cA : Nat → ClassId) (ad : Nat → Nat) (σ0 : Nat → Nat → Int32) (τ0 : Nat → Nat → Int64) (a1 : Int32) (a2 : Int32) (n : Nat) : Prop := ∀ (σ : Nat → Nat → Int32) (τ : Nat → Nat → Int64) (H : Heap) (locs : List Loc) (x3 : Int32) (ls : Array Slot), Rg σ → Fr L_X12_find_w σ0 σ → FrL LL_X12_find_w τ0 τ → va_P D vwCl (gw cA ad σ τ) H → va_S (AA ad) s.heap H locs → (0 ≤ x3.toInt ∧ x3.toInt ≤ 8) → (∀ i : Nat, (i : Int) < x3.toInt → τ0 392 (a1.toInt.toNat + i) ≠ τ0 387 17) → lv_has ls 4 [(0, .ref (ad 387)), (1, .int a1), (2, .int a2), (3, .int x3)] → 2 * (8 - x3.toInt) + 1 < (n : Int) → W p l e ({ frames := 0, cells := 0, slots := 0, locals := 0 } : Room) s m args below meth c H locs 0 0 (MQ below (va_Qi (fun (r : Int32) (u : SS) => P_X12_find_w σ0 τ0 a1 a2 r u.1 u.2) (WB D cA ad) (AA ad)) args s 0 0 (AA ad)) (F0 m 2 ls [])
set_option maxHeartbeats 4000000 in
theorem B_X12_find_w_2 (p : Program) (l : Launch) (e : Env) (s : State) (m : MethodId) (args : Array Value) (below : List Frame) (meth : Method) (c : Code) (D : va_G) (cA : Nat → ClassId) (ad : Nat → Nat) (σ0 : Nat → Nat → Int32) (τ0 : Nat → Nat → Int64) (a1 : Int32) (a2 : Int32) (n : Nat) (C : Cy p s m args meth c cX12_find 4 wsX12_find RX12 D cA ad (some .int)) (ha1 : 0 ≤ a1.toInt ∧ a1.toInt ≤ 0) (ha2 : 0 ≤ a2.toInt ∧ a2.toInt ≤ 8) (K2 : J_X12_find_w_2 p l e s m args below meth c D cA ad σ0 τ0 a1 a2 n) : J_X12_find_w_2 p l e s m args below meth c D cA ad σ0 τ0 a1 a2 (n + 1) := by
  obtain ⟨hx, hb, hml, hown, hts, hK, hk, hr, hI, hN⟩ := C
  intro σ τ H locs x3 ls hR hF hFL hP hS hc0 hi0 hl hm
  obtain rfl := Fr.nil hF
  obtain rfl := FrL.nil hFL
  refine lv_iload_n hx hb dX12_find_2 rfl (lv_at hl 3 rfl) ?_
  refine lv_iload_n hx hb dX12_find_3 rfl (lv_at hl 2 rfl) ?_
  refine r_icmp_ge (tgt := 31) hx hb dX12_find_4 (by decide) (fun c1 => ?_) (fun c1 => ?_)
  · refine r_iconst hx hb dX12_find_31 (by decide) (fun z2 ez2 => ?_)
    exact r_iret hx hb hr hK hP hS hk dX12_find_32 (show P_X12_find_w σ0 τ0 a1 a2 z2 σ0 τ0 from ⟨hR, hF, hFL, by omega, by omega, by first | (rw [fndq_at (i := x3.toInt.toNat) (show τ0 392 (a1.toInt.toNat + x3.toInt.toNat) = τ0 387 17 by rw [← show 0 = a1.toInt.toNat + x3.toInt.toNat by omega]; exact lc.mp (by omega)) (fun j hj => hi0 j (by omega)) (by omega)]; omega) | (rw [fndq_no (fun i hi => hi0 i (by omega))]; omega)⟩)
  · refine lv_aload_n hx hb dX12_find_7 rfl (lv_at hl 0 rfl) ?_
    refine fg_12_9 (k := 387) hx hb hts in_X12_find_12 hown hK hP (by decide) (by decide) (hts _ lk_X12_find_43) dX12_find_8 ?_
    refine lv_iload_n hx hb dX12_find_11 rfl (lv_at hl 1 rfl) ?_
    refine lv_iload_n hx hb dX12_find_12 rfl (lv_at hl 3 rfl) ?_
    refine r_iadd hx hb dX12_find_13 (by omega) (fun z3 ez3 => ?_)
    obtain ⟨j4, ej4⟩ : ∃ j : Nat, z3.toInt = (j : Int) := ⟨_, ti_nat (by omega)⟩
    refine adL_mnames (k := 392) (j := j4) hx hb hK hP (by decide) (by decide) ej4 (by omega) dX12_find_14 ?_
    refine lv_aload_n hx hb dX12_find_15 rfl (lv_at hl 0 rfl) ?_
    refine fg_12_17 (k := 387) hx hb hts in_X12_find_12 hown hK hP (by decide) (by decide) (hts _ lk_X12_find_172) dX12_find_16 ?_
    refine r_lcmpE hx hb dX12_find_19 (fun z5 ez5 => ?_)
    have lc := ez5
    refine r_if_ne (tgt := 25) hx hb dX12_find_20 (by decide) (fun c6 => ?_) (fun c6 => ?_)
    · refine r_iinc (k := 3) (lv1 := fun z7 => [(3, .int z7), (0, .ref (ad 387)), (1, .int a1), (2, .int a2)]) hx hb dX12_find_25 hl rfl (by decide) (fun _ => rfl) (by decide) (by omega) (fun z7 ls ez7 hl => ?_)
      refine lv_goto (tgt := 2) hx hb dX12_find_28 (by decide) ?_
      exact K2 σ0 τ0 H locs z7 ls hR hF hFL hP hS (by omega) (by first | exact (fun i hi => absurd hi (by omega)) | exact allS hi0 (fun g => absurd (lc.mpr (by rw [show j4 = a1.toInt.toNat + x3.toInt.toNat by omega]; exact g)) (by omega)) (by omega) (by omega)) (lv_sub hl [1, 2, 3, 0] rfl) (by omega)
    · refine lv_iload_n hx hb dX12_find_23 rfl (lv_at hl 3 rfl) ?_
      exact r_iret hx hb hr hK hP hS hk dX12_find_24 (show P_X12_find_w σ0 τ0 a1 a2 x3 σ0 τ0 from ⟨hR, hF, hFL, by omega, by omega, by first | (rw [fndq_at (i := x3.toInt.toNat) (show τ0 392 (a1.toInt.toNat + x3.toInt.toNat) = τ0 387 17 by rw [← show j4 = a1.toInt.toNat + x3.toInt.toNat by omega]; exact lc.mp (by omega)) (fun j hj => hi0 j (by omega)) (by omega)]; omega) | (rw [fndq_no (fun i hi => hi0 i (by omega))]; omega)⟩)
theorem A_X12_find_w (p : Program) (l : Launch) (e : Env) (s : State) (m : MethodId) (args : Array Value) (below : List Frame) (meth : Method) (c : Code) (D : va_G) (cA : Nat → ClassId) (ad : Nat → Nat) (σ0 : Nat → Nat → Int32) (τ0 : Nat → Nat → Int64) (a1 : Int32) (a2 : Int32) (C : Cy p s m args meth c cX12_find 4 wsX12_find RX12 D cA ad (some .int)) (ha1 : 0 ≤ a1.toInt ∧ a1.toInt ≤ 0) (ha2 : 0 ≤ a2.toInt ∧ a2.toInt ≤ 8) : ∀ n : Nat, J_X12_find_w_2 p l e s m args below meth c D cA ad σ0 τ0 a1 a2 n := by
  intro n
  induction n with
  | zero =>
    exact (by intro σ τ H locs x3 ls hR hF hFL hP hS hc0 hi0 hl hm; exfalso; omega)
  | succ n ih =>
    exact B_X12_find_w_2 p l e s m args below meth c D cA ad σ0 τ0 a1 a2 n C ha1 ha2 ih
set_option maxHeartbeats 4000000 in
theorem c_X12_find_w (l : Launch) (D : va_G) (cA : Nat → ClassId) (ad : Nat → Nat) (hI : Inj ad) (σ0 : Nat → Nat → Int32) (τ0 : Nat → Nat → Int64) (hR : Rg σ0) (a1 : Int32) (a2 : Int32) (ha1 : 0 ≤ a1.toInt ∧ a1.toInt ≤ 0) (ha2 : 0 ≤ a2.toInt ∧ a2.toInt ≤ 8) : Met l yX12_find wsX12_find ({ frames := 0, cells := 0, slots := 0, locals := 0 } : Room) (WQc D cA ad [.ref (ad 387), .int a1, .int a2] σ0 τ0) (va_Qi (fun (r : Int32) (u : SS) => P_X12_find_w σ0 τ0 a1 a2 r u.1 u.2) (WB D cA ad) (AA ad)) 0 0 (AA ad) := by
  refine Met.ofW (cc := cX12_find) (maxL := 4) (ret := (some .int)) (by decide) rfl ?_
  intro p e s m args below meth c s₁ B hml hv
  obtain ⟨rfl, hP, hK, hN⟩ := hv
  have C : Cy p s m _ meth c cX12_find 4 wsX12_find RX12 D cA ad (some .int) := ⟨B.exec, B.bytes, hml, findClass_of_methodNamed B.named, atoms_spec (ws := wsX12_find) B.pre, hK, B.notSynchronized, B.returns, hI, hN⟩
  have hl := lv_entry ([.ref (ad 387), .int a1, .int a2]) (n := 4) (Nat.le_of_ble_eq_true rfl)
  rw [lg_entry_eq]
  generalize (lg_sl ([.ref (ad 387), .int a1, .int a2]) ++ List.replicate (4 - (lg_sl ([.ref (ad 387), .int a1, .int a2])).length) Slot.unset).toArray = ls at hl ⊢
  have hl : lv_has ls 4 [(0, .ref (ad 387)), (1, .int a1), (2, .int a2)] := hl
  have hS : va_S (AA ad) s.heap s.heap [] := va_S.rf
  have hF : Fr L_X12_find_w σ0 σ0 := Fr.rf
  have hFL : FrL LL_X12_find_w τ0 τ0 := FrL.rf
  have hA := A_X12_find_w p l e s m _ below meth c D cA ad σ0 τ0 a1 a2 C ha1 ha2 42
  have K2 := hA
  clear hA
  obtain ⟨hx, hb, _, hown, hts, _, hk, hr, _, _⟩ := C
  refine r_iconst hx hb dX12_find_0 (by decide) (fun z1 ez1 => ?_)
  refine lv_istore_n (lv' := [(3, .int z1), (0, .ref (ad 387)), (1, .int a1), (2, .int a2)]) hx hb dX12_find_1 rfl hl (by decide) rfl (fun ls hl => ?_)
  exact K2 σ0 τ0 s.heap [] z1 ls hR hF hFL hP hS (by omega) (by first | exact (fun i hi => absurd hi (by omega)) | exact allS hi0 (fun g => absurd (lc.mpr (by rw [show 0 = a1.toInt.toNat + x3.toInt.toNat by omega]; exact g)) (by omega)) (by omega) (by omega)) (lv_sub hl [1, 2, 3, 0] rfl) (by omega)
abbrev L_X12_looksAt_w : List Rc := [(387, 387, 15, 16), (387, 387, 18, 18)]
abbrev LL_X12_looksAt_w : List Rc := []
def P_X12_looksAt_w (σ0 : Nat → Nat → Int32) (τ0 : Nat → Nat → Int64) (a1 : Int32) (a2 : Int32) (b : Nat → Int) (N : Nat) (mo : Nat) (q : Nat) (nm : Nat → Int) (hc : Nat) (r : Int32) (σ : Nat → Nat → Int32) (τ : Nat → Nat → Int64) : Prop := Rg σ ∧ Fr L_X12_looksAt_w σ0 σ ∧ FrL LL_X12_looksAt_w τ0 τ ∧ (0 ≤ r.toInt ∧ r.toInt ≤ 1) ∧ (r.toInt = 0 ∨ (0 ≤ (σ 387 18).toInt ∧ (σ 387 18).toInt ≤ 7)) ∧ (r.toInt = 0 ∨ 1 ≤ a2.toInt) ∧ (MO r σ (lokP b N mo nm hc q) (fun k => (σ 387 18).toInt = k)) ∧ (r.toInt = 0 ∨ (σ 387 15).toInt = (σ0 387 15).toInt) ∧ MK σ τ b N mo q ∧ RV τ  ∧ WJ σ τ nm hc
set_option maxHeartbeats 4000000 in
theorem c_X12_looksAt_w (l : Launch) (D : va_G) (cA : Nat → ClassId) (ad : Nat → Nat) (hI : Inj ad) (σ0 : Nat → Nat → Int32) (τ0 : Nat → Nat → Int64) (hR : Rg σ0) (a1 : Int32) (a2 : Int32) (b : Nat → Int) (N : Nat) (mo : Nat) (q : Nat) (nm : Nat → Int) (hc : Nat) (ha1 : 0 ≤ a1.toInt ∧ a1.toInt ≤ 0) (ha2 : 0 ≤ a2.toInt ∧ a2.toInt ≤ 8) (hpre0 : a1.toInt = 0) (hpre1 : a2.toInt = (hc : Int)) (hpre2 : hc ≤ 8) (gMK0 : MK σ0 τ0 b N mo q) (gRV0 : RV τ0 ) (gWJ0 : WJ σ0 τ0 nm hc) : Met l yX12_looksAt wsX12_looksAt ({ frames := 1, cells := 0, slots := 0, locals := 23 } : Room) (WQc D cA ad [.ref (ad 387), .int a1, .int a2] σ0 τ0) (va_Qi (fun (r : Int32) (u : SS) => P_X12_looksAt_w σ0 τ0 a1 a2 b N mo q nm hc r u.1 u.2) (WB D cA ad) (AA ad)) 0 0 (AA ad) := by
  refine Met.ofW (cc := cX12_looksAt) (maxL := 3) (ret := (some .boolean)) (by decide) rfl ?_
  intro p e s m args below meth c s₁ B hml hv
  obtain ⟨rfl, hP, hK, hN⟩ := hv
  have C : Cy p s m _ meth c cX12_looksAt 3 wsX12_looksAt RX12 D cA ad (some .boolean) := ⟨B.exec, B.bytes, hml, findClass_of_methodNamed B.named, atoms_spec (ws := wsX12_looksAt) B.pre, hK, B.notSynchronized, B.returns, hI, hN⟩
  have hl := lv_entry ([.ref (ad 387), .int a1, .int a2]) (n := 3) (Nat.le_of_ble_eq_true rfl)
  rw [lg_entry_eq]
  generalize (lg_sl ([.ref (ad 387), .int a1, .int a2]) ++ List.replicate (3 - (lg_sl ([.ref (ad 387), .int a1, .int a2])).length) Slot.unset).toArray = ls at hl ⊢
  have hl : lv_has ls 3 [(0, .ref (ad 387)), (1, .int a1), (2, .int a2)] := hl
  have hS : va_S (AA ad) s.heap s.heap [] := va_S.rf
  have hF : Fr L_X12_looksAt_w σ0 σ0 := Fr.rf
  have hFL : FrL LL_X12_looksAt_w τ0 τ0 := FrL.rf
  have gMK := gMK0
  have gRV := gRV0
  have gWJ := gWJ0
  obtain ⟨hx, hb, _, hown, hts, _, hk, hr, _, _⟩ := C
  refine lv_aload_n hx hb dX12_looksAt_0 rfl (lv_at hl 0 rfl) ?_
  refine r_cVi (k := 387) (As := []) (rest := []) ⟨hx, hb, hml, hown, hts⟩ hK hP hN hS (c_X12_isName_v l D cA ad hI σ0 τ0 hR _ _ _ _ gMK gRV) (cwV 0 hts gX12_looksAt_X12_isName rfl rfl rfl (by decide +kernel) ⟨by decide, by decide⟩) (rv_M hK hP (by decide) (by decide)) rfl hl.1 rfl (Nat.le_of_ble_eq_true rfl) dX12_looksAt_1 (Nat.zero_le _) (Nat.zero_le _) (fun r1 u1 H1 locs1 hp1 hP hS => ?_)
  obtain ⟨σ1, τ1⟩ := u1
  obtain ⟨hR, f1, fL1, hq1, hp1_0, gnMK, gnRV⟩ : P_X12_isName_v σ0 τ0 _ _ _ _ r1 σ1 τ1 := hp1
  have hP : va_P D vwCl (gw cA ad σ1 τ1) H1 := hP
  obtain rfl := FrL.nil fL1
  obtain rfl := Fr.nil f1
  refine r_if_ne (tgt := 13) hx hb dX12_looksAt_4 (by decide) (fun c2 => ?_) (fun c2 => ?_)
  · refine lv_aload_n hx hb dX12_looksAt_13 rfl (lv_at hl 0 rfl) ?_
    refine lv_aload_n hx hb dX12_looksAt_14 rfl (lv_at hl 0 rfl) ?_
    refine lv_iload_n hx hb dX12_looksAt_15 rfl (lv_at hl 1 rfl) ?_
    refine lv_iload_n hx hb dX12_looksAt_16 rfl (lv_at hl 2 rfl) ?_
    refine r_cVi (k := 387) (As := [.int a1, .int a2]) (rest := [.ref (ad 387)]) ⟨hx, hb, hml, hown, hts⟩ hK hP hN hS (c_X12_find_w l D cA ad hI σ0 τ0 hR a1 a2 (by omega) (by omega)) (cwV 2 hts gX12_looksAt_X12_find rfl rfl rfl (by decide +kernel) ⟨by decide, by decide⟩) (rv_M hK hP (by decide) (by decide)) rfl hl.1 rfl (Nat.le_of_ble_eq_true rfl) dX12_looksAt_17 (Nat.zero_le _) (Nat.zero_le _) (fun r3 u3 H3 locs3 hp3 hP hS => ?_)
    obtain ⟨σ3, τ3⟩ := u3
    obtain ⟨hR, f3, fL3, hq3, hp3_0, hp3_1⟩ : P_X12_find_w σ0 τ0 a1 a2 r3 σ3 τ3 := hp3
    have hP : va_P D vwCl (gw cA ad σ3 τ3) H3 := hP
    obtain rfl := FrL.nil fL3
    obtain rfl := Fr.nil f3
    have hfd := WJ.fa gWJ gMK (by omega) (show a1.toInt.toNat = 0 by omega) (show a2.toInt.toNat = hc by omega) hp3_1
    have hfr := fndq_rg nm (wdq b N q) hc
    refine fp_12_18 (k := 387) hx hb hts in_X12_looksAt_12 hown hK hP (by decide) (by decide) (hts _ lk_X12_looksAt_195) hI hR hS dX12_looksAt_20 (fun σ4 H4 locs4 u4 v4 hR hP hS => ?_)
    have hF := hF.puts u4 1 rfl (by decide) (by decide) (by decide) (by decide)
    have gMK := gMK.ag (Agr.put u4 (by decide))
    have gWJ := gWJ.ag (Agr.put u4 (by decide))
    have t5 : (σ4 387 15).toInt = (σ0 387 15).toInt := congrArg Int32.toInt (u4 387 15 (by omega))
    refine lv_aload_n hx hb dX12_looksAt_23 rfl (lv_at hl 0 rfl) ?_
    refine fg_12_18 (k := 387) hx hb hts in_X12_looksAt_12 hown hK hP (by decide) (by decide) (hts _ lk_X12_looksAt_195) dX12_looksAt_24 ?_
    refine r_if_ge (tgt := 38) hx hb dX12_looksAt_27 (by decide) (fun c6 => ?_) (fun c6 => ?_)
    · refine r_iconst hx hb dX12_looksAt_38 (by decide) (fun z7 ez7 => ?_)
      refine lv_goto (tgt := 43) hx hb dX12_looksAt_39 (by decide) ?_
      exact r_zret hx hb hr hK hP hS hk (by omega) dX12_looksAt_43 (show P_X12_looksAt_w σ0 τ0 a1 a2 b N mo q nm hc z7 σ4 τ0 from ⟨hR, hF, hFL, by omega, by omega, by omega, by first | exact MO.ofk (by unfold lokP; rw [if_pos (by omega)]) (by omega) (by omega) (by omega) | exact MO.ofk (by unfold lokP; rw [if_neg (by omega), if_pos (by omega)]) (by omega) (by omega) (by omega) | exact MO.ofr (by unfold lokP; rw [if_neg (by omega), if_neg (by omega)]) (by omega) (by omega), by omega, gMK, gRV, gWJ⟩)
    · refine lv_aload_n hx hb dX12_looksAt_30 rfl (lv_at hl 0 rfl) ?_
      refine r_iconst hx hb dX12_looksAt_31 (by decide) (fun z8 ez8 => ?_)
      refine r_cVi (k := 387) (As := [.int z8]) (rest := []) ⟨hx, hb, hml, hown, hts⟩ hK hP hN hS (c_X12_bad_v l D cA ad hI σ4 τ0 hR z8 _ _ _ _ (by omega) gMK) (cwV 1 hts gX12_looksAt_X12_bad rfl rfl rfl (by decide +kernel) ⟨by decide, by decide⟩) (rv_M hK hP (by decide) (by decide)) rfl hl.1 rfl (Nat.le_of_ble_eq_true rfl) dX12_looksAt_32 (Nat.zero_le _) (Nat.zero_le _) (fun r9 u9 H9 locs9 hp9 hP hS => ?_)
      obtain ⟨σ9, τ9⟩ := u9
      obtain ⟨hR, f9, fL9, hq9, hp9_0, hp9_1, hp9_2, gnMK⟩ : P_X12_bad_v σ4 τ0 z8 _ _ _ _ r9 σ9 τ9 := hp9
      have hP : va_P D vwCl (gw cA ad σ9 τ9) H9 := hP
      obtain rfl := FrL.nil fL9
      have hF := hF.step f9 (by decide)
      have gMK := gMK.ag (Agr.fr f9 (by decide))
      have gWJ := gWJ.ag (Agr.fr f9 (by decide))
      have t10 : (σ9 387 18).toInt = (σ4 387 18).toInt := congrArg Int32.toInt (f9.at 387 18 (by decide))
      refine r_if_eq (tgt := 42) hx hb dX12_looksAt_35 (by decide) (fun c11 => ?_) (fun c11 => ?_)
      · refine r_iconst hx hb dX12_looksAt_42 (by decide) (fun z12 ez12 => ?_)
        exact r_zret hx hb hr hK hP hS hk (by omega) dX12_looksAt_43 (show P_X12_looksAt_w σ0 τ0 a1 a2 b N mo q nm hc z12 σ9 τ0 from ⟨hR, hF, hFL, by omega, by omega, by omega, by first | exact MO.ofk (by unfold lokP; rw [if_pos (by omega)]) (by omega) (by omega) (by omega) | exact MO.ofk (by unfold lokP; rw [if_neg (by omega), if_pos (by omega)]) (by omega) (by omega) (by omega) | exact MO.ofr (by unfold lokP; rw [if_neg (by omega), if_neg (by omega)]) (by omega) (by omega), by omega, gMK, gRV, gWJ⟩)
      · exfalso; omega
  · refine lv_aload_n hx hb dX12_looksAt_7 rfl (lv_at hl 0 rfl) ?_
    refine r_iconst hx hb dX12_looksAt_8 (by decide) (fun z13 ez13 => ?_)
    refine r_cVi (k := 387) (As := [.int z13]) (rest := []) ⟨hx, hb, hml, hown, hts⟩ hK hP hN hS (c_X12_bad_v l D cA ad hI σ0 τ0 hR z13 _ _ _ _ (by omega) gMK) (cwV 1 hts gX12_looksAt_X12_bad rfl rfl rfl (by decide +kernel) ⟨by decide, by decide⟩) (rv_M hK hP (by decide) (by decide)) rfl hl.1 rfl (Nat.le_of_ble_eq_true rfl) dX12_looksAt_9 (Nat.zero_le _) (Nat.zero_le _) (fun r14 u14 H14 locs14 hp14 hP hS => ?_)
    obtain ⟨σ14, τ14⟩ := u14
    obtain ⟨hR, f14, fL14, hq14, hp14_0, hp14_1, hp14_2, gnMK⟩ : P_X12_bad_v σ0 τ0 z13 _ _ _ _ r14 σ14 τ14 := hp14
    have hP : va_P D vwCl (gw cA ad σ14 τ14) H14 := hP
    obtain rfl := FrL.nil fL14
    have hF := hF.step f14 (by decide)
    have gMK := gMK.ag (Agr.fr f14 (by decide))
    have gWJ := gWJ.ag (Agr.fr f14 (by decide))
    have t15 : (σ14 387 18).toInt = (σ0 387 18).toInt := congrArg Int32.toInt (f14.at 387 18 (by decide))
    exact r_zret hx hb hr hK hP hS hk (by omega) dX12_looksAt_12 (show P_X12_looksAt_w σ0 τ0 a1 a2 b N mo q nm hc r14 σ14 τ0 from ⟨hR, hF, hFL, by omega, by omega, by omega, by first | exact MO.ofk (by unfold lokP; rw [if_pos (by omega)]) (by omega) (by omega) (by omega) | exact MO.ofk (by unfold lokP; rw [if_neg (by omega), if_pos (by omega)]) (by omega) (by omega) (by omega) | exact MO.ofr (by unfold lokP; rw [if_neg (by omega), if_neg (by omega)]) (by omega) (by omega), by omega, gMK, gRV, gWJ⟩)
theorem in_X12_operand_12 : ∀ w ∈ u_ws RX12 TX12 47, w ∈ wsX12_operand := by decide +kernel
theorem lk_X12_operand_131 : Cond.constantLong RX12 131 (7237492) ∈ wsX12_operand := by decide +kernel
theorem lk_X12_operand_159 : Cond.fieldLink RX12 159 "CuckooSharesModel" "token" "I" ∈ wsX12_operand := by decide +kernel
theorem lk_X12_operand_169 : Cond.fieldLink RX12 169 "CuckooSharesModel" "number" "I" ∈ wsX12_operand := by decide +kernel
theorem lk_X12_operand_195 : Cond.fieldLink RX12 195 "CuckooSharesModel" "got" "I" ∈ wsX12_operand := by decide +kernel
theorem lk_X12_operand_33 : Cond.fieldLink RX12 33 "CuckooSharesModel" "s" "[I" ∈ wsX12_operand := by decide +kernel
theorem lk_X12_operand_434 : Cond.fieldLink RX12 434 "CuckooSharesModel" "top" "I" ∈ wsX12_operand := by decide +kernel
theorem lk_X12_operand_440 : Cond.fieldLink RX12 440 "CuckooSharesModel" "deep" "I" ∈ wsX12_operand := by decide +kernel
theorem lk_X12_operand_446 : Cond.fieldLink RX12 446 "CuckooSharesModel" "ones" "I" ∈ wsX12_operand := by decide +kernel
theorem lk_X12_operand_449 : Cond.fieldLink RX12 449 "CuckooSharesModel" "isWhole" "Z" ∈ wsX12_operand := by decide +kernel
theorem lk_X12_operand_71 : Cond.fieldLink RX12 71 "CuckooSharesModel" "stack" "[I" ∈ wsX12_operand := by decide +kernel
abbrev L_X12_operand : List Rc := [(387, 387, 4, 4), (387, 387, 11, 16), (401, 401, 0, 40), (391, 391, 0, 119), (387, 387, 38, 42), (387, 387, 18, 18)]
abbrev LL_X12_operand : List Rc := [(387, 387, 17, 17)]
def P_X12_operand (σ0 : Nat → Nat → Int32) (τ0 : Nat → Nat → Int64) (b : Nat → Int) (N : Nat) (mo : Nat) (q : Nat) (nn : Nat) (K : List Bool) (nm : Nat → Int) (hc : Nat) (r : Int32) (σ : Nat → Nat → Int32) (τ : Nat → Nat → Int64) : Prop := Rg σ ∧ Fr L_X12_operand σ0 σ ∧ FrL LL_X12_operand τ0 τ ∧ (0 ≤ r.toInt ∧ r.toInt ≤ 1) ∧ (r.toInt = 0 ∨ PV σ) ∧ (r.toInt = 0 ∨ (σ 387 38).toInt + (σ 387 40).toInt + (σ 387 42).toInt ≤ 2 * (σ 387 39).toInt) ∧ (r.toInt = 0 ∨ ((σ 387 39).toInt = (σ0 387 39).toInt + 1 ∧ (σ 387 40).toInt ≤ (σ0 387 40).toInt + 1)) ∧ (MO r σ (opeP b N mo nm hc q nn K) (MS σ τ b N mo)) ∧ (r.toInt = 0 ∨ (σ 387 15).toInt = (σ0 387 15).toInt) ∧ MT σ b N mo ∧ RV τ  ∧ WJ σ τ nm hc
set_option maxHeartbeats 4000000 in
theorem c_X12_operand (l : Launch) (D : va_G) (cA : Nat → ClassId) (ad : Nat → Nat) (hI : Inj ad) (σ0 : Nat → Nat → Int32) (τ0 : Nat → Nat → Int64) (hR : Rg σ0) (b : Nat → Int) (N : Nat) (mo : Nat) (q : Nat) (nn : Nat) (K : List Bool) (nm : Nat → Int) (hc : Nat) (hpre0 : (σ0 387 42).toInt = 0) (hpre1 : (σ0 387 38).toInt + (σ0 387 40).toInt ≤ 2 * (σ0 387 39).toInt) (hpre2 : (σ0 387 39).toInt = (nn : Int)) (gPV0 : PV σ0) (gMT0 : MT σ0 b N mo) (gMK0 : MK σ0 τ0 b N mo q) (gRV0 : RV τ0 ) (gSN0 : SN σ0 K) (gWJ0 : WJ σ0 τ0 nm hc) : Met l yX12_operand wsX12_operand ({ frames := 2, cells := 0, slots := 0, locals := 45 } : Room) (WQc D cA ad [.ref (ad 387)] σ0 τ0) (va_Qi (fun (r : Int32) (u : SS) => P_X12_operand σ0 τ0 b N mo q nn K nm hc r u.1 u.2) (WB D cA ad) (AA ad)) 0 0 (AA ad) := by
  refine Met.ofW (cc := cX12_operand) (maxL := 5) (ret := (some .boolean)) (by decide) rfl ?_
  intro p e s m args below meth c s₁ B hml hv
  obtain ⟨rfl, hP, hK, hN⟩ := hv
  have C : Cy p s m _ meth c cX12_operand 5 wsX12_operand RX12 D cA ad (some .boolean) := ⟨B.exec, B.bytes, hml, findClass_of_methodNamed B.named, atoms_spec (ws := wsX12_operand) B.pre, hK, B.notSynchronized, B.returns, hI, hN⟩
  have hl := lv_entry ([.ref (ad 387)]) (n := 5) (Nat.le_of_ble_eq_true rfl)
  rw [lg_entry_eq]
  generalize (lg_sl ([.ref (ad 387)]) ++ List.replicate (5 - (lg_sl ([.ref (ad 387)])).length) Slot.unset).toArray = ls at hl ⊢
  have hl : lv_has ls 5 [(0, .ref (ad 387))] := hl
  have hS : va_S (AA ad) s.heap s.heap [] := va_S.rf
  have hF : Fr L_X12_operand σ0 σ0 := Fr.rf
  have hFL : FrL LL_X12_operand τ0 τ0 := FrL.rf
  have gPV := gPV0
  have gMT := gMT0
  have gMK := gMK0
  have gRV := gRV0
  have gSN := gSN0
  have gWJ := gWJ0
  obtain ⟨hx, hb, _, hown, hts, _, hk, hr, _, _⟩ := C
  have hrt38 := rg_12_38 hR (k := 387) (by decide) (by decide)
  have hrt39 := rg_12_39 hR (k := 387) (by decide) (by decide)
  have hrt40 := rg_12_40 hR (k := 387) (by decide) (by decide)
  have hrt42 := rg_12_42 hR (k := 387) (by decide) (by decide)
  have gPW := gPV.toPW (by omega)
  have hdp := gSN.2.2
  have hwb := gWJ.1
  have hwc := gWJ.2.1
  refine lv_aload_n hx hb dX12_operand_0 rfl (lv_at hl 0 rfl) ?_
  refine lv_ldc2 (v := 7237492) hx hb hown (hts _ lk_X12_operand_131) dX12_operand_1 ?_
  refine r_cVi (k := 387) (As := [.long (7237492)]) (rest := []) ⟨hx, hb, hml, hown, hts⟩ hK hP hN hS (c_X12_isWord_v l D cA ad hI σ0 τ0 hR (7237492) _ _ _ _ 22 (by decide) (by decide) gMK) (cwV 1 hts gX12_operand_X12_isWord rfl rfl rfl (by decide +kernel) ⟨by decide, by decide⟩) (rv_M hK hP (by decide) (by decide)) rfl hl.1 rfl (Nat.le_of_ble_eq_true rfl) dX12_operand_4 (Nat.zero_le _) (Nat.zero_le _) (fun r1 u1 H1 locs1 hp1 hP hS => ?_)
  obtain ⟨σ1, τ1⟩ := u1
  obtain ⟨hR, f1, fL1, hq1, hp1_0, hp1_1, gnMK⟩ : P_X12_isWord_v σ0 τ0 (7237492) _ _ _ _ 22 r1 σ1 τ1 := hp1
  have anot := hp1_1
  have hP : va_P D vwCl (gw cA ad σ1 τ1) H1 := hP
  obtain rfl := FrL.nil fL1
  obtain rfl := Fr.nil f1
  replace hp1_1 : True := trivial
  refine lv_istore_n (lv' := [(1, .int r1), (0, .ref (ad 387))]) hx hb dX12_operand_7 rfl hl (by decide) rfl (fun ls hl => ?_)
  refine lv_aload_n hx hb dX12_operand_8 rfl (lv_at hl 1 rfl) ?_
  refine r_bipush hx hb dX12_operand_9 (by decide) (fun z2 ez2 => ?_)
  refine r_cVi (k := 387) (As := [.int z2]) (rest := []) ⟨hx, hb, hml, hown, hts⟩ hK hP hN hS (c_X12_isSign_s l D cA ad hI σ0 τ0 hR z2 b N mo q 44 (by omega) (by omega) gMK) (cwV 1 hts gX12_operand_X12_isSign rfl rfl rfl (by decide +kernel) ⟨by decide, by decide⟩) (rv_M hK hP (by decide) (by decide)) rfl hl.1 rfl (Nat.le_of_ble_eq_true rfl) dX12_operand_11 (Nat.zero_le _) (Nat.zero_le _) (fun r3 u3 H3 locs3 hp3 hP hS => ?_)
  obtain ⟨σ3, τ3⟩ := u3
  obtain ⟨hR, f3, fL3, hq3, hp3_0, hp3_1, gnMK⟩ : P_X12_isSign_s σ0 τ0 z2 b N mo q 44 r3 σ3 τ3 := hp3
  have aopen := hp3_1
  have hP : va_P D vwCl (gw cA ad σ3 τ3) H3 := hP
  obtain rfl := FrL.nil fL3
  obtain rfl := Fr.nil f3
  replace hp3_1 : True := trivial
  refine lv_istore_n (lv' := [(2, .int r3), (1, .int r1), (0, .ref (ad 387))]) hx hb dX12_operand_14 rfl hl (by decide) rfl (fun ls hl => ?_)
  refine lv_aload_n hx hb dX12_operand_15 rfl (lv_at hl 2 rfl) ?_
  refine r_cVi (k := 387) (As := []) (rest := []) ⟨hx, hb, hml, hown, hts⟩ hK hP hN hS (c_X12_leafOf l D cA ad hI σ0 τ0 hR b N mo q gMK) (cwV 0 hts gX12_operand_X12_leafOf rfl rfl rfl (by decide +kernel) ⟨by decide, by decide⟩) (rv_M hK hP (by decide) (by decide)) rfl hl.1 rfl (Nat.le_of_ble_eq_true rfl) dX12_operand_16 (Nat.zero_le _) (Nat.zero_le _) (fun r4 u4 H4 locs4 hp4 hP hS => ?_)
  obtain ⟨σ4, τ4⟩ := u4
  obtain ⟨hR, f4, fL4, hq4, hp4_0, gnMK⟩ : P_X12_leafOf σ0 τ0 b N mo q r4 σ4 τ4 := hp4
  have alf := hp4_0
  have hP : va_P D vwCl (gw cA ad σ4 τ4) H4 := hP
  obtain rfl := FrL.nil fL4
  obtain rfl := Fr.nil f4
  replace hp4_0 : True := trivial
  refine lv_istore_n (lv' := [(3, .int r4), (2, .int r3), (1, .int r1), (0, .ref (ad 387))]) hx hb dX12_operand_19 rfl hl (by decide) rfl (fun ls hl => ?_)
  refine lv_iload_n hx hb dX12_operand_20 rfl (lv_at hl 2 rfl) ?_
  refine r_if_ne (tgt := 38) hx hb dX12_operand_21 (by decide) (fun c5 => ?_) (fun c5 => ?_)
  · replace hp1_0 := hp1_0.resolve_left (by omega)
    first | (have an := (anot.resolve_right (fun c => by omega)).2; clear anot aopen alf) | (have ao := (aopen.resolve_right (fun c => by omega)).2; clear aopen alf) | (have al := alf.resolve_left (fun c => by omega); clear alf)
    refine lv_aload_n hx hb dX12_operand_38 rfl (lv_at hl 3 rfl) ?_
    refine fg_12_39 (k := 387) hx hb hts in_X12_operand_12 hown hK hP (by decide) (by decide) (hts _ lk_X12_operand_446) dX12_operand_39 ?_
    refine r_bipush hx hb dX12_operand_42 (by decide) (fun z6 ez6 => ?_)
    refine r_icmp_eq (tgt := 56) hx hb dX12_operand_44 (by decide) (fun c7 => ?_) (fun c7 => ?_)
    · refine lv_aload_n hx hb dX12_operand_56 rfl (lv_at hl 3 rfl) ?_
      refine r_iconst hx hb dX12_operand_57 (by decide) (fun z8 ez8 => ?_)
      refine r_cVi (k := 387) (As := [.int z8]) (rest := []) ⟨hx, hb, hml, hown, hts⟩ hK hP hN hS (c_X12_bad_v l D cA ad hI σ0 τ0 hR z8 _ _ _ _ (by omega) gMK) (cwV 1 hts gX12_operand_X12_bad rfl rfl rfl (by decide +kernel) ⟨by decide, by decide⟩) (rv_M hK hP (by decide) (by decide)) rfl hl.1 rfl (Nat.le_of_ble_eq_true rfl) dX12_operand_58 (Nat.zero_le _) (Nat.zero_le _) (fun r9 u9 H9 locs9 hp9 hP hS => ?_)
      obtain ⟨σ9, τ9⟩ := u9
      obtain ⟨hR, f9, fL9, hq9, hp9_0, hp9_1, hp9_2, gnMK⟩ : P_X12_bad_v σ0 τ0 z8 _ _ _ _ r9 σ9 τ9 := hp9
      have hP : va_P D vwCl (gw cA ad σ9 τ9) H9 := hP
      obtain rfl := FrL.nil fL9
      have hF := hF.step f9 (by decide)
      have gMK := gMK.ag (Agr.fr f9 (by decide))
      have gMT := gMT.ag (Agr.fr f9 (by decide))
      have gPV := PV.fr gPV hR f9 (by decide)
      have gPW := PW.fr gPW hR f9 (by decide)
      have gSN := gSN.ag (Agr.fr f9 (by decide))
      have gWJ := gWJ.ag (Agr.fr f9 (by decide))
      have t10 : (σ9 387 38).toInt = (σ0 387 38).toInt := congrArg Int32.toInt (f9.at 387 38 (by decide))
      have t11 : (σ9 387 39).toInt = (σ0 387 39).toInt := congrArg Int32.toInt (f9.at 387 39 (by decide))
      have t12 : (σ9 387 40).toInt = (σ0 387 40).toInt := congrArg Int32.toInt (f9.at 387 40 (by decide))
      have t13 : (σ9 387 42).toInt = (σ0 387 42).toInt := congrArg Int32.toInt (f9.at 387 42 (by decide))
      exact r_zret hx hb hr hK hP hS hk (by omega) dX12_operand_61 (show P_X12_operand σ0 τ0 b N mo q nn K nm hc r9 σ9 τ0 from ⟨hR, hF, hFL, by omega, by first | exact Or.inl (by omega) | exact Or.inr gPV, by omega, by omega, by first | (exfalso; omega) | exact MO.ofk (ope_x (by omega)) (by omega) (by omega) (by omega) | exact MO.ofk (ope_4 (by omega) (by omega)) (by omega) (by omega) (by omega) | exact MO.ofr (ope_n (by omega) (by omega) (by omega)) (by omega) ⟨gMK, by show _ = ((nn + 1 : Nat) : Int); omega, SN.deep (x := false) gSN (by omega) (by omega) ua (by show _ = (20 : Int); omega) ub (by omega) ud (by omega), by show _ = (0 : Int); omega⟩ | exact MO.ofr (ope_o (by omega) (by omega) (by omega)) (by omega) ⟨gMK, by show _ = ((nn + 1 : Nat) : Int); omega, SN.deep (x := true) gSN (by omega) (by omega) ua (by show _ = (23 : Int); omega) ub (by omega) ud (by omega), by show _ = (0 : Int); omega⟩ | exact MO.ofr (ope_l (by omega) (by omega) (by omega) (by omega) (by omega) (lea_n (by omega) (by omega))) (by omega) ⟨gMK, by show _ = ((nn + 1 : Nat) : Int); omega, gSN, by show _ = (1 : Int); omega⟩ | (obtain ⟨f, e1, x1, x2⟩ := o1.no (by omega); exact MO.ofl (ope_l (by omega) (by omega) (by omega) (by omega) (by omega) (lea_onl (by omega) e1)) (by omega) x1 x2) | exact MO.ofr (ope_l (by omega) (by omega) (by omega) (by omega) (by omega) (lea_onr (by omega) e1)) (by omega) ⟨gMK, by show _ = ((nn + 1 : Nat) : Int); omega, gSN, by show _ = (1 : Int); omega⟩ | exact MO.ofk (ope_l (by omega) (by omega) (by omega) (by omega) (by omega) (lea_m1 (by omega) (by omega))) (by omega) (by omega) (by omega) | exact MO.ofk (ope_l (by omega) (by omega) (by omega) (by omega) (by omega) (lea_m2 (by omega) (by omega) (by omega))) (by omega) (by omega) (by omega) | exact MO.ofr (ope_l (by omega) (by omega) (by omega) (by omega) (by omega) (lea_m3 (by omega) (by omega) (by omega))) (by omega) ⟨gMK, by show _ = ((nn + 1 : Nat) : Int); omega, gSN, by show _ = (1 : Int); omega⟩, by omega, gMT, gRV, gWJ⟩)
    · refine lv_aload_n hx hb dX12_operand_47 rfl (lv_at hl 3 rfl) ?_
      refine fg_12_41 (k := 387) hx hb hts in_X12_operand_12 hown hK hP (by decide) (by decide) (hts _ lk_X12_operand_440) dX12_operand_48 ?_
      refine r_bipush hx hb dX12_operand_51 (by decide) (fun z14 ez14 => ?_)
      refine r_icmp_le (tgt := 62) hx hb dX12_operand_53 (by decide) (fun c15 => ?_) (fun c15 => ?_)
      · refine lv_aload_n hx hb dX12_operand_62 rfl (lv_at hl 3 rfl) ?_
        refine lv_dup hx hb dX12_operand_63 rfl ?_
        refine fg_12_39 (k := 387) hx hb hts in_X12_operand_12 hown hK hP (by decide) (by decide) (hts _ lk_X12_operand_446) dX12_operand_64 ?_
        refine r_iconst hx hb dX12_operand_67 (by decide) (fun z16 ez16 => ?_)
        refine r_iadd hx hb dX12_operand_68 (by omega) (fun z17 ez17 => ?_)
        refine fp_12_39 (k := 387) hx hb hts in_X12_operand_12 hown hK hP (by decide) (by decide) (hts _ lk_X12_operand_446) hI hR hS (by omega) dX12_operand_69 (fun σ18 H18 locs18 u18 v18 hR hP hS => ?_)
        have hF := hF.puts u18 4 rfl (by decide) (by decide) (by decide) (by decide)
        have gMK := gMK.ag (Agr.put u18 (by decide))
        have gMT := gMT.ag (Agr.put u18 (by decide))
        have gPV := PV.put gPV hR u18 (by decide)
        have gPW := PW.put gPW hR u18 (by decide)
        have gSN := gSN.ag (Agr.put u18 (by decide))
        have gWJ := gWJ.ag (Agr.put u18 (by decide))
        have t19 : (σ18 387 38).toInt = (σ0 387 38).toInt := congrArg Int32.toInt (u18 387 38 (by omega))
        have t20 : (σ18 387 40).toInt = (σ0 387 40).toInt := congrArg Int32.toInt (u18 387 40 (by omega))
        have t21 : (σ18 387 42).toInt = (σ0 387 42).toInt := congrArg Int32.toInt (u18 387 42 (by omega))
        have t22 : (σ18 387 15).toInt = (σ0 387 15).toInt := congrArg Int32.toInt (u18 387 15 (by omega))
        have t23 : (σ18 387 41).toInt = (σ0 387 41).toInt := congrArg Int32.toInt (u18 387 41 (by omega))
        refine lv_aload_n hx hb dX12_operand_72 rfl (lv_at hl 3 rfl) ?_
        refine r_cVv (k := 387) (As := []) (rest := []) ⟨hx, hb, hml, hown, hts⟩ hK hP hN hS (c_X12_next_v l D cA ad hI σ18 τ0 hR _ _ _ _ gMK.mp gMT) (cwV 0 hts gX12_operand_X12_next rfl rfl rfl (by decide +kernel) ⟨by decide, by decide⟩) (rv_M hK hP (by decide) (by decide)) rfl hl.1 rfl (Nat.le_of_ble_eq_true rfl) dX12_operand_73 (Nat.zero_le _) (Nat.zero_le _) (fun u24 H24 locs24 hp24 hP hS => ?_)
        obtain ⟨σ24, τ24⟩ := u24
        obtain ⟨hR, f24, fL24, hp24_0, hp24_1, hp24_2, hp24_3, gnMT⟩ : P_X12_next_v σ18 τ0 _ _ _ _ σ24 τ24 := hp24
        have hP : va_P D vwCl (gw cA ad σ24 τ24) H24 := hP
        have hFL := hFL.step fL24 (by decide)
        have gRV := gRV.agL (AgrL.fr fL24 (by decide))
        have gWJ := gWJ.agL (AgrL.fr fL24 (by decide))
        have hF := hF.step f24 (by decide)
        have gMT := gMT.ag (Agr.fr f24 (by decide))
        have gPV := PV.fr gPV hR f24 (by decide)
        have gPW := PW.fr gPW hR f24 (by decide)
        have gSN := gSN.ag (Agr.fr f24 (by decide))
        have gWJ := gWJ.ag (Agr.fr f24 (by decide))
        have t25 : (σ24 387 38).toInt = (σ18 387 38).toInt := congrArg Int32.toInt (f24.at 387 38 (by decide))
        have t26 : (σ24 387 40).toInt = (σ18 387 40).toInt := congrArg Int32.toInt (f24.at 387 40 (by decide))
        have t27 : (σ24 387 42).toInt = (σ18 387 42).toInt := congrArg Int32.toInt (f24.at 387 42 (by decide))
        have t28 : (σ24 387 15).toInt = (σ18 387 15).toInt := congrArg Int32.toInt (f24.at 387 15 (by decide))
        have t29 : (σ24 387 41).toInt = (σ18 387 41).toInt := congrArg Int32.toInt (f24.at 387 41 (by decide))
        have t30 : (σ24 387 39).toInt = (σ18 387 39).toInt := congrArg Int32.toInt (f24.at 387 39 (by decide))
        have gMK := hp24_3
        replace hp24_1 : True := trivial
        refine lv_iload_n hx hb dX12_operand_76 rfl (lv_at hl 2 rfl) ?_
        refine r_if_ne (tgt := 84) hx hb dX12_operand_77 (by decide) (fun c31 => ?_) (fun c31 => ?_)
        · refine lv_aload_n hx hb dX12_operand_84 rfl (lv_at hl 3 rfl) ?_
          refine fg_12_37 (k := 387) hx hb hts in_X12_operand_12 hown hK hP (by decide) (by decide) (hts _ lk_X12_operand_71) dX12_operand_85 ?_
          refine lv_aload_n hx hb dX12_operand_88 rfl (lv_at hl 3 rfl) ?_
          refine fg_12_40 (k := 387) hx hb hts in_X12_operand_12 hown hK hP (by decide) (by decide) (hts _ lk_X12_operand_434) dX12_operand_89 ?_
          refine lv_iload_n hx hb dX12_operand_92 rfl (lv_at hl 2 rfl) ?_
          refine r_if_eq (tgt := 101) hx hb dX12_operand_93 (by decide) (fun c32 => ?_) (fun c32 => ?_)
          · exfalso; omega
          · refine r_bipush hx hb dX12_operand_96 (by decide) (fun z33 ez33 => ?_)
            refine lv_goto (tgt := 103) hx hb dX12_operand_98 (by decide) ?_
            obtain ⟨j34, ej34⟩ : ∃ j : Nat, (σ24 387 40).toInt = (j : Int) := ⟨_, ti_nat (by omega)⟩
            refine as_mstack (k := 401) (j := j34) hx hb hK hP hI hR hS (by decide) (by decide) ej34 (by omega) dX12_operand_103 (fun σ35 H35 locs35 u35 v35 hR hP hS => ?_)
            have ua := u35
            have va := v35
            have hF := hF.puts u35 2 rfl (by decide) (by decide) (by omega) (by omega)
            have gMK := gMK.ag (Agr.putV u35 (by intro q hq; simp only [Gd_MK, List.mem_cons, List.not_mem_nil, or_false] at hq; rcases hq with rfl | rfl | rfl <;> dsimp only [inRc] <;> omega))
            have gMT := gMT.ag (Agr.putV u35 (by intro q hq; simp only [Gd_MT, List.mem_cons, List.not_mem_nil, or_false] at hq; rcases hq with rfl | rfl | rfl <;> dsimp only [inRc] <;> omega))
            have gWJ := gWJ.ag (Agr.putV u35 (by intro q hq; simp only [Gd_WJ, List.mem_cons, List.not_mem_nil, or_false] at hq; rcases hq with rfl <;> dsimp only [inRc] <;> omega))
            have t36 : (σ35 387 38).toInt = (σ24 387 38).toInt := congrArg Int32.toInt (u35 387 38 (by omega))
            have t37 : (σ35 387 40).toInt = (σ24 387 40).toInt := congrArg Int32.toInt (u35 387 40 (by omega))
            have t38 : (σ35 387 42).toInt = (σ24 387 42).toInt := congrArg Int32.toInt (u35 387 42 (by omega))
            have t39 : (σ35 387 15).toInt = (σ24 387 15).toInt := congrArg Int32.toInt (u35 387 15 (by omega))
            have t40 : (σ35 387 41).toInt = (σ24 387 41).toInt := congrArg Int32.toInt (u35 387 41 (by omega))
            have t41 : (σ35 387 39).toInt = (σ24 387 39).toInt := congrArg Int32.toInt (u35 387 39 (by omega))
            refine lv_aload_n hx hb dX12_operand_104 rfl (lv_at hl 3 rfl) ?_
            refine lv_dup hx hb dX12_operand_105 rfl ?_
            refine fg_12_40 (k := 387) hx hb hts in_X12_operand_12 hown hK hP (by decide) (by decide) (hts _ lk_X12_operand_434) dX12_operand_106 ?_
            refine r_iconst hx hb dX12_operand_109 (by decide) (fun z42 ez42 => ?_)
            refine r_iadd hx hb dX12_operand_110 (by omega) (fun z43 ez43 => ?_)
            refine fp_12_40 (k := 387) hx hb hts in_X12_operand_12 hown hK hP (by decide) (by decide) (hts _ lk_X12_operand_434) hI hR hS (by omega) dX12_operand_111 (fun σ44 H44 locs44 u44 v44 hR hP hS => ?_)
            have ub := u44
            have vb := v44
            have hF := hF.puts u44 4 rfl (by decide) (by decide) (by decide) (by decide)
            have gMK := gMK.ag (Agr.put u44 (by decide))
            have gMT := gMT.ag (Agr.put u44 (by decide))
            have gWJ := gWJ.ag (Agr.put u44 (by decide))
            have t45 : (σ44 387 38).toInt = (σ35 387 38).toInt := congrArg Int32.toInt (u44 387 38 (by omega))
            have t46 : (σ44 387 42).toInt = (σ35 387 42).toInt := congrArg Int32.toInt (u44 387 42 (by omega))
            have t47 : (σ44 387 15).toInt = (σ35 387 15).toInt := congrArg Int32.toInt (u44 387 15 (by omega))
            have t48 : (σ44 387 41).toInt = (σ35 387 41).toInt := congrArg Int32.toInt (u44 387 41 (by omega))
            have t49 : (σ44 387 39).toInt = (σ35 387 39).toInt := congrArg Int32.toInt (u44 387 39 (by omega))
            have gPV := PV.push gPV ua va (by omega) (by omega) ub (by omega)
            refine lv_aload_n hx hb dX12_operand_114 rfl (lv_at hl 3 rfl) ?_
            refine lv_dup hx hb dX12_operand_115 rfl ?_
            refine fg_12_41 (k := 387) hx hb hts in_X12_operand_12 hown hK hP (by decide) (by decide) (hts _ lk_X12_operand_440) dX12_operand_116 ?_
            have hdl := SN.dl gSN
            have hd9 := congrArg Int32.toInt ((ub 387 41 (by omega)).trans (ua 387 41 (by omega)))
            refine r_iconst hx hb dX12_operand_119 (by decide) (fun z50 ez50 => ?_)
            refine r_iadd hx hb dX12_operand_120 (by omega) (fun z51 ez51 => ?_)
            refine fp_12_41 (k := 387) hx hb hts in_X12_operand_12 hown hK hP (by decide) (by decide) (hts _ lk_X12_operand_440) hI hR hS dX12_operand_121 (fun σ52 H52 locs52 u52 v52 hR hP hS => ?_)
            have ud := u52
            have vd := v52
            have hF := hF.puts u52 4 rfl (by decide) (by decide) (by decide) (by decide)
            have gMK := gMK.ag (Agr.put u52 (by decide))
            have gMT := gMT.ag (Agr.put u52 (by decide))
            have gPV := PV.put gPV hR u52 (by decide)
            have gWJ := gWJ.ag (Agr.put u52 (by decide))
            have t53 : (σ52 387 38).toInt = (σ44 387 38).toInt := congrArg Int32.toInt (u52 387 38 (by omega))
            have t54 : (σ52 387 42).toInt = (σ44 387 42).toInt := congrArg Int32.toInt (u52 387 42 (by omega))
            have t55 : (σ52 387 15).toInt = (σ44 387 15).toInt := congrArg Int32.toInt (u52 387 15 (by omega))
            have t56 : (σ52 387 39).toInt = (σ44 387 39).toInt := congrArg Int32.toInt (u52 387 39 (by omega))
            have t57 : (σ52 387 40).toInt = (σ44 387 40).toInt := congrArg Int32.toInt (u52 387 40 (by omega))
            refine r_iconst hx hb dX12_operand_124 (by decide) (fun z58 ez58 => ?_)
            exact r_zret hx hb hr hK hP hS hk (by omega) dX12_operand_125 (show P_X12_operand σ0 τ0 b N mo q nn K nm hc z58 σ52 τ24 from ⟨hR, hF, hFL, by omega, by first | exact Or.inl (by omega) | exact Or.inr gPV, by omega, by omega, by first | (exfalso; omega) | exact MO.ofk (ope_x (by omega)) (by omega) (by omega) (by omega) | exact MO.ofk (ope_4 (by omega) (by omega)) (by omega) (by omega) (by omega) | exact MO.ofr (ope_n (by omega) (by omega) (by omega)) (by omega) ⟨gMK, by show _ = ((nn + 1 : Nat) : Int); omega, SN.deep (x := false) gSN (by omega) (by omega) ua (by show _ = (20 : Int); omega) ub (by omega) ud (by omega), by show _ = (0 : Int); omega⟩ | exact MO.ofr (ope_o (by omega) (by omega) (by omega)) (by omega) ⟨gMK, by show _ = ((nn + 1 : Nat) : Int); omega, SN.deep (x := true) gSN (by omega) (by omega) ua (by show _ = (23 : Int); omega) ub (by omega) ud (by omega), by show _ = (0 : Int); omega⟩ | exact MO.ofr (ope_l (by omega) (by omega) (by omega) (by omega) (by omega) (lea_n (by omega) (by omega))) (by omega) ⟨gMK, by show _ = ((nn + 1 : Nat) : Int); omega, gSN, by show _ = (1 : Int); omega⟩ | (obtain ⟨f, e1, x1, x2⟩ := o1.no (by omega); exact MO.ofl (ope_l (by omega) (by omega) (by omega) (by omega) (by omega) (lea_onl (by omega) e1)) (by omega) x1 x2) | exact MO.ofr (ope_l (by omega) (by omega) (by omega) (by omega) (by omega) (lea_onr (by omega) e1)) (by omega) ⟨gMK, by show _ = ((nn + 1 : Nat) : Int); omega, gSN, by show _ = (1 : Int); omega⟩ | exact MO.ofk (ope_l (by omega) (by omega) (by omega) (by omega) (by omega) (lea_m1 (by omega) (by omega))) (by omega) (by omega) (by omega) | exact MO.ofk (ope_l (by omega) (by omega) (by omega) (by omega) (by omega) (lea_m2 (by omega) (by omega) (by omega))) (by omega) (by omega) (by omega) | exact MO.ofr (ope_l (by omega) (by omega) (by omega) (by omega) (by omega) (lea_m3 (by omega) (by omega) (by omega))) (by omega) ⟨gMK, by show _ = ((nn + 1 : Nat) : Int); omega, gSN, by show _ = (1 : Int); omega⟩, by omega, gMT, gRV, gWJ⟩)
        · exfalso; omega
      · refine lv_aload_n hx hb dX12_operand_56 rfl (lv_at hl 3 rfl) ?_
        refine r_iconst hx hb dX12_operand_57 (by decide) (fun z59 ez59 => ?_)
        refine r_cVi (k := 387) (As := [.int z59]) (rest := []) ⟨hx, hb, hml, hown, hts⟩ hK hP hN hS (c_X12_bad_v l D cA ad hI σ0 τ0 hR z59 _ _ _ _ (by omega) gMK) (cwV 1 hts gX12_operand_X12_bad rfl rfl rfl (by decide +kernel) ⟨by decide, by decide⟩) (rv_M hK hP (by decide) (by decide)) rfl hl.1 rfl (Nat.le_of_ble_eq_true rfl) dX12_operand_58 (Nat.zero_le _) (Nat.zero_le _) (fun r60 u60 H60 locs60 hp60 hP hS => ?_)
        obtain ⟨σ60, τ60⟩ := u60
        obtain ⟨hR, f60, fL60, hq60, hp60_0, hp60_1, hp60_2, gnMK⟩ : P_X12_bad_v σ0 τ0 z59 _ _ _ _ r60 σ60 τ60 := hp60
        have hP : va_P D vwCl (gw cA ad σ60 τ60) H60 := hP
        obtain rfl := FrL.nil fL60
        have hF := hF.step f60 (by decide)
        have gMK := gMK.ag (Agr.fr f60 (by decide))
        have gMT := gMT.ag (Agr.fr f60 (by decide))
        have gPV := PV.fr gPV hR f60 (by decide)
        have gPW := PW.fr gPW hR f60 (by decide)
        have gSN := gSN.ag (Agr.fr f60 (by decide))
        have gWJ := gWJ.ag (Agr.fr f60 (by decide))
        have t61 : (σ60 387 38).toInt = (σ0 387 38).toInt := congrArg Int32.toInt (f60.at 387 38 (by decide))
        have t62 : (σ60 387 39).toInt = (σ0 387 39).toInt := congrArg Int32.toInt (f60.at 387 39 (by decide))
        have t63 : (σ60 387 40).toInt = (σ0 387 40).toInt := congrArg Int32.toInt (f60.at 387 40 (by decide))
        have t64 : (σ60 387 42).toInt = (σ0 387 42).toInt := congrArg Int32.toInt (f60.at 387 42 (by decide))
        have t65 : (σ60 387 41).toInt = (σ0 387 41).toInt := congrArg Int32.toInt (f60.at 387 41 (by decide))
        exact r_zret hx hb hr hK hP hS hk (by omega) dX12_operand_61 (show P_X12_operand σ0 τ0 b N mo q nn K nm hc r60 σ60 τ0 from ⟨hR, hF, hFL, by omega, by first | exact Or.inl (by omega) | exact Or.inr gPV, by omega, by omega, by first | (exfalso; omega) | exact MO.ofk (ope_x (by omega)) (by omega) (by omega) (by omega) | exact MO.ofk (ope_4 (by omega) (by omega)) (by omega) (by omega) (by omega) | exact MO.ofr (ope_n (by omega) (by omega) (by omega)) (by omega) ⟨gMK, by show _ = ((nn + 1 : Nat) : Int); omega, SN.deep (x := false) gSN (by omega) (by omega) ua (by show _ = (20 : Int); omega) ub (by omega) ud (by omega), by show _ = (0 : Int); omega⟩ | exact MO.ofr (ope_o (by omega) (by omega) (by omega)) (by omega) ⟨gMK, by show _ = ((nn + 1 : Nat) : Int); omega, SN.deep (x := true) gSN (by omega) (by omega) ua (by show _ = (23 : Int); omega) ub (by omega) ud (by omega), by show _ = (0 : Int); omega⟩ | exact MO.ofr (ope_l (by omega) (by omega) (by omega) (by omega) (by omega) (lea_n (by omega) (by omega))) (by omega) ⟨gMK, by show _ = ((nn + 1 : Nat) : Int); omega, gSN, by show _ = (1 : Int); omega⟩ | (obtain ⟨f, e1, x1, x2⟩ := o1.no (by omega); exact MO.ofl (ope_l (by omega) (by omega) (by omega) (by omega) (by omega) (lea_onl (by omega) e1)) (by omega) x1 x2) | exact MO.ofr (ope_l (by omega) (by omega) (by omega) (by omega) (by omega) (lea_onr (by omega) e1)) (by omega) ⟨gMK, by show _ = ((nn + 1 : Nat) : Int); omega, gSN, by show _ = (1 : Int); omega⟩ | exact MO.ofk (ope_l (by omega) (by omega) (by omega) (by omega) (by omega) (lea_m1 (by omega) (by omega))) (by omega) (by omega) (by omega) | exact MO.ofk (ope_l (by omega) (by omega) (by omega) (by omega) (by omega) (lea_m2 (by omega) (by omega) (by omega))) (by omega) (by omega) (by omega) | exact MO.ofr (ope_l (by omega) (by omega) (by omega) (by omega) (by omega) (lea_m3 (by omega) (by omega) (by omega))) (by omega) ⟨gMK, by show _ = ((nn + 1 : Nat) : Int); omega, gSN, by show _ = (1 : Int); omega⟩, by omega, gMT, gRV, gWJ⟩)
  · clear hp1_0
    have an := (anot.resolve_left (fun c => by omega)).2
    clear anot
    refine lv_iload_n hx hb dX12_operand_24 rfl (lv_at hl 1 rfl) ?_
    refine r_if_ne (tgt := 38) hx hb dX12_operand_25 (by decide) (fun c66 => ?_) (fun c66 => ?_)
    · replace hp3_0 := hp3_0.resolve_left (by omega)
      first | (have an := (anot.resolve_right (fun c => by omega)).2; clear anot aopen alf) | (have ao := (aopen.resolve_right (fun c => by omega)).2; clear aopen alf) | (have al := alf.resolve_left (fun c => by omega); clear alf)
      refine lv_aload_n hx hb dX12_operand_38 rfl (lv_at hl 3 rfl) ?_
      refine fg_12_39 (k := 387) hx hb hts in_X12_operand_12 hown hK hP (by decide) (by decide) (hts _ lk_X12_operand_446) dX12_operand_39 ?_
      refine r_bipush hx hb dX12_operand_42 (by decide) (fun z67 ez67 => ?_)
      refine r_icmp_eq (tgt := 56) hx hb dX12_operand_44 (by decide) (fun c68 => ?_) (fun c68 => ?_)
      · refine lv_aload_n hx hb dX12_operand_56 rfl (lv_at hl 3 rfl) ?_
        refine r_iconst hx hb dX12_operand_57 (by decide) (fun z69 ez69 => ?_)
        refine r_cVi (k := 387) (As := [.int z69]) (rest := []) ⟨hx, hb, hml, hown, hts⟩ hK hP hN hS (c_X12_bad_v l D cA ad hI σ0 τ0 hR z69 _ _ _ _ (by omega) gMK) (cwV 1 hts gX12_operand_X12_bad rfl rfl rfl (by decide +kernel) ⟨by decide, by decide⟩) (rv_M hK hP (by decide) (by decide)) rfl hl.1 rfl (Nat.le_of_ble_eq_true rfl) dX12_operand_58 (Nat.zero_le _) (Nat.zero_le _) (fun r70 u70 H70 locs70 hp70 hP hS => ?_)
        obtain ⟨σ70, τ70⟩ := u70
        obtain ⟨hR, f70, fL70, hq70, hp70_0, hp70_1, hp70_2, gnMK⟩ : P_X12_bad_v σ0 τ0 z69 _ _ _ _ r70 σ70 τ70 := hp70
        have hP : va_P D vwCl (gw cA ad σ70 τ70) H70 := hP
        obtain rfl := FrL.nil fL70
        have hF := hF.step f70 (by decide)
        have gMK := gMK.ag (Agr.fr f70 (by decide))
        have gMT := gMT.ag (Agr.fr f70 (by decide))
        have gPV := PV.fr gPV hR f70 (by decide)
        have gPW := PW.fr gPW hR f70 (by decide)
        have gSN := gSN.ag (Agr.fr f70 (by decide))
        have gWJ := gWJ.ag (Agr.fr f70 (by decide))
        have t71 : (σ70 387 38).toInt = (σ0 387 38).toInt := congrArg Int32.toInt (f70.at 387 38 (by decide))
        have t72 : (σ70 387 39).toInt = (σ0 387 39).toInt := congrArg Int32.toInt (f70.at 387 39 (by decide))
        have t73 : (σ70 387 40).toInt = (σ0 387 40).toInt := congrArg Int32.toInt (f70.at 387 40 (by decide))
        have t74 : (σ70 387 42).toInt = (σ0 387 42).toInt := congrArg Int32.toInt (f70.at 387 42 (by decide))
        exact r_zret hx hb hr hK hP hS hk (by omega) dX12_operand_61 (show P_X12_operand σ0 τ0 b N mo q nn K nm hc r70 σ70 τ0 from ⟨hR, hF, hFL, by omega, by first | exact Or.inl (by omega) | exact Or.inr gPV, by omega, by omega, by first | (exfalso; omega) | exact MO.ofk (ope_x (by omega)) (by omega) (by omega) (by omega) | exact MO.ofk (ope_4 (by omega) (by omega)) (by omega) (by omega) (by omega) | exact MO.ofr (ope_n (by omega) (by omega) (by omega)) (by omega) ⟨gMK, by show _ = ((nn + 1 : Nat) : Int); omega, SN.deep (x := false) gSN (by omega) (by omega) ua (by show _ = (20 : Int); omega) ub (by omega) ud (by omega), by show _ = (0 : Int); omega⟩ | exact MO.ofr (ope_o (by omega) (by omega) (by omega)) (by omega) ⟨gMK, by show _ = ((nn + 1 : Nat) : Int); omega, SN.deep (x := true) gSN (by omega) (by omega) ua (by show _ = (23 : Int); omega) ub (by omega) ud (by omega), by show _ = (0 : Int); omega⟩ | exact MO.ofr (ope_l (by omega) (by omega) (by omega) (by omega) (by omega) (lea_n (by omega) (by omega))) (by omega) ⟨gMK, by show _ = ((nn + 1 : Nat) : Int); omega, gSN, by show _ = (1 : Int); omega⟩ | (obtain ⟨f, e1, x1, x2⟩ := o1.no (by omega); exact MO.ofl (ope_l (by omega) (by omega) (by omega) (by omega) (by omega) (lea_onl (by omega) e1)) (by omega) x1 x2) | exact MO.ofr (ope_l (by omega) (by omega) (by omega) (by omega) (by omega) (lea_onr (by omega) e1)) (by omega) ⟨gMK, by show _ = ((nn + 1 : Nat) : Int); omega, gSN, by show _ = (1 : Int); omega⟩ | exact MO.ofk (ope_l (by omega) (by omega) (by omega) (by omega) (by omega) (lea_m1 (by omega) (by omega))) (by omega) (by omega) (by omega) | exact MO.ofk (ope_l (by omega) (by omega) (by omega) (by omega) (by omega) (lea_m2 (by omega) (by omega) (by omega))) (by omega) (by omega) (by omega) | exact MO.ofr (ope_l (by omega) (by omega) (by omega) (by omega) (by omega) (lea_m3 (by omega) (by omega) (by omega))) (by omega) ⟨gMK, by show _ = ((nn + 1 : Nat) : Int); omega, gSN, by show _ = (1 : Int); omega⟩, by omega, gMT, gRV, gWJ⟩)
      · refine lv_aload_n hx hb dX12_operand_47 rfl (lv_at hl 3 rfl) ?_
        refine fg_12_41 (k := 387) hx hb hts in_X12_operand_12 hown hK hP (by decide) (by decide) (hts _ lk_X12_operand_440) dX12_operand_48 ?_
        refine r_bipush hx hb dX12_operand_51 (by decide) (fun z75 ez75 => ?_)
        refine r_icmp_le (tgt := 62) hx hb dX12_operand_53 (by decide) (fun c76 => ?_) (fun c76 => ?_)
        · refine lv_aload_n hx hb dX12_operand_62 rfl (lv_at hl 3 rfl) ?_
          refine lv_dup hx hb dX12_operand_63 rfl ?_
          refine fg_12_39 (k := 387) hx hb hts in_X12_operand_12 hown hK hP (by decide) (by decide) (hts _ lk_X12_operand_446) dX12_operand_64 ?_
          refine r_iconst hx hb dX12_operand_67 (by decide) (fun z77 ez77 => ?_)
          refine r_iadd hx hb dX12_operand_68 (by omega) (fun z78 ez78 => ?_)
          refine fp_12_39 (k := 387) hx hb hts in_X12_operand_12 hown hK hP (by decide) (by decide) (hts _ lk_X12_operand_446) hI hR hS (by omega) dX12_operand_69 (fun σ79 H79 locs79 u79 v79 hR hP hS => ?_)
          have hF := hF.puts u79 4 rfl (by decide) (by decide) (by decide) (by decide)
          have gMK := gMK.ag (Agr.put u79 (by decide))
          have gMT := gMT.ag (Agr.put u79 (by decide))
          have gPV := PV.put gPV hR u79 (by decide)
          have gPW := PW.put gPW hR u79 (by decide)
          have gSN := gSN.ag (Agr.put u79 (by decide))
          have gWJ := gWJ.ag (Agr.put u79 (by decide))
          have t80 : (σ79 387 38).toInt = (σ0 387 38).toInt := congrArg Int32.toInt (u79 387 38 (by omega))
          have t81 : (σ79 387 40).toInt = (σ0 387 40).toInt := congrArg Int32.toInt (u79 387 40 (by omega))
          have t82 : (σ79 387 42).toInt = (σ0 387 42).toInt := congrArg Int32.toInt (u79 387 42 (by omega))
          have t83 : (σ79 387 15).toInt = (σ0 387 15).toInt := congrArg Int32.toInt (u79 387 15 (by omega))
          have t84 : (σ79 387 41).toInt = (σ0 387 41).toInt := congrArg Int32.toInt (u79 387 41 (by omega))
          refine lv_aload_n hx hb dX12_operand_72 rfl (lv_at hl 3 rfl) ?_
          refine r_cVv (k := 387) (As := []) (rest := []) ⟨hx, hb, hml, hown, hts⟩ hK hP hN hS (c_X12_next_v l D cA ad hI σ79 τ0 hR _ _ _ _ gMK.mp gMT) (cwV 0 hts gX12_operand_X12_next rfl rfl rfl (by decide +kernel) ⟨by decide, by decide⟩) (rv_M hK hP (by decide) (by decide)) rfl hl.1 rfl (Nat.le_of_ble_eq_true rfl) dX12_operand_73 (Nat.zero_le _) (Nat.zero_le _) (fun u85 H85 locs85 hp85 hP hS => ?_)
          obtain ⟨σ85, τ85⟩ := u85
          obtain ⟨hR, f85, fL85, hp85_0, hp85_1, hp85_2, hp85_3, gnMT⟩ : P_X12_next_v σ79 τ0 _ _ _ _ σ85 τ85 := hp85
          have hP : va_P D vwCl (gw cA ad σ85 τ85) H85 := hP
          have hFL := hFL.step fL85 (by decide)
          have gRV := gRV.agL (AgrL.fr fL85 (by decide))
          have gWJ := gWJ.agL (AgrL.fr fL85 (by decide))
          have hF := hF.step f85 (by decide)
          have gMT := gMT.ag (Agr.fr f85 (by decide))
          have gPV := PV.fr gPV hR f85 (by decide)
          have gPW := PW.fr gPW hR f85 (by decide)
          have gSN := gSN.ag (Agr.fr f85 (by decide))
          have gWJ := gWJ.ag (Agr.fr f85 (by decide))
          have t86 : (σ85 387 38).toInt = (σ79 387 38).toInt := congrArg Int32.toInt (f85.at 387 38 (by decide))
          have t87 : (σ85 387 40).toInt = (σ79 387 40).toInt := congrArg Int32.toInt (f85.at 387 40 (by decide))
          have t88 : (σ85 387 42).toInt = (σ79 387 42).toInt := congrArg Int32.toInt (f85.at 387 42 (by decide))
          have t89 : (σ85 387 15).toInt = (σ79 387 15).toInt := congrArg Int32.toInt (f85.at 387 15 (by decide))
          have t90 : (σ85 387 41).toInt = (σ79 387 41).toInt := congrArg Int32.toInt (f85.at 387 41 (by decide))
          have t91 : (σ85 387 39).toInt = (σ79 387 39).toInt := congrArg Int32.toInt (f85.at 387 39 (by decide))
          have gMK := hp85_3
          replace hp85_1 : True := trivial
          refine lv_iload_n hx hb dX12_operand_76 rfl (lv_at hl 2 rfl) ?_
          refine r_if_ne (tgt := 84) hx hb dX12_operand_77 (by decide) (fun c92 => ?_) (fun c92 => ?_)
          · exfalso; omega
          · refine lv_iload_n hx hb dX12_operand_80 rfl (lv_at hl 1 rfl) ?_
            refine r_if_eq (tgt := 126) hx hb dX12_operand_81 (by decide) (fun c93 => ?_) (fun c93 => ?_)
            · exfalso; omega
            · refine lv_aload_n hx hb dX12_operand_84 rfl (lv_at hl 3 rfl) ?_
              refine fg_12_37 (k := 387) hx hb hts in_X12_operand_12 hown hK hP (by decide) (by decide) (hts _ lk_X12_operand_71) dX12_operand_85 ?_
              refine lv_aload_n hx hb dX12_operand_88 rfl (lv_at hl 3 rfl) ?_
              refine fg_12_40 (k := 387) hx hb hts in_X12_operand_12 hown hK hP (by decide) (by decide) (hts _ lk_X12_operand_434) dX12_operand_89 ?_
              refine lv_iload_n hx hb dX12_operand_92 rfl (lv_at hl 2 rfl) ?_
              refine r_if_eq (tgt := 101) hx hb dX12_operand_93 (by decide) (fun c94 => ?_) (fun c94 => ?_)
              · refine r_bipush hx hb dX12_operand_101 (by decide) (fun z95 ez95 => ?_)
                obtain ⟨j96, ej96⟩ : ∃ j : Nat, (σ85 387 40).toInt = (j : Int) := ⟨_, ti_nat (by omega)⟩
                refine as_mstack (k := 401) (j := j96) hx hb hK hP hI hR hS (by decide) (by decide) ej96 (by omega) dX12_operand_103 (fun σ97 H97 locs97 u97 v97 hR hP hS => ?_)
                have ua := u97
                have va := v97
                have hF := hF.puts u97 2 rfl (by decide) (by decide) (by omega) (by omega)
                have gMK := gMK.ag (Agr.putV u97 (by intro q hq; simp only [Gd_MK, List.mem_cons, List.not_mem_nil, or_false] at hq; rcases hq with rfl | rfl | rfl <;> dsimp only [inRc] <;> omega))
                have gMT := gMT.ag (Agr.putV u97 (by intro q hq; simp only [Gd_MT, List.mem_cons, List.not_mem_nil, or_false] at hq; rcases hq with rfl | rfl | rfl <;> dsimp only [inRc] <;> omega))
                have gWJ := gWJ.ag (Agr.putV u97 (by intro q hq; simp only [Gd_WJ, List.mem_cons, List.not_mem_nil, or_false] at hq; rcases hq with rfl <;> dsimp only [inRc] <;> omega))
                have t98 : (σ97 387 38).toInt = (σ85 387 38).toInt := congrArg Int32.toInt (u97 387 38 (by omega))
                have t99 : (σ97 387 40).toInt = (σ85 387 40).toInt := congrArg Int32.toInt (u97 387 40 (by omega))
                have t100 : (σ97 387 42).toInt = (σ85 387 42).toInt := congrArg Int32.toInt (u97 387 42 (by omega))
                have t101 : (σ97 387 15).toInt = (σ85 387 15).toInt := congrArg Int32.toInt (u97 387 15 (by omega))
                have t102 : (σ97 387 41).toInt = (σ85 387 41).toInt := congrArg Int32.toInt (u97 387 41 (by omega))
                have t103 : (σ97 387 39).toInt = (σ85 387 39).toInt := congrArg Int32.toInt (u97 387 39 (by omega))
                refine lv_aload_n hx hb dX12_operand_104 rfl (lv_at hl 3 rfl) ?_
                refine lv_dup hx hb dX12_operand_105 rfl ?_
                refine fg_12_40 (k := 387) hx hb hts in_X12_operand_12 hown hK hP (by decide) (by decide) (hts _ lk_X12_operand_434) dX12_operand_106 ?_
                refine r_iconst hx hb dX12_operand_109 (by decide) (fun z104 ez104 => ?_)
                refine r_iadd hx hb dX12_operand_110 (by omega) (fun z105 ez105 => ?_)
                refine fp_12_40 (k := 387) hx hb hts in_X12_operand_12 hown hK hP (by decide) (by decide) (hts _ lk_X12_operand_434) hI hR hS (by omega) dX12_operand_111 (fun σ106 H106 locs106 u106 v106 hR hP hS => ?_)
                have ub := u106
                have vb := v106
                have hF := hF.puts u106 4 rfl (by decide) (by decide) (by decide) (by decide)
                have gMK := gMK.ag (Agr.put u106 (by decide))
                have gMT := gMT.ag (Agr.put u106 (by decide))
                have gWJ := gWJ.ag (Agr.put u106 (by decide))
                have t107 : (σ106 387 38).toInt = (σ97 387 38).toInt := congrArg Int32.toInt (u106 387 38 (by omega))
                have t108 : (σ106 387 42).toInt = (σ97 387 42).toInt := congrArg Int32.toInt (u106 387 42 (by omega))
                have t109 : (σ106 387 15).toInt = (σ97 387 15).toInt := congrArg Int32.toInt (u106 387 15 (by omega))
                have t110 : (σ106 387 41).toInt = (σ97 387 41).toInt := congrArg Int32.toInt (u106 387 41 (by omega))
                have t111 : (σ106 387 39).toInt = (σ97 387 39).toInt := congrArg Int32.toInt (u106 387 39 (by omega))
                have gPV := PV.push gPV ua va (by omega) (by omega) ub (by omega)
                refine lv_aload_n hx hb dX12_operand_114 rfl (lv_at hl 3 rfl) ?_
                refine lv_dup hx hb dX12_operand_115 rfl ?_
                refine fg_12_41 (k := 387) hx hb hts in_X12_operand_12 hown hK hP (by decide) (by decide) (hts _ lk_X12_operand_440) dX12_operand_116 ?_
                have hdl := SN.dl gSN
                have hd9 := congrArg Int32.toInt ((ub 387 41 (by omega)).trans (ua 387 41 (by omega)))
                refine r_iconst hx hb dX12_operand_119 (by decide) (fun z112 ez112 => ?_)
                refine r_iadd hx hb dX12_operand_120 (by omega) (fun z113 ez113 => ?_)
                refine fp_12_41 (k := 387) hx hb hts in_X12_operand_12 hown hK hP (by decide) (by decide) (hts _ lk_X12_operand_440) hI hR hS dX12_operand_121 (fun σ114 H114 locs114 u114 v114 hR hP hS => ?_)
                have ud := u114
                have vd := v114
                have hF := hF.puts u114 4 rfl (by decide) (by decide) (by decide) (by decide)
                have gMK := gMK.ag (Agr.put u114 (by decide))
                have gMT := gMT.ag (Agr.put u114 (by decide))
                have gPV := PV.put gPV hR u114 (by decide)
                have gWJ := gWJ.ag (Agr.put u114 (by decide))
                have t115 : (σ114 387 38).toInt = (σ106 387 38).toInt := congrArg Int32.toInt (u114 387 38 (by omega))
                have t116 : (σ114 387 42).toInt = (σ106 387 42).toInt := congrArg Int32.toInt (u114 387 42 (by omega))
                have t117 : (σ114 387 15).toInt = (σ106 387 15).toInt := congrArg Int32.toInt (u114 387 15 (by omega))
                have t118 : (σ114 387 39).toInt = (σ106 387 39).toInt := congrArg Int32.toInt (u114 387 39 (by omega))
                have t119 : (σ114 387 40).toInt = (σ106 387 40).toInt := congrArg Int32.toInt (u114 387 40 (by omega))
                refine r_iconst hx hb dX12_operand_124 (by decide) (fun z120 ez120 => ?_)
                exact r_zret hx hb hr hK hP hS hk (by omega) dX12_operand_125 (show P_X12_operand σ0 τ0 b N mo q nn K nm hc z120 σ114 τ85 from ⟨hR, hF, hFL, by omega, by first | exact Or.inl (by omega) | exact Or.inr gPV, by omega, by omega, by first | (exfalso; omega) | exact MO.ofk (ope_x (by omega)) (by omega) (by omega) (by omega) | exact MO.ofk (ope_4 (by omega) (by omega)) (by omega) (by omega) (by omega) | exact MO.ofr (ope_n (by omega) (by omega) (by omega)) (by omega) ⟨gMK, by show _ = ((nn + 1 : Nat) : Int); omega, SN.deep (x := false) gSN (by omega) (by omega) ua (by show _ = (20 : Int); omega) ub (by omega) ud (by omega), by show _ = (0 : Int); omega⟩ | exact MO.ofr (ope_o (by omega) (by omega) (by omega)) (by omega) ⟨gMK, by show _ = ((nn + 1 : Nat) : Int); omega, SN.deep (x := true) gSN (by omega) (by omega) ua (by show _ = (23 : Int); omega) ub (by omega) ud (by omega), by show _ = (0 : Int); omega⟩ | exact MO.ofr (ope_l (by omega) (by omega) (by omega) (by omega) (by omega) (lea_n (by omega) (by omega))) (by omega) ⟨gMK, by show _ = ((nn + 1 : Nat) : Int); omega, gSN, by show _ = (1 : Int); omega⟩ | (obtain ⟨f, e1, x1, x2⟩ := o1.no (by omega); exact MO.ofl (ope_l (by omega) (by omega) (by omega) (by omega) (by omega) (lea_onl (by omega) e1)) (by omega) x1 x2) | exact MO.ofr (ope_l (by omega) (by omega) (by omega) (by omega) (by omega) (lea_onr (by omega) e1)) (by omega) ⟨gMK, by show _ = ((nn + 1 : Nat) : Int); omega, gSN, by show _ = (1 : Int); omega⟩ | exact MO.ofk (ope_l (by omega) (by omega) (by omega) (by omega) (by omega) (lea_m1 (by omega) (by omega))) (by omega) (by omega) (by omega) | exact MO.ofk (ope_l (by omega) (by omega) (by omega) (by omega) (by omega) (lea_m2 (by omega) (by omega) (by omega))) (by omega) (by omega) (by omega) | exact MO.ofr (ope_l (by omega) (by omega) (by omega) (by omega) (by omega) (lea_m3 (by omega) (by omega) (by omega))) (by omega) ⟨gMK, by show _ = ((nn + 1 : Nat) : Int); omega, gSN, by show _ = (1 : Int); omega⟩, by omega, gMT, gRV, gWJ⟩)
              · exfalso; omega
        · refine lv_aload_n hx hb dX12_operand_56 rfl (lv_at hl 3 rfl) ?_
          refine r_iconst hx hb dX12_operand_57 (by decide) (fun z121 ez121 => ?_)
          refine r_cVi (k := 387) (As := [.int z121]) (rest := []) ⟨hx, hb, hml, hown, hts⟩ hK hP hN hS (c_X12_bad_v l D cA ad hI σ0 τ0 hR z121 _ _ _ _ (by omega) gMK) (cwV 1 hts gX12_operand_X12_bad rfl rfl rfl (by decide +kernel) ⟨by decide, by decide⟩) (rv_M hK hP (by decide) (by decide)) rfl hl.1 rfl (Nat.le_of_ble_eq_true rfl) dX12_operand_58 (Nat.zero_le _) (Nat.zero_le _) (fun r122 u122 H122 locs122 hp122 hP hS => ?_)
          obtain ⟨σ122, τ122⟩ := u122
          obtain ⟨hR, f122, fL122, hq122, hp122_0, hp122_1, hp122_2, gnMK⟩ : P_X12_bad_v σ0 τ0 z121 _ _ _ _ r122 σ122 τ122 := hp122
          have hP : va_P D vwCl (gw cA ad σ122 τ122) H122 := hP
          obtain rfl := FrL.nil fL122
          have hF := hF.step f122 (by decide)
          have gMK := gMK.ag (Agr.fr f122 (by decide))
          have gMT := gMT.ag (Agr.fr f122 (by decide))
          have gPV := PV.fr gPV hR f122 (by decide)
          have gPW := PW.fr gPW hR f122 (by decide)
          have gSN := gSN.ag (Agr.fr f122 (by decide))
          have gWJ := gWJ.ag (Agr.fr f122 (by decide))
          have t123 : (σ122 387 38).toInt = (σ0 387 38).toInt := congrArg Int32.toInt (f122.at 387 38 (by decide))
          have t124 : (σ122 387 39).toInt = (σ0 387 39).toInt := congrArg Int32.toInt (f122.at 387 39 (by decide))
          have t125 : (σ122 387 40).toInt = (σ0 387 40).toInt := congrArg Int32.toInt (f122.at 387 40 (by decide))
          have t126 : (σ122 387 42).toInt = (σ0 387 42).toInt := congrArg Int32.toInt (f122.at 387 42 (by decide))
          have t127 : (σ122 387 41).toInt = (σ0 387 41).toInt := congrArg Int32.toInt (f122.at 387 41 (by decide))
          exact r_zret hx hb hr hK hP hS hk (by omega) dX12_operand_61 (show P_X12_operand σ0 τ0 b N mo q nn K nm hc r122 σ122 τ0 from ⟨hR, hF, hFL, by omega, by first | exact Or.inl (by omega) | exact Or.inr gPV, by omega, by omega, by first | (exfalso; omega) | exact MO.ofk (ope_x (by omega)) (by omega) (by omega) (by omega) | exact MO.ofk (ope_4 (by omega) (by omega)) (by omega) (by omega) (by omega) | exact MO.ofr (ope_n (by omega) (by omega) (by omega)) (by omega) ⟨gMK, by show _ = ((nn + 1 : Nat) : Int); omega, SN.deep (x := false) gSN (by omega) (by omega) ua (by show _ = (20 : Int); omega) ub (by omega) ud (by omega), by show _ = (0 : Int); omega⟩ | exact MO.ofr (ope_o (by omega) (by omega) (by omega)) (by omega) ⟨gMK, by show _ = ((nn + 1 : Nat) : Int); omega, SN.deep (x := true) gSN (by omega) (by omega) ua (by show _ = (23 : Int); omega) ub (by omega) ud (by omega), by show _ = (0 : Int); omega⟩ | exact MO.ofr (ope_l (by omega) (by omega) (by omega) (by omega) (by omega) (lea_n (by omega) (by omega))) (by omega) ⟨gMK, by show _ = ((nn + 1 : Nat) : Int); omega, gSN, by show _ = (1 : Int); omega⟩ | (obtain ⟨f, e1, x1, x2⟩ := o1.no (by omega); exact MO.ofl (ope_l (by omega) (by omega) (by omega) (by omega) (by omega) (lea_onl (by omega) e1)) (by omega) x1 x2) | exact MO.ofr (ope_l (by omega) (by omega) (by omega) (by omega) (by omega) (lea_onr (by omega) e1)) (by omega) ⟨gMK, by show _ = ((nn + 1 : Nat) : Int); omega, gSN, by show _ = (1 : Int); omega⟩ | exact MO.ofk (ope_l (by omega) (by omega) (by omega) (by omega) (by omega) (lea_m1 (by omega) (by omega))) (by omega) (by omega) (by omega) | exact MO.ofk (ope_l (by omega) (by omega) (by omega) (by omega) (by omega) (lea_m2 (by omega) (by omega) (by omega))) (by omega) (by omega) (by omega) | exact MO.ofr (ope_l (by omega) (by omega) (by omega) (by omega) (by omega) (lea_m3 (by omega) (by omega) (by omega))) (by omega) ⟨gMK, by show _ = ((nn + 1 : Nat) : Int); omega, gSN, by show _ = (1 : Int); omega⟩, by omega, gMT, gRV, gWJ⟩)
    · clear hp3_0
      have ao := (aopen.resolve_left (fun c => by omega)).2
      clear aopen
      refine lv_iload_n hx hb dX12_operand_28 rfl (lv_at hl 0 rfl) ?_
      refine r_if_ge (tgt := 38) hx hb dX12_operand_29 (by decide) (fun c128 => ?_) (fun c128 => ?_)
      · first | (have an := (anot.resolve_right (fun c => by omega)).2; clear anot aopen alf) | (have ao := (aopen.resolve_right (fun c => by omega)).2; clear aopen alf) | (have al := alf.resolve_left (fun c => by omega); clear alf)
        refine lv_aload_n hx hb dX12_operand_38 rfl (lv_at hl 3 rfl) ?_
        refine fg_12_39 (k := 387) hx hb hts in_X12_operand_12 hown hK hP (by decide) (by decide) (hts _ lk_X12_operand_446) dX12_operand_39 ?_
        refine r_bipush hx hb dX12_operand_42 (by decide) (fun z129 ez129 => ?_)
        refine r_icmp_eq (tgt := 56) hx hb dX12_operand_44 (by decide) (fun c130 => ?_) (fun c130 => ?_)
        · refine lv_aload_n hx hb dX12_operand_56 rfl (lv_at hl 3 rfl) ?_
          refine r_iconst hx hb dX12_operand_57 (by decide) (fun z131 ez131 => ?_)
          refine r_cVi (k := 387) (As := [.int z131]) (rest := []) ⟨hx, hb, hml, hown, hts⟩ hK hP hN hS (c_X12_bad_v l D cA ad hI σ0 τ0 hR z131 _ _ _ _ (by omega) gMK) (cwV 1 hts gX12_operand_X12_bad rfl rfl rfl (by decide +kernel) ⟨by decide, by decide⟩) (rv_M hK hP (by decide) (by decide)) rfl hl.1 rfl (Nat.le_of_ble_eq_true rfl) dX12_operand_58 (Nat.zero_le _) (Nat.zero_le _) (fun r132 u132 H132 locs132 hp132 hP hS => ?_)
          obtain ⟨σ132, τ132⟩ := u132
          obtain ⟨hR, f132, fL132, hq132, hp132_0, hp132_1, hp132_2, gnMK⟩ : P_X12_bad_v σ0 τ0 z131 _ _ _ _ r132 σ132 τ132 := hp132
          have hP : va_P D vwCl (gw cA ad σ132 τ132) H132 := hP
          obtain rfl := FrL.nil fL132
          have hF := hF.step f132 (by decide)
          have gMK := gMK.ag (Agr.fr f132 (by decide))
          have gMT := gMT.ag (Agr.fr f132 (by decide))
          have gPV := PV.fr gPV hR f132 (by decide)
          have gPW := PW.fr gPW hR f132 (by decide)
          have gSN := gSN.ag (Agr.fr f132 (by decide))
          have gWJ := gWJ.ag (Agr.fr f132 (by decide))
          have t133 : (σ132 387 38).toInt = (σ0 387 38).toInt := congrArg Int32.toInt (f132.at 387 38 (by decide))
          have t134 : (σ132 387 39).toInt = (σ0 387 39).toInt := congrArg Int32.toInt (f132.at 387 39 (by decide))
          have t135 : (σ132 387 40).toInt = (σ0 387 40).toInt := congrArg Int32.toInt (f132.at 387 40 (by decide))
          have t136 : (σ132 387 42).toInt = (σ0 387 42).toInt := congrArg Int32.toInt (f132.at 387 42 (by decide))
          exact r_zret hx hb hr hK hP hS hk (by omega) dX12_operand_61 (show P_X12_operand σ0 τ0 b N mo q nn K nm hc r132 σ132 τ0 from ⟨hR, hF, hFL, by omega, by first | exact Or.inl (by omega) | exact Or.inr gPV, by omega, by omega, by first | (exfalso; omega) | exact MO.ofk (ope_x (by omega)) (by omega) (by omega) (by omega) | exact MO.ofk (ope_4 (by omega) (by omega)) (by omega) (by omega) (by omega) | exact MO.ofr (ope_n (by omega) (by omega) (by omega)) (by omega) ⟨gMK, by show _ = ((nn + 1 : Nat) : Int); omega, SN.deep (x := false) gSN (by omega) (by omega) ua (by show _ = (20 : Int); omega) ub (by omega) ud (by omega), by show _ = (0 : Int); omega⟩ | exact MO.ofr (ope_o (by omega) (by omega) (by omega)) (by omega) ⟨gMK, by show _ = ((nn + 1 : Nat) : Int); omega, SN.deep (x := true) gSN (by omega) (by omega) ua (by show _ = (23 : Int); omega) ub (by omega) ud (by omega), by show _ = (0 : Int); omega⟩ | exact MO.ofr (ope_l (by omega) (by omega) (by omega) (by omega) (by omega) (lea_n (by omega) (by omega))) (by omega) ⟨gMK, by show _ = ((nn + 1 : Nat) : Int); omega, gSN, by show _ = (1 : Int); omega⟩ | (obtain ⟨f, e1, x1, x2⟩ := o1.no (by omega); exact MO.ofl (ope_l (by omega) (by omega) (by omega) (by omega) (by omega) (lea_onl (by omega) e1)) (by omega) x1 x2) | exact MO.ofr (ope_l (by omega) (by omega) (by omega) (by omega) (by omega) (lea_onr (by omega) e1)) (by omega) ⟨gMK, by show _ = ((nn + 1 : Nat) : Int); omega, gSN, by show _ = (1 : Int); omega⟩ | exact MO.ofk (ope_l (by omega) (by omega) (by omega) (by omega) (by omega) (lea_m1 (by omega) (by omega))) (by omega) (by omega) (by omega) | exact MO.ofk (ope_l (by omega) (by omega) (by omega) (by omega) (by omega) (lea_m2 (by omega) (by omega) (by omega))) (by omega) (by omega) (by omega) | exact MO.ofr (ope_l (by omega) (by omega) (by omega) (by omega) (by omega) (lea_m3 (by omega) (by omega) (by omega))) (by omega) ⟨gMK, by show _ = ((nn + 1 : Nat) : Int); omega, gSN, by show _ = (1 : Int); omega⟩, by omega, gMT, gRV, gWJ⟩)
        · refine lv_aload_n hx hb dX12_operand_47 rfl (lv_at hl 3 rfl) ?_
          refine fg_12_41 (k := 387) hx hb hts in_X12_operand_12 hown hK hP (by decide) (by decide) (hts _ lk_X12_operand_440) dX12_operand_48 ?_
          refine r_bipush hx hb dX12_operand_51 (by decide) (fun z137 ez137 => ?_)
          refine r_icmp_le (tgt := 62) hx hb dX12_operand_53 (by decide) (fun c138 => ?_) (fun c138 => ?_)
          · refine lv_aload_n hx hb dX12_operand_62 rfl (lv_at hl 3 rfl) ?_
            refine lv_dup hx hb dX12_operand_63 rfl ?_
            refine fg_12_39 (k := 387) hx hb hts in_X12_operand_12 hown hK hP (by decide) (by decide) (hts _ lk_X12_operand_446) dX12_operand_64 ?_
            refine r_iconst hx hb dX12_operand_67 (by decide) (fun z139 ez139 => ?_)
            refine r_iadd hx hb dX12_operand_68 (by omega) (fun z140 ez140 => ?_)
            refine fp_12_39 (k := 387) hx hb hts in_X12_operand_12 hown hK hP (by decide) (by decide) (hts _ lk_X12_operand_446) hI hR hS (by omega) dX12_operand_69 (fun σ141 H141 locs141 u141 v141 hR hP hS => ?_)
            have hF := hF.puts u141 4 rfl (by decide) (by decide) (by decide) (by decide)
            have gMK := gMK.ag (Agr.put u141 (by decide))
            have gMT := gMT.ag (Agr.put u141 (by decide))
            have gPV := PV.put gPV hR u141 (by decide)
            have gPW := PW.put gPW hR u141 (by decide)
            have gSN := gSN.ag (Agr.put u141 (by decide))
            have gWJ := gWJ.ag (Agr.put u141 (by decide))
            have t142 : (σ141 387 38).toInt = (σ0 387 38).toInt := congrArg Int32.toInt (u141 387 38 (by omega))
            have t143 : (σ141 387 40).toInt = (σ0 387 40).toInt := congrArg Int32.toInt (u141 387 40 (by omega))
            have t144 : (σ141 387 42).toInt = (σ0 387 42).toInt := congrArg Int32.toInt (u141 387 42 (by omega))
            have t145 : (σ141 387 15).toInt = (σ0 387 15).toInt := congrArg Int32.toInt (u141 387 15 (by omega))
            have t146 : (σ141 387 41).toInt = (σ0 387 41).toInt := congrArg Int32.toInt (u141 387 41 (by omega))
            refine lv_aload_n hx hb dX12_operand_72 rfl (lv_at hl 3 rfl) ?_
            refine r_cVv (k := 387) (As := []) (rest := []) ⟨hx, hb, hml, hown, hts⟩ hK hP hN hS (c_X12_next_v l D cA ad hI σ141 τ0 hR _ _ _ _ gMK.mp gMT) (cwV 0 hts gX12_operand_X12_next rfl rfl rfl (by decide +kernel) ⟨by decide, by decide⟩) (rv_M hK hP (by decide) (by decide)) rfl hl.1 rfl (Nat.le_of_ble_eq_true rfl) dX12_operand_73 (Nat.zero_le _) (Nat.zero_le _) (fun u147 H147 locs147 hp147 hP hS => ?_)
            obtain ⟨σ147, τ147⟩ := u147
            obtain ⟨hR, f147, fL147, hp147_0, hp147_1, hp147_2, hp147_3, gnMT⟩ : P_X12_next_v σ141 τ0 _ _ _ _ σ147 τ147 := hp147
            have hP : va_P D vwCl (gw cA ad σ147 τ147) H147 := hP
            have hFL := hFL.step fL147 (by decide)
            have gRV := gRV.agL (AgrL.fr fL147 (by decide))
            have gWJ := gWJ.agL (AgrL.fr fL147 (by decide))
            have hF := hF.step f147 (by decide)
            have gMT := gMT.ag (Agr.fr f147 (by decide))
            have gPV := PV.fr gPV hR f147 (by decide)
            have gPW := PW.fr gPW hR f147 (by decide)
            have gSN := gSN.ag (Agr.fr f147 (by decide))
            have gWJ := gWJ.ag (Agr.fr f147 (by decide))
            have t148 : (σ147 387 38).toInt = (σ141 387 38).toInt := congrArg Int32.toInt (f147.at 387 38 (by decide))
            have t149 : (σ147 387 40).toInt = (σ141 387 40).toInt := congrArg Int32.toInt (f147.at 387 40 (by decide))
            have t150 : (σ147 387 42).toInt = (σ141 387 42).toInt := congrArg Int32.toInt (f147.at 387 42 (by decide))
            have t151 : (σ147 387 15).toInt = (σ141 387 15).toInt := congrArg Int32.toInt (f147.at 387 15 (by decide))
            have t152 : (σ147 387 41).toInt = (σ141 387 41).toInt := congrArg Int32.toInt (f147.at 387 41 (by decide))
            have t153 : (σ147 387 39).toInt = (σ141 387 39).toInt := congrArg Int32.toInt (f147.at 387 39 (by decide))
            have gMK := hp147_3
            replace hp147_1 : True := trivial
            refine lv_iload_n hx hb dX12_operand_76 rfl (lv_at hl 2 rfl) ?_
            refine r_if_ne (tgt := 84) hx hb dX12_operand_77 (by decide) (fun c154 => ?_) (fun c154 => ?_)
            · exfalso; omega
            · refine lv_iload_n hx hb dX12_operand_80 rfl (lv_at hl 1 rfl) ?_
              refine r_if_eq (tgt := 126) hx hb dX12_operand_81 (by decide) (fun c155 => ?_) (fun c155 => ?_)
              · refine lv_aload_n hx hb dX12_operand_126 rfl (lv_at hl 3 rfl) ?_
                refine r_iconst hx hb dX12_operand_127 (by decide) (fun z156 ez156 => ?_)
                refine fp_12_42 (k := 387) hx hb hts in_X12_operand_12 hown hK hP (by decide) (by decide) (hts _ lk_X12_operand_449) hI hR hS (by omega) dX12_operand_128 (fun σ157 H157 locs157 u157 v157 hR hP hS => ?_)
                have uw := u157
                have vw := v157
                have hF := hF.puts u157 4 rfl (by decide) (by decide) (by decide) (by decide)
                have gMK := gMK.ag (Agr.put u157 (by decide))
                have gMT := gMT.ag (Agr.put u157 (by decide))
                have gPW := PW.put gPW hR u157 (by decide)
                have gSN := gSN.ag (Agr.put u157 (by decide))
                have gWJ := gWJ.ag (Agr.put u157 (by decide))
                have t158 : (σ157 387 38).toInt = (σ147 387 38).toInt := congrArg Int32.toInt (u157 387 38 (by omega))
                have t159 : (σ157 387 40).toInt = (σ147 387 40).toInt := congrArg Int32.toInt (u157 387 40 (by omega))
                have t160 : (σ157 387 15).toInt = (σ147 387 15).toInt := congrArg Int32.toInt (u157 387 15 (by omega))
                have t161 : (σ157 387 41).toInt = (σ147 387 41).toInt := congrArg Int32.toInt (u157 387 41 (by omega))
                have t162 : (σ157 387 39).toInt = (σ147 387 39).toInt := congrArg Int32.toInt (u157 387 39 (by omega))
                refine lv_iload_n hx hb dX12_operand_131 rfl (lv_at hl 0 rfl) ?_
                refine r_iconst hx hb dX12_operand_132 (by decide) (fun z163 ez163 => ?_)
                refine r_icmp_ge (tgt := 145) hx hb dX12_operand_133 (by decide) (fun c164 => ?_) (fun c164 => ?_)
                · refine lv_iload_n hx hb dX12_operand_145 rfl (lv_at hl 0 rfl) ?_
                  refine r_iconst hx hb dX12_operand_146 (by decide) (fun z165 ez165 => ?_)
                  refine r_icmp_ne (tgt := 182) hx hb dX12_operand_147 (by decide) (fun c166 => ?_) (fun c166 => ?_)
                  · have al2 := ((al.resolve_left (fun c => by omega)).resolve_right (fun c => by omega)).2.2
                    clear al
                    refine lv_aload_n hx hb dX12_operand_182 rfl (lv_at hl 3 rfl) ?_
                    have hms := gMK.ms
                    refine fg_12_11 (k := 387) hx hb hts in_X12_operand_12 hown hK hP (by decide) (by decide) (hts _ lk_X12_operand_159) dX12_operand_183 ?_
                    refine r_iconst hx hb dX12_operand_186 (by decide) (fun z167 ez167 => ?_)
                    refine r_icmp_ne (tgt := 208) hx hb dX12_operand_187 (by decide) (fun c168 => ?_) (fun c168 => ?_)
                    · have hm2 : ¬ (41 ≤ tkq b N mo (nxq b N mo q) ∧ tkq b N mo (nxq b N mo q) ≤ 43) := fun h => by have h9 := hms.mpr h; omega
                      clear hms
                      refine lv_aload_n hx hb dX12_operand_208 rfl (lv_at hl 3 rfl) ?_
                      refine r_iconst hx hb dX12_operand_209 (by decide) (fun z169 ez169 => ?_)
                      refine r_cVi (k := 387) (As := [.int z169]) (rest := []) ⟨hx, hb, hml, hown, hts⟩ hK hP hN hS (c_X12_bad_v l D cA ad hI σ157 τ147 hR z169 _ _ _ _ (by omega) gMK) (cwV 1 hts gX12_operand_X12_bad rfl rfl rfl (by decide +kernel) ⟨by decide, by decide⟩) (rv_M hK hP (by decide) (by decide)) rfl hl.1 rfl (Nat.le_of_ble_eq_true rfl) dX12_operand_210 (Nat.zero_le _) (Nat.zero_le _) (fun r170 u170 H170 locs170 hp170 hP hS => ?_)
                      obtain ⟨σ170, τ170⟩ := u170
                      obtain ⟨hR, f170, fL170, hq170, hp170_0, hp170_1, hp170_2, gnMK⟩ : P_X12_bad_v σ157 τ147 z169 _ _ _ _ r170 σ170 τ170 := hp170
                      have hP : va_P D vwCl (gw cA ad σ170 τ170) H170 := hP
                      obtain rfl := FrL.nil fL170
                      have hF := hF.step f170 (by decide)
                      have gMK := gMK.ag (Agr.fr f170 (by decide))
                      have gMT := gMT.ag (Agr.fr f170 (by decide))
                      have gPW := PW.fr gPW hR f170 (by decide)
                      have gSN := gSN.ag (Agr.fr f170 (by decide))
                      have gWJ := gWJ.ag (Agr.fr f170 (by decide))
                      have t171 : (σ170 387 38).toInt = (σ157 387 38).toInt := congrArg Int32.toInt (f170.at 387 38 (by decide))
                      have t172 : (σ170 387 40).toInt = (σ157 387 40).toInt := congrArg Int32.toInt (f170.at 387 40 (by decide))
                      have t173 : (σ170 387 41).toInt = (σ157 387 41).toInt := congrArg Int32.toInt (f170.at 387 41 (by decide))
                      have t174 : (σ170 387 39).toInt = (σ157 387 39).toInt := congrArg Int32.toInt (f170.at 387 39 (by decide))
                      have t175 : (σ170 387 42).toInt = (σ157 387 42).toInt := congrArg Int32.toInt (f170.at 387 42 (by decide))
                      have t176 : (σ170 387 11).toInt = (σ157 387 11).toInt := congrArg Int32.toInt (f170.at 387 11 (by decide))
                      exact r_zret hx hb hr hK hP hS hk (by omega) dX12_operand_213 (show P_X12_operand σ0 τ0 b N mo q nn K nm hc r170 σ170 τ147 from ⟨hR, hF, hFL, by omega, by first | exact Or.inl (by omega) | exact Or.inr gPV, by omega, by omega, by first | (exfalso; omega) | exact MO.ofk (ope_x (by omega)) (by omega) (by omega) (by omega) | exact MO.ofk (ope_4 (by omega) (by omega)) (by omega) (by omega) (by omega) | exact MO.ofr (ope_n (by omega) (by omega) (by omega)) (by omega) ⟨gMK, by show _ = ((nn + 1 : Nat) : Int); omega, SN.deep (x := false) gSN (by omega) (by omega) ua (by show _ = (20 : Int); omega) ub (by omega) ud (by omega), by show _ = (0 : Int); omega⟩ | exact MO.ofr (ope_o (by omega) (by omega) (by omega)) (by omega) ⟨gMK, by show _ = ((nn + 1 : Nat) : Int); omega, SN.deep (x := true) gSN (by omega) (by omega) ua (by show _ = (23 : Int); omega) ub (by omega) ud (by omega), by show _ = (0 : Int); omega⟩ | exact MO.ofr (ope_l (by omega) (by omega) (by omega) (by omega) (by omega) (lea_n (by omega) (by omega))) (by omega) ⟨gMK, by show _ = ((nn + 1 : Nat) : Int); omega, gSN, by show _ = (1 : Int); omega⟩ | (obtain ⟨f, e1, x1, x2⟩ := o1.no (by omega); exact MO.ofl (ope_l (by omega) (by omega) (by omega) (by omega) (by omega) (lea_onl (by omega) e1)) (by omega) x1 x2) | exact MO.ofr (ope_l (by omega) (by omega) (by omega) (by omega) (by omega) (lea_onr (by omega) e1)) (by omega) ⟨gMK, by show _ = ((nn + 1 : Nat) : Int); omega, gSN, by show _ = (1 : Int); omega⟩ | exact MO.ofk (ope_l (by omega) (by omega) (by omega) (by omega) (by omega) (lea_m1 (by omega) (by omega))) (by omega) (by omega) (by omega) | exact MO.ofk (ope_l (by omega) (by omega) (by omega) (by omega) (by omega) (lea_m2 (by omega) (by omega) (by omega))) (by omega) (by omega) (by omega) | exact MO.ofr (ope_l (by omega) (by omega) (by omega) (by omega) (by omega) (lea_m3 (by omega) (by omega) (by omega))) (by omega) ⟨gMK, by show _ = ((nn + 1 : Nat) : Int); omega, gSN, by show _ = (1 : Int); omega⟩, by omega, gMT, gRV, gWJ⟩)
                    · refine lv_aload_n hx hb dX12_operand_190 rfl (lv_at hl 3 rfl) ?_
                      refine fg_12_14 (k := 387) hx hb hts in_X12_operand_12 hown hK hP (by decide) (by decide) (hts _ lk_X12_operand_169) dX12_operand_191 ?_
                      refine r_bipush hx hb dX12_operand_194 (by decide) (fun z177 ez177 => ?_)
                      refine r_icmp_lt (tgt := 208) hx hb dX12_operand_196 (by decide) (fun c178 => ?_) (fun c178 => ?_)
                      · have hm2 : ¬ (41 ≤ tkq b N mo (nxq b N mo q) ∧ tkq b N mo (nxq b N mo q) ≤ 43) := fun h => by have h9 := hms.mpr h; omega
                        clear hms
                        refine lv_aload_n hx hb dX12_operand_208 rfl (lv_at hl 3 rfl) ?_
                        refine r_iconst hx hb dX12_operand_209 (by decide) (fun z179 ez179 => ?_)
                        refine r_cVi (k := 387) (As := [.int z179]) (rest := []) ⟨hx, hb, hml, hown, hts⟩ hK hP hN hS (c_X12_bad_v l D cA ad hI σ157 τ147 hR z179 _ _ _ _ (by omega) gMK) (cwV 1 hts gX12_operand_X12_bad rfl rfl rfl (by decide +kernel) ⟨by decide, by decide⟩) (rv_M hK hP (by decide) (by decide)) rfl hl.1 rfl (Nat.le_of_ble_eq_true rfl) dX12_operand_210 (Nat.zero_le _) (Nat.zero_le _) (fun r180 u180 H180 locs180 hp180 hP hS => ?_)
                        obtain ⟨σ180, τ180⟩ := u180
                        obtain ⟨hR, f180, fL180, hq180, hp180_0, hp180_1, hp180_2, gnMK⟩ : P_X12_bad_v σ157 τ147 z179 _ _ _ _ r180 σ180 τ180 := hp180
                        have hP : va_P D vwCl (gw cA ad σ180 τ180) H180 := hP
                        obtain rfl := FrL.nil fL180
                        have hF := hF.step f180 (by decide)
                        have gMK := gMK.ag (Agr.fr f180 (by decide))
                        have gMT := gMT.ag (Agr.fr f180 (by decide))
                        have gPW := PW.fr gPW hR f180 (by decide)
                        have gSN := gSN.ag (Agr.fr f180 (by decide))
                        have gWJ := gWJ.ag (Agr.fr f180 (by decide))
                        have t181 : (σ180 387 38).toInt = (σ157 387 38).toInt := congrArg Int32.toInt (f180.at 387 38 (by decide))
                        have t182 : (σ180 387 40).toInt = (σ157 387 40).toInt := congrArg Int32.toInt (f180.at 387 40 (by decide))
                        have t183 : (σ180 387 41).toInt = (σ157 387 41).toInt := congrArg Int32.toInt (f180.at 387 41 (by decide))
                        have t184 : (σ180 387 39).toInt = (σ157 387 39).toInt := congrArg Int32.toInt (f180.at 387 39 (by decide))
                        have t185 : (σ180 387 42).toInt = (σ157 387 42).toInt := congrArg Int32.toInt (f180.at 387 42 (by decide))
                        have t186 : (σ180 387 11).toInt = (σ157 387 11).toInt := congrArg Int32.toInt (f180.at 387 11 (by decide))
                        have t187 : (σ180 387 14).toInt = (σ157 387 14).toInt := congrArg Int32.toInt (f180.at 387 14 (by decide))
                        exact r_zret hx hb hr hK hP hS hk (by omega) dX12_operand_213 (show P_X12_operand σ0 τ0 b N mo q nn K nm hc r180 σ180 τ147 from ⟨hR, hF, hFL, by omega, by first | exact Or.inl (by omega) | exact Or.inr gPV, by omega, by omega, by first | (exfalso; omega) | exact MO.ofk (ope_x (by omega)) (by omega) (by omega) (by omega) | exact MO.ofk (ope_4 (by omega) (by omega)) (by omega) (by omega) (by omega) | exact MO.ofr (ope_n (by omega) (by omega) (by omega)) (by omega) ⟨gMK, by show _ = ((nn + 1 : Nat) : Int); omega, SN.deep (x := false) gSN (by omega) (by omega) ua (by show _ = (20 : Int); omega) ub (by omega) ud (by omega), by show _ = (0 : Int); omega⟩ | exact MO.ofr (ope_o (by omega) (by omega) (by omega)) (by omega) ⟨gMK, by show _ = ((nn + 1 : Nat) : Int); omega, SN.deep (x := true) gSN (by omega) (by omega) ua (by show _ = (23 : Int); omega) ub (by omega) ud (by omega), by show _ = (0 : Int); omega⟩ | exact MO.ofr (ope_l (by omega) (by omega) (by omega) (by omega) (by omega) (lea_n (by omega) (by omega))) (by omega) ⟨gMK, by show _ = ((nn + 1 : Nat) : Int); omega, gSN, by show _ = (1 : Int); omega⟩ | (obtain ⟨f, e1, x1, x2⟩ := o1.no (by omega); exact MO.ofl (ope_l (by omega) (by omega) (by omega) (by omega) (by omega) (lea_onl (by omega) e1)) (by omega) x1 x2) | exact MO.ofr (ope_l (by omega) (by omega) (by omega) (by omega) (by omega) (lea_onr (by omega) e1)) (by omega) ⟨gMK, by show _ = ((nn + 1 : Nat) : Int); omega, gSN, by show _ = (1 : Int); omega⟩ | exact MO.ofk (ope_l (by omega) (by omega) (by omega) (by omega) (by omega) (lea_m1 (by omega) (by omega))) (by omega) (by omega) (by omega) | exact MO.ofk (ope_l (by omega) (by omega) (by omega) (by omega) (by omega) (lea_m2 (by omega) (by omega) (by omega))) (by omega) (by omega) (by omega) | exact MO.ofr (ope_l (by omega) (by omega) (by omega) (by omega) (by omega) (lea_m3 (by omega) (by omega) (by omega))) (by omega) ⟨gMK, by show _ = ((nn + 1 : Nat) : Int); omega, gSN, by show _ = (1 : Int); omega⟩, by omega, gMT, gRV, gWJ⟩)
                      · refine lv_aload_n hx hb dX12_operand_199 rfl (lv_at hl 3 rfl) ?_
                        refine fg_12_14 (k := 387) hx hb hts in_X12_operand_12 hown hK hP (by decide) (by decide) (hts _ lk_X12_operand_169) dX12_operand_200 ?_
                        refine r_bipush hx hb dX12_operand_203 (by decide) (fun z188 ez188 => ?_)
                        refine r_icmp_le (tgt := 214) hx hb dX12_operand_205 (by decide) (fun c189 => ?_) (fun c189 => ?_)
                        · have hm2 := hms.mp ⟨by omega, by omega, by omega⟩
                          clear hms
                          refine lv_aload_n hx hb dX12_operand_214 rfl (lv_at hl 3 rfl) ?_
                          refine fg_12_14 (k := 387) hx hb hts in_X12_operand_12 hown hK hP (by decide) (by decide) (hts _ lk_X12_operand_169) dX12_operand_215 ?_
                          refine lv_istore (lv' := [(4, .int (σ157 387 14)), (3, .int r4), (2, .int r3), (1, .int r1), (0, .ref (ad 387))]) hx hb dX12_operand_218 hl (by decide) rfl (fun ls hl => ?_)
                          refine lv_aload_n hx hb dX12_operand_220 rfl (lv_at hl 4 rfl) ?_
                          refine r_cVv (k := 387) (As := []) (rest := []) ⟨hx, hb, hml, hown, hts⟩ hK hP hN hS (c_X12_next_v l D cA ad hI σ157 τ147 hR _ _ _ _ gMK.mp gMT) (cwV 0 hts gX12_operand_X12_next rfl rfl rfl (by decide +kernel) ⟨by decide, by decide⟩) (rv_M hK hP (by decide) (by decide)) rfl hl.1 rfl (Nat.le_of_ble_eq_true rfl) dX12_operand_221 (Nat.zero_le _) (Nat.zero_le _) (fun u190 H190 locs190 hp190 hP hS => ?_)
                          obtain ⟨σ190, τ190⟩ := u190
                          obtain ⟨hR, f190, fL190, hp190_0, hp190_1, hp190_2, hp190_3, gnMT⟩ : P_X12_next_v σ157 τ147 _ _ _ _ σ190 τ190 := hp190
                          have hP : va_P D vwCl (gw cA ad σ190 τ190) H190 := hP
                          clear hp147_1
                          have hFL := hFL.step fL190 (by decide)
                          have gRV := gRV.agL (AgrL.fr fL190 (by decide))
                          have gWJ := gWJ.agL (AgrL.fr fL190 (by decide))
                          have hF := hF.step f190 (by decide)
                          have gMT := gMT.ag (Agr.fr f190 (by decide))
                          have gPW := PW.fr gPW hR f190 (by decide)
                          have gSN := gSN.ag (Agr.fr f190 (by decide))
                          have gWJ := gWJ.ag (Agr.fr f190 (by decide))
                          have t191 : (σ190 387 38).toInt = (σ157 387 38).toInt := congrArg Int32.toInt (f190.at 387 38 (by decide))
                          have t192 : (σ190 387 40).toInt = (σ157 387 40).toInt := congrArg Int32.toInt (f190.at 387 40 (by decide))
                          have t193 : (σ190 387 15).toInt = (σ157 387 15).toInt := congrArg Int32.toInt (f190.at 387 15 (by decide))
                          have t194 : (σ190 387 41).toInt = (σ157 387 41).toInt := congrArg Int32.toInt (f190.at 387 41 (by decide))
                          have t195 : (σ190 387 39).toInt = (σ157 387 39).toInt := congrArg Int32.toInt (f190.at 387 39 (by decide))
                          have t196 : (σ190 387 42).toInt = (σ157 387 42).toInt := congrArg Int32.toInt (f190.at 387 42 (by decide))
                          have gMK := hp190_3
                          replace hp190_1 : True := trivial
                          refine lv_aload_n hx hb dX12_operand_224 rfl (lv_at hl 4 rfl) ?_
                          have hkd := gMK.kd
                          refine fg_12_11 (k := 387) hx hb hts in_X12_operand_12 hown hK hP (by decide) (by decide) (hts _ lk_X12_operand_159) dX12_operand_225 ?_
                          refine r_iconst hx hb dX12_operand_228 (by decide) (fun z197 ez197 => ?_)
                          refine r_icmp_eq (tgt := 238) hx hb dX12_operand_229 (by decide) (fun c198 => ?_) (fun c198 => ?_)
                          · have hk2 := hkd.2.1.mp (by omega)
                            clear hkd
                            refine lv_aload_n hx hb dX12_operand_238 rfl (lv_at hl 4 rfl) ?_
                            refine lv_iload_n hx hb dX12_operand_239 rfl (lv_at hl 1 rfl) ?_
                            refine lv_iload hx hb dX12_operand_240 (lv_at hl 0 rfl) ?_
                            refine lv_aload_n hx hb dX12_operand_242 rfl (lv_at hl 4 rfl) ?_
                            refine fg_12_14 (k := 387) hx hb hts in_X12_operand_12 hown hK hP (by decide) (by decide) (hts _ lk_X12_operand_169) dX12_operand_243 ?_
                            refine r_cVv (k := 387) (As := [.int r4, .int (σ157 387 14), .int (σ190 387 14)]) (rest := []) ⟨hx, hb, hml, hown, hts⟩ hK hP hN hS (c_X12_code l D cA ad hI σ190 τ190 hR r4 (σ157 387 14) (σ190 387 14) (by omega) (by omega) (by omega)) (cwV 3 hts gX12_operand_X12_code rfl rfl rfl (by decide +kernel) ⟨by decide, by decide⟩) (rv_M hK hP (by decide) (by decide)) rfl hl.1 rfl (Nat.le_of_ble_eq_true rfl) dX12_operand_246 (Nat.zero_le _) (Nat.zero_le _) (fun u199 H199 locs199 hp199 hP hS => ?_)
                            obtain ⟨σ199, τ199⟩ := u199
                            obtain ⟨hR, f199, fL199, hp199_0⟩ : P_X12_code σ190 τ190 r4 (σ157 387 14) (σ190 387 14) σ199 τ199 := hp199
                            have cd := hp199_0
                            have fc := f199
                            have hP : va_P D vwCl (gw cA ad σ199 τ199) H199 := hP
                            obtain rfl := FrL.nil fL199
                            have hF := hF.step f199 (by decide)
                            have gMK := gMK.ag (Agr.fr f199 (by decide))
                            have gMT := gMT.ag (Agr.fr f199 (by decide))
                            have gSN := gSN.ag (Agr.fr f199 (by decide))
                            have gWJ := gWJ.ag (Agr.fr f199 (by decide))
                            have t200 : (σ199 387 40).toInt = (σ190 387 40).toInt := congrArg Int32.toInt (f199.at 387 40 (by decide))
                            have t201 : (σ199 387 15).toInt = (σ190 387 15).toInt := congrArg Int32.toInt (f199.at 387 15 (by decide))
                            have t202 : (σ199 387 41).toInt = (σ190 387 41).toInt := congrArg Int32.toInt (f199.at 387 41 (by decide))
                            have t203 : (σ199 387 39).toInt = (σ190 387 39).toInt := congrArg Int32.toInt (f199.at 387 39 (by decide))
                            have t204 : (σ199 387 42).toInt = (σ190 387 42).toInt := congrArg Int32.toInt (f199.at 387 42 (by decide))
                            have t205 : (σ199 387 11).toInt = (σ190 387 11).toInt := congrArg Int32.toInt (f199.at 387 11 (by decide))
                            have t206 : (σ199 387 14).toInt = (σ190 387 14).toInt := congrArg Int32.toInt (f199.at 387 14 (by decide))
                            have hr207 := rg_12_38 hR (k := 387) (by decide) (by decide)
                            have gPV := PW.leaf gPW (by omega) cd (by omega) fc (by decide) (by omega)
                            obtain ⟨cc0, hcc1, hcc2, _, _⟩ := id cd
                            refine lv_aload_n hx hb dX12_operand_249 rfl (lv_at hl 4 rfl) ?_
                            refine r_cVv (k := 387) (As := []) (rest := []) ⟨hx, hb, hml, hown, hts⟩ hK hP hN hS (c_X12_next_v l D cA ad hI σ199 τ190 hR _ _ _ _ gMK.mp gMT) (cwV 0 hts gX12_operand_X12_next rfl rfl rfl (by decide +kernel) ⟨by decide, by decide⟩) (rv_M hK hP (by decide) (by decide)) rfl hl.1 rfl (Nat.le_of_ble_eq_true rfl) dX12_operand_250 (Nat.zero_le _) (Nat.zero_le _) (fun u208 H208 locs208 hp208 hP hS => ?_)
                            obtain ⟨σ208, τ208⟩ := u208
                            obtain ⟨hR, f208, fL208, hp208_0, hp208_1, hp208_2, hp208_3, gnMT⟩ : P_X12_next_v σ199 τ190 _ _ _ _ σ208 τ208 := hp208
                            have hP : va_P D vwCl (gw cA ad σ208 τ208) H208 := hP
                            clear hp190_1
                            have hFL := hFL.step fL208 (by decide)
                            have gRV := gRV.agL (AgrL.fr fL208 (by decide))
                            have gWJ := gWJ.agL (AgrL.fr fL208 (by decide))
                            have hF := hF.step f208 (by decide)
                            have gMT := gMT.ag (Agr.fr f208 (by decide))
                            have gPV := PV.fr gPV hR f208 (by decide)
                            have gSN := gSN.ag (Agr.fr f208 (by decide))
                            have gWJ := gWJ.ag (Agr.fr f208 (by decide))
                            have t209 : (σ208 387 40).toInt = (σ199 387 40).toInt := congrArg Int32.toInt (f208.at 387 40 (by decide))
                            have t210 : (σ208 387 15).toInt = (σ199 387 15).toInt := congrArg Int32.toInt (f208.at 387 15 (by decide))
                            have t211 : (σ208 387 41).toInt = (σ199 387 41).toInt := congrArg Int32.toInt (f208.at 387 41 (by decide))
                            have t212 : (σ208 387 39).toInt = (σ199 387 39).toInt := congrArg Int32.toInt (f208.at 387 39 (by decide))
                            have t213 : (σ208 387 42).toInt = (σ199 387 42).toInt := congrArg Int32.toInt (f208.at 387 42 (by decide))
                            have t214 : (σ208 387 38).toInt = (σ199 387 38).toInt := congrArg Int32.toInt (f208.at 387 38 (by decide))
                            have gMK := hp208_3
                            refine r_iconst hx hb dX12_operand_253 (by decide) (fun z215 ez215 => ?_)
                            exact r_zret hx hb hr hK hP hS hk (by omega) dX12_operand_254 (show P_X12_operand σ0 τ0 b N mo q nn K nm hc z215 σ208 τ208 from ⟨hR, hF, hFL, by omega, by first | exact Or.inl (by omega) | exact Or.inr gPV, by omega, by omega, by first | (exfalso; omega) | exact MO.ofk (ope_x (by omega)) (by omega) (by omega) (by omega) | exact MO.ofk (ope_4 (by omega) (by omega)) (by omega) (by omega) (by omega) | exact MO.ofr (ope_n (by omega) (by omega) (by omega)) (by omega) ⟨gMK, by show _ = ((nn + 1 : Nat) : Int); omega, SN.deep (x := false) gSN (by omega) (by omega) ua (by show _ = (20 : Int); omega) ub (by omega) ud (by omega), by show _ = (0 : Int); omega⟩ | exact MO.ofr (ope_o (by omega) (by omega) (by omega)) (by omega) ⟨gMK, by show _ = ((nn + 1 : Nat) : Int); omega, SN.deep (x := true) gSN (by omega) (by omega) ua (by show _ = (23 : Int); omega) ub (by omega) ud (by omega), by show _ = (0 : Int); omega⟩ | exact MO.ofr (ope_l (by omega) (by omega) (by omega) (by omega) (by omega) (lea_n (by omega) (by omega))) (by omega) ⟨gMK, by show _ = ((nn + 1 : Nat) : Int); omega, gSN, by show _ = (1 : Int); omega⟩ | (obtain ⟨f, e1, x1, x2⟩ := o1.no (by omega); exact MO.ofl (ope_l (by omega) (by omega) (by omega) (by omega) (by omega) (lea_onl (by omega) e1)) (by omega) x1 x2) | exact MO.ofr (ope_l (by omega) (by omega) (by omega) (by omega) (by omega) (lea_onr (by omega) e1)) (by omega) ⟨gMK, by show _ = ((nn + 1 : Nat) : Int); omega, gSN, by show _ = (1 : Int); omega⟩ | exact MO.ofk (ope_l (by omega) (by omega) (by omega) (by omega) (by omega) (lea_m1 (by omega) (by omega))) (by omega) (by omega) (by omega) | exact MO.ofk (ope_l (by omega) (by omega) (by omega) (by omega) (by omega) (lea_m2 (by omega) (by omega) (by omega))) (by omega) (by omega) (by omega) | exact MO.ofr (ope_l (by omega) (by omega) (by omega) (by omega) (by omega) (lea_m3 (by omega) (by omega) (by omega))) (by omega) ⟨gMK, by show _ = ((nn + 1 : Nat) : Int); omega, gSN, by show _ = (1 : Int); omega⟩, by omega, gMT, gRV, gWJ⟩)
                          · have hk2 : tkq b N mo (nxq b N mo (nxq b N mo q)) ≠ 46 := fun h => by have h9 := hkd.2.1.mpr h; omega
                            clear hkd
                            refine lv_aload_n hx hb dX12_operand_232 rfl (lv_at hl 4 rfl) ?_
                            refine r_iconst hx hb dX12_operand_233 (by decide) (fun z216 ez216 => ?_)
                            refine r_cVi (k := 387) (As := [.int z216]) (rest := []) ⟨hx, hb, hml, hown, hts⟩ hK hP hN hS (c_X12_bad_v l D cA ad hI σ190 τ190 hR z216 _ _ _ _ (by omega) gMK) (cwV 1 hts gX12_operand_X12_bad rfl rfl rfl (by decide +kernel) ⟨by decide, by decide⟩) (rv_M hK hP (by decide) (by decide)) rfl hl.1 rfl (Nat.le_of_ble_eq_true rfl) dX12_operand_234 (Nat.zero_le _) (Nat.zero_le _) (fun r217 u217 H217 locs217 hp217 hP hS => ?_)
                            obtain ⟨σ217, τ217⟩ := u217
                            obtain ⟨hR, f217, fL217, hq217, hp217_0, hp217_1, hp217_2, gnMK⟩ : P_X12_bad_v σ190 τ190 z216 _ _ _ _ r217 σ217 τ217 := hp217
                            have hP : va_P D vwCl (gw cA ad σ217 τ217) H217 := hP
                            obtain rfl := FrL.nil fL217
                            have hF := hF.step f217 (by decide)
                            have gMK := gMK.ag (Agr.fr f217 (by decide))
                            have gMT := gMT.ag (Agr.fr f217 (by decide))
                            have gPW := PW.fr gPW hR f217 (by decide)
                            have gSN := gSN.ag (Agr.fr f217 (by decide))
                            have gWJ := gWJ.ag (Agr.fr f217 (by decide))
                            have t218 : (σ217 387 38).toInt = (σ190 387 38).toInt := congrArg Int32.toInt (f217.at 387 38 (by decide))
                            have t219 : (σ217 387 40).toInt = (σ190 387 40).toInt := congrArg Int32.toInt (f217.at 387 40 (by decide))
                            have t220 : (σ217 387 41).toInt = (σ190 387 41).toInt := congrArg Int32.toInt (f217.at 387 41 (by decide))
                            have t221 : (σ217 387 39).toInt = (σ190 387 39).toInt := congrArg Int32.toInt (f217.at 387 39 (by decide))
                            have t222 : (σ217 387 42).toInt = (σ190 387 42).toInt := congrArg Int32.toInt (f217.at 387 42 (by decide))
                            have t223 : (σ217 387 11).toInt = (σ190 387 11).toInt := congrArg Int32.toInt (f217.at 387 11 (by decide))
                            exact r_zret hx hb hr hK hP hS hk (by omega) dX12_operand_237 (show P_X12_operand σ0 τ0 b N mo q nn K nm hc r217 σ217 τ190 from ⟨hR, hF, hFL, by omega, by first | exact Or.inl (by omega) | exact Or.inr gPV, by omega, by omega, by first | (exfalso; omega) | exact MO.ofk (ope_x (by omega)) (by omega) (by omega) (by omega) | exact MO.ofk (ope_4 (by omega) (by omega)) (by omega) (by omega) (by omega) | exact MO.ofr (ope_n (by omega) (by omega) (by omega)) (by omega) ⟨gMK, by show _ = ((nn + 1 : Nat) : Int); omega, SN.deep (x := false) gSN (by omega) (by omega) ua (by show _ = (20 : Int); omega) ub (by omega) ud (by omega), by show _ = (0 : Int); omega⟩ | exact MO.ofr (ope_o (by omega) (by omega) (by omega)) (by omega) ⟨gMK, by show _ = ((nn + 1 : Nat) : Int); omega, SN.deep (x := true) gSN (by omega) (by omega) ua (by show _ = (23 : Int); omega) ub (by omega) ud (by omega), by show _ = (0 : Int); omega⟩ | exact MO.ofr (ope_l (by omega) (by omega) (by omega) (by omega) (by omega) (lea_n (by omega) (by omega))) (by omega) ⟨gMK, by show _ = ((nn + 1 : Nat) : Int); omega, gSN, by show _ = (1 : Int); omega⟩ | (obtain ⟨f, e1, x1, x2⟩ := o1.no (by omega); exact MO.ofl (ope_l (by omega) (by omega) (by omega) (by omega) (by omega) (lea_onl (by omega) e1)) (by omega) x1 x2) | exact MO.ofr (ope_l (by omega) (by omega) (by omega) (by omega) (by omega) (lea_onr (by omega) e1)) (by omega) ⟨gMK, by show _ = ((nn + 1 : Nat) : Int); omega, gSN, by show _ = (1 : Int); omega⟩ | exact MO.ofk (ope_l (by omega) (by omega) (by omega) (by omega) (by omega) (lea_m1 (by omega) (by omega))) (by omega) (by omega) (by omega) | exact MO.ofk (ope_l (by omega) (by omega) (by omega) (by omega) (by omega) (lea_m2 (by omega) (by omega) (by omega))) (by omega) (by omega) (by omega) | exact MO.ofr (ope_l (by omega) (by omega) (by omega) (by omega) (by omega) (lea_m3 (by omega) (by omega) (by omega))) (by omega) ⟨gMK, by show _ = ((nn + 1 : Nat) : Int); omega, gSN, by show _ = (1 : Int); omega⟩, by omega, gMT, gRV, gWJ⟩)
                        · have hm2 : ¬ (41 ≤ tkq b N mo (nxq b N mo q) ∧ tkq b N mo (nxq b N mo q) ≤ 43) := fun h => by have h9 := hms.mpr h; omega
                          clear hms
                          refine lv_aload_n hx hb dX12_operand_208 rfl (lv_at hl 3 rfl) ?_
                          refine r_iconst hx hb dX12_operand_209 (by decide) (fun z224 ez224 => ?_)
                          refine r_cVi (k := 387) (As := [.int z224]) (rest := []) ⟨hx, hb, hml, hown, hts⟩ hK hP hN hS (c_X12_bad_v l D cA ad hI σ157 τ147 hR z224 _ _ _ _ (by omega) gMK) (cwV 1 hts gX12_operand_X12_bad rfl rfl rfl (by decide +kernel) ⟨by decide, by decide⟩) (rv_M hK hP (by decide) (by decide)) rfl hl.1 rfl (Nat.le_of_ble_eq_true rfl) dX12_operand_210 (Nat.zero_le _) (Nat.zero_le _) (fun r225 u225 H225 locs225 hp225 hP hS => ?_)
                          obtain ⟨σ225, τ225⟩ := u225
                          obtain ⟨hR, f225, fL225, hq225, hp225_0, hp225_1, hp225_2, gnMK⟩ : P_X12_bad_v σ157 τ147 z224 _ _ _ _ r225 σ225 τ225 := hp225
                          have hP : va_P D vwCl (gw cA ad σ225 τ225) H225 := hP
                          obtain rfl := FrL.nil fL225
                          have hF := hF.step f225 (by decide)
                          have gMK := gMK.ag (Agr.fr f225 (by decide))
                          have gMT := gMT.ag (Agr.fr f225 (by decide))
                          have gPW := PW.fr gPW hR f225 (by decide)
                          have gSN := gSN.ag (Agr.fr f225 (by decide))
                          have gWJ := gWJ.ag (Agr.fr f225 (by decide))
                          have t226 : (σ225 387 38).toInt = (σ157 387 38).toInt := congrArg Int32.toInt (f225.at 387 38 (by decide))
                          have t227 : (σ225 387 40).toInt = (σ157 387 40).toInt := congrArg Int32.toInt (f225.at 387 40 (by decide))
                          have t228 : (σ225 387 41).toInt = (σ157 387 41).toInt := congrArg Int32.toInt (f225.at 387 41 (by decide))
                          have t229 : (σ225 387 39).toInt = (σ157 387 39).toInt := congrArg Int32.toInt (f225.at 387 39 (by decide))
                          have t230 : (σ225 387 42).toInt = (σ157 387 42).toInt := congrArg Int32.toInt (f225.at 387 42 (by decide))
                          have t231 : (σ225 387 11).toInt = (σ157 387 11).toInt := congrArg Int32.toInt (f225.at 387 11 (by decide))
                          have t232 : (σ225 387 14).toInt = (σ157 387 14).toInt := congrArg Int32.toInt (f225.at 387 14 (by decide))
                          exact r_zret hx hb hr hK hP hS hk (by omega) dX12_operand_213 (show P_X12_operand σ0 τ0 b N mo q nn K nm hc r225 σ225 τ147 from ⟨hR, hF, hFL, by omega, by first | exact Or.inl (by omega) | exact Or.inr gPV, by omega, by omega, by first | (exfalso; omega) | exact MO.ofk (ope_x (by omega)) (by omega) (by omega) (by omega) | exact MO.ofk (ope_4 (by omega) (by omega)) (by omega) (by omega) (by omega) | exact MO.ofr (ope_n (by omega) (by omega) (by omega)) (by omega) ⟨gMK, by show _ = ((nn + 1 : Nat) : Int); omega, SN.deep (x := false) gSN (by omega) (by omega) ua (by show _ = (20 : Int); omega) ub (by omega) ud (by omega), by show _ = (0 : Int); omega⟩ | exact MO.ofr (ope_o (by omega) (by omega) (by omega)) (by omega) ⟨gMK, by show _ = ((nn + 1 : Nat) : Int); omega, SN.deep (x := true) gSN (by omega) (by omega) ua (by show _ = (23 : Int); omega) ub (by omega) ud (by omega), by show _ = (0 : Int); omega⟩ | exact MO.ofr (ope_l (by omega) (by omega) (by omega) (by omega) (by omega) (lea_n (by omega) (by omega))) (by omega) ⟨gMK, by show _ = ((nn + 1 : Nat) : Int); omega, gSN, by show _ = (1 : Int); omega⟩ | (obtain ⟨f, e1, x1, x2⟩ := o1.no (by omega); exact MO.ofl (ope_l (by omega) (by omega) (by omega) (by omega) (by omega) (lea_onl (by omega) e1)) (by omega) x1 x2) | exact MO.ofr (ope_l (by omega) (by omega) (by omega) (by omega) (by omega) (lea_onr (by omega) e1)) (by omega) ⟨gMK, by show _ = ((nn + 1 : Nat) : Int); omega, gSN, by show _ = (1 : Int); omega⟩ | exact MO.ofk (ope_l (by omega) (by omega) (by omega) (by omega) (by omega) (lea_m1 (by omega) (by omega))) (by omega) (by omega) (by omega) | exact MO.ofk (ope_l (by omega) (by omega) (by omega) (by omega) (by omega) (lea_m2 (by omega) (by omega) (by omega))) (by omega) (by omega) (by omega) | exact MO.ofr (ope_l (by omega) (by omega) (by omega) (by omega) (by omega) (lea_m3 (by omega) (by omega) (by omega))) (by omega) ⟨gMK, by show _ = ((nn + 1 : Nat) : Int); omega, gSN, by show _ = (1 : Int); omega⟩, by omega, gMT, gRV, gWJ⟩)
                  · have al2 := (al.resolve_right (fun c => by omega)).2
                    clear al
                    have hwb2 := gWJ.1
                    refine lv_aload_n hx hb dX12_operand_150 rfl (lv_at hl 3 rfl) ?_
                    refine r_iconst hx hb dX12_operand_151 (by decide) (fun z233 ez233 => ?_)
                    refine lv_aload_n hx hb dX12_operand_152 rfl (lv_at hl 3 rfl) ?_
                    refine fg_12_6 (k := 387) hx hb hts in_X12_operand_12 hown hK hP (by decide) (by decide) (hts _ lk_X12_operand_33) dX12_operand_153 ?_
                    refine r_iconst hx hb dX12_operand_156 (by decide) (fun z234 ez234 => ?_)
                    refine ad_ms (k := 389) (j := 0) hx hb hK hP (by decide) (by decide) (by omega) (by omega) dX12_operand_157 ?_
                    have hr235 := ra_ms_0 hR (k := 389) (j := 0) (by decide) (by decide) (by decide) (by decide)
                    refine r_cVi (k := 387) (As := [.int z233, .int (σ157 389 0)]) (rest := []) ⟨hx, hb, hml, hown, hts⟩ hK hP hN hS (c_X12_looksAt_w l D cA ad hI σ157 τ147 hR z233 (σ157 389 0) b N mo _ nm hc (by omega) (by omega) (by omega) (by omega) (by omega) gMK gRV gWJ) (cwV 2 hts gX12_operand_X12_looksAt rfl rfl rfl (by decide +kernel) ⟨by decide, by decide⟩) (rv_M hK hP (by decide) (by decide)) rfl hl.1 rfl (Nat.le_of_ble_eq_true rfl) dX12_operand_158 (Nat.zero_le _) (Nat.zero_le _) (fun r236 u236 H236 locs236 hp236 hP hS => ?_)
                    obtain ⟨σ236, τ236⟩ := u236
                    obtain ⟨hR, f236, fL236, hq236, hp236_0, hp236_1, hp236_2, hp236_3, gnMK, gnRV, gnWJ⟩ : P_X12_looksAt_w σ157 τ147 z233 (σ157 389 0) b N mo _ nm hc r236 σ236 τ236 := hp236
                    have o1 := hp236_2
                    have hP : va_P D vwCl (gw cA ad σ236 τ236) H236 := hP
                    obtain rfl := FrL.nil fL236
                    have hF := hF.step f236 (by decide)
                    have gMK := gMK.ag (Agr.fr f236 (by decide))
                    have gMT := gMT.ag (Agr.fr f236 (by decide))
                    have gPW := PW.fr gPW hR f236 (by decide)
                    have gSN := gSN.ag (Agr.fr f236 (by decide))
                    have gWJ := gWJ.ag (Agr.fr f236 (by decide))
                    have t237 : (σ236 387 38).toInt = (σ157 387 38).toInt := congrArg Int32.toInt (f236.at 387 38 (by decide))
                    have t238 : (σ236 387 40).toInt = (σ157 387 40).toInt := congrArg Int32.toInt (f236.at 387 40 (by decide))
                    have t239 : (σ236 387 41).toInt = (σ157 387 41).toInt := congrArg Int32.toInt (f236.at 387 41 (by decide))
                    have t240 : (σ236 387 39).toInt = (σ157 387 39).toInt := congrArg Int32.toInt (f236.at 387 39 (by decide))
                    have t241 : (σ236 387 42).toInt = (σ157 387 42).toInt := congrArg Int32.toInt (f236.at 387 42 (by decide))
                    refine r_if_ne (tgt := 166) hx hb dX12_operand_161 (by decide) (fun c242 => ?_) (fun c242 => ?_)
                    · replace hp236_0 := hp236_0.resolve_left (by omega)
                      replace hp236_1 := hp236_1.resolve_left (by omega)
                      replace hp236_3 := hp236_3.resolve_left (by omega)
                      obtain ⟨k1, e1, ek⟩ := o1.ye (by omega)
                      refine lv_aload_n hx hb dX12_operand_166 rfl (lv_at hl 3 rfl) ?_
                      refine lv_iload_n hx hb dX12_operand_167 rfl (lv_at hl 0 rfl) ?_
                      refine r_iconst hx hb dX12_operand_168 (by decide) (fun z243 ez243 => ?_)
                      refine lv_aload_n hx hb dX12_operand_169 rfl (lv_at hl 3 rfl) ?_
                      refine fg_12_18 (k := 387) hx hb hts in_X12_operand_12 hown hK hP (by decide) (by decide) (hts _ lk_X12_operand_195) dX12_operand_170 ?_
                      refine r_cVv (k := 387) (As := [.int r4, .int z243, .int (σ236 387 18)]) (rest := []) ⟨hx, hb, hml, hown, hts⟩ hK hP hN hS (c_X12_code l D cA ad hI σ236 τ147 hR r4 z243 (σ236 387 18) (by omega) (by omega) (by omega)) (cwV 3 hts gX12_operand_X12_code rfl rfl rfl (by decide +kernel) ⟨by decide, by decide⟩) (rv_M hK hP (by decide) (by decide)) rfl hl.1 rfl (Nat.le_of_ble_eq_true rfl) dX12_operand_173 (Nat.zero_le _) (Nat.zero_le _) (fun u244 H244 locs244 hp244 hP hS => ?_)
                      obtain ⟨σ244, τ244⟩ := u244
                      obtain ⟨hR, f244, fL244, hp244_0⟩ : P_X12_code σ236 τ147 r4 z243 (σ236 387 18) σ244 τ244 := hp244
                      have cd := hp244_0
                      have fc := f244
                      have hP : va_P D vwCl (gw cA ad σ244 τ244) H244 := hP
                      obtain rfl := FrL.nil fL244
                      have hF := hF.step f244 (by decide)
                      have gMK := gMK.ag (Agr.fr f244 (by decide))
                      have gMT := gMT.ag (Agr.fr f244 (by decide))
                      have gSN := gSN.ag (Agr.fr f244 (by decide))
                      have gWJ := gWJ.ag (Agr.fr f244 (by decide))
                      have t245 : (σ244 387 40).toInt = (σ236 387 40).toInt := congrArg Int32.toInt (f244.at 387 40 (by decide))
                      have t246 : (σ244 387 41).toInt = (σ236 387 41).toInt := congrArg Int32.toInt (f244.at 387 41 (by decide))
                      have t247 : (σ244 387 39).toInt = (σ236 387 39).toInt := congrArg Int32.toInt (f244.at 387 39 (by decide))
                      have t248 : (σ244 387 42).toInt = (σ236 387 42).toInt := congrArg Int32.toInt (f244.at 387 42 (by decide))
                      have t249 : (σ244 387 15).toInt = (σ236 387 15).toInt := congrArg Int32.toInt (f244.at 387 15 (by decide))
                      have t250 : (σ244 387 18).toInt = (σ236 387 18).toInt := congrArg Int32.toInt (f244.at 387 18 (by decide))
                      have hr251 := rg_12_38 hR (k := 387) (by decide) (by decide)
                      have gPV := PW.leaf gPW (by omega) cd (by omega) fc (by decide) (by omega)
                      obtain ⟨cc0, hcc1, hcc2, _, _⟩ := id cd
                      refine lv_aload_n hx hb dX12_operand_176 rfl (lv_at hl 3 rfl) ?_
                      refine r_cVv (k := 387) (As := []) (rest := []) ⟨hx, hb, hml, hown, hts⟩ hK hP hN hS (c_X12_next_v l D cA ad hI σ244 τ147 hR _ _ _ _ gMK.mp gMT) (cwV 0 hts gX12_operand_X12_next rfl rfl rfl (by decide +kernel) ⟨by decide, by decide⟩) (rv_M hK hP (by decide) (by decide)) rfl hl.1 rfl (Nat.le_of_ble_eq_true rfl) dX12_operand_177 (Nat.zero_le _) (Nat.zero_le _) (fun u252 H252 locs252 hp252 hP hS => ?_)
                      obtain ⟨σ252, τ252⟩ := u252
                      obtain ⟨hR, f252, fL252, hp252_0, hp252_1, hp252_2, hp252_3, gnMT⟩ : P_X12_next_v σ244 τ147 _ _ _ _ σ252 τ252 := hp252
                      have hP : va_P D vwCl (gw cA ad σ252 τ252) H252 := hP
                      clear hp147_1
                      have hFL := hFL.step fL252 (by decide)
                      have gRV := gRV.agL (AgrL.fr fL252 (by decide))
                      have gWJ := gWJ.agL (AgrL.fr fL252 (by decide))
                      have hF := hF.step f252 (by decide)
                      have gMT := gMT.ag (Agr.fr f252 (by decide))
                      have gPV := PV.fr gPV hR f252 (by decide)
                      have gSN := gSN.ag (Agr.fr f252 (by decide))
                      have gWJ := gWJ.ag (Agr.fr f252 (by decide))
                      have t253 : (σ252 387 40).toInt = (σ244 387 40).toInt := congrArg Int32.toInt (f252.at 387 40 (by decide))
                      have t254 : (σ252 387 41).toInt = (σ244 387 41).toInt := congrArg Int32.toInt (f252.at 387 41 (by decide))
                      have t255 : (σ252 387 39).toInt = (σ244 387 39).toInt := congrArg Int32.toInt (f252.at 387 39 (by decide))
                      have t256 : (σ252 387 42).toInt = (σ244 387 42).toInt := congrArg Int32.toInt (f252.at 387 42 (by decide))
                      have t257 : (σ252 387 15).toInt = (σ244 387 15).toInt := congrArg Int32.toInt (f252.at 387 15 (by decide))
                      have t258 : (σ252 387 18).toInt = (σ244 387 18).toInt := congrArg Int32.toInt (f252.at 387 18 (by decide))
                      have t259 : (σ252 387 38).toInt = (σ244 387 38).toInt := congrArg Int32.toInt (f252.at 387 38 (by decide))
                      have gMK := hp252_3
                      refine r_iconst hx hb dX12_operand_180 (by decide) (fun z260 ez260 => ?_)
                      exact r_zret hx hb hr hK hP hS hk (by omega) dX12_operand_181 (show P_X12_operand σ0 τ0 b N mo q nn K nm hc z260 σ252 τ252 from ⟨hR, hF, hFL, by omega, by first | exact Or.inl (by omega) | exact Or.inr gPV, by omega, by omega, by first | (exfalso; omega) | exact MO.ofk (ope_x (by omega)) (by omega) (by omega) (by omega) | exact MO.ofk (ope_4 (by omega) (by omega)) (by omega) (by omega) (by omega) | exact MO.ofr (ope_n (by omega) (by omega) (by omega)) (by omega) ⟨gMK, by show _ = ((nn + 1 : Nat) : Int); omega, SN.deep (x := false) gSN (by omega) (by omega) ua (by show _ = (20 : Int); omega) ub (by omega) ud (by omega), by show _ = (0 : Int); omega⟩ | exact MO.ofr (ope_o (by omega) (by omega) (by omega)) (by omega) ⟨gMK, by show _ = ((nn + 1 : Nat) : Int); omega, SN.deep (x := true) gSN (by omega) (by omega) ua (by show _ = (23 : Int); omega) ub (by omega) ud (by omega), by show _ = (0 : Int); omega⟩ | exact MO.ofr (ope_l (by omega) (by omega) (by omega) (by omega) (by omega) (lea_n (by omega) (by omega))) (by omega) ⟨gMK, by show _ = ((nn + 1 : Nat) : Int); omega, gSN, by show _ = (1 : Int); omega⟩ | (obtain ⟨f, e1, x1, x2⟩ := o1.no (by omega); exact MO.ofl (ope_l (by omega) (by omega) (by omega) (by omega) (by omega) (lea_onl (by omega) e1)) (by omega) x1 x2) | exact MO.ofr (ope_l (by omega) (by omega) (by omega) (by omega) (by omega) (lea_onr (by omega) e1)) (by omega) ⟨gMK, by show _ = ((nn + 1 : Nat) : Int); omega, gSN, by show _ = (1 : Int); omega⟩ | exact MO.ofk (ope_l (by omega) (by omega) (by omega) (by omega) (by omega) (lea_m1 (by omega) (by omega))) (by omega) (by omega) (by omega) | exact MO.ofk (ope_l (by omega) (by omega) (by omega) (by omega) (by omega) (lea_m2 (by omega) (by omega) (by omega))) (by omega) (by omega) (by omega) | exact MO.ofr (ope_l (by omega) (by omega) (by omega) (by omega) (by omega) (lea_m3 (by omega) (by omega) (by omega))) (by omega) ⟨gMK, by show _ = ((nn + 1 : Nat) : Int); omega, gSN, by show _ = (1 : Int); omega⟩, by omega, gMT, gRV, gWJ⟩)
                    · clear hp236_0 hp236_1 hp236_3
                      refine r_iconst hx hb dX12_operand_164 (by decide) (fun z261 ez261 => ?_)
                      exact r_zret hx hb hr hK hP hS hk (by omega) dX12_operand_165 (show P_X12_operand σ0 τ0 b N mo q nn K nm hc z261 σ236 τ147 from ⟨hR, hF, hFL, by omega, by first | exact Or.inl (by omega) | exact Or.inr gPV, by omega, by omega, by first | (exfalso; omega) | exact MO.ofk (ope_x (by omega)) (by omega) (by omega) (by omega) | exact MO.ofk (ope_4 (by omega) (by omega)) (by omega) (by omega) (by omega) | exact MO.ofr (ope_n (by omega) (by omega) (by omega)) (by omega) ⟨gMK, by show _ = ((nn + 1 : Nat) : Int); omega, SN.deep (x := false) gSN (by omega) (by omega) ua (by show _ = (20 : Int); omega) ub (by omega) ud (by omega), by show _ = (0 : Int); omega⟩ | exact MO.ofr (ope_o (by omega) (by omega) (by omega)) (by omega) ⟨gMK, by show _ = ((nn + 1 : Nat) : Int); omega, SN.deep (x := true) gSN (by omega) (by omega) ua (by show _ = (23 : Int); omega) ub (by omega) ud (by omega), by show _ = (0 : Int); omega⟩ | exact MO.ofr (ope_l (by omega) (by omega) (by omega) (by omega) (by omega) (lea_n (by omega) (by omega))) (by omega) ⟨gMK, by show _ = ((nn + 1 : Nat) : Int); omega, gSN, by show _ = (1 : Int); omega⟩ | (obtain ⟨f, e1, x1, x2⟩ := o1.no (by omega); exact MO.ofl (ope_l (by omega) (by omega) (by omega) (by omega) (by omega) (lea_onl (by omega) e1)) (by omega) x1 x2) | exact MO.ofr (ope_l (by omega) (by omega) (by omega) (by omega) (by omega) (lea_onr (by omega) e1)) (by omega) ⟨gMK, by show _ = ((nn + 1 : Nat) : Int); omega, gSN, by show _ = (1 : Int); omega⟩ | exact MO.ofk (ope_l (by omega) (by omega) (by omega) (by omega) (by omega) (lea_m1 (by omega) (by omega))) (by omega) (by omega) (by omega) | exact MO.ofk (ope_l (by omega) (by omega) (by omega) (by omega) (by omega) (lea_m2 (by omega) (by omega) (by omega))) (by omega) (by omega) (by omega) | exact MO.ofr (ope_l (by omega) (by omega) (by omega) (by omega) (by omega) (lea_m3 (by omega) (by omega) (by omega))) (by omega) ⟨gMK, by show _ = ((nn + 1 : Nat) : Int); omega, gSN, by show _ = (1 : Int); omega⟩, by omega, gMT, gRV, gWJ⟩)
                · have al2 := ((al.resolve_left (fun c => by omega)).resolve_left (fun c => by omega)).2.2
                  clear al
                  refine lv_aload_n hx hb dX12_operand_136 rfl (lv_at hl 3 rfl) ?_
                  refine lv_iload_n hx hb dX12_operand_137 rfl (lv_at hl 0 rfl) ?_
                  refine r_iconst hx hb dX12_operand_138 (by decide) (fun z262 ez262 => ?_)
                  refine r_iconst hx hb dX12_operand_139 (by decide) (fun z263 ez263 => ?_)
                  refine r_cVv (k := 387) (As := [.int r4, .int z262, .int z263]) (rest := []) ⟨hx, hb, hml, hown, hts⟩ hK hP hN hS (c_X12_code l D cA ad hI σ157 τ147 hR r4 z262 z263 (by omega) (by omega) (by omega)) (cwV 3 hts gX12_operand_X12_code rfl rfl rfl (by decide +kernel) ⟨by decide, by decide⟩) (rv_M hK hP (by decide) (by decide)) rfl hl.1 rfl (Nat.le_of_ble_eq_true rfl) dX12_operand_140 (Nat.zero_le _) (Nat.zero_le _) (fun u264 H264 locs264 hp264 hP hS => ?_)
                  obtain ⟨σ264, τ264⟩ := u264
                  obtain ⟨hR, f264, fL264, hp264_0⟩ : P_X12_code σ157 τ147 r4 z262 z263 σ264 τ264 := hp264
                  have cd := hp264_0
                  have fc := f264
                  have hP : va_P D vwCl (gw cA ad σ264 τ264) H264 := hP
                  obtain rfl := FrL.nil fL264
                  have hF := hF.step f264 (by decide)
                  have gMK := gMK.ag (Agr.fr f264 (by decide))
                  have gMT := gMT.ag (Agr.fr f264 (by decide))
                  have gSN := gSN.ag (Agr.fr f264 (by decide))
                  have gWJ := gWJ.ag (Agr.fr f264 (by decide))
                  have t265 : (σ264 387 40).toInt = (σ157 387 40).toInt := congrArg Int32.toInt (f264.at 387 40 (by decide))
                  have t266 : (σ264 387 15).toInt = (σ157 387 15).toInt := congrArg Int32.toInt (f264.at 387 15 (by decide))
                  have t267 : (σ264 387 41).toInt = (σ157 387 41).toInt := congrArg Int32.toInt (f264.at 387 41 (by decide))
                  have t268 : (σ264 387 39).toInt = (σ157 387 39).toInt := congrArg Int32.toInt (f264.at 387 39 (by decide))
                  have t269 : (σ264 387 42).toInt = (σ157 387 42).toInt := congrArg Int32.toInt (f264.at 387 42 (by decide))
                  have hr270 := rg_12_38 hR (k := 387) (by decide) (by decide)
                  have gPV := PW.leaf gPW (by omega) cd (by omega) fc (by decide) (by omega)
                  obtain ⟨cc0, hcc1, hcc2, _, _⟩ := id cd
                  refine r_iconst hx hb dX12_operand_143 (by decide) (fun z271 ez271 => ?_)
                  exact r_zret hx hb hr hK hP hS hk (by omega) dX12_operand_144 (show P_X12_operand σ0 τ0 b N mo q nn K nm hc z271 σ264 τ147 from ⟨hR, hF, hFL, by omega, by first | exact Or.inl (by omega) | exact Or.inr gPV, by omega, by omega, by first | (exfalso; omega) | exact MO.ofk (ope_x (by omega)) (by omega) (by omega) (by omega) | exact MO.ofk (ope_4 (by omega) (by omega)) (by omega) (by omega) (by omega) | exact MO.ofr (ope_n (by omega) (by omega) (by omega)) (by omega) ⟨gMK, by show _ = ((nn + 1 : Nat) : Int); omega, SN.deep (x := false) gSN (by omega) (by omega) ua (by show _ = (20 : Int); omega) ub (by omega) ud (by omega), by show _ = (0 : Int); omega⟩ | exact MO.ofr (ope_o (by omega) (by omega) (by omega)) (by omega) ⟨gMK, by show _ = ((nn + 1 : Nat) : Int); omega, SN.deep (x := true) gSN (by omega) (by omega) ua (by show _ = (23 : Int); omega) ub (by omega) ud (by omega), by show _ = (0 : Int); omega⟩ | exact MO.ofr (ope_l (by omega) (by omega) (by omega) (by omega) (by omega) (lea_n (by omega) (by omega))) (by omega) ⟨gMK, by show _ = ((nn + 1 : Nat) : Int); omega, gSN, by show _ = (1 : Int); omega⟩ | (obtain ⟨f, e1, x1, x2⟩ := o1.no (by omega); exact MO.ofl (ope_l (by omega) (by omega) (by omega) (by omega) (by omega) (lea_onl (by omega) e1)) (by omega) x1 x2) | exact MO.ofr (ope_l (by omega) (by omega) (by omega) (by omega) (by omega) (lea_onr (by omega) e1)) (by omega) ⟨gMK, by show _ = ((nn + 1 : Nat) : Int); omega, gSN, by show _ = (1 : Int); omega⟩ | exact MO.ofk (ope_l (by omega) (by omega) (by omega) (by omega) (by omega) (lea_m1 (by omega) (by omega))) (by omega) (by omega) (by omega) | exact MO.ofk (ope_l (by omega) (by omega) (by omega) (by omega) (by omega) (lea_m2 (by omega) (by omega) (by omega))) (by omega) (by omega) (by omega) | exact MO.ofr (ope_l (by omega) (by omega) (by omega) (by omega) (by omega) (lea_m3 (by omega) (by omega) (by omega))) (by omega) ⟨gMK, by show _ = ((nn + 1 : Nat) : Int); omega, gSN, by show _ = (1 : Int); omega⟩, by omega, gMT, gRV, gWJ⟩)
              · exfalso; omega
          · refine lv_aload_n hx hb dX12_operand_56 rfl (lv_at hl 3 rfl) ?_
            refine r_iconst hx hb dX12_operand_57 (by decide) (fun z272 ez272 => ?_)
            refine r_cVi (k := 387) (As := [.int z272]) (rest := []) ⟨hx, hb, hml, hown, hts⟩ hK hP hN hS (c_X12_bad_v l D cA ad hI σ0 τ0 hR z272 _ _ _ _ (by omega) gMK) (cwV 1 hts gX12_operand_X12_bad rfl rfl rfl (by decide +kernel) ⟨by decide, by decide⟩) (rv_M hK hP (by decide) (by decide)) rfl hl.1 rfl (Nat.le_of_ble_eq_true rfl) dX12_operand_58 (Nat.zero_le _) (Nat.zero_le _) (fun r273 u273 H273 locs273 hp273 hP hS => ?_)
            obtain ⟨σ273, τ273⟩ := u273
            obtain ⟨hR, f273, fL273, hq273, hp273_0, hp273_1, hp273_2, gnMK⟩ : P_X12_bad_v σ0 τ0 z272 _ _ _ _ r273 σ273 τ273 := hp273
            have hP : va_P D vwCl (gw cA ad σ273 τ273) H273 := hP
            obtain rfl := FrL.nil fL273
            have hF := hF.step f273 (by decide)
            have gMK := gMK.ag (Agr.fr f273 (by decide))
            have gMT := gMT.ag (Agr.fr f273 (by decide))
            have gPV := PV.fr gPV hR f273 (by decide)
            have gPW := PW.fr gPW hR f273 (by decide)
            have gSN := gSN.ag (Agr.fr f273 (by decide))
            have gWJ := gWJ.ag (Agr.fr f273 (by decide))
            have t274 : (σ273 387 38).toInt = (σ0 387 38).toInt := congrArg Int32.toInt (f273.at 387 38 (by decide))
            have t275 : (σ273 387 39).toInt = (σ0 387 39).toInt := congrArg Int32.toInt (f273.at 387 39 (by decide))
            have t276 : (σ273 387 40).toInt = (σ0 387 40).toInt := congrArg Int32.toInt (f273.at 387 40 (by decide))
            have t277 : (σ273 387 42).toInt = (σ0 387 42).toInt := congrArg Int32.toInt (f273.at 387 42 (by decide))
            have t278 : (σ273 387 41).toInt = (σ0 387 41).toInt := congrArg Int32.toInt (f273.at 387 41 (by decide))
            exact r_zret hx hb hr hK hP hS hk (by omega) dX12_operand_61 (show P_X12_operand σ0 τ0 b N mo q nn K nm hc r273 σ273 τ0 from ⟨hR, hF, hFL, by omega, by first | exact Or.inl (by omega) | exact Or.inr gPV, by omega, by omega, by first | (exfalso; omega) | exact MO.ofk (ope_x (by omega)) (by omega) (by omega) (by omega) | exact MO.ofk (ope_4 (by omega) (by omega)) (by omega) (by omega) (by omega) | exact MO.ofr (ope_n (by omega) (by omega) (by omega)) (by omega) ⟨gMK, by show _ = ((nn + 1 : Nat) : Int); omega, SN.deep (x := false) gSN (by omega) (by omega) ua (by show _ = (20 : Int); omega) ub (by omega) ud (by omega), by show _ = (0 : Int); omega⟩ | exact MO.ofr (ope_o (by omega) (by omega) (by omega)) (by omega) ⟨gMK, by show _ = ((nn + 1 : Nat) : Int); omega, SN.deep (x := true) gSN (by omega) (by omega) ua (by show _ = (23 : Int); omega) ub (by omega) ud (by omega), by show _ = (0 : Int); omega⟩ | exact MO.ofr (ope_l (by omega) (by omega) (by omega) (by omega) (by omega) (lea_n (by omega) (by omega))) (by omega) ⟨gMK, by show _ = ((nn + 1 : Nat) : Int); omega, gSN, by show _ = (1 : Int); omega⟩ | (obtain ⟨f, e1, x1, x2⟩ := o1.no (by omega); exact MO.ofl (ope_l (by omega) (by omega) (by omega) (by omega) (by omega) (lea_onl (by omega) e1)) (by omega) x1 x2) | exact MO.ofr (ope_l (by omega) (by omega) (by omega) (by omega) (by omega) (lea_onr (by omega) e1)) (by omega) ⟨gMK, by show _ = ((nn + 1 : Nat) : Int); omega, gSN, by show _ = (1 : Int); omega⟩ | exact MO.ofk (ope_l (by omega) (by omega) (by omega) (by omega) (by omega) (lea_m1 (by omega) (by omega))) (by omega) (by omega) (by omega) | exact MO.ofk (ope_l (by omega) (by omega) (by omega) (by omega) (by omega) (lea_m2 (by omega) (by omega) (by omega))) (by omega) (by omega) (by omega) | exact MO.ofr (ope_l (by omega) (by omega) (by omega) (by omega) (by omega) (lea_m3 (by omega) (by omega) (by omega))) (by omega) ⟨gMK, by show _ = ((nn + 1 : Nat) : Int); omega, gSN, by show _ = (1 : Int); omega⟩, by omega, gMT, gRV, gWJ⟩)
      · have al := (alf.resolve_right (fun c => by omega)).2
        clear alf
        refine lv_aload_n hx hb dX12_operand_32 rfl (lv_at hl 3 rfl) ?_
        refine r_iconst hx hb dX12_operand_33 (by decide) (fun z279 ez279 => ?_)
        refine r_cVi (k := 387) (As := [.int z279]) (rest := []) ⟨hx, hb, hml, hown, hts⟩ hK hP hN hS (c_X12_bad_v l D cA ad hI σ0 τ0 hR z279 _ _ _ _ (by omega) gMK) (cwV 1 hts gX12_operand_X12_bad rfl rfl rfl (by decide +kernel) ⟨by decide, by decide⟩) (rv_M hK hP (by decide) (by decide)) rfl hl.1 rfl (Nat.le_of_ble_eq_true rfl) dX12_operand_34 (Nat.zero_le _) (Nat.zero_le _) (fun r280 u280 H280 locs280 hp280 hP hS => ?_)
        obtain ⟨σ280, τ280⟩ := u280
        obtain ⟨hR, f280, fL280, hq280, hp280_0, hp280_1, hp280_2, gnMK⟩ : P_X12_bad_v σ0 τ0 z279 _ _ _ _ r280 σ280 τ280 := hp280
        have hP : va_P D vwCl (gw cA ad σ280 τ280) H280 := hP
        obtain rfl := FrL.nil fL280
        have hF := hF.step f280 (by decide)
        have gMK := gMK.ag (Agr.fr f280 (by decide))
        have gMT := gMT.ag (Agr.fr f280 (by decide))
        have gPV := PV.fr gPV hR f280 (by decide)
        have gPW := PW.fr gPW hR f280 (by decide)
        have gSN := gSN.ag (Agr.fr f280 (by decide))
        have gWJ := gWJ.ag (Agr.fr f280 (by decide))
        have t281 : (σ280 387 38).toInt = (σ0 387 38).toInt := congrArg Int32.toInt (f280.at 387 38 (by decide))
        have t282 : (σ280 387 39).toInt = (σ0 387 39).toInt := congrArg Int32.toInt (f280.at 387 39 (by decide))
        have t283 : (σ280 387 40).toInt = (σ0 387 40).toInt := congrArg Int32.toInt (f280.at 387 40 (by decide))
        have t284 : (σ280 387 42).toInt = (σ0 387 42).toInt := congrArg Int32.toInt (f280.at 387 42 (by decide))
        exact r_zret hx hb hr hK hP hS hk (by omega) dX12_operand_37 (show P_X12_operand σ0 τ0 b N mo q nn K nm hc r280 σ280 τ0 from ⟨hR, hF, hFL, by omega, by first | exact Or.inl (by omega) | exact Or.inr gPV, by omega, by omega, by first | (exfalso; omega) | exact MO.ofk (ope_x (by omega)) (by omega) (by omega) (by omega) | exact MO.ofk (ope_4 (by omega) (by omega)) (by omega) (by omega) (by omega) | exact MO.ofr (ope_n (by omega) (by omega) (by omega)) (by omega) ⟨gMK, by show _ = ((nn + 1 : Nat) : Int); omega, SN.deep (x := false) gSN (by omega) (by omega) ua (by show _ = (20 : Int); omega) ub (by omega) ud (by omega), by show _ = (0 : Int); omega⟩ | exact MO.ofr (ope_o (by omega) (by omega) (by omega)) (by omega) ⟨gMK, by show _ = ((nn + 1 : Nat) : Int); omega, SN.deep (x := true) gSN (by omega) (by omega) ua (by show _ = (23 : Int); omega) ub (by omega) ud (by omega), by show _ = (0 : Int); omega⟩ | exact MO.ofr (ope_l (by omega) (by omega) (by omega) (by omega) (by omega) (lea_n (by omega) (by omega))) (by omega) ⟨gMK, by show _ = ((nn + 1 : Nat) : Int); omega, gSN, by show _ = (1 : Int); omega⟩ | (obtain ⟨f, e1, x1, x2⟩ := o1.no (by omega); exact MO.ofl (ope_l (by omega) (by omega) (by omega) (by omega) (by omega) (lea_onl (by omega) e1)) (by omega) x1 x2) | exact MO.ofr (ope_l (by omega) (by omega) (by omega) (by omega) (by omega) (lea_onr (by omega) e1)) (by omega) ⟨gMK, by show _ = ((nn + 1 : Nat) : Int); omega, gSN, by show _ = (1 : Int); omega⟩ | exact MO.ofk (ope_l (by omega) (by omega) (by omega) (by omega) (by omega) (lea_m1 (by omega) (by omega))) (by omega) (by omega) (by omega) | exact MO.ofk (ope_l (by omega) (by omega) (by omega) (by omega) (by omega) (lea_m2 (by omega) (by omega) (by omega))) (by omega) (by omega) (by omega) | exact MO.ofr (ope_l (by omega) (by omega) (by omega) (by omega) (by omega) (lea_m3 (by omega) (by omega) (by omega))) (by omega) ⟨gMK, by show _ = ((nn + 1 : Nat) : Int); omega, gSN, by show _ = (1 : Int); omega⟩, by omega, gMT, gRV, gWJ⟩)
