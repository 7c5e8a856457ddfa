abbrev L_X10_readInto_manR_1 : List Rc := [(1, 1, 12, 14), (1, 1, 7, 10), (108, 115, 1, 1)]
abbrev LL_X10_readInto_manR_1 : List Rc := [(1, 1, 11, 11)]
def P_X10_readInto_manR_1 (σ0 : Nat → Nat → Int32) (τ0 : Nat → Nat → Int64) (k1 : Nat) (a2 : Int32) (a3 : Int32) (a4 : Int32) (b : Nat → Int) (N : Nat) (mo : Nat) (q : Nat) (lo : Int) (hi : Int) (r : Int32) (σ : Nat → Nat → Int32) (τ : Nat → Nat → Int64) : Prop := Rg σ ∧ Fr L_X10_readInto_manR_1 σ0 σ ∧ FrL LL_X10_readInto_manR_1 τ0 τ ∧ (0 ≤ r.toInt ∧ r.toInt ≤ 1) ∧ (RO r σ (numP b N mo lo hi q) (fun z => CT σ τ b N mo z.1 ∧ (σ k1 1).toInt = z.2)) ∧ (Fr [(1, 1, 7, 14), (k1, k1, 1, 1)] σ0 σ) ∧ (r.toInt = 0 ∨ (σ 1 13).toInt = (σ0 1 13).toInt)
set_option maxHeartbeats 4000000 in
theorem c_X10_readInto_manR_1 (l : Launch) (D : va_G) (cA : Nat → ClassId) (ad : Nat → Nat) (hI : Inj ad) (σ0 : Nat → Nat → Int32) (τ0 : Nat → Nat → Int64) (hR : Rg σ0) (k1 : Nat) (a2 : Int32) (a3 : Int32) (a4 : Int32) (b : Nat → Int) (N : Nat) (mo : Nat) (q : Nat) (lo : Int) (hi : Int) (hk1 : 108 ≤ k1 ∧ k1 ≤ 115) (ha2 : 1 ≤ a2.toInt ∧ a2.toInt ≤ 1) (ha3 : 0 ≤ a3.toInt ∧ a3.toInt ≤ 0) (ha4 : 9 ≤ a4.toInt ∧ a4.toInt ≤ 9) (hpre0 : a3.toInt = lo) (hpre1 : a4.toInt = hi) (gCT0 : CT σ0 τ0 b N mo q) : Met l yX10_readInto wsX10_readInto ({ frames := 2, cells := 0, slots := 0, locals := 43 } : Room) (WQc D cA ad [.ref (ad 6), .ref (ad k1), .int a2, .int a3, .int a4] σ0 τ0) (va_Qi (fun (r : Int32) (u : SS) => P_X10_readInto_manR_1 σ0 τ0 k1 a2 a3 a4 b N mo q lo hi r u.1 u.2) (WB D cA ad) (AA ad)) 0 0 (AA ad) := by
  refine Met.ofW (cc := cX10_readInto) (maxL := 5) (ret := (some .boolean)) (by decide) rfl ?_
  intro p e s m args below meth c s₁ B hml hv
  obtain ⟨rfl, hP, hK, hN⟩ := hv
  have C : Cy p s m _ meth c cX10_readInto 5 wsX10_readInto RX10 D cA ad (some .boolean) := ⟨B.exec, B.bytes, hml, findClass_of_methodNamed B.named, atoms_spec (ws := wsX10_readInto) B.pre, hK, B.notSynchronized, B.returns, hI, hN⟩
  have hl := lv_entry ([.ref (ad 6), .ref (ad k1), .int a2, .int a3, .int a4]) (n := 5) (Nat.le_of_ble_eq_true rfl)
  rw [lg_entry_eq]
  generalize (lg_sl ([.ref (ad 6), .ref (ad k1), .int a2, .int a3, .int a4]) ++ List.replicate (5 - (lg_sl ([.ref (ad 6), .ref (ad k1), .int a2, .int a3, .int a4])).length) Slot.unset).toArray = ls at hl ⊢
  have hl : lv_has ls 5 [(0, .ref (ad 6)), (1, .ref (ad k1)), (2, .int a2), (3, .int a3), (4, .int a4)] := hl
  have hS : va_S (AA ad) s.heap s.heap [] := va_S.rf
  have hF : Fr L_X10_readInto_manR_1 σ0 σ0 := Fr.rf
  have hFL : FrL LL_X10_readInto_manR_1 τ0 τ0 := FrL.rf
  have gCT := gCT0
  obtain ⟨hx, hb, _, hown, hts, _, hk, hr, _, _⟩ := C
  refine lv_iload_n hx hb dX10_readInto_0 rfl (lv_at hl 2 rfl) ?_
  refine r_if_lt (tgt := 23) hx hb dX10_readInto_1 (by decide) (fun c1 => ?_) (fun c1 => ?_)
  · exfalso; omega
  · refine lv_iload_n hx hb dX10_readInto_4 rfl (lv_at hl 2 rfl) ?_
    refine lv_aload_n hx hb dX10_readInto_5 rfl (lv_at hl 1 rfl) ?_
    refine al_manR (k := k1) hx hb hK hP (by omega) (by omega) dX10_readInto_6 (fun z2 ez2 => ?_)
    refine r_icmp_ge (tgt := 23) hx hb dX10_readInto_7 (by decide) (fun c3 => ?_) (fun c3 => ?_)
    · exfalso; omega
    · refine lv_aload_n hx hb dX10_readInto_10 rfl (lv_at hl 0 rfl) ?_
      refine fg_10_0 (k := 6) hx hb hts in_X10_readInto_10 hown hK hP (by decide) (by decide) (hts _ lk_X10_readInto_9) dX10_readInto_11 ?_
      refine lv_iload_n hx hb dX10_readInto_14 rfl (lv_at hl 3 rfl) ?_
      refine lv_iload hx hb dX10_readInto_15 (lv_at hl 4 rfl) ?_
      refine r_cVi (k := 1) (As := [.int a3, .int a4]) (rest := []) ⟨hx, hb, hml, hown, hts⟩ hK hP hN hS (c_X8_takeNumber_v l D cA ad hI σ0 τ0 hR a3 a4 b N mo _ lo hi (by omega) (by omega) (by omega) (by omega) gCT) (cwV 2 hts gX10_readInto_X8_takeNumber rfl rfl rfl (by decide +kernel) ⟨by decide, by decide⟩) (rv_Tape hK hP (by decide) (by decide)) rfl hl.1 rfl (Nat.le_of_ble_eq_true rfl) dX10_readInto_17 (Nat.zero_le _) (Nat.zero_le _) (fun r4 u4 H4 locs4 hp4 hP hS => ?_)
      obtain ⟨σ4, τ4⟩ := u4
      obtain ⟨hR, f4, fL4, hq4, hp4_0, hp4_1⟩ : P_X8_takeNumber_v σ0 τ0 a3 a4 b N mo _ lo hi r4 σ4 τ4 := hp4
      have o1 := hp4_0
      have ft := f4
      have hP : va_P D vwCl (gw cA ad σ4 τ4) H4 := hP
      have hFL := hFL.step fL4 (by decide)
      have hF := hF.step f4 (by decide)
      refine r_if_ne (tgt := 25) hx hb dX10_readInto_20 (by decide) (fun c5 => ?_) (fun c5 => ?_)
      · replace hp4_1 := hp4_1.resolve_left (by omega)
        obtain ⟨y, e1, gCT, gvl⟩ := o1.ye (by omega)
        refine lv_aload_n hx hb dX10_readInto_25 rfl (lv_at hl 1 rfl) ?_
        refine lv_iload_n hx hb dX10_readInto_26 rfl (lv_at hl 2 rfl) ?_
        refine lv_aload_n hx hb dX10_readInto_27 rfl (lv_at hl 0 rfl) ?_
        refine fg_10_0 (k := 6) hx hb hts in_X10_readInto_10 hown hK hP (by decide) (by decide) (hts _ lk_X10_readInto_9) dX10_readInto_28 ?_
        refine fgN_8_12 (k := 1) hx hb hts in_X10_readInto_8 hown hK hP (by decide) (by decide) (hN.use nw_10_93) dX10_readInto_31 ?_
        refine as_manR (k := k1) (j := 1) hx hb hK hP hI hR hS (by omega) (by omega) (by omega) (by omega) dX10_readInto_34 (fun σ6 H6 locs6 u6 v6 hR hP hS => ?_)
        have uw := u6
        have vw := v6
        have hF := hF.puts u6 2 rfl (by omega) (by omega) (by decide) (by decide)
        have gCT := gCT.ag (Agr.putV u6 (by intro q hq; simp only [Gd_CT, List.mem_cons, List.not_mem_nil, or_false] at hq; rcases hq with rfl | rfl <;> dsimp only [inRc] <;> omega))
        have t7 : (σ6 1 13).toInt = (σ4 1 13).toInt := congrArg Int32.toInt (u6 1 13 (by omega))
        have t8 : (σ6 1 12).toInt = (σ4 1 12).toInt := congrArg Int32.toInt (u6 1 12 (by omega))
        refine r_iconst hx hb dX10_readInto_35 (by decide) (fun z9 ez9 => ?_)
        exact r_zret hx hb hr hK hP hS hk (by omega) dX10_readInto_36 (show P_X10_readInto_manR_1 σ0 τ0 k1 a2 a3 a4 b N mo q lo hi z9 σ6 τ4 from ⟨hR, hF, hFL, by omega, by first | exact RO.ofr e1 (by omega) ⟨gCT, by omega⟩ | (obtain ⟨f, e1, x1, x2⟩ := o1.no (by omega); exact RO.ofl e1 (by omega) x1 x2), by first | exact Fr.r2b (Fr.r2a ft (by decide)) uw | exact Fr.r2a ft (by decide), by omega⟩)
      · clear hp4_1
        refine r_iconst hx hb dX10_readInto_23 (by decide) (fun z10 ez10 => ?_)
        exact r_zret hx hb hr hK hP hS hk (by omega) dX10_readInto_24 (show P_X10_readInto_manR_1 σ0 τ0 k1 a2 a3 a4 b N mo q lo hi z10 σ4 τ4 from ⟨hR, hF, hFL, by omega, by first | exact RO.ofr e1 (by omega) ⟨gCT, by omega⟩ | (obtain ⟨f, e1, x1, x2⟩ := o1.no (by omega); exact RO.ofl e1 (by omega) x1 x2), by first | exact Fr.r2b (Fr.r2a ft (by decide)) uw | exact Fr.r2a ft (by decide), by omega⟩)
abbrev L_X10_readInto_manR_2 : List Rc := [(1, 1, 12, 14), (1, 1, 7, 10), (108, 115, 2, 2)]
abbrev LL_X10_readInto_manR_2 : List Rc := [(1, 1, 11, 11)]
def P_X10_readInto_manR_2 (σ0 : Nat → Nat → Int32) (τ0 : Nat → Nat → Int64) (k1 : Nat) (a2 : Int32) (a3 : Int32) (a4 : Int32) (b : Nat → Int) (N : Nat) (mo : Nat) (q : Nat) (lo : Int) (hi : Int) (r : Int32) (σ : Nat → Nat → Int32) (τ : Nat → Nat → Int64) : Prop := Rg σ ∧ Fr L_X10_readInto_manR_2 σ0 σ ∧ FrL LL_X10_readInto_manR_2 τ0 τ ∧ (0 ≤ r.toInt ∧ r.toInt ≤ 1) ∧ (RO r σ (numP b N mo lo hi q) (fun z => CT σ τ b N mo z.1 ∧ (σ k1 2).toInt = z.2)) ∧ (Fr [(1, 1, 7, 14), (k1, k1, 2, 2)] σ0 σ) ∧ (r.toInt = 0 ∨ (σ 1 13).toInt = (σ0 1 13).toInt)
set_option maxHeartbeats 4000000 in
theorem c_X10_readInto_manR_2 (l : Launch) (D : va_G) (cA : Nat → ClassId) (ad : Nat → Nat) (hI : Inj ad) (σ0 : Nat → Nat → Int32) (τ0 : Nat → Nat → Int64) (hR : Rg σ0) (k1 : Nat) (a2 : Int32) (a3 : Int32) (a4 : Int32) (b : Nat → Int) (N : Nat) (mo : Nat) (q : Nat) (lo : Int) (hi : Int) (hk1 : 108 ≤ k1 ∧ k1 ≤ 115) (ha2 : 2 ≤ a2.toInt ∧ a2.toInt ≤ 2) (ha3 : 0 ≤ a3.toInt ∧ a3.toInt ≤ 0) (ha4 : 9 ≤ a4.toInt ∧ a4.toInt ≤ 9) (hpre0 : a3.toInt = lo) (hpre1 : a4.toInt = hi) (gCT0 : CT σ0 τ0 b N mo q) : Met l yX10_readInto wsX10_readInto ({ frames := 2, cells := 0, slots := 0, locals := 43 } : Room) (WQc D cA ad [.ref (ad 6), .ref (ad k1), .int a2, .int a3, .int a4] σ0 τ0) (va_Qi (fun (r : Int32) (u : SS) => P_X10_readInto_manR_2 σ0 τ0 k1 a2 a3 a4 b N mo q lo hi r u.1 u.2) (WB D cA ad) (AA ad)) 0 0 (AA ad) := by
  refine Met.ofW (cc := cX10_readInto) (maxL := 5) (ret := (some .boolean)) (by decide) rfl ?_
  intro p e s m args below meth c s₁ B hml hv
  obtain ⟨rfl, hP, hK, hN⟩ := hv
  have C : Cy p s m _ meth c cX10_readInto 5 wsX10_readInto RX10 D cA ad (some .boolean) := ⟨B.exec, B.bytes, hml, findClass_of_methodNamed B.named, atoms_spec (ws := wsX10_readInto) B.pre, hK, B.notSynchronized, B.returns, hI, hN⟩
  have hl := lv_entry ([.ref (ad 6), .ref (ad k1), .int a2, .int a3, .int a4]) (n := 5) (Nat.le_of_ble_eq_true rfl)
  rw [lg_entry_eq]
  generalize (lg_sl ([.ref (ad 6), .ref (ad k1), .int a2, .int a3, .int a4]) ++ List.replicate (5 - (lg_sl ([.ref (ad 6), .ref (ad k1), .int a2, .int a3, .int a4])).length) Slot.unset).toArray = ls at hl ⊢
  have hl : lv_has ls 5 [(0, .ref (ad 6)), (1, .ref (ad k1)), (2, .int a2), (3, .int a3), (4, .int a4)] := hl
  have hS : va_S (AA ad) s.heap s.heap [] := va_S.rf
  have hF : Fr L_X10_readInto_manR_2 σ0 σ0 := Fr.rf
  have hFL : FrL LL_X10_readInto_manR_2 τ0 τ0 := FrL.rf
  have gCT := gCT0
  obtain ⟨hx, hb, _, hown, hts, _, hk, hr, _, _⟩ := C
  refine lv_iload_n hx hb dX10_readInto_0 rfl (lv_at hl 2 rfl) ?_
  refine r_if_lt (tgt := 23) hx hb dX10_readInto_1 (by decide) (fun c1 => ?_) (fun c1 => ?_)
  · exfalso; omega
  · refine lv_iload_n hx hb dX10_readInto_4 rfl (lv_at hl 2 rfl) ?_
    refine lv_aload_n hx hb dX10_readInto_5 rfl (lv_at hl 1 rfl) ?_
    refine al_manR (k := k1) hx hb hK hP (by omega) (by omega) dX10_readInto_6 (fun z2 ez2 => ?_)
    refine r_icmp_ge (tgt := 23) hx hb dX10_readInto_7 (by decide) (fun c3 => ?_) (fun c3 => ?_)
    · exfalso; omega
    · refine lv_aload_n hx hb dX10_readInto_10 rfl (lv_at hl 0 rfl) ?_
      refine fg_10_0 (k := 6) hx hb hts in_X10_readInto_10 hown hK hP (by decide) (by decide) (hts _ lk_X10_readInto_9) dX10_readInto_11 ?_
      refine lv_iload_n hx hb dX10_readInto_14 rfl (lv_at hl 3 rfl) ?_
      refine lv_iload hx hb dX10_readInto_15 (lv_at hl 4 rfl) ?_
      refine r_cVi (k := 1) (As := [.int a3, .int a4]) (rest := []) ⟨hx, hb, hml, hown, hts⟩ hK hP hN hS (c_X8_takeNumber_v l D cA ad hI σ0 τ0 hR a3 a4 b N mo _ lo hi (by omega) (by omega) (by omega) (by omega) gCT) (cwV 2 hts gX10_readInto_X8_takeNumber rfl rfl rfl (by decide +kernel) ⟨by decide, by decide⟩) (rv_Tape hK hP (by decide) (by decide)) rfl hl.1 rfl (Nat.le_of_ble_eq_true rfl) dX10_readInto_17 (Nat.zero_le _) (Nat.zero_le _) (fun r4 u4 H4 locs4 hp4 hP hS => ?_)
      obtain ⟨σ4, τ4⟩ := u4
      obtain ⟨hR, f4, fL4, hq4, hp4_0, hp4_1⟩ : P_X8_takeNumber_v σ0 τ0 a3 a4 b N mo _ lo hi r4 σ4 τ4 := hp4
      have o1 := hp4_0
      have ft := f4
      have hP : va_P D vwCl (gw cA ad σ4 τ4) H4 := hP
      have hFL := hFL.step fL4 (by decide)
      have hF := hF.step f4 (by decide)
      refine r_if_ne (tgt := 25) hx hb dX10_readInto_20 (by decide) (fun c5 => ?_) (fun c5 => ?_)
      · replace hp4_1 := hp4_1.resolve_left (by omega)
        obtain ⟨y, e1, gCT, gvl⟩ := o1.ye (by omega)
        refine lv_aload_n hx hb dX10_readInto_25 rfl (lv_at hl 1 rfl) ?_
        refine lv_iload_n hx hb dX10_readInto_26 rfl (lv_at hl 2 rfl) ?_
        refine lv_aload_n hx hb dX10_readInto_27 rfl (lv_at hl 0 rfl) ?_
        refine fg_10_0 (k := 6) hx hb hts in_X10_readInto_10 hown hK hP (by decide) (by decide) (hts _ lk_X10_readInto_9) dX10_readInto_28 ?_
        refine fgN_8_12 (k := 1) hx hb hts in_X10_readInto_8 hown hK hP (by decide) (by decide) (hN.use nw_10_93) dX10_readInto_31 ?_
        refine as_manR (k := k1) (j := 2) hx hb hK hP hI hR hS (by omega) (by omega) (by omega) (by omega) dX10_readInto_34 (fun σ6 H6 locs6 u6 v6 hR hP hS => ?_)
        have uw := u6
        have vw := v6
        have hF := hF.puts u6 2 rfl (by omega) (by omega) (by decide) (by decide)
        have gCT := gCT.ag (Agr.putV u6 (by intro q hq; simp only [Gd_CT, List.mem_cons, List.not_mem_nil, or_false] at hq; rcases hq with rfl | rfl <;> dsimp only [inRc] <;> omega))
        have t7 : (σ6 1 13).toInt = (σ4 1 13).toInt := congrArg Int32.toInt (u6 1 13 (by omega))
        have t8 : (σ6 1 12).toInt = (σ4 1 12).toInt := congrArg Int32.toInt (u6 1 12 (by omega))
        refine r_iconst hx hb dX10_readInto_35 (by decide) (fun z9 ez9 => ?_)
        exact r_zret hx hb hr hK hP hS hk (by omega) dX10_readInto_36 (show P_X10_readInto_manR_2 σ0 τ0 k1 a2 a3 a4 b N mo q lo hi z9 σ6 τ4 from ⟨hR, hF, hFL, by omega, by first | exact RO.ofr e1 (by omega) ⟨gCT, by omega⟩ | (obtain ⟨f, e1, x1, x2⟩ := o1.no (by omega); exact RO.ofl e1 (by omega) x1 x2), by first | exact Fr.r2b (Fr.r2a ft (by decide)) uw | exact Fr.r2a ft (by decide), by omega⟩)
      · clear hp4_1
        refine r_iconst hx hb dX10_readInto_23 (by decide) (fun z10 ez10 => ?_)
        exact r_zret hx hb hr hK hP hS hk (by omega) dX10_readInto_24 (show P_X10_readInto_manR_2 σ0 τ0 k1 a2 a3 a4 b N mo q lo hi z10 σ4 τ4 from ⟨hR, hF, hFL, by omega, by first | exact RO.ofr e1 (by omega) ⟨gCT, by omega⟩ | (obtain ⟨f, e1, x1, x2⟩ := o1.no (by omega); exact RO.ofl e1 (by omega) x1 x2), by first | exact Fr.r2b (Fr.r2a ft (by decide)) uw | exact Fr.r2a ft (by decide), by omega⟩)
theorem in_X10_readMan_10 : ∀ w ∈ u_ws RX10 TX10 5, w ∈ wsX10_readMan := by decide +kernel
theorem in_X10_readMan_8 : ∀ w ∈ u_ws RX8 TX8 15, w ∈ wsX10_readMan := by decide +kernel
theorem in_X10_readMan_9 : ∀ w ∈ u_ws RX9 TX9 14, w ∈ wsX10_readMan := by decide +kernel
theorem lk_X10_readMan_15 : Cond.fieldLink RX10 15 "CuckooShares$ValleyText" "into" "LCuckooShares$Valley;" ∈ wsX10_readMan := by decide +kernel
theorem lk_X10_readMan_9 : Cond.fieldLink RX10 9 "CuckooShares$ValleyText" "tape" "LCuckooShares$Tape;" ∈ wsX10_readMan := by decide +kernel
abbrev L_X10_readMan : List Rc := [(1, 1, 7, 10), (3, 3, 5, 5), (1, 1, 12, 14), (108, 115, 0, 5)]
abbrev LL_X10_readMan : List Rc := [(1, 1, 11, 11), (45, 45, 0, 7)]
def P_X10_readMan (σ0 : Nat → Nat → Int32) (τ0 : Nat → Nat → Int64) (b : Nat → Int) (N : Nat) (mo : Nat) (q : Nat) (h : Nat → Int) (nm : Nat → Int) (r : Int32) (σ : Nat → Nat → Int32) (τ : Nat → Nat → Int64) : Prop := Rg σ ∧ Fr L_X10_readMan σ0 σ ∧ FrL LL_X10_readMan τ0 τ ∧ (0 ≤ r.toInt ∧ r.toInt ≤ 1) ∧ (RO r σ (manP b N mo (q, h, nm, σ0 6 3, σ0 6 4)) (CR σ τ b N mo)) ∧ (r.toInt = 0 ∨ (σ 1 13).toInt = (σ0 1 13).toInt)
set_option maxHeartbeats 4000000 in
theorem c_X10_readMan (l : Launch) (D : va_G) (cA : Nat → ClassId) (ad : Nat → Nat) (hI : Inj ad) (σ0 : Nat → Nat → Int32) (τ0 : Nat → Nat → Int64) (hR : Rg σ0) (b : Nat → Int) (N : Nat) (mo : Nat) (q : Nat) (h : Nat → Int) (nm : Nat → Int) (gCT0 : CT σ0 τ0 b N mo q) (gCN0 : CN τ0 b h nm) (gCS0 : CS σ0 h) (gCM0 : CM σ0 h) (gCF0 : CF σ0 h) : Met l yX10_readMan wsX10_readMan ({ frames := 3, cells := 0, slots := 0, locals := 67 } : Room) (WQc D cA ad [.ref (ad 6)] σ0 τ0) (va_Qi (fun (r : Int32) (u : SS) => P_X10_readMan σ0 τ0 b N mo q h nm r u.1 u.2) (WB D cA ad) (AA ad)) 0 0 (AA ad) := by
  refine Met.ofW (cc := cX10_readMan) (maxL := 3) (ret := (some .boolean)) (by decide) rfl ?_
  intro p e s m args below meth c s₁ B hml hv
  obtain ⟨rfl, hP, hK, hN⟩ := hv
  have C : Cy p s m _ meth c cX10_readMan 3 wsX10_readMan RX10 D cA ad (some .boolean) := ⟨B.exec, B.bytes, hml, findClass_of_methodNamed B.named, atoms_spec (ws := wsX10_readMan) B.pre, hK, B.notSynchronized, B.returns, hI, hN⟩
  have hl := lv_entry ([.ref (ad 6)]) (n := 3) (Nat.le_of_ble_eq_true rfl)
  rw [lg_entry_eq]
  generalize (lg_sl ([.ref (ad 6)]) ++ List.replicate (3 - (lg_sl ([.ref (ad 6)])).length) Slot.unset).toArray = ls at hl ⊢
  have hl : lv_has ls 3 [(0, .ref (ad 6))] := hl
  have hS : va_S (AA ad) s.heap s.heap [] := va_S.rf
  have hF : Fr L_X10_readMan σ0 σ0 := Fr.rf
  have hFL : FrL LL_X10_readMan τ0 τ0 := FrL.rf
  have gCT := gCT0
  have gCN := gCN0
  have gCS := gCS0
  have gCM := gCM0
  have gCF := gCF0
  obtain ⟨hx, hb, _, hown, hts, _, hk, hr, _, _⟩ := C
  have hcs := gCS.2.1
  have hcs4 := gCS.1
  have hr4 := rg_9_4 hR (k := 3) (by decide) (by decide)
  refine lv_aload_n hx hb dX10_readMan_0 rfl (lv_at hl 0 rfl) ?_
  refine fg_10_1 (k := 6) hx hb hts in_X10_readMan_10 hown hK hP (by decide) (by decide) (hts _ lk_X10_readMan_15) dX10_readMan_1 ?_
  refine fgN_9_5 (k := 3) hx hb hts in_X10_readMan_9 hown hK hP (by decide) (by decide) (hN.use nw_10_138) dX10_readMan_4 ?_
  have hr1 := rg_9_5 hR (k := 3) (by decide) (by decide)
  refine lv_istore_n (lv' := [(1, .int (σ0 3 5)), (0, .ref (ad 6))]) hx hb dX10_readMan_7 rfl hl (by decide) rfl (fun ls hl => ?_)
  refine lv_iload_n hx hb dX10_readMan_8 rfl (lv_at hl 0 rfl) ?_
  refine r_bipush hx hb dX10_readMan_9 (by decide) (fun z2 ez2 => ?_)
  refine r_icmp_lt (tgt := 23) hx hb dX10_readMan_11 (by decide) (fun c3 => ?_) (fun c3 => ?_)
  · refine lv_aload_n hx hb dX10_readMan_23 rfl (lv_at hl 1 rfl) ?_
    refine fg_10_0 (k := 6) hx hb hts in_X10_readMan_10 hown hK hP (by decide) (by decide) (hts _ lk_X10_readMan_9) dX10_readMan_24 ?_
    refine r_cVv (k := 1) (As := []) (rest := []) ⟨hx, hb, hml, hown, hts⟩ hK hP hN hS (c_X8_next_v l D cA ad hI σ0 τ0 hR _ _ _ _ gCT) (cwV 0 hts gX10_readMan_X8_next rfl rfl rfl (by decide +kernel) ⟨by decide, by decide⟩) (rv_Tape hK hP (by decide) (by decide)) rfl hl.1 rfl (Nat.le_of_ble_eq_true rfl) dX10_readMan_27 (Nat.zero_le _) (Nat.zero_le _) (fun u4 H4 locs4 hp4 hP hS => ?_)
    obtain ⟨σ4, τ4⟩ := u4
    obtain ⟨hR, f4, fL4, hp4_0⟩ : P_X8_next_v σ0 τ0 _ _ _ _ σ4 τ4 := hp4
    have hP : va_P D vwCl (gw cA ad σ4 τ4) H4 := hP
    have hFL := hFL.step fL4 (by decide)
    have gCN := gCN.agL (AgrL.fr fL4 (by decide))
    have hF := hF.step f4 (by decide)
    have gCF := gCF.ag (Agr.fr f4 (by decide))
    have gCM := gCM.ag (Agr.fr f4 (by decide))
    have gCS := gCS.ag (Agr.fr f4 (by decide))
    have t5 : (σ4 1 13).toInt = (σ0 1 13).toInt := congrArg Int32.toInt (f4.at 1 13 (by decide))
    have t6 : (σ4 3 5).toInt = (σ0 3 5).toInt := congrArg Int32.toInt (f4.at 3 5 (by decide))
    have gCT := hp4_0
    refine lv_aload_n hx hb dX10_readMan_30 rfl (lv_at hl 1 rfl) ?_
    refine r_cVi (k := 6) (As := []) (rest := []) ⟨hx, hb, hml, hown, hts⟩ hK hP hN hS (c_X10_isNewName l D cA ad hI σ4 τ4 hR _ _ _ _ _ _ gCT gCN gCS) (cwV 0 hts gX10_readMan_X10_isNewName rfl rfl rfl (by decide +kernel) ⟨by decide, by decide⟩) (rv_VText hK hP (by decide) (by decide)) rfl hl.1 rfl (Nat.le_of_ble_eq_true rfl) dX10_readMan_31 (Nat.zero_le _) (Nat.zero_le _) (fun r7 u7 H7 locs7 hp7 hP hS => ?_)
    obtain ⟨σ7, τ7⟩ := u7
    obtain ⟨hR, f7, fL7, hq7, hp7_0, hp7_1, gnCT, gnCN, gnCS⟩ : P_X10_isNewName σ4 τ4 _ _ _ _ _ _ r7 σ7 τ7 := hp7
    have o1 := hp7_0
    have hP : va_P D vwCl (gw cA ad σ7 τ7) H7 := hP
    obtain rfl := FrL.nil fL7
    have hF := hF.step f7 (by decide)
    have gCF := gCF.ag (Agr.fr f7 (by decide))
    have gCM := gCM.ag (Agr.fr f7 (by decide))
    have gCS := gCS.ag (Agr.fr f7 (by decide))
    have gCT := gCT.ag (Agr.fr f7 (by decide))
    have t8 : (σ7 3 5).toInt = (σ4 3 5).toInt := congrArg Int32.toInt (f7.at 3 5 (by decide))
    refine r_if_ne (tgt := 39) hx hb dX10_readMan_34 (by decide) (fun c9 => ?_) (fun c9 => ?_)
    · replace hp7_1 := hp7_1.resolve_left (by omega)
      obtain ⟨_, e1, _⟩ := o1.ye (by omega)
      have hnr := gCT.nr (new_47 e1)
      refine lv_aload_n hx hb dX10_readMan_39 rfl (lv_at hl 1 rfl) ?_
      refine fg_10_1 (k := 6) hx hb hts in_X10_readMan_10 hown hK hP (by decide) (by decide) (hts _ lk_X10_readMan_15) dX10_readMan_40 ?_
      refine fgN_9_8 (k := 3) hx hb hts in_X10_readMan_9 hown hK hP (by decide) (by decide) (hN.use nw_10_141) dX10_readMan_43 ?_
      refine lv_iload_n hx hb dX10_readMan_46 rfl (lv_at hl 0 rfl) ?_
      refine lv_aload_n hx hb dX10_readMan_47 rfl (lv_at hl 1 rfl) ?_
      refine fg_10_0 (k := 6) hx hb hts in_X10_readMan_10 hown hK hP (by decide) (by decide) (hts _ lk_X10_readMan_9) dX10_readMan_48 ?_
      refine fgN_8_11 (k := 1) hx hb hts in_X10_readMan_8 hown hK hP (by decide) (by decide) (hN.use nw_10_108) dX10_readMan_51 ?_
      obtain ⟨j10, ej10⟩ : ∃ j : Nat, (σ0 3 5).toInt = (j : Int) := ⟨_, ti_nat (by omega)⟩
      refine asL_vnames (k := 45) (j := j10) hx hb hK hP hI hS (by decide) (by decide) ej10 (by omega) dX10_readMan_54 (fun τ11 H11 locs11 uL11 vL11 hP hS => ?_)
      have un := uL11
      have vn := vL11
      have hFL := hFL.puts uL11 1 rfl (by decide) (by decide) (by omega) (by omega)
      have gCT := gCT.agL (AgrL.putV uL11 (by intro q hq; simp only [GdL_CT, List.mem_cons, List.not_mem_nil, or_false] at hq; rcases hq with rfl | rfl <;> dsimp only [inRc] <;> omega))
      have gCN := CN.man2 gCN un vn hnr (by omega) (by omega)
      refine lv_aload_n hx hb dX10_readMan_55 rfl (lv_at hl 1 rfl) ?_
      refine fg_10_1 (k := 6) hx hb hts in_X10_readMan_10 hown hK hP (by decide) (by decide) (hts _ lk_X10_readMan_15) dX10_readMan_56 ?_
      refine lv_dup hx hb dX10_readMan_59 rfl ?_
      refine fgN_9_5 (k := 3) hx hb hts in_X10_readMan_9 hown hK hP (by decide) (by decide) (hN.use nw_10_138) dX10_readMan_60 ?_
      refine r_iconst hx hb dX10_readMan_63 (by decide) (fun z12 ez12 => ?_)
      refine r_iadd hx hb dX10_readMan_64 (by omega) (fun z13 ez13 => ?_)
      refine fpN_9_5 (k := 3) hx hb hts in_X10_readMan_9 hown hK hP (by decide) (by decide) (hN.use nw_10_138) hI hR hS (by omega) dX10_readMan_65 (fun σ14 H14 locs14 u14 v14 hR hP hS => ?_)
      have uk := u14
      have vk := v14
      have hF := hF.puts u14 1 rfl (by decide) (by decide) (by decide) (by decide)
      have gCF := gCF.ag (Agr.put u14 (by decide))
      have gCM := gCM.ag (Agr.put u14 (by decide))
      have gCT := gCT.ag (Agr.put u14 (by decide))
      have t15 : (σ14 1 13).toInt = (σ7 1 13).toInt := congrArg Int32.toInt (u14 1 13 (by omega))
      have gCS := gCS.c1 uk (by omega)
      refine lv_aload_n hx hb dX10_readMan_68 rfl (lv_at hl 1 rfl) ?_
      refine fg_10_0 (k := 6) hx hb hts in_X10_readMan_10 hown hK hP (by decide) (by decide) (hts _ lk_X10_readMan_9) dX10_readMan_69 ?_
      refine r_cVv (k := 1) (As := []) (rest := []) ⟨hx, hb, hml, hown, hts⟩ hK hP hN hS (c_X8_next_v l D cA ad hI σ14 τ11 hR _ _ _ _ gCT) (cwV 0 hts gX10_readMan_X8_next rfl rfl rfl (by decide +kernel) ⟨by decide, by decide⟩) (rv_Tape hK hP (by decide) (by decide)) rfl hl.1 rfl (Nat.le_of_ble_eq_true rfl) dX10_readMan_72 (Nat.zero_le _) (Nat.zero_le _) (fun u16 H16 locs16 hp16 hP hS => ?_)
      obtain ⟨σ16, τ16⟩ := u16
      obtain ⟨hR, f16, fL16, hp16_0⟩ : P_X8_next_v σ14 τ11 _ _ _ _ σ16 τ16 := hp16
      have f72 := f16
      have hP : va_P D vwCl (gw cA ad σ16 τ16) H16 := hP
      have hFL := hFL.step fL16 (by decide)
      have gCN := gCN.agL (AgrL.fr fL16 (by decide))
      have hF := hF.step f16 (by decide)
      have gCF := gCF.ag (Agr.fr f16 (by decide))
      have gCM := gCM.ag (Agr.fr f16 (by decide))
      have gCS := gCS.ag (Agr.fr f16 (by decide))
      have t17 : (σ16 1 13).toInt = (σ14 1 13).toInt := congrArg Int32.toInt (f16.at 1 13 (by decide))
      have t18 : (σ16 3 5).toInt = (σ14 3 5).toInt := congrArg Int32.toInt (f16.at 3 5 (by decide))
      have gCT := hp16_0
      refine lv_aload_n hx hb dX10_readMan_75 rfl (lv_at hl 1 rfl) ?_
      refine fg_10_1 (k := 6) hx hb hts in_X10_readMan_10 hown hK hP (by decide) (by decide) (hts _ lk_X10_readMan_15) dX10_readMan_76 ?_
      refine fgN_9_10 (k := 3) hx hb hts in_X10_readMan_9 hown hK hP (by decide) (by decide) (hN.use nw_10_144) dX10_readMan_79 ?_
      refine lv_iload_n hx hb dX10_readMan_82 rfl (lv_at hl 0 rfl) ?_
      refine ad_manA (k := 53) (j := j10) hx hb hK hP (by decide) (by decide) ej10 (by omega) dX10_readMan_83 ?_
      refine lv_astore_n (lv' := [(2, .ref (ad (108 + j10))), (1, .int (σ0 3 5)), (0, .ref (ad 6))]) hx hb dX10_readMan_84 rfl hl (by decide) rfl (fun ls hl => ?_)
      refine lv_aload_n hx hb dX10_readMan_85 rfl (lv_at hl 0 rfl) ?_
      refine r_iconst hx hb dX10_readMan_86 (by decide) (fun z19 ez19 => ?_)
      refine r_iconst hx hb dX10_readMan_87 (by decide) (fun z20 ez20 => ?_)
      refine as_manR (k := 108 + j10) (j := 3) hx hb hK hP hI hR hS (by omega) (by omega) (by omega) (by omega) dX10_readMan_88 (fun σ21 H21 locs21 u21 v21 hR hP hS => ?_)
      have w3 := u21
      have y3 := v21
      have hF := hF.puts u21 3 rfl (by omega) (by omega) (by decide) (by decide)
      have gCF := gCF.ag (Agr.putV u21 (by intro q hq; simp only [Gd_CF, List.mem_cons, List.not_mem_nil, or_false] at hq; rcases hq with rfl | rfl <;> dsimp only [inRc] <;> omega))
      have gCS := gCS.ag (Agr.putV u21 (by intro q hq; simp only [Gd_CS, List.mem_cons, List.not_mem_nil, or_false] at hq; rcases hq with rfl | rfl <;> dsimp only [inRc] <;> omega))
      have gCT := gCT.ag (Agr.putV u21 (by intro q hq; simp only [Gd_CT, List.mem_cons, List.not_mem_nil, or_false] at hq; rcases hq with rfl | rfl <;> dsimp only [inRc] <;> omega))
      have t22 : (σ21 1 13).toInt = (σ16 1 13).toInt := congrArg Int32.toInt (u21 1 13 (by omega))
      have t23 : (σ21 3 5).toInt = (σ16 3 5).toInt := congrArg Int32.toInt (u21 3 5 (by omega))
      refine lv_aload_n hx hb dX10_readMan_89 rfl (lv_at hl 0 rfl) ?_
      refine r_iconst hx hb dX10_readMan_90 (by decide) (fun z24 ez24 => ?_)
      refine r_iconst hx hb dX10_readMan_91 (by decide) (fun z25 ez25 => ?_)
      refine as_manR (k := 108 + j10) (j := 4) hx hb hK hP hI hR hS (by omega) (by omega) (by omega) (by omega) dX10_readMan_92 (fun σ26 H26 locs26 u26 v26 hR hP hS => ?_)
      have w4 := u26
      have y4 := v26
      have hF := hF.puts u26 3 rfl (by omega) (by omega) (by decide) (by decide)
      have gCF := gCF.ag (Agr.putV u26 (by intro q hq; simp only [Gd_CF, List.mem_cons, List.not_mem_nil, or_false] at hq; rcases hq with rfl | rfl <;> dsimp only [inRc] <;> omega))
      have gCS := gCS.ag (Agr.putV u26 (by intro q hq; simp only [Gd_CS, List.mem_cons, List.not_mem_nil, or_false] at hq; rcases hq with rfl | rfl <;> dsimp only [inRc] <;> omega))
      have gCT := gCT.ag (Agr.putV u26 (by intro q hq; simp only [Gd_CT, List.mem_cons, List.not_mem_nil, or_false] at hq; rcases hq with rfl | rfl <;> dsimp only [inRc] <;> omega))
      have t27 : (σ26 1 13).toInt = (σ21 1 13).toInt := congrArg Int32.toInt (u26 1 13 (by omega))
      have t28 : (σ26 3 5).toInt = (σ21 3 5).toInt := congrArg Int32.toInt (u26 3 5 (by omega))
      have t29 : (σ26 (108 + j10) 3).toInt = (σ21 (108 + j10) 3).toInt := congrArg Int32.toInt (u26 (108 + j10) 3 (by omega))
      refine lv_aload_n hx hb dX10_readMan_93 rfl (lv_at hl 0 rfl) ?_
      refine r_iconst hx hb dX10_readMan_94 (by decide) (fun z30 ez30 => ?_)
      refine r_iconst hx hb dX10_readMan_95 (by decide) (fun z31 ez31 => ?_)
      refine as_manR (k := 108 + j10) (j := 5) hx hb hK hP hI hR hS (by omega) (by omega) (by omega) (by omega) dX10_readMan_96 (fun σ32 H32 locs32 u32 v32 hR hP hS => ?_)
      have w5 := u32
      have y5 := v32
      have hF := hF.puts u32 3 rfl (by omega) (by omega) (by decide) (by decide)
      have gCF := gCF.ag (Agr.putV u32 (by intro q hq; simp only [Gd_CF, List.mem_cons, List.not_mem_nil, or_false] at hq; rcases hq with rfl | rfl <;> dsimp only [inRc] <;> omega))
      have gCS := gCS.ag (Agr.putV u32 (by intro q hq; simp only [Gd_CS, List.mem_cons, List.not_mem_nil, or_false] at hq; rcases hq with rfl | rfl <;> dsimp only [inRc] <;> omega))
      have gCT := gCT.ag (Agr.putV u32 (by intro q hq; simp only [Gd_CT, List.mem_cons, List.not_mem_nil, or_false] at hq; rcases hq with rfl | rfl <;> dsimp only [inRc] <;> omega))
      have t33 : (σ32 1 13).toInt = (σ26 1 13).toInt := congrArg Int32.toInt (u32 1 13 (by omega))
      have t34 : (σ32 3 5).toInt = (σ26 3 5).toInt := congrArg Int32.toInt (u32 3 5 (by omega))
      have t35 : (σ32 (108 + j10) 3).toInt = (σ26 (108 + j10) 3).toInt := congrArg Int32.toInt (u32 (108 + j10) 3 (by omega))
      have t36 : (σ32 (108 + j10) 4).toInt = (σ26 (108 + j10) 4).toInt := congrArg Int32.toInt (u32 (108 + j10) 4 (by omega))
      have gCM := CM.man (σ1 := σ32) (h' := uh h 1 (h 1 + 1)) gCM (k := j10) (by omega) (by omega) (fun i j g1 g2 => by rw [w5 _ _ (by omega), w4 _ _ (by omega), w3 _ _ (by omega)]) (by omega) (by omega) (by omega) (uh_s _ _ _) (fun j g1 g2 => uh_n _ _ (by omega))
      refine lv_aload_n hx hb dX10_readMan_97 rfl (lv_at hl 0 rfl) ?_
      refine r_iconst hx hb dX10_readMan_98 (by decide) (fun z37 ez37 => ?_)
      refine lv_aload_n hx hb dX10_readMan_99 rfl (lv_at hl 2 rfl) ?_
      refine fg_10_0 (k := 6) hx hb hts in_X10_readMan_10 hown hK hP (by decide) (by decide) (hts _ lk_X10_readMan_9) dX10_readMan_100 ?_
      refine lv_aload_n hx hb dX10_readMan_103 rfl (lv_at hl 2 rfl) ?_
      refine fg_10_1 (k := 6) hx hb hts in_X10_readMan_10 hown hK hP (by decide) (by decide) (hts _ lk_X10_readMan_15) dX10_readMan_104 ?_
      refine r_cVi (k := 1) (As := [.ref (ad 3)]) (rest := [.int z37, .ref (ad (108 + j10))]) ⟨hx, hb, hml, hown, hts⟩ hK hP hN hS (c_X8_hillHere_v l D cA ad hI σ32 τ16 hR _ _ _ _ _ _ gCT gCN gCS) (cwV 1 hts gX10_readMan_X8_hillHere rfl rfl rfl (by decide +kernel) ⟨by decide, by decide⟩) (rv_Tape hK hP (by decide) (by decide)) rfl hl.1 rfl (Nat.le_of_ble_eq_true rfl) dX10_readMan_107 (Nat.zero_le _) (Nat.zero_le _) (fun r38 u38 H38 locs38 hp38 hP hS => ?_)
      obtain ⟨σ38, τ38⟩ := u38
      obtain ⟨hR, f38, fL38, hq38, hp38_0, hp38_1, gnCT, gnCN, gnCS⟩ : P_X8_hillHere_v σ32 τ16 _ _ _ _ _ _ r38 σ38 τ38 := hp38
      have o2 := hp38_0
      have f107 := f38
      have hP : va_P D vwCl (gw cA ad σ38 τ38) H38 := hP
      obtain rfl := FrL.nil fL38
      have hF := hF.step f38 (by decide)
      have gCF := gCF.ag (Agr.fr f38 (by decide))
      have gCM := gCM.ag (Agr.fr f38 (by decide))
      have gCS := gCS.ag (Agr.fr f38 (by decide))
      have gCT := gCT.ag (Agr.fr f38 (by decide))
      have t39 : (σ38 3 5).toInt = (σ32 3 5).toInt := congrArg Int32.toInt (f38.at 3 5 (by decide))
      have t40 : (σ38 (108 + j10) 3).toInt = (σ32 (108 + j10) 3).toInt := congrArg Int32.toInt (f38.atV (108 + j10) 3 (by intro q hq; simp only [L_X8_hillHere_v, List.mem_cons, List.not_mem_nil, or_false] at hq; rcases hq with rfl <;> dsimp only <;> omega))
      have t41 : (σ38 (108 + j10) 4).toInt = (σ32 (108 + j10) 4).toInt := congrArg Int32.toInt (f38.atV (108 + j10) 4 (by intro q hq; simp only [L_X8_hillHere_v, List.mem_cons, List.not_mem_nil, or_false] at hq; rcases hq with rfl <;> dsimp only <;> omega))
      have t42 : (σ38 (108 + j10) 5).toInt = (σ32 (108 + j10) 5).toInt := congrArg Int32.toInt (f38.atV (108 + j10) 5 (by intro q hq; simp only [L_X8_hillHere_v, List.mem_cons, List.not_mem_nil, or_false] at hq; rcases hq with rfl <;> dsimp only <;> omega))
      rw [lok_un (by omega)] at o2
      refine as_manR (k := 108 + j10) (j := 0) hx hb hK hP hI hR hS (by omega) (by omega) (by omega) (by omega) dX10_readMan_110 (fun σ43 H43 locs43 u43 v43 hR hP hS => ?_)
      have w0 := u43
      have y0 := v43
      have hF := hF.puts u43 3 rfl (by omega) (by omega) (by decide) (by decide)
      have gCF := gCF.ag (Agr.putV u43 (by intro q hq; simp only [Gd_CF, List.mem_cons, List.not_mem_nil, or_false] at hq; rcases hq with rfl | rfl <;> dsimp only [inRc] <;> omega))
      have gCM := gCM.ag (Agr.putV u43 (by intro q hq; simp only [Gd_CM, List.mem_cons, List.not_mem_nil, or_false] at hq; rcases hq with rfl <;> dsimp only [inRc] <;> omega))
      have gCS := gCS.ag (Agr.putV u43 (by intro q hq; simp only [Gd_CS, List.mem_cons, List.not_mem_nil, or_false] at hq; rcases hq with rfl | rfl <;> dsimp only [inRc] <;> omega))
      have gCT := gCT.ag (Agr.putV u43 (by intro q hq; simp only [Gd_CT, List.mem_cons, List.not_mem_nil, or_false] at hq; rcases hq with rfl | rfl <;> dsimp only [inRc] <;> omega))
      have t44 : (σ43 3 5).toInt = (σ38 3 5).toInt := congrArg Int32.toInt (u43 3 5 (by omega))
      have t45 : (σ43 (108 + j10) 3).toInt = (σ38 (108 + j10) 3).toInt := congrArg Int32.toInt (u43 (108 + j10) 3 (by omega))
      have t46 : (σ43 (108 + j10) 4).toInt = (σ38 (108 + j10) 4).toInt := congrArg Int32.toInt (u43 (108 + j10) 4 (by omega))
      have t47 : (σ43 (108 + j10) 5).toInt = (σ38 (108 + j10) 5).toInt := congrArg Int32.toInt (u43 (108 + j10) 5 (by omega))
      have t48 : (σ43 1 13).toInt = (σ38 1 13).toInt := congrArg Int32.toInt (u43 1 13 (by omega))
      refine lv_aload_n hx hb dX10_readMan_111 rfl (lv_at hl 0 rfl) ?_
      refine r_iconst hx hb dX10_readMan_112 (by decide) (fun z49 ez49 => ?_)
      refine ad_manR (k := 108 + j10) (j := 0) hx hb hK hP (by omega) (by omega) (by omega) (by omega) dX10_readMan_113 ?_
      refine r_iconst hx hb dX10_readMan_114 (by decide) (fun z50 ez50 => ?_)
      refine r_icmp_ne (tgt := 120) hx hb dX10_readMan_115 (by decide) (fun c51 => ?_) (fun c51 => ?_)
      · obtain ⟨e2, k0, k7, _⟩ := o2.ye (by omega)
        refine lv_aload_n hx hb dX10_readMan_120 rfl (lv_at hl 2 rfl) ?_
        refine fg_10_0 (k := 6) hx hb hts in_X10_readMan_10 hown hK hP (by decide) (by decide) (hts _ lk_X10_readMan_9) dX10_readMan_121 ?_
        refine r_cVv (k := 1) (As := []) (rest := []) ⟨hx, hb, hml, hown, hts⟩ hK hP hN hS (c_X8_next_v l D cA ad hI σ43 τ16 hR _ _ _ _ gCT) (cwV 0 hts gX10_readMan_X8_next rfl rfl rfl (by decide +kernel) ⟨by decide, by decide⟩) (rv_Tape hK hP (by decide) (by decide)) rfl hl.1 rfl (Nat.le_of_ble_eq_true rfl) dX10_readMan_124 (Nat.zero_le _) (Nat.zero_le _) (fun u52 H52 locs52 hp52 hP hS => ?_)
        obtain ⟨σ52, τ52⟩ := u52
        obtain ⟨hR, f52, fL52, hp52_0⟩ : P_X8_next_v σ43 τ16 _ _ _ _ σ52 τ52 := hp52
        have f124 := f52
        have hP : va_P D vwCl (gw cA ad σ52 τ52) H52 := hP
        have hFL := hFL.step fL52 (by decide)
        have gCN := gCN.agL (AgrL.fr fL52 (by decide))
        have hF := hF.step f52 (by decide)
        have gCF := gCF.ag (Agr.fr f52 (by decide))
        have gCM := gCM.ag (Agr.fr f52 (by decide))
        have gCS := gCS.ag (Agr.fr f52 (by decide))
        have t53 : (σ52 3 5).toInt = (σ43 3 5).toInt := congrArg Int32.toInt (f52.at 3 5 (by decide))
        have t54 : (σ52 (108 + j10) 3).toInt = (σ43 (108 + j10) 3).toInt := congrArg Int32.toInt (f52.atV (108 + j10) 3 (by intro q hq; simp only [L_X8_next_v, List.mem_cons, List.not_mem_nil, or_false] at hq; rcases hq with rfl <;> dsimp only <;> omega))
        have t55 : (σ52 (108 + j10) 4).toInt = (σ43 (108 + j10) 4).toInt := congrArg Int32.toInt (f52.atV (108 + j10) 4 (by intro q hq; simp only [L_X8_next_v, List.mem_cons, List.not_mem_nil, or_false] at hq; rcases hq with rfl <;> dsimp only <;> omega))
        have t56 : (σ52 (108 + j10) 5).toInt = (σ43 (108 + j10) 5).toInt := congrArg Int32.toInt (f52.atV (108 + j10) 5 (by intro q hq; simp only [L_X8_next_v, List.mem_cons, List.not_mem_nil, or_false] at hq; rcases hq with rfl <;> dsimp only <;> omega))
        have t57 : (σ52 1 13).toInt = (σ43 1 13).toInt := congrArg Int32.toInt (f52.at 1 13 (by decide))
        have t58 : (σ52 (108 + j10) 0).toInt = (σ43 (108 + j10) 0).toInt := congrArg Int32.toInt (f52.atV (108 + j10) 0 (by intro q hq; simp only [L_X8_next_v, List.mem_cons, List.not_mem_nil, or_false] at hq; rcases hq with rfl <;> dsimp only <;> omega))
        have gCT := hp52_0
        refine lv_aload_n hx hb dX10_readMan_127 rfl (lv_at hl 2 rfl) ?_
        refine lv_aload_n hx hb dX10_readMan_128 rfl (lv_at hl 0 rfl) ?_
        refine r_iconst hx hb dX10_readMan_129 (by decide) (fun z59 ez59 => ?_)
        refine r_iconst hx hb dX10_readMan_130 (by decide) (fun z60 ez60 => ?_)
        refine r_bipush hx hb dX10_readMan_131 (by decide) (fun z61 ez61 => ?_)
        refine r_cVi (k := 6) (As := [.ref (ad (108 + j10)), .int z59, .int z60, .int z61]) (rest := []) ⟨hx, hb, hml, hown, hts⟩ hK hP hN hS (c_X10_readInto_manR_1 l D cA ad hI σ52 τ52 hR (108 + j10) z59 z60 z61 b N mo _ 0 9 ⟨by omega, by omega⟩ (by omega) (by omega) (by omega) (by omega) (by omega) gCT) (cwV 4 hts gX10_readMan_X10_readInto rfl rfl rfl (by decide +kernel) ⟨by decide, by decide⟩) (rv_VText hK hP (by decide) (by decide)) rfl hl.1 rfl (Nat.le_of_ble_eq_true rfl) dX10_readMan_133 (Nat.zero_le _) (Nat.zero_le _) (fun r62 u62 H62 locs62 hp62 hP hS => ?_)
        obtain ⟨σ62, τ62⟩ := u62
        obtain ⟨hR, f62, fL62, hq62, hp62_0, hp62_1, hp62_2⟩ : P_X10_readInto_manR_1 σ52 τ52 (108 + j10) z59 z60 z61 b N mo _ 0 9 r62 σ62 τ62 := hp62
        have o3 := hp62_0
        have hP : va_P D vwCl (gw cA ad σ62 τ62) H62 := hP
        have hFL := hFL.step fL62 (by decide)
        have gCN := gCN.agL (AgrL.fr fL62 (by decide))
        have hF := hF.step f62 (by decide)
        have gCF := gCF.ag (Agr.fr f62 (by decide))
        have gCM := gCM.ag (Agr.fr f62 (by decide))
        have gCS := gCS.ag (Agr.fr f62 (by decide))
        have t63 : (σ62 3 5).toInt = (σ52 3 5).toInt := congrArg Int32.toInt (f62.at 3 5 (by decide))
        have t64 : (σ62 (108 + j10) 3).toInt = (σ52 (108 + j10) 3).toInt := congrArg Int32.toInt (f62.atV (108 + j10) 3 (by intro q hq; simp only [L_X10_readInto_manR_1, List.mem_cons, List.not_mem_nil, or_false] at hq; rcases hq with rfl | rfl | rfl <;> dsimp only <;> omega))
        have t65 : (σ62 (108 + j10) 4).toInt = (σ52 (108 + j10) 4).toInt := congrArg Int32.toInt (f62.atV (108 + j10) 4 (by intro q hq; simp only [L_X10_readInto_manR_1, List.mem_cons, List.not_mem_nil, or_false] at hq; rcases hq with rfl | rfl | rfl <;> dsimp only <;> omega))
        have t66 : (σ62 (108 + j10) 5).toInt = (σ52 (108 + j10) 5).toInt := congrArg Int32.toInt (f62.atV (108 + j10) 5 (by intro q hq; simp only [L_X10_readInto_manR_1, List.mem_cons, List.not_mem_nil, or_false] at hq; rcases hq with rfl | rfl | rfl <;> dsimp only <;> omega))
        have t67 : (σ62 (108 + j10) 0).toInt = (σ52 (108 + j10) 0).toInt := congrArg Int32.toInt (f62.atV (108 + j10) 0 (by intro q hq; simp only [L_X10_readInto_manR_1, List.mem_cons, List.not_mem_nil, or_false] at hq; rcases hq with rfl | rfl | rfl <;> dsimp only <;> omega))
        refine r_if_eq (tgt := 155) hx hb dX10_readMan_136 (by decide) (fun c68 => ?_) (fun c68 => ?_)
        · clear hp62_2
          refine r_iconst hx hb dX10_readMan_155 (by decide) (fun z69 ez69 => ?_)
          exact r_zret hx hb hr hK hP hS hk (by omega) dX10_readMan_156 (show P_X10_readMan σ0 τ0 b N mo q h nm z69 σ62 τ62 from ⟨hR, hF, hFL, by omega, by first | exact RO.ofr (by unfold manP; dsimp only; rw [if_neg (by omega), e1, bnd_r, e2, bnd_r, e3, bnd_r, e4, bnd_r]) (by omega) (CR.mk gCT (gCN.h (uh4e (by omega) (by omega) (by omega)) (uh4e (by omega) (by omega) (by omega))) (gCS.h (fun j g1 => uh4e (by omega) (by omega) (by omega))) (gCM.h (uh4e (by omega) (by omega) (by omega)) (fun j g1 g2 => uh4e (by omega) (by omega) (by omega))) (gCF.h (uh4 (by omega) (by omega) (by omega) (by omega)) (fun j g1 => uh4 (by omega) (by omega) (by omega) (by omega))) (hF.at 6 3 (by decide)) (hF.at 6 4 (by decide))) | exact RO.ofk (by unfold manP; dsimp only; rw [if_pos (by omega)]) (by omega) (by omega) (by omega) | (obtain ⟨f, e4, x1, x2⟩ := o4.no (by omega); exact RO.ofl (by unfold manP; dsimp only; rw [if_neg (by omega), e1, bnd_r, e2, bnd_r, e3, bnd_r, e4, bnd_l]) (by omega) x1 x2) | (obtain ⟨f, e3, x1, x2⟩ := o3.no (by omega); exact RO.ofl (by unfold manP; dsimp only; rw [if_neg (by omega), e1, bnd_r, e2, bnd_r, e3, bnd_l]) (by omega) x1 x2) | (obtain ⟨f, e2, x1, x2⟩ := o2.no (by omega); exact RO.ofl (by unfold manP; dsimp only; rw [if_neg (by omega), e1, bnd_r, e2, bnd_l]) (by omega) (by rw [w0 1 13 (by omega)]; exact x1) (by rw [w0 1 14 (by omega)]; exact x2)) | (obtain ⟨f, e1, x1, x2⟩ := o1.no (by omega); exact RO.ofl (by unfold manP; dsimp only; rw [if_neg (by omega), e1, bnd_l]) (by omega) x1 x2), by omega⟩)
        · replace hp62_2 := hp62_2.resolve_left (by omega)
          obtain ⟨y, e3, gCT, gvy⟩ := o3.ye (by omega)
          refine lv_aload_n hx hb dX10_readMan_139 rfl (lv_at hl 2 rfl) ?_
          refine lv_aload_n hx hb dX10_readMan_140 rfl (lv_at hl 0 rfl) ?_
          refine r_iconst hx hb dX10_readMan_141 (by decide) (fun z70 ez70 => ?_)
          refine r_iconst hx hb dX10_readMan_142 (by decide) (fun z71 ez71 => ?_)
          refine r_bipush hx hb dX10_readMan_143 (by decide) (fun z72 ez72 => ?_)
          refine r_cVi (k := 6) (As := [.ref (ad (108 + j10)), .int z70, .int z71, .int z72]) (rest := []) ⟨hx, hb, hml, hown, hts⟩ hK hP hN hS (c_X10_readInto_manR_2 l D cA ad hI σ62 τ62 hR (108 + j10) z70 z71 z72 b N mo _ 0 9 ⟨by omega, by omega⟩ (by omega) (by omega) (by omega) (by omega) (by omega) gCT) (cwV 4 hts gX10_readMan_X10_readInto rfl rfl rfl (by decide +kernel) ⟨by decide, by decide⟩) (rv_VText hK hP (by decide) (by decide)) rfl hl.1 rfl (Nat.le_of_ble_eq_true rfl) dX10_readMan_145 (Nat.zero_le _) (Nat.zero_le _) (fun r73 u73 H73 locs73 hp73 hP hS => ?_)
          obtain ⟨σ73, τ73⟩ := u73
          obtain ⟨hR, f73, fL73, hq73, hp73_0, hp73_1, hp73_2⟩ : P_X10_readInto_manR_2 σ62 τ62 (108 + j10) z70 z71 z72 b N mo _ 0 9 r73 σ73 τ73 := hp73
          have o4 := hp73_0
          have hP : va_P D vwCl (gw cA ad σ73 τ73) H73 := hP
          have hFL := hFL.step fL73 (by decide)
          have gCN := gCN.agL (AgrL.fr fL73 (by decide))
          have hF := hF.step f73 (by decide)
          have gCF := gCF.ag (Agr.fr f73 (by decide))
          have gCM := gCM.ag (Agr.fr f73 (by decide))
          have gCS := gCS.ag (Agr.fr f73 (by decide))
          have t74 : (σ73 3 5).toInt = (σ62 3 5).toInt := congrArg Int32.toInt (f73.at 3 5 (by decide))
          have t75 : (σ73 (108 + j10) 3).toInt = (σ62 (108 + j10) 3).toInt := congrArg Int32.toInt (f73.atV (108 + j10) 3 (by intro q hq; simp only [L_X10_readInto_manR_2, List.mem_cons, List.not_mem_nil, or_false] at hq; rcases hq with rfl | rfl | rfl <;> dsimp only <;> omega))
          have t76 : (σ73 (108 + j10) 4).toInt = (σ62 (108 + j10) 4).toInt := congrArg Int32.toInt (f73.atV (108 + j10) 4 (by intro q hq; simp only [L_X10_readInto_manR_2, List.mem_cons, List.not_mem_nil, or_false] at hq; rcases hq with rfl | rfl | rfl <;> dsimp only <;> omega))
          have t77 : (σ73 (108 + j10) 5).toInt = (σ62 (108 + j10) 5).toInt := congrArg Int32.toInt (f73.atV (108 + j10) 5 (by intro q hq; simp only [L_X10_readInto_manR_2, List.mem_cons, List.not_mem_nil, or_false] at hq; rcases hq with rfl | rfl | rfl <;> dsimp only <;> omega))
          have t78 : (σ73 (108 + j10) 0).toInt = (σ62 (108 + j10) 0).toInt := congrArg Int32.toInt (f73.atV (108 + j10) 0 (by intro q hq; simp only [L_X10_readInto_manR_2, List.mem_cons, List.not_mem_nil, or_false] at hq; rcases hq with rfl | rfl | rfl <;> dsimp only <;> omega))
          refine r_if_eq (tgt := 155) hx hb dX10_readMan_148 (by decide) (fun c79 => ?_) (fun c79 => ?_)
          · clear hp73_2
            refine r_iconst hx hb dX10_readMan_155 (by decide) (fun z80 ez80 => ?_)
            exact r_zret hx hb hr hK hP hS hk (by omega) dX10_readMan_156 (show P_X10_readMan σ0 τ0 b N mo q h nm z80 σ73 τ73 from ⟨hR, hF, hFL, by omega, by first | exact RO.ofr (by unfold manP; dsimp only; rw [if_neg (by omega), e1, bnd_r, e2, bnd_r, e3, bnd_r, e4, bnd_r]) (by omega) (CR.mk gCT (gCN.h (uh4e (by omega) (by omega) (by omega)) (uh4e (by omega) (by omega) (by omega))) (gCS.h (fun j g1 => uh4e (by omega) (by omega) (by omega))) (gCM.h (uh4e (by omega) (by omega) (by omega)) (fun j g1 g2 => uh4e (by omega) (by omega) (by omega))) (gCF.h (uh4 (by omega) (by omega) (by omega) (by omega)) (fun j g1 => uh4 (by omega) (by omega) (by omega) (by omega))) (hF.at 6 3 (by decide)) (hF.at 6 4 (by decide))) | exact RO.ofk (by unfold manP; dsimp only; rw [if_pos (by omega)]) (by omega) (by omega) (by omega) | (obtain ⟨f, e4, x1, x2⟩ := o4.no (by omega); exact RO.ofl (by unfold manP; dsimp only; rw [if_neg (by omega), e1, bnd_r, e2, bnd_r, e3, bnd_r, e4, bnd_l]) (by omega) x1 x2) | (obtain ⟨f, e3, x1, x2⟩ := o3.no (by omega); exact RO.ofl (by unfold manP; dsimp only; rw [if_neg (by omega), e1, bnd_r, e2, bnd_r, e3, bnd_l]) (by omega) x1 x2) | (obtain ⟨f, e2, x1, x2⟩ := o2.no (by omega); exact RO.ofl (by unfold manP; dsimp only; rw [if_neg (by omega), e1, bnd_r, e2, bnd_l]) (by omega) (by rw [w0 1 13 (by omega)]; exact x1) (by rw [w0 1 14 (by omega)]; exact x2)) | (obtain ⟨f, e1, x1, x2⟩ := o1.no (by omega); exact RO.ofl (by unfold manP; dsimp only; rw [if_neg (by omega), e1, bnd_l]) (by omega) x1 x2), by omega⟩)
          · replace hp73_2 := hp73_2.resolve_left (by omega)
            obtain ⟨w, e4, gCT, gvw⟩ := o4.ye (by omega)
            refine r_iconst hx hb dX10_readMan_151 (by decide) (fun z81 ez81 => ?_)
            refine lv_goto (tgt := 156) hx hb dX10_readMan_152 (by decide) ?_
            exact r_zret hx hb hr hK hP hS hk (by omega) dX10_readMan_156 (show P_X10_readMan σ0 τ0 b N mo q h nm z81 σ73 τ73 from ⟨hR, hF, hFL, by omega, by first | exact RO.ofr (by unfold manP; dsimp only; rw [if_neg (by omega), e1, bnd_r, e2, bnd_r, e3, bnd_r, e4, bnd_r]) (by omega) (CR.mk gCT (gCN.h (uh4e (by omega) (by omega) (by omega)) (uh4e (by omega) (by omega) (by omega))) (gCS.h (fun j g1 => uh4e (by omega) (by omega) (by omega))) (gCM.h (uh4e (by omega) (by omega) (by omega)) (fun j g1 g2 => uh4e (by omega) (by omega) (by omega))) (gCF.h (uh4 (by omega) (by omega) (by omega) (by omega)) (fun j g1 => uh4 (by omega) (by omega) (by omega) (by omega))) (hF.at 6 3 (by decide)) (hF.at 6 4 (by decide))) | exact RO.ofk (by unfold manP; dsimp only; rw [if_pos (by omega)]) (by omega) (by omega) (by omega) | (obtain ⟨f, e4, x1, x2⟩ := o4.no (by omega); exact RO.ofl (by unfold manP; dsimp only; rw [if_neg (by omega), e1, bnd_r, e2, bnd_r, e3, bnd_r, e4, bnd_l]) (by omega) x1 x2) | (obtain ⟨f, e3, x1, x2⟩ := o3.no (by omega); exact RO.ofl (by unfold manP; dsimp only; rw [if_neg (by omega), e1, bnd_r, e2, bnd_r, e3, bnd_l]) (by omega) x1 x2) | (obtain ⟨f, e2, x1, x2⟩ := o2.no (by omega); exact RO.ofl (by unfold manP; dsimp only; rw [if_neg (by omega), e1, bnd_r, e2, bnd_l]) (by omega) (by rw [w0 1 13 (by omega)]; exact x1) (by rw [w0 1 14 (by omega)]; exact x2)) | (obtain ⟨f, e1, x1, x2⟩ := o1.no (by omega); exact RO.ofl (by unfold manP; dsimp only; rw [if_neg (by omega), e1, bnd_l]) (by omega) x1 x2), by omega⟩)
      · refine r_iconst hx hb dX10_readMan_118 (by decide) (fun z82 ez82 => ?_)
        exact r_zret hx hb hr hK hP hS hk (by omega) dX10_readMan_119 (show P_X10_readMan σ0 τ0 b N mo q h nm z82 σ43 τ16 from ⟨hR, hF, hFL, by omega, by first | exact RO.ofr (by unfold manP; dsimp only; rw [if_neg (by omega), e1, bnd_r, e2, bnd_r, e3, bnd_r, e4, bnd_r]) (by omega) (CR.mk gCT (gCN.h (uh4e (by omega) (by omega) (by omega)) (uh4e (by omega) (by omega) (by omega))) (gCS.h (fun j g1 => uh4e (by omega) (by omega) (by omega))) (gCM.h (uh4e (by omega) (by omega) (by omega)) (fun j g1 g2 => uh4e (by omega) (by omega) (by omega))) (gCF.h (uh4 (by omega) (by omega) (by omega) (by omega)) (fun j g1 => uh4 (by omega) (by omega) (by omega) (by omega))) (hF.at 6 3 (by decide)) (hF.at 6 4 (by decide))) | exact RO.ofk (by unfold manP; dsimp only; rw [if_pos (by omega)]) (by omega) (by omega) (by omega) | (obtain ⟨f, e4, x1, x2⟩ := o4.no (by omega); exact RO.ofl (by unfold manP; dsimp only; rw [if_neg (by omega), e1, bnd_r, e2, bnd_r, e3, bnd_r, e4, bnd_l]) (by omega) x1 x2) | (obtain ⟨f, e3, x1, x2⟩ := o3.no (by omega); exact RO.ofl (by unfold manP; dsimp only; rw [if_neg (by omega), e1, bnd_r, e2, bnd_r, e3, bnd_l]) (by omega) x1 x2) | (obtain ⟨f, e2, x1, x2⟩ := o2.no (by omega); exact RO.ofl (by unfold manP; dsimp only; rw [if_neg (by omega), e1, bnd_r, e2, bnd_l]) (by omega) (by rw [w0 1 13 (by omega)]; exact x1) (by rw [w0 1 14 (by omega)]; exact x2)) | (obtain ⟨f, e1, x1, x2⟩ := o1.no (by omega); exact RO.ofl (by unfold manP; dsimp only; rw [if_neg (by omega), e1, bnd_l]) (by omega) x1 x2), by omega⟩)
    · clear hp7_1
      refine r_iconst hx hb dX10_readMan_37 (by decide) (fun z83 ez83 => ?_)
      exact r_zret hx hb hr hK hP hS hk (by omega) dX10_readMan_38 (show P_X10_readMan σ0 τ0 b N mo q h nm z83 σ7 τ4 from ⟨hR, hF, hFL, by omega, by first | exact RO.ofr (by unfold manP; dsimp only; rw [if_neg (by omega), e1, bnd_r, e2, bnd_r, e3, bnd_r, e4, bnd_r]) (by omega) (CR.mk gCT (gCN.h (uh4e (by omega) (by omega) (by omega)) (uh4e (by omega) (by omega) (by omega))) (gCS.h (fun j g1 => uh4e (by omega) (by omega) (by omega))) (gCM.h (uh4e (by omega) (by omega) (by omega)) (fun j g1 g2 => uh4e (by omega) (by omega) (by omega))) (gCF.h (uh4 (by omega) (by omega) (by omega) (by omega)) (fun j g1 => uh4 (by omega) (by omega) (by omega) (by omega))) (hF.at 6 3 (by decide)) (hF.at 6 4 (by decide))) | exact RO.ofk (by unfold manP; dsimp only; rw [if_pos (by omega)]) (by omega) (by omega) (by omega) | (obtain ⟨f, e4, x1, x2⟩ := o4.no (by omega); exact RO.ofl (by unfold manP; dsimp only; rw [if_neg (by omega), e1, bnd_r, e2, bnd_r, e3, bnd_r, e4, bnd_l]) (by omega) x1 x2) | (obtain ⟨f, e3, x1, x2⟩ := o3.no (by omega); exact RO.ofl (by unfold manP; dsimp only; rw [if_neg (by omega), e1, bnd_r, e2, bnd_r, e3, bnd_l]) (by omega) x1 x2) | (obtain ⟨f, e2, x1, x2⟩ := o2.no (by omega); exact RO.ofl (by unfold manP; dsimp only; rw [if_neg (by omega), e1, bnd_r, e2, bnd_l]) (by omega) (by rw [w0 1 13 (by omega)]; exact x1) (by rw [w0 1 14 (by omega)]; exact x2)) | (obtain ⟨f, e1, x1, x2⟩ := o1.no (by omega); exact RO.ofl (by unfold manP; dsimp only; rw [if_neg (by omega), e1, bnd_l]) (by omega) x1 x2), by omega⟩)
  · refine lv_aload_n hx hb dX10_readMan_14 rfl (lv_at hl 1 rfl) ?_
    refine fg_10_0 (k := 6) hx hb hts in_X10_readMan_10 hown hK hP (by decide) (by decide) (hts _ lk_X10_readMan_9) dX10_readMan_15 ?_
    refine r_iconst hx hb dX10_readMan_18 (by decide) (fun z84 ez84 => ?_)
    refine r_cVi (k := 1) (As := [.int z84]) (rest := []) ⟨hx, hb, hml, hown, hts⟩ hK hP hN hS (c_X8_blame_v l D cA ad hI σ0 τ0 hR z84 _ _ _ _ (by omega) gCT) (cwV 1 hts gX10_readMan_X8_blame rfl rfl rfl (by decide +kernel) ⟨by decide, by decide⟩) (rv_Tape hK hP (by decide) (by decide)) rfl hl.1 rfl (Nat.le_of_ble_eq_true rfl) dX10_readMan_19 (Nat.zero_le _) (Nat.zero_le _) (fun r85 u85 H85 locs85 hp85 hP hS => ?_)
    obtain ⟨σ85, τ85⟩ := u85
    obtain ⟨hR, f85, fL85, hq85, hp85_0, hp85_1, hp85_2, gnCT⟩ : P_X8_blame_v σ0 τ0 z84 _ _ _ _ r85 σ85 τ85 := hp85
    have hP : va_P D vwCl (gw cA ad σ85 τ85) H85 := hP
    obtain rfl := FrL.nil fL85
    have hF := hF.step f85 (by decide)
    have gCF := gCF.ag (Agr.fr f85 (by decide))
    have gCM := gCM.ag (Agr.fr f85 (by decide))
    have gCS := gCS.ag (Agr.fr f85 (by decide))
    have gCT := gCT.ag (Agr.fr f85 (by decide))
    have t86 : (σ85 3 5).toInt = (σ0 3 5).toInt := congrArg Int32.toInt (f85.at 3 5 (by decide))
    exact r_zret hx hb hr hK hP hS hk (by omega) dX10_readMan_22 (show P_X10_readMan σ0 τ0 b N mo q h nm r85 σ85 τ0 from ⟨hR, hF, hFL, by omega, by first | exact RO.ofr (by unfold manP; dsimp only; rw [if_neg (by omega), e1, bnd_r, e2, bnd_r, e3, bnd_r, e4, bnd_r]) (by omega) (CR.mk gCT (gCN.h (uh4e (by omega) (by omega) (by omega)) (uh4e (by omega) (by omega) (by omega))) (gCS.h (fun j g1 => uh4e (by omega) (by omega) (by omega))) (gCM.h (uh4e (by omega) (by omega) (by omega)) (fun j g1 g2 => uh4e (by omega) (by omega) (by omega))) (gCF.h (uh4 (by omega) (by omega) (by omega) (by omega)) (fun j g1 => uh4 (by omega) (by omega) (by omega) (by omega))) (hF.at 6 3 (by decide)) (hF.at 6 4 (by decide))) | exact RO.ofk (by unfold manP; dsimp only; rw [if_pos (by omega)]) (by omega) (by omega) (by omega) | (obtain ⟨f, e4, x1, x2⟩ := o4.no (by omega); exact RO.ofl (by unfold manP; dsimp only; rw [if_neg (by omega), e1, bnd_r, e2, bnd_r, e3, bnd_r, e4, bnd_l]) (by omega) x1 x2) | (obtain ⟨f, e3, x1, x2⟩ := o3.no (by omega); exact RO.ofl (by unfold manP; dsimp only; rw [if_neg (by omega), e1, bnd_r, e2, bnd_r, e3, bnd_l]) (by omega) x1 x2) | (obtain ⟨f, e2, x1, x2⟩ := o2.no (by omega); exact RO.ofl (by unfold manP; dsimp only; rw [if_neg (by omega), e1, bnd_r, e2, bnd_l]) (by omega) (by rw [w0 1 13 (by omega)]; exact x1) (by rw [w0 1 14 (by omega)]; exact x2)) | (obtain ⟨f, e1, x1, x2⟩ := o1.no (by omega); exact RO.ofl (by unfold manP; dsimp only; rw [if_neg (by omega), e1, bnd_l]) (by omega) x1 x2), by omega⟩)
abbrev L_X10_readInto_manR_5 : List Rc := [(1, 1, 12, 14), (1, 1, 7, 10), (108, 115, 5, 5)]
abbrev LL_X10_readInto_manR_5 : List Rc := [(1, 1, 11, 11)]
def P_X10_readInto_manR_5 (σ0 : Nat → Nat → Int32) (τ0 : Nat → Nat → Int64) (k1 : Nat) (a2 : Int32) (a3 : Int32) (a4 : Int32) (b : Nat → Int) (N : Nat) (mo : Nat) (q : Nat) (lo : Int) (hi : Int) (r : Int32) (σ : Nat → Nat → Int32) (τ : Nat → Nat → Int64) : Prop := Rg σ ∧ Fr L_X10_readInto_manR_5 σ0 σ ∧ FrL LL_X10_readInto_manR_5 τ0 τ ∧ (0 ≤ r.toInt ∧ r.toInt ≤ 1) ∧ (RO r σ (numP b N mo lo hi q) (fun z => CT σ τ b N mo z.1 ∧ (σ k1 5).toInt = z.2)) ∧ (Fr [(1, 1, 7, 14), (k1, k1, 5, 5)] σ0 σ) ∧ (r.toInt = 0 ∨ (σ 1 13).toInt = (σ0 1 13).toInt)
set_option maxHeartbeats 4000000 in
theorem c_X10_readInto_manR_5 (l : Launch) (D : va_G) (cA : Nat → ClassId) (ad : Nat → Nat) (hI : Inj ad) (σ0 : Nat → Nat → Int32) (τ0 : Nat → Nat → Int64) (hR : Rg σ0) (k1 : Nat) (a2 : Int32) (a3 : Int32) (a4 : Int32) (b : Nat → Int) (N : Nat) (mo : Nat) (q : Nat) (lo : Int) (hi : Int) (hk1 : 108 ≤ k1 ∧ k1 ≤ 115) (ha2 : 5 ≤ a2.toInt ∧ a2.toInt ≤ 5) (ha3 : 0 ≤ a3.toInt ∧ a3.toInt ≤ 0) (ha4 : 999 ≤ a4.toInt ∧ a4.toInt ≤ 999) (hpre0 : a3.toInt = lo) (hpre1 : a4.toInt = hi) (gCT0 : CT σ0 τ0 b N mo q) : Met l yX10_readInto wsX10_readInto ({ frames := 2, cells := 0, slots := 0, locals := 43 } : Room) (WQc D cA ad [.ref (ad 6), .ref (ad k1), .int a2, .int a3, .int a4] σ0 τ0) (va_Qi (fun (r : Int32) (u : SS) => P_X10_readInto_manR_5 σ0 τ0 k1 a2 a3 a4 b N mo q lo hi r u.1 u.2) (WB D cA ad) (AA ad)) 0 0 (AA ad) := by
  refine Met.ofW (cc := cX10_readInto) (maxL := 5) (ret := (some .boolean)) (by decide) rfl ?_
  intro p e s m args below meth c s₁ B hml hv
  obtain ⟨rfl, hP, hK, hN⟩ := hv
  have C : Cy p s m _ meth c cX10_readInto 5 wsX10_readInto RX10 D cA ad (some .boolean) := ⟨B.exec, B.bytes, hml, findClass_of_methodNamed B.named, atoms_spec (ws := wsX10_readInto) B.pre, hK, B.notSynchronized, B.returns, hI, hN⟩
  have hl := lv_entry ([.ref (ad 6), .ref (ad k1), .int a2, .int a3, .int a4]) (n := 5) (Nat.le_of_ble_eq_true rfl)
  rw [lg_entry_eq]
  generalize (lg_sl ([.ref (ad 6), .ref (ad k1), .int a2, .int a3, .int a4]) ++ List.replicate (5 - (lg_sl ([.ref (ad 6), .ref (ad k1), .int a2, .int a3, .int a4])).length) Slot.unset).toArray = ls at hl ⊢
  have hl : lv_has ls 5 [(0, .ref (ad 6)), (1, .ref (ad k1)), (2, .int a2), (3, .int a3), (4, .int a4)] := hl
  have hS : va_S (AA ad) s.heap s.heap [] := va_S.rf
  have hF : Fr L_X10_readInto_manR_5 σ0 σ0 := Fr.rf
  have hFL : FrL LL_X10_readInto_manR_5 τ0 τ0 := FrL.rf
  have gCT := gCT0
  obtain ⟨hx, hb, _, hown, hts, _, hk, hr, _, _⟩ := C
  refine lv_iload_n hx hb dX10_readInto_0 rfl (lv_at hl 2 rfl) ?_
  refine r_if_lt (tgt := 23) hx hb dX10_readInto_1 (by decide) (fun c1 => ?_) (fun c1 => ?_)
  · exfalso; omega
  · refine lv_iload_n hx hb dX10_readInto_4 rfl (lv_at hl 2 rfl) ?_
    refine lv_aload_n hx hb dX10_readInto_5 rfl (lv_at hl 1 rfl) ?_
    refine al_manR (k := k1) hx hb hK hP (by omega) (by omega) dX10_readInto_6 (fun z2 ez2 => ?_)
    refine r_icmp_ge (tgt := 23) hx hb dX10_readInto_7 (by decide) (fun c3 => ?_) (fun c3 => ?_)
    · exfalso; omega
    · refine lv_aload_n hx hb dX10_readInto_10 rfl (lv_at hl 0 rfl) ?_
      refine fg_10_0 (k := 6) hx hb hts in_X10_readInto_10 hown hK hP (by decide) (by decide) (hts _ lk_X10_readInto_9) dX10_readInto_11 ?_
      refine lv_iload_n hx hb dX10_readInto_14 rfl (lv_at hl 3 rfl) ?_
      refine lv_iload hx hb dX10_readInto_15 (lv_at hl 4 rfl) ?_
      refine r_cVi (k := 1) (As := [.int a3, .int a4]) (rest := []) ⟨hx, hb, hml, hown, hts⟩ hK hP hN hS (c_X8_takeNumber_v l D cA ad hI σ0 τ0 hR a3 a4 b N mo _ lo hi (by omega) (by omega) (by omega) (by omega) gCT) (cwV 2 hts gX10_readInto_X8_takeNumber rfl rfl rfl (by decide +kernel) ⟨by decide, by decide⟩) (rv_Tape hK hP (by decide) (by decide)) rfl hl.1 rfl (Nat.le_of_ble_eq_true rfl) dX10_readInto_17 (Nat.zero_le _) (Nat.zero_le _) (fun r4 u4 H4 locs4 hp4 hP hS => ?_)
      obtain ⟨σ4, τ4⟩ := u4
      obtain ⟨hR, f4, fL4, hq4, hp4_0, hp4_1⟩ : P_X8_takeNumber_v σ0 τ0 a3 a4 b N mo _ lo hi r4 σ4 τ4 := hp4
      have o1 := hp4_0
      have ft := f4
      have hP : va_P D vwCl (gw cA ad σ4 τ4) H4 := hP
      have hFL := hFL.step fL4 (by decide)
      have hF := hF.step f4 (by decide)
      refine r_if_ne (tgt := 25) hx hb dX10_readInto_20 (by decide) (fun c5 => ?_) (fun c5 => ?_)
      · replace hp4_1 := hp4_1.resolve_left (by omega)
        obtain ⟨y, e1, gCT, gvl⟩ := o1.ye (by omega)
        refine lv_aload_n hx hb dX10_readInto_25 rfl (lv_at hl 1 rfl) ?_
        refine lv_iload_n hx hb dX10_readInto_26 rfl (lv_at hl 2 rfl) ?_
        refine lv_aload_n hx hb dX10_readInto_27 rfl (lv_at hl 0 rfl) ?_
        refine fg_10_0 (k := 6) hx hb hts in_X10_readInto_10 hown hK hP (by decide) (by decide) (hts _ lk_X10_readInto_9) dX10_readInto_28 ?_
        refine fgN_8_12 (k := 1) hx hb hts in_X10_readInto_8 hown hK hP (by decide) (by decide) (hN.use nw_10_93) dX10_readInto_31 ?_
        refine as_manR (k := k1) (j := 5) hx hb hK hP hI hR hS (by omega) (by omega) (by omega) (by omega) dX10_readInto_34 (fun σ6 H6 locs6 u6 v6 hR hP hS => ?_)
        have uw := u6
        have vw := v6
        have hF := hF.puts u6 2 rfl (by omega) (by omega) (by decide) (by decide)
        have gCT := gCT.ag (Agr.putV u6 (by intro q hq; simp only [Gd_CT, List.mem_cons, List.not_mem_nil, or_false] at hq; rcases hq with rfl | rfl <;> dsimp only [inRc] <;> omega))
        have t7 : (σ6 1 13).toInt = (σ4 1 13).toInt := congrArg Int32.toInt (u6 1 13 (by omega))
        have t8 : (σ6 1 12).toInt = (σ4 1 12).toInt := congrArg Int32.toInt (u6 1 12 (by omega))
        refine r_iconst hx hb dX10_readInto_35 (by decide) (fun z9 ez9 => ?_)
        exact r_zret hx hb hr hK hP hS hk (by omega) dX10_readInto_36 (show P_X10_readInto_manR_5 σ0 τ0 k1 a2 a3 a4 b N mo q lo hi z9 σ6 τ4 from ⟨hR, hF, hFL, by omega, by first | exact RO.ofr e1 (by omega) ⟨gCT, by omega⟩ | (obtain ⟨f, e1, x1, x2⟩ := o1.no (by omega); exact RO.ofl e1 (by omega) x1 x2), by first | exact Fr.r2b (Fr.r2a ft (by decide)) uw | exact Fr.r2a ft (by decide), by omega⟩)
      · clear hp4_1
        refine r_iconst hx hb dX10_readInto_23 (by decide) (fun z10 ez10 => ?_)
        exact r_zret hx hb hr hK hP hS hk (by omega) dX10_readInto_24 (show P_X10_readInto_manR_5 σ0 τ0 k1 a2 a3 a4 b N mo q lo hi z10 σ4 τ4 from ⟨hR, hF, hFL, by omega, by first | exact RO.ofr e1 (by omega) ⟨gCT, by omega⟩ | (obtain ⟨f, e1, x1, x2⟩ := o1.no (by omega); exact RO.ofl e1 (by omega) x1 x2), by first | exact Fr.r2b (Fr.r2a ft (by decide)) uw | exact Fr.r2a ft (by decide), by omega⟩)
theorem in_X10_readNeeds_10 : ∀ w ∈ u_ws RX10 TX10 5, w ∈ wsX10_readNeeds := by decide +kernel
theorem in_X10_readNeeds_9 : ∀ w ∈ u_ws RX9 TX9 14, w ∈ wsX10_readNeeds := by decide +kernel
theorem lk_X10_readNeeds_15 : Cond.fieldLink RX10 15 "CuckooShares$ValleyText" "into" "LCuckooShares$Valley;" ∈ wsX10_readNeeds := by decide +kernel
abbrev L_X10_readNeeds : List Rc := [(1, 1, 7, 10), (1, 1, 12, 14), (108, 115, 5, 5)]
abbrev LL_X10_readNeeds : List Rc := [(1, 1, 11, 11)]
def P_X10_readNeeds (σ0 : Nat → Nat → Int32) (τ0 : Nat → Nat → Int64) (b : Nat → Int) (N : Nat) (mo : Nat) (q : Nat) (h : Nat → Int) (nm : Nat → Int) (r : Int32) (σ : Nat → Nat → Int32) (τ : Nat → Nat → Int64) : Prop := Rg σ ∧ Fr L_X10_readNeeds σ0 σ ∧ FrL LL_X10_readNeeds τ0 τ ∧ (0 ≤ r.toInt ∧ r.toInt ≤ 1) ∧ (RO r σ (neeP b N mo (q, h, nm, σ0 6 3, σ0 6 4)) (CR σ τ b N mo)) ∧ (r.toInt = 0 ∨ (σ 1 13).toInt = (σ0 1 13).toInt)
set_option maxHeartbeats 4000000 in
theorem c_X10_readNeeds (l : Launch) (D : va_G) (cA : Nat → ClassId) (ad : Nat → Nat) (hI : Inj ad) (σ0 : Nat → Nat → Int32) (τ0 : Nat → Nat → Int64) (hR : Rg σ0) (b : Nat → Int) (N : Nat) (mo : Nat) (q : Nat) (h : Nat → Int) (nm : Nat → Int) (gCT0 : CT σ0 τ0 b N mo q) (gCN0 : CN τ0 b h nm) (gCS0 : CS σ0 h) (gCM0 : CM σ0 h) (gCF0 : CF σ0 h) : Met l yX10_readNeeds wsX10_readNeeds ({ frames := 4, cells := 0, slots := 0, locals := 86 } : Room) (WQc D cA ad [.ref (ad 6)] σ0 τ0) (va_Qi (fun (r : Int32) (u : SS) => P_X10_readNeeds σ0 τ0 b N mo q h nm r u.1 u.2) (WB D cA ad) (AA ad)) 0 0 (AA ad) := by
  refine Met.ofW (cc := cX10_readNeeds) (maxL := 2) (ret := (some .boolean)) (by decide) rfl ?_
  intro p e s m args below meth c s₁ B hml hv
  obtain ⟨rfl, hP, hK, hN⟩ := hv
  have C : Cy p s m _ meth c cX10_readNeeds 2 wsX10_readNeeds RX10 D cA ad (some .boolean) := ⟨B.exec, B.bytes, hml, findClass_of_methodNamed B.named, atoms_spec (ws := wsX10_readNeeds) B.pre, hK, B.notSynchronized, B.returns, hI, hN⟩
  have hl := lv_entry ([.ref (ad 6)]) (n := 2) (Nat.le_of_ble_eq_true rfl)
  rw [lg_entry_eq]
  generalize (lg_sl ([.ref (ad 6)]) ++ List.replicate (2 - (lg_sl ([.ref (ad 6)])).length) Slot.unset).toArray = ls at hl ⊢
  have hl : lv_has ls 2 [(0, .ref (ad 6))] := hl
  have hS : va_S (AA ad) s.heap s.heap [] := va_S.rf
  have hF : Fr L_X10_readNeeds σ0 σ0 := Fr.rf
  have hFL : FrL LL_X10_readNeeds τ0 τ0 := FrL.rf
  have gCT := gCT0
  have gCN := gCN0
  have gCS := gCS0
  have gCM := gCM0
  have gCF := gCF0
  obtain ⟨hx, hb, _, hown, hts, _, hk, hr, _, _⟩ := C
  refine lv_aload_n hx hb dX10_readNeeds_0 rfl (lv_at hl 0 rfl) ?_
  refine r_iconst hx hb dX10_readNeeds_1 (by decide) (fun z1 ez1 => ?_)
  refine r_iconst hx hb dX10_readNeeds_2 (by decide) (fun z2 ez2 => ?_)
  refine r_cVi (k := 6) (As := [.int z1, .int z2]) (rest := []) ⟨hx, hb, hml, hown, hts⟩ hK hP hN hS (c_X10_takeManOnce l D cA ad hI σ0 τ0 hR z1 z2 b N mo q h nm 71 (by omega) (by omega) (by omega) gCT gCN gCS gCM gCF) (cwV 2 hts gX10_readNeeds_X10_takeManOnce rfl rfl rfl (by decide +kernel) ⟨by decide, by decide⟩) (rv_VText hK hP (by decide) (by decide)) rfl hl.1 rfl (Nat.le_of_ble_eq_true rfl) dX10_readNeeds_3 (Nat.zero_le _) (Nat.zero_le _) (fun r3 u3 H3 locs3 hp3 hP hS => ?_)
  obtain ⟨σ3, τ3⟩ := u3
  obtain ⟨hR, f3, fL3, hq3, hp3_0, hp3_1, gnCN, gnCS, gnCM, gnCF⟩ : P_X10_takeManOnce σ0 τ0 z1 z2 b N mo q h nm 71 r3 σ3 τ3 := hp3
  have o1 := hp3_0
  have hP : va_P D vwCl (gw cA ad σ3 τ3) H3 := hP
  have hFL := hFL.step fL3 (by decide)
  have gCN := gCN.agL (AgrL.fr fL3 (by decide))
  have hF := hF.step f3 (by decide)
  have gCF := gCF.ag (Agr.fr f3 (by decide))
  have gCM := gCM.ag (Agr.fr f3 (by decide))
  have gCS := gCS.ag (Agr.fr f3 (by decide))
  refine lv_istore_n (lv' := [(1, .int r3), (0, .ref (ad 6))]) hx hb dX10_readNeeds_6 rfl hl (by decide) rfl (fun ls hl => ?_)
  refine lv_iload_n hx hb dX10_readNeeds_7 rfl (lv_at hl 0 rfl) ?_
  refine r_iconst hx hb dX10_readNeeds_8 (by decide) (fun z4 ez4 => ?_)
  refine r_icmp_eq (tgt := 37) hx hb dX10_readNeeds_9 (by decide) (fun c5 => ?_) (fun c5 => ?_)
  · refine r_iconst hx hb dX10_readNeeds_37 (by decide) (fun z6 ez6 => ?_)
    exact r_zret hx hb hr hK hP hS hk (by omega) dX10_readNeeds_38 (show P_X10_readNeeds σ0 τ0 b N mo q h nm z6 σ3 τ3 from ⟨hR, hF, hFL, by omega, by first | exact RO.ofr (by unfold neeP; dsimp only; rw [e1, bnd_r, e2, bnd_r, show r3.toInt.toNat = 0 by omega]) (by omega) (CR.mk gCT (gCN.h (uh_n _ _ (by omega)) (uh_n _ _ (by omega))) (gCS.h (fun j g1 => uh_n _ _ (by omega))) gCM (gCF.h (uh_n _ _ (by omega)) (fun j g1 => uh_n _ _ (by omega))) (hF.at 6 3 (by decide)) (hF.at 6 4 (by decide))) | (obtain ⟨f, e2, x1, x2⟩ := o2.no (by omega); exact RO.ofl (by unfold neeP; dsimp only; rw [e1, bnd_r, e2, bnd_l]) (by omega) x1 x2) | (obtain ⟨f, e1, x1, x2⟩ := o1.no (by omega); exact RO.ofl (by unfold neeP; dsimp only; rw [e1, bnd_l]) (by omega) x1 x2), by omega⟩)
  · obtain ⟨e1, k0, k7, gCT⟩ := o1.ye (by omega)
    have hmk := mno_ok e1
    refine lv_aload_n hx hb dX10_readNeeds_12 rfl (lv_at hl 1 rfl) ?_
    refine lv_aload_n hx hb dX10_readNeeds_13 rfl (lv_at hl 1 rfl) ?_
    refine fg_10_1 (k := 6) hx hb hts in_X10_readNeeds_10 hown hK hP (by decide) (by decide) (hts _ lk_X10_readNeeds_15) dX10_readNeeds_14 ?_
    refine fgN_9_10 (k := 3) hx hb hts in_X10_readNeeds_9 hown hK hP (by decide) (by decide) (hN.use nw_10_144) dX10_readNeeds_17 ?_
    refine lv_iload_n hx hb dX10_readNeeds_20 rfl (lv_at hl 0 rfl) ?_
    obtain ⟨j7, ej7⟩ : ∃ j : Nat, r3.toInt = (j : Int) := ⟨_, ti_nat (by omega)⟩
    refine ad_manA (k := 53) (j := j7) hx hb hK hP (by decide) (by decide) ej7 (by omega) dX10_readNeeds_21 ?_
    refine r_iconst hx hb dX10_readNeeds_22 (by decide) (fun z8 ez8 => ?_)
    refine r_iconst hx hb dX10_readNeeds_23 (by decide) (fun z9 ez9 => ?_)
    refine r_sipush hx hb dX10_readNeeds_24 (by decide) (fun z10 ez10 => ?_)
    refine r_cVi (k := 6) (As := [.ref (ad (108 + j7)), .int z8, .int z9, .int z10]) (rest := []) ⟨hx, hb, hml, hown, hts⟩ hK hP hN hS (c_X10_readInto_manR_5 l D cA ad hI σ3 τ3 hR (108 + j7) z8 z9 z10 b N mo _ 0 999 ⟨by omega, by omega⟩ (by omega) (by omega) (by omega) (by omega) (by omega) gCT) (cwV 4 hts gX10_readNeeds_X10_readInto rfl rfl rfl (by decide +kernel) ⟨by decide, by decide⟩) (rv_VText hK hP (by decide) (by decide)) rfl hl.1 rfl (Nat.le_of_ble_eq_true rfl) dX10_readNeeds_27 (Nat.zero_le _) (Nat.zero_le _) (fun r11 u11 H11 locs11 hp11 hP hS => ?_)
    obtain ⟨σ11, τ11⟩ := u11
    obtain ⟨hR, f11, fL11, hq11, hp11_0, hp11_1, hp11_2⟩ : P_X10_readInto_manR_5 σ3 τ3 (108 + j7) z8 z9 z10 b N mo _ 0 999 r11 σ11 τ11 := hp11
    have o2 := hp11_0
    have fs := hp11_1
    have hP : va_P D vwCl (gw cA ad σ11 τ11) H11 := hP
    have hFL := hFL.step fL11 (by decide)
    have gCN := gCN.agL (AgrL.fr fL11 (by decide))
    have hF := hF.step f11 (by decide)
    have gCF := gCF.ag (Agr.fr f11 (by decide))
    have gCS := gCS.ag (Agr.fr f11 (by decide))
    refine r_if_eq (tgt := 37) hx hb dX10_readNeeds_30 (by decide) (fun c12 => ?_) (fun c12 => ?_)
    · clear hp11_2
      refine r_iconst hx hb dX10_readNeeds_37 (by decide) (fun z13 ez13 => ?_)
      exact r_zret hx hb hr hK hP hS hk (by omega) dX10_readNeeds_38 (show P_X10_readNeeds σ0 τ0 b N mo q h nm z13 σ11 τ11 from ⟨hR, hF, hFL, by omega, by first | exact RO.ofr (by unfold neeP; dsimp only; rw [e1, bnd_r, e2, bnd_r, show r3.toInt.toNat = j7 by omega]) (by omega) (CR.mk gCT (gCN.h (uh_n _ _ (by omega)) (uh_n _ _ (by omega))) (gCS.h (fun j g1 => uh_n _ _ (by omega))) gCM (gCF.h (uh_n _ _ (by omega)) (fun j g1 => uh_n _ _ (by omega))) (hF.at 6 3 (by decide)) (hF.at 6 4 (by decide))) | (obtain ⟨f, e2, x1, x2⟩ := o2.no (by omega); exact RO.ofl (by unfold neeP; dsimp only; rw [e1, bnd_r, e2, bnd_l]) (by omega) x1 x2) | (obtain ⟨f, e1, x1, x2⟩ := o1.no (by omega); exact RO.ofl (by unfold neeP; dsimp only; rw [e1, bnd_l]) (by omega) x1 x2), by omega⟩)
    · replace hp11_2 := hp11_2.resolve_left (by omega)
      obtain ⟨y, e2, gCT, gvy⟩ := o2.ye (by omega)
      have hny := num_ok e2
      have gCM := gCM.sf (i := j7) (v := y.2 + 1) fs (by omega) (by omega) (by omega) (by omega)
      refine r_iconst hx hb dX10_readNeeds_33 (by decide) (fun z14 ez14 => ?_)
      refine lv_goto (tgt := 38) hx hb dX10_readNeeds_34 (by decide) ?_
      exact r_zret hx hb hr hK hP hS hk (by omega) dX10_readNeeds_38 (show P_X10_readNeeds σ0 τ0 b N mo q h nm z14 σ11 τ11 from ⟨hR, hF, hFL, by omega, by first | exact RO.ofr (by unfold neeP; dsimp only; rw [e1, bnd_r, e2, bnd_r, show r3.toInt.toNat = j7 by omega]) (by omega) (CR.mk gCT (gCN.h (uh_n _ _ (by omega)) (uh_n _ _ (by omega))) (gCS.h (fun j g1 => uh_n _ _ (by omega))) gCM (gCF.h (uh_n _ _ (by omega)) (fun j g1 => uh_n _ _ (by omega))) (hF.at 6 3 (by decide)) (hF.at 6 4 (by decide))) | (obtain ⟨f, e2, x1, x2⟩ := o2.no (by omega); exact RO.ofl (by unfold neeP; dsimp only; rw [e1, bnd_r, e2, bnd_l]) (by omega) x1 x2) | (obtain ⟨f, e1, x1, x2⟩ := o1.no (by omega); exact RO.ofl (by unfold neeP; dsimp only; rw [e1, bnd_l]) (by omega) x1 x2), by omega⟩)
theorem in_X10_readOld_10 : ∀ w ∈ u_ws RX10 TX10 5, w ∈ wsX10_readOld := by decide +kernel
theorem in_X10_readOld_9 : ∀ w ∈ u_ws RX9 TX9 14, w ∈ wsX10_readOld := by decide +kernel
theorem lk_X10_readOld_15 : Cond.fieldLink RX10 15 "CuckooShares$ValleyText" "into" "LCuckooShares$Valley;" ∈ wsX10_readOld := by decide +kernel
abbrev L_X10_readOld : List Rc := [(1, 1, 7, 10), (1, 1, 13, 14), (108, 115, 3, 3)]
abbrev LL_X10_readOld : List Rc := [(1, 1, 11, 11)]
def P_X10_readOld (σ0 : Nat → Nat → Int32) (τ0 : Nat → Nat → Int64) (b : Nat → Int) (N : Nat) (mo : Nat) (q : Nat) (h : Nat → Int) (nm : Nat → Int) (r : Int32) (σ : Nat → Nat → Int32) (τ : Nat → Nat → Int64) : Prop := Rg σ ∧ Fr L_X10_readOld σ0 σ ∧ FrL LL_X10_readOld τ0 τ ∧ (0 ≤ r.toInt ∧ r.toInt ≤ 1) ∧ (RO r σ (oldP b N mo (q, h, nm, σ0 6 3, σ0 6 4)) (CR σ τ b N mo)) ∧ (r.toInt = 0 ∨ (σ 1 13).toInt = (σ0 1 13).toInt)
set_option maxHeartbeats 4000000 in
theorem c_X10_readOld (l : Launch) (D : va_G) (cA : Nat → ClassId) (ad : Nat → Nat) (hI : Inj ad) (σ0 : Nat → Nat → Int32) (τ0 : Nat → Nat → Int64) (hR : Rg σ0) (b : Nat → Int) (N : Nat) (mo : Nat) (q : Nat) (h : Nat → Int) (nm : Nat → Int) (gCT0 : CT σ0 τ0 b N mo q) (gCN0 : CN τ0 b h nm) (gCS0 : CS σ0 h) (gCM0 : CM σ0 h) (gCF0 : CF σ0 h) : Met l yX10_readOld wsX10_readOld ({ frames := 4, cells := 0, slots := 0, locals := 86 } : Room) (WQc D cA ad [.ref (ad 6)] σ0 τ0) (va_Qi (fun (r : Int32) (u : SS) => P_X10_readOld σ0 τ0 b N mo q h nm r u.1 u.2) (WB D cA ad) (AA ad)) 0 0 (AA ad) := by
  refine Met.ofW (cc := cX10_readOld) (maxL := 2) (ret := (some .boolean)) (by decide) rfl ?_
  intro p e s m args below meth c s₁ B hml hv
  obtain ⟨rfl, hP, hK, hN⟩ := hv
  have C : Cy p s m _ meth c cX10_readOld 2 wsX10_readOld RX10 D cA ad (some .boolean) := ⟨B.exec, B.bytes, hml, findClass_of_methodNamed B.named, atoms_spec (ws := wsX10_readOld) B.pre, hK, B.notSynchronized, B.returns, hI, hN⟩
  have hl := lv_entry ([.ref (ad 6)]) (n := 2) (Nat.le_of_ble_eq_true rfl)
  rw [lg_entry_eq]
  generalize (lg_sl ([.ref (ad 6)]) ++ List.replicate (2 - (lg_sl ([.ref (ad 6)])).length) Slot.unset).toArray = ls at hl ⊢
  have hl : lv_has ls 2 [(0, .ref (ad 6))] := hl
  have hS : va_S (AA ad) s.heap s.heap [] := va_S.rf
  have hF : Fr L_X10_readOld σ0 σ0 := Fr.rf
  have hFL : FrL LL_X10_readOld τ0 τ0 := FrL.rf
  have gCT := gCT0
  have gCN := gCN0
  have gCS := gCS0
  have gCM := gCM0
  have gCF := gCF0
  obtain ⟨hx, hb, _, hown, hts, _, hk, hr, _, _⟩ := C
  refine lv_aload_n hx hb dX10_readOld_0 rfl (lv_at hl 0 rfl) ?_
  refine r_iconst hx hb dX10_readOld_1 (by decide) (fun z1 ez1 => ?_)
  refine r_iconst hx hb dX10_readOld_2 (by decide) (fun z2 ez2 => ?_)
  refine r_cVi (k := 6) (As := [.int z1, .int z2]) (rest := []) ⟨hx, hb, hml, hown, hts⟩ hK hP hN hS (c_X10_takeManOnce l D cA ad hI σ0 τ0 hR z1 z2 b N mo q h nm 55 (by omega) (by omega) (by omega) gCT gCN gCS gCM gCF) (cwV 2 hts gX10_readOld_X10_takeManOnce rfl rfl rfl (by decide +kernel) ⟨by decide, by decide⟩) (rv_VText hK hP (by decide) (by decide)) rfl hl.1 rfl (Nat.le_of_ble_eq_true rfl) dX10_readOld_3 (Nat.zero_le _) (Nat.zero_le _) (fun r3 u3 H3 locs3 hp3 hP hS => ?_)
  obtain ⟨σ3, τ3⟩ := u3
  obtain ⟨hR, f3, fL3, hq3, hp3_0, hp3_1, gnCN, gnCS, gnCM, gnCF⟩ : P_X10_takeManOnce σ0 τ0 z1 z2 b N mo q h nm 55 r3 σ3 τ3 := hp3
  have o1 := hp3_0
  have hP : va_P D vwCl (gw cA ad σ3 τ3) H3 := hP
  have hFL := hFL.step fL3 (by decide)
  have gCN := gCN.agL (AgrL.fr fL3 (by decide))
  have hF := hF.step f3 (by decide)
  have gCF := gCF.ag (Agr.fr f3 (by decide))
  have gCM := gCM.ag (Agr.fr f3 (by decide))
  have gCS := gCS.ag (Agr.fr f3 (by decide))
  refine lv_istore_n (lv' := [(1, .int r3), (0, .ref (ad 6))]) hx hb dX10_readOld_6 rfl hl (by decide) rfl (fun ls hl => ?_)
  refine lv_iload_n hx hb dX10_readOld_7 rfl (lv_at hl 0 rfl) ?_
  refine r_iconst hx hb dX10_readOld_8 (by decide) (fun z4 ez4 => ?_)
  refine r_icmp_ne (tgt := 14) hx hb dX10_readOld_9 (by decide) (fun c5 => ?_) (fun c5 => ?_)
  · obtain ⟨e1, k0, k7, gCT⟩ := o1.ye (by omega)
    have hmk := mno_ok e1
    refine lv_aload_n hx hb dX10_readOld_14 rfl (lv_at hl 1 rfl) ?_
    refine fg_10_1 (k := 6) hx hb hts in_X10_readOld_10 hown hK hP (by decide) (by decide) (hts _ lk_X10_readOld_15) dX10_readOld_15 ?_
    refine fgN_9_10 (k := 3) hx hb hts in_X10_readOld_9 hown hK hP (by decide) (by decide) (hN.use nw_10_144) dX10_readOld_18 ?_
    refine lv_iload_n hx hb dX10_readOld_21 rfl (lv_at hl 0 rfl) ?_
    obtain ⟨j6, ej6⟩ : ∃ j : Nat, r3.toInt = (j : Int) := ⟨_, ti_nat (by omega)⟩
    refine ad_manA (k := 53) (j := j6) hx hb hK hP (by decide) (by decide) ej6 (by omega) dX10_readOld_22 ?_
    refine r_iconst hx hb dX10_readOld_23 (by decide) (fun z7 ez7 => ?_)
    refine r_iconst hx hb dX10_readOld_24 (by decide) (fun z8 ez8 => ?_)
    refine as_manR (k := 108 + j6) (j := 3) hx hb hK hP hI hR hS (by omega) (by omega) (by omega) (by omega) dX10_readOld_25 (fun σ9 H9 locs9 u9 v9 hR hP hS => ?_)
    have uo := u9
    have vo := v9
    have hF := hF.puts u9 2 rfl (by omega) (by omega) (by decide) (by decide)
    have gCF := gCF.ag (Agr.putV u9 (by intro q hq; simp only [Gd_CF, List.mem_cons, List.not_mem_nil, or_false] at hq; rcases hq with rfl | rfl <;> dsimp only [inRc] <;> omega))
    have gCS := gCS.ag (Agr.putV u9 (by intro q hq; simp only [Gd_CS, List.mem_cons, List.not_mem_nil, or_false] at hq; rcases hq with rfl | rfl <;> dsimp only [inRc] <;> omega))
    have gCT := gCT.ag (Agr.putV u9 (by intro q hq; simp only [Gd_CT, List.mem_cons, List.not_mem_nil, or_false] at hq; rcases hq with rfl | rfl <;> dsimp only [inRc] <;> omega))
    have t10 : (σ9 1 13).toInt = (σ3 1 13).toInt := congrArg Int32.toInt (u9 1 13 (by omega))
    have gCM := gCM.set (i := j6) (o := 55) (v := 1) uo (by omega) (by omega) (by omega) (by omega)
    refine r_iconst hx hb dX10_readOld_26 (by decide) (fun z11 ez11 => ?_)
    exact r_zret hx hb hr hK hP hS hk (by omega) dX10_readOld_27 (show P_X10_readOld σ0 τ0 b N mo q h nm z11 σ9 τ3 from ⟨hR, hF, hFL, by omega, by first | (obtain ⟨f, e1, x1, x2⟩ := o1.no (by omega); exact RO.ofl (by unfold oldP; dsimp only; rw [e1, bnd_l]) (by omega) x1 x2) | exact RO.ofr (by unfold oldP; dsimp only; rw [e1, bnd_r, show r3.toInt.toNat = j6 by omega]) (by omega) (CR.mk gCT (gCN.h (uh_n _ _ (by omega)) (uh_n _ _ (by omega))) (gCS.h (fun j g1 => uh_n _ _ (by omega))) gCM (gCF.h (uh_n _ _ (by omega)) (fun j g1 => uh_n _ _ (by omega))) (hF.at 6 3 (by decide)) (hF.at 6 4 (by decide))), by omega⟩)
  · refine r_iconst hx hb dX10_readOld_12 (by decide) (fun z12 ez12 => ?_)
    exact r_zret hx hb hr hK hP hS hk (by omega) dX10_readOld_13 (show P_X10_readOld σ0 τ0 b N mo q h nm z12 σ3 τ3 from ⟨hR, hF, hFL, by omega, by first | (obtain ⟨f, e1, x1, x2⟩ := o1.no (by omega); exact RO.ofl (by unfold oldP; dsimp only; rw [e1, bnd_l]) (by omega) x1 x2) | exact RO.ofr (by unfold oldP; dsimp only; rw [e1, bnd_r, show r3.toInt.toNat = 0 by omega]) (by omega) (CR.mk gCT (gCN.h (uh_n _ _ (by omega)) (uh_n _ _ (by omega))) (gCS.h (fun j g1 => uh_n _ _ (by omega))) gCM (gCF.h (uh_n _ _ (by omega)) (fun j g1 => uh_n _ _ (by omega))) (hF.at 6 3 (by decide)) (hF.at 6 4 (by decide))), by omega⟩)
theorem in_X10_takeOnce_10 : ∀ w ∈ u_ws RX10 TX10 5, w ∈ wsX10_takeOnce := by decide +kernel
theorem in_X10_takeOnce_8 : ∀ w ∈ u_ws RX8 TX8 15, w ∈ wsX10_takeOnce := by decide +kernel
theorem lk_X10_takeOnce_28 : Cond.fieldLink RX10 28 "CuckooShares$ValleyText" "wordsTold" "I" ∈ wsX10_takeOnce := by decide +kernel
theorem lk_X10_takeOnce_9 : Cond.fieldLink RX10 9 "CuckooShares$ValleyText" "tape" "LCuckooShares$Tape;" ∈ wsX10_takeOnce := by decide +kernel
abbrev L_X10_takeOnce : List Rc := [(6, 6, 3, 3), (1, 1, 7, 10), (1, 1, 13, 14)]
abbrev LL_X10_takeOnce : List Rc := [(1, 1, 11, 11)]
def P_X10_takeOnce (σ0 : Nat → Nat → Int32) (τ0 : Nat → Nat → Int64) (b : Nat → Int) (N : Nat) (mo : Nat) (q : Nat) (kw : Nat) (r : Int32) (σ : Nat → Nat → Int32) (τ : Nat → Nat → Int64) : Prop := Rg σ ∧ Fr L_X10_takeOnce σ0 σ ∧ FrL LL_X10_takeOnce τ0 τ ∧ (0 ≤ r.toInt ∧ r.toInt ≤ 1) ∧ (RO r σ (oncP b N mo (σ0 6 3) kw q) (fun q1 => CT σ τ b N mo q1 ∧ σ 6 3 = sbq (σ0 6 3) kw)) ∧ (r.toInt = 0 ∨ (σ 1 13).toInt = (σ0 1 13).toInt)
set_option maxHeartbeats 4000000 in
theorem c_X10_takeOnce (l : Launch) (D : va_G) (cA : Nat → ClassId) (ad : Nat → Nat) (hI : Inj ad) (σ0 : Nat → Nat → Int32) (τ0 : Nat → Nat → Int64) (hR : Rg σ0) (b : Nat → Int) (N : Nat) (mo : Nat) (q : Nat) (kw : Nat) (hpre0 : tkq b N mo q = (kw : Int)) (hpre1 : kw ≤ 2) (gCT0 : CT σ0 τ0 b N mo q) : Met l yX10_takeOnce wsX10_takeOnce ({ frames := 1, cells := 0, slots := 0, locals := 21 } : Room) (WQc D cA ad [.ref (ad 6)] σ0 τ0) (va_Qi (fun (r : Int32) (u : SS) => P_X10_takeOnce σ0 τ0 b N mo q kw r u.1 u.2) (WB D cA ad) (AA ad)) 0 0 (AA ad) := by
  refine Met.ofW (cc := cX10_takeOnce) (maxL := 2) (ret := (some .boolean)) (by decide) rfl ?_
  intro p e s m args below meth c s₁ B hml hv
  obtain ⟨rfl, hP, hK, hN⟩ := hv
  have C : Cy p s m _ meth c cX10_takeOnce 2 wsX10_takeOnce RX10 D cA ad (some .boolean) := ⟨B.exec, B.bytes, hml, findClass_of_methodNamed B.named, atoms_spec (ws := wsX10_takeOnce) B.pre, hK, B.notSynchronized, B.returns, hI, hN⟩
  have hl := lv_entry ([.ref (ad 6)]) (n := 2) (Nat.le_of_ble_eq_true rfl)
  rw [lg_entry_eq]
  generalize (lg_sl ([.ref (ad 6)]) ++ List.replicate (2 - (lg_sl ([.ref (ad 6)])).length) Slot.unset).toArray = ls at hl ⊢
  have hl : lv_has ls 2 [(0, .ref (ad 6))] := hl
  have hS : va_S (AA ad) s.heap s.heap [] := va_S.rf
  have hF : Fr L_X10_takeOnce σ0 σ0 := Fr.rf
  have hFL : FrL LL_X10_takeOnce τ0 τ0 := FrL.rf
  have gCT := gCT0
  obtain ⟨hx, hb, _, hown, hts, _, hk, hr, _, _⟩ := C
  have htk := gCT.tk
  refine lv_iconst (v := 1) hx hb dX10_takeOnce_0 (by decide) ?_
  have kcz1 : (1 : Int32).toInt = 1 := rfl
  refine lv_aload_n hx hb dX10_takeOnce_1 rfl (lv_at hl 0 rfl) ?_
  refine fg_10_0 (k := 6) hx hb hts in_X10_takeOnce_10 hown hK hP (by decide) (by decide) (hts _ lk_X10_takeOnce_9) dX10_takeOnce_2 ?_
  refine fgN_8_9 (k := 1) hx hb hts in_X10_takeOnce_8 hown hK hP (by decide) (by decide) (hN.use nw_10_34) dX10_takeOnce_5 ?_
  refine lv_ishl hx hb dX10_takeOnce_8 ?_
  refine lv_istore_n (lv' := [(1, .int (1 <<< ((σ0 1 9) &&& 31))), (0, .ref (ad 6))]) hx hb dX10_takeOnce_9 rfl hl (by decide) rfl (fun ls hl => ?_)
  refine lv_aload_n hx hb dX10_takeOnce_10 rfl (lv_at hl 1 rfl) ?_
  refine fg_10_3 (k := 6) hx hb hts in_X10_takeOnce_10 hown hK hP (by decide) (by decide) (hts _ lk_X10_takeOnce_28) dX10_takeOnce_11 ?_
  refine lv_iload_n hx hb dX10_takeOnce_14 rfl (lv_at hl 0 rfl) ?_
  refine lv_iand hx hb dX10_takeOnce_15 ?_
  refine r_if_eq (tgt := 28) hx hb dX10_takeOnce_16 (by decide) (fun c2 => ?_) (fun c2 => ?_)
  · refine lv_aload_n hx hb dX10_takeOnce_28 rfl (lv_at hl 1 rfl) ?_
    refine lv_dup hx hb dX10_takeOnce_29 rfl ?_
    refine fg_10_3 (k := 6) hx hb hts in_X10_takeOnce_10 hown hK hP (by decide) (by decide) (hts _ lk_X10_takeOnce_28) dX10_takeOnce_30 ?_
    refine lv_iload_n hx hb dX10_takeOnce_33 rfl (lv_at hl 0 rfl) ?_
    refine lv_ior hx hb dX10_takeOnce_34 ?_
    refine fp_10_3 (k := 6) hx hb hts in_X10_takeOnce_10 hown hK hP (by decide) (by decide) (hts _ lk_X10_takeOnce_28) hI hR hS dX10_takeOnce_35 (fun σ3 H3 locs3 u3 v3 hR hP hS => ?_)
    have us := u3
    have vs := v3
    have hF := hF.puts u3 0 rfl (by decide) (by decide) (by decide) (by decide)
    have gCT := gCT.ag (Agr.put u3 (by decide))
    have t4 : (σ3 1 13).toInt = (σ0 1 13).toInt := congrArg Int32.toInt (u3 1 13 (by omega))
    have hsb := sb_e (k := kw) (x := σ0 1 9) (by omega) (by omega) vs
    refine lv_aload_n hx hb dX10_takeOnce_38 rfl (lv_at hl 1 rfl) ?_
    refine fg_10_0 (k := 6) hx hb hts in_X10_takeOnce_10 hown hK hP (by decide) (by decide) (hts _ lk_X10_takeOnce_9) dX10_takeOnce_39 ?_
    refine r_cVv (k := 1) (As := []) (rest := []) ⟨hx, hb, hml, hown, hts⟩ hK hP hN hS (c_X8_next_v l D cA ad hI σ3 τ0 hR _ _ _ _ gCT) (cwV 0 hts gX10_takeOnce_X8_next rfl rfl rfl (by decide +kernel) ⟨by decide, by decide⟩) (rv_Tape hK hP (by decide) (by decide)) rfl hl.1 rfl (Nat.le_of_ble_eq_true rfl) dX10_takeOnce_42 (Nat.zero_le _) (Nat.zero_le _) (fun u5 H5 locs5 hp5 hP hS => ?_)
    obtain ⟨σ5, τ5⟩ := u5
    obtain ⟨hR, f5, fL5, hp5_0⟩ : P_X8_next_v σ3 τ0 _ _ _ _ σ5 τ5 := hp5
    have fn := f5
    have hP : va_P D vwCl (gw cA ad σ5 τ5) H5 := hP
    have hFL := hFL.step fL5 (by decide)
    have hF := hF.step f5 (by decide)
    have t6 : (σ5 1 13).toInt = (σ3 1 13).toInt := congrArg Int32.toInt (f5.at 1 13 (by decide))
    have t7 : (σ5 6 3).toInt = (σ3 6 3).toInt := congrArg Int32.toInt (f5.at 6 3 (by decide))
    have gCT := hp5_0
    refine r_iconst hx hb dX10_takeOnce_45 (by decide) (fun z8 ez8 => ?_)
    exact r_zret hx hb hr hK hP hS hk (by omega) dX10_takeOnce_46 (show P_X10_takeOnce σ0 τ0 b N mo q kw z8 σ5 τ5 from ⟨hR, hF, hFL, by omega, by first | exact RO.ofk (by unfold oncP; rw [if_pos (tb_y (x := σ0 1 9) (by omega) (by omega) (by omega))]) (by omega) (by omega) (by omega) | exact RO.ofr (by unfold oncP; rw [if_neg (tb_n (x := σ0 1 9) (by omega) (by omega) (by omega))]) (by omega) ⟨gCT, (fn.at 6 3 (by decide)).trans hsb⟩, by omega⟩)
  · refine lv_aload_n hx hb dX10_takeOnce_19 rfl (lv_at hl 1 rfl) ?_
    refine fg_10_0 (k := 6) hx hb hts in_X10_takeOnce_10 hown hK hP (by decide) (by decide) (hts _ lk_X10_takeOnce_9) dX10_takeOnce_20 ?_
    refine r_iconst hx hb dX10_takeOnce_23 (by decide) (fun z9 ez9 => ?_)
    refine r_cVi (k := 1) (As := [.int z9]) (rest := []) ⟨hx, hb, hml, hown, hts⟩ hK hP hN hS (c_X8_blame_v l D cA ad hI σ0 τ0 hR z9 _ _ _ _ (by omega) gCT) (cwV 1 hts gX10_takeOnce_X8_blame rfl rfl rfl (by decide +kernel) ⟨by decide, by decide⟩) (rv_Tape hK hP (by decide) (by decide)) rfl hl.1 rfl (Nat.le_of_ble_eq_true rfl) dX10_takeOnce_24 (Nat.zero_le _) (Nat.zero_le _) (fun r10 u10 H10 locs10 hp10 hP hS => ?_)
    obtain ⟨σ10, τ10⟩ := u10
    obtain ⟨hR, f10, fL10, hq10, hp10_0, hp10_1, hp10_2, gnCT⟩ : P_X8_blame_v σ0 τ0 z9 _ _ _ _ r10 σ10 τ10 := hp10
    have hP : va_P D vwCl (gw cA ad σ10 τ10) H10 := hP
    obtain rfl := FrL.nil fL10
    have hF := hF.step f10 (by decide)
    have gCT := gCT.ag (Agr.fr f10 (by decide))
    have t11 : (σ10 6 3).toInt = (σ0 6 3).toInt := congrArg Int32.toInt (f10.at 6 3 (by decide))
    exact r_zret hx hb hr hK hP hS hk (by omega) dX10_takeOnce_27 (show P_X10_takeOnce σ0 τ0 b N mo q kw r10 σ10 τ0 from ⟨hR, hF, hFL, by omega, by first | exact RO.ofk (by unfold oncP; rw [if_pos (tb_y (x := σ0 1 9) (by omega) (by omega) (by omega))]) (by omega) (by omega) (by omega) | exact RO.ofr (by unfold oncP; rw [if_neg (tb_n (x := σ0 1 9) (by omega) (by omega) (by omega))]) (by omega) ⟨gCT, (fn.at 6 3 (by decide)).trans hsb⟩, by omega⟩)
theorem in_X10_readRidge_10 : ∀ w ∈ u_ws RX10 TX10 5, w ∈ wsX10_readRidge := by decide +kernel
theorem in_X10_readRidge_8 : ∀ w ∈ u_ws RX8 TX8 15, w ∈ wsX10_readRidge := by decide +kernel
theorem in_X10_readRidge_9 : ∀ w ∈ u_ws RX9 TX9 14, w ∈ wsX10_readRidge := by decide +kernel
theorem lk_X10_readRidge_15 : Cond.fieldLink RX10 15 "CuckooShares$ValleyText" "into" "LCuckooShares$Valley;" ∈ wsX10_readRidge := by decide +kernel
theorem lk_X10_readRidge_9 : Cond.fieldLink RX10 9 "CuckooShares$ValleyText" "tape" "LCuckooShares$Tape;" ∈ wsX10_readRidge := by decide +kernel
abbrev L_X10_readRidge : List Rc := [(6, 6, 3, 3), (1, 1, 7, 10), (1, 1, 12, 14), (3, 3, 0, 0)]
abbrev LL_X10_readRidge : List Rc := [(1, 1, 11, 11)]
def P_X10_readRidge (σ0 : Nat → Nat → Int32) (τ0 : Nat → Nat → Int64) (b : Nat → Int) (N : Nat) (mo : Nat) (q : Nat) (h : Nat → Int) (nm : Nat → Int) (r : Int32) (σ : Nat → Nat → Int32) (τ : Nat → Nat → Int64) : Prop := Rg σ ∧ Fr L_X10_readRidge σ0 σ ∧ FrL LL_X10_readRidge τ0 τ ∧ (0 ≤ r.toInt ∧ r.toInt ≤ 1) ∧ (RO r σ (ridP b N mo (q, h, nm, σ0 6 3, σ0 6 4)) (CR σ τ b N mo)) ∧ (r.toInt = 0 ∨ (σ 1 13).toInt = (σ0 1 13).toInt)
set_option maxHeartbeats 4000000 in
theorem c_X10_readRidge (l : Launch) (D : va_G) (cA : Nat → ClassId) (ad : Nat → Nat) (hI : Inj ad) (σ0 : Nat → Nat → Int32) (τ0 : Nat → Nat → Int64) (hR : Rg σ0) (b : Nat → Int) (N : Nat) (mo : Nat) (q : Nat) (h : Nat → Int) (nm : Nat → Int) (hpre0 : tkq b N mo q = 0) (gCT0 : CT σ0 τ0 b N mo q) (gCN0 : CN τ0 b h nm) (gCS0 : CS σ0 h) (gCM0 : CM σ0 h) (gCF0 : CF σ0 h) : Met l yX10_readRidge wsX10_readRidge ({ frames := 2, cells := 0, slots := 0, locals := 43 } : Room) (WQc D cA ad [.ref (ad 6)] σ0 τ0) (va_Qi (fun (r : Int32) (u : SS) => P_X10_readRidge σ0 τ0 b N mo q h nm r u.1 u.2) (WB D cA ad) (AA ad)) 0 0 (AA ad) := by
  refine Met.ofW (cc := cX10_readRidge) (maxL := 1) (ret := (some .boolean)) (by decide) rfl ?_
  intro p e s m args below meth c s₁ B hml hv
  obtain ⟨rfl, hP, hK, hN⟩ := hv
  have C : Cy p s m _ meth c cX10_readRidge 1 wsX10_readRidge RX10 D cA ad (some .boolean) := ⟨B.exec, B.bytes, hml, findClass_of_methodNamed B.named, atoms_spec (ws := wsX10_readRidge) B.pre, hK, B.notSynchronized, B.returns, hI, hN⟩
  have hl := lv_entry ([.ref (ad 6)]) (n := 1) (Nat.le_of_ble_eq_true rfl)
  rw [lg_entry_eq]
  generalize (lg_sl ([.ref (ad 6)]) ++ List.replicate (1 - (lg_sl ([.ref (ad 6)])).length) Slot.unset).toArray = ls at hl ⊢
  have hl : lv_has ls 1 [(0, .ref (ad 6))] := hl
  have hS : va_S (AA ad) s.heap s.heap [] := va_S.rf
  have hF : Fr L_X10_readRidge σ0 σ0 := Fr.rf
  have hFL : FrL LL_X10_readRidge τ0 τ0 := FrL.rf
  have gCT := gCT0
  have gCN := gCN0
  have gCS := gCS0
  have gCM := gCM0
  have gCF := gCF0
  obtain ⟨hx, hb, _, hown, hts, _, hk, hr, _, _⟩ := C
  refine lv_aload_n hx hb dX10_readRidge_0 rfl (lv_at hl 0 rfl) ?_
  refine r_cVi (k := 6) (As := []) (rest := []) ⟨hx, hb, hml, hown, hts⟩ hK hP hN hS (c_X10_takeOnce l D cA ad hI σ0 τ0 hR b N mo q 0 (by omega) (by omega) gCT) (cwV 0 hts gX10_readRidge_X10_takeOnce rfl rfl rfl (by decide +kernel) ⟨by decide, by decide⟩) (rv_VText hK hP (by decide) (by decide)) rfl hl.1 rfl (Nat.le_of_ble_eq_true rfl) dX10_readRidge_1 (Nat.zero_le _) (Nat.zero_le _) (fun r1 u1 H1 locs1 hp1 hP hS => ?_)
  obtain ⟨σ1, τ1⟩ := u1
  obtain ⟨hR, f1, fL1, hq1, hp1_0, hp1_1⟩ : P_X10_takeOnce σ0 τ0 b N mo q 0 r1 σ1 τ1 := hp1
  have o1 := hp1_0
  have hP : va_P D vwCl (gw cA ad σ1 τ1) H1 := hP
  have hFL := hFL.step fL1 (by decide)
  have gCN := gCN.agL (AgrL.fr fL1 (by decide))
  have hF := hF.step f1 (by decide)
  have gCF := gCF.ag (Agr.fr f1 (by decide))
  have gCM := gCM.ag (Agr.fr f1 (by decide))
  have gCS := gCS.ag (Agr.fr f1 (by decide))
  refine r_if_eq (tgt := 20) hx hb dX10_readRidge_4 (by decide) (fun c2 => ?_) (fun c2 => ?_)
  · clear hp1_1
    refine r_iconst hx hb dX10_readRidge_20 (by decide) (fun z3 ez3 => ?_)
    exact r_zret hx hb hr hK hP hS hk (by omega) dX10_readRidge_21 (show P_X10_readRidge σ0 τ0 b N mo q h nm z3 σ1 τ1 from ⟨hR, hF, hFL, by omega, by first | exact RO.ofr (by unfold ridP; dsimp only; rw [e1, bnd_r, e2, bnd_r]) (by omega) (CR.mk gCT (gCN.h (uh_n _ _ (by omega)) (uh_n _ _ (by omega))) (CS.rid gCS ur (by omega) (by have := num_ok e2; omega)) (gCM.h (uh_n _ _ (by omega)) (fun j g1 g2 => uh_n _ _ (by omega))) (gCF.h (uh_n _ _ (by omega)) (fun j g1 => uh_n _ _ (by omega))) ((ur 6 3 (by omega)).trans ((f2.at 6 3 (by decide)).trans g63)) (hF.at 6 4 (by decide))) | (obtain ⟨f, e2, x1, x2⟩ := o2.no (by omega); exact RO.ofl (by unfold ridP; dsimp only; rw [e1, bnd_r, e2, bnd_l]) (by omega) x1 x2) | (obtain ⟨f, e1, x1, x2⟩ := o1.no (by omega); exact RO.ofl (by unfold ridP; dsimp only; rw [e1, bnd_l]) (by omega) x1 x2), by omega⟩)
  · replace hp1_1 := hp1_1.resolve_left (by omega)
    obtain ⟨q1, e1, gCT, g63⟩ := o1.ye (by omega)
    refine lv_aload_n hx hb dX10_readRidge_7 rfl (lv_at hl 0 rfl) ?_
    refine fg_10_0 (k := 6) hx hb hts in_X10_readRidge_10 hown hK hP (by decide) (by decide) (hts _ lk_X10_readRidge_9) dX10_readRidge_8 ?_
    refine r_iconst hx hb dX10_readRidge_11 (by decide) (fun z4 ez4 => ?_)
    refine r_bipush hx hb dX10_readRidge_12 (by decide) (fun z5 ez5 => ?_)
    refine r_cVi (k := 1) (As := [.int z4, .int z5]) (rest := []) ⟨hx, hb, hml, hown, hts⟩ hK hP hN hS (c_X8_takeNumber_v l D cA ad hI σ1 τ1 hR z4 z5 b N mo _ 0 20 (by omega) (by omega) (by omega) (by omega) gCT) (cwV 2 hts gX10_readRidge_X8_takeNumber rfl rfl rfl (by decide +kernel) ⟨by decide, by decide⟩) (rv_Tape hK hP (by decide) (by decide)) rfl hl.1 rfl (Nat.le_of_ble_eq_true rfl) dX10_readRidge_14 (Nat.zero_le _) (Nat.zero_le _) (fun r6 u6 H6 locs6 hp6 hP hS => ?_)
    obtain ⟨σ6, τ6⟩ := u6
    obtain ⟨hR, f6, fL6, hq6, hp6_0, hp6_1⟩ : P_X8_takeNumber_v σ1 τ1 z4 z5 b N mo _ 0 20 r6 σ6 τ6 := hp6
    have o2 := hp6_0
    have f2 := f6
    have hP : va_P D vwCl (gw cA ad σ6 τ6) H6 := hP
    have hFL := hFL.step fL6 (by decide)
    have gCN := gCN.agL (AgrL.fr fL6 (by decide))
    have hF := hF.step f6 (by decide)
    have gCF := gCF.ag (Agr.fr f6 (by decide))
    have gCM := gCM.ag (Agr.fr f6 (by decide))
    have gCS := gCS.ag (Agr.fr f6 (by decide))
    refine r_if_ne (tgt := 22) hx hb dX10_readRidge_17 (by decide) (fun c7 => ?_) (fun c7 => ?_)
    · replace hp6_1 := hp6_1.resolve_left (by omega)
      obtain ⟨y, e2, gCT, gvl⟩ := o2.ye (by omega)
      refine lv_aload_n hx hb dX10_readRidge_22 rfl (lv_at hl 0 rfl) ?_
      refine fg_10_1 (k := 6) hx hb hts in_X10_readRidge_10 hown hK hP (by decide) (by decide) (hts _ lk_X10_readRidge_15) dX10_readRidge_23 ?_
      refine lv_aload_n hx hb dX10_readRidge_26 rfl (lv_at hl 0 rfl) ?_
      refine fg_10_0 (k := 6) hx hb hts in_X10_readRidge_10 hown hK hP (by decide) (by decide) (hts _ lk_X10_readRidge_9) dX10_readRidge_27 ?_
      refine fgN_8_12 (k := 1) hx hb hts in_X10_readRidge_8 hown hK hP (by decide) (by decide) (hN.use nw_10_93) dX10_readRidge_30 ?_
      refine fpN_9_0 (k := 3) hx hb hts in_X10_readRidge_9 hown hK hP (by decide) (by decide) (hN.use nw_10_96) hI hR hS dX10_readRidge_33 (fun σ8 H8 locs8 u8 v8 hR hP hS => ?_)
      have ur := u8
      have vr := v8
      have hF := hF.puts u8 3 rfl (by decide) (by decide) (by decide) (by decide)
      have gCF := gCF.ag (Agr.put u8 (by decide))
      have gCM := gCM.ag (Agr.put u8 (by decide))
      have gCT := gCT.ag (Agr.put u8 (by decide))
      have t9 : (σ8 1 13).toInt = (σ6 1 13).toInt := congrArg Int32.toInt (u8 1 13 (by omega))
      have t10 : (σ8 1 12).toInt = (σ6 1 12).toInt := congrArg Int32.toInt (u8 1 12 (by omega))
      refine r_iconst hx hb dX10_readRidge_36 (by decide) (fun z11 ez11 => ?_)
      exact r_zret hx hb hr hK hP hS hk (by omega) dX10_readRidge_37 (show P_X10_readRidge σ0 τ0 b N mo q h nm z11 σ8 τ6 from ⟨hR, hF, hFL, by omega, by first | exact RO.ofr (by unfold ridP; dsimp only; rw [e1, bnd_r, e2, bnd_r]) (by omega) (CR.mk gCT (gCN.h (uh_n _ _ (by omega)) (uh_n _ _ (by omega))) (CS.rid gCS ur (by omega) (by have := num_ok e2; omega)) (gCM.h (uh_n _ _ (by omega)) (fun j g1 g2 => uh_n _ _ (by omega))) (gCF.h (uh_n _ _ (by omega)) (fun j g1 => uh_n _ _ (by omega))) ((ur 6 3 (by omega)).trans ((f2.at 6 3 (by decide)).trans g63)) (hF.at 6 4 (by decide))) | (obtain ⟨f, e2, x1, x2⟩ := o2.no (by omega); exact RO.ofl (by unfold ridP; dsimp only; rw [e1, bnd_r, e2, bnd_l]) (by omega) x1 x2) | (obtain ⟨f, e1, x1, x2⟩ := o1.no (by omega); exact RO.ofl (by unfold ridP; dsimp only; rw [e1, bnd_l]) (by omega) x1 x2), by omega⟩)
    · clear hp6_1
      refine r_iconst hx hb dX10_readRidge_20 (by decide) (fun z12 ez12 => ?_)
      exact r_zret hx hb hr hK hP hS hk (by omega) dX10_readRidge_21 (show P_X10_readRidge σ0 τ0 b N mo q h nm z12 σ6 τ6 from ⟨hR, hF, hFL, by omega, by first | exact RO.ofr (by unfold ridP; dsimp only; rw [e1, bnd_r, e2, bnd_r]) (by omega) (CR.mk gCT (gCN.h (uh_n _ _ (by omega)) (uh_n _ _ (by omega))) (CS.rid gCS ur (by omega) (by have := num_ok e2; omega)) (gCM.h (uh_n _ _ (by omega)) (fun j g1 g2 => uh_n _ _ (by omega))) (gCF.h (uh_n _ _ (by omega)) (fun j g1 => uh_n _ _ (by omega))) ((ur 6 3 (by omega)).trans ((f2.at 6 3 (by decide)).trans g63)) (hF.at 6 4 (by decide))) | (obtain ⟨f, e2, x1, x2⟩ := o2.no (by omega); exact RO.ofl (by unfold ridP; dsimp only; rw [e1, bnd_r, e2, bnd_l]) (by omega) x1 x2) | (obtain ⟨f, e1, x1, x2⟩ := o1.no (by omega); exact RO.ofl (by unfold ridP; dsimp only; rw [e1, bnd_l]) (by omega) x1 x2), by omega⟩)
theorem in_X10_readWheat_10 : ∀ w ∈ u_ws RX10 TX10 5, w ∈ wsX10_readWheat := by decide +kernel
theorem in_X10_readWheat_8 : ∀ w ∈ u_ws RX8 TX8 15, w ∈ wsX10_readWheat := by decide +kernel
theorem in_X10_readWheat_9 : ∀ w ∈ u_ws RX9 TX9 14, w ∈ wsX10_readWheat := by decide +kernel
theorem lk_X10_readWheat_15 : Cond.fieldLink RX10 15 "CuckooShares$ValleyText" "into" "LCuckooShares$Valley;" ∈ wsX10_readWheat := by decide +kernel
theorem lk_X10_readWheat_9 : Cond.fieldLink RX10 9 "CuckooShares$ValleyText" "tape" "LCuckooShares$Tape;" ∈ wsX10_readWheat := by decide +kernel
abbrev L_X10_readWheat : List Rc := [(6, 6, 3, 3), (1, 1, 7, 10), (1, 1, 12, 14), (3, 3, 1, 1)]
abbrev LL_X10_readWheat : List Rc := [(1, 1, 11, 11)]
def P_X10_readWheat (σ0 : Nat → Nat → Int32) (τ0 : Nat → Nat → Int64) (b : Nat → Int) (N : Nat) (mo : Nat) (q : Nat) (h : Nat → Int) (nm : Nat → Int) (r : Int32) (σ : Nat → Nat → Int32) (τ : Nat → Nat → Int64) : Prop := Rg σ ∧ Fr L_X10_readWheat σ0 σ ∧ FrL LL_X10_readWheat τ0 τ ∧ (0 ≤ r.toInt ∧ r.toInt ≤ 1) ∧ (RO r σ (wheP b N mo (q, h, nm, σ0 6 3, σ0 6 4)) (CR σ τ b N mo)) ∧ (r.toInt = 0 ∨ (σ 1 13).toInt = (σ0 1 13).toInt)
set_option maxHeartbeats 4000000 in
theorem c_X10_readWheat (l : Launch) (D : va_G) (cA : Nat → ClassId) (ad : Nat → Nat) (hI : Inj ad) (σ0 : Nat → Nat → Int32) (τ0 : Nat → Nat → Int64) (hR : Rg σ0) (b : Nat → Int) (N : Nat) (mo : Nat) (q : Nat) (h : Nat → Int) (nm : Nat → Int) (hpre0 : tkq b N mo q = 1) (gCT0 : CT σ0 τ0 b N mo q) (gCN0 : CN τ0 b h nm) (gCS0 : CS σ0 h) (gCM0 : CM σ0 h) (gCF0 : CF σ0 h) : Met l yX10_readWheat wsX10_readWheat ({ frames := 2, cells := 0, slots := 0, locals := 43 } : Room) (WQc D cA ad [.ref (ad 6)] σ0 τ0) (va_Qi (fun (r : Int32) (u : SS) => P_X10_readWheat σ0 τ0 b N mo q h nm r u.1 u.2) (WB D cA ad) (AA ad)) 0 0 (AA ad) := by
  refine Met.ofW (cc := cX10_readWheat) (maxL := 1) (ret := (some .boolean)) (by decide) rfl ?_
  intro p e s m args below meth c s₁ B hml hv
  obtain ⟨rfl, hP, hK, hN⟩ := hv
  have C : Cy p s m _ meth c cX10_readWheat 1 wsX10_readWheat RX10 D cA ad (some .boolean) := ⟨B.exec, B.bytes, hml, findClass_of_methodNamed B.named, atoms_spec (ws := wsX10_readWheat) B.pre, hK, B.notSynchronized, B.returns, hI, hN⟩
  have hl := lv_entry ([.ref (ad 6)]) (n := 1) (Nat.le_of_ble_eq_true rfl)
  rw [lg_entry_eq]
  generalize (lg_sl ([.ref (ad 6)]) ++ List.replicate (1 - (lg_sl ([.ref (ad 6)])).length) Slot.unset).toArray = ls at hl ⊢
  have hl : lv_has ls 1 [(0, .ref (ad 6))] := hl
  have hS : va_S (AA ad) s.heap s.heap [] := va_S.rf
  have hF : Fr L_X10_readWheat σ0 σ0 := Fr.rf
  have hFL : FrL LL_X10_readWheat τ0 τ0 := FrL.rf
  have gCT := gCT0
  have gCN := gCN0
  have gCS := gCS0
  have gCM := gCM0
  have gCF := gCF0
  obtain ⟨hx, hb, _, hown, hts, _, hk, hr, _, _⟩ := C
  refine lv_aload_n hx hb dX10_readWheat_0 rfl (lv_at hl 0 rfl) ?_
  refine r_cVi (k := 6) (As := []) (rest := []) ⟨hx, hb, hml, hown, hts⟩ hK hP hN hS (c_X10_takeOnce l D cA ad hI σ0 τ0 hR b N mo q 1 (by omega) (by omega) gCT) (cwV 0 hts gX10_readWheat_X10_takeOnce rfl rfl rfl (by decide +kernel) ⟨by decide, by decide⟩) (rv_VText hK hP (by decide) (by decide)) rfl hl.1 rfl (Nat.le_of_ble_eq_true rfl) dX10_readWheat_1 (Nat.zero_le _) (Nat.zero_le _) (fun r1 u1 H1 locs1 hp1 hP hS => ?_)
  obtain ⟨σ1, τ1⟩ := u1
  obtain ⟨hR, f1, fL1, hq1, hp1_0, hp1_1⟩ : P_X10_takeOnce σ0 τ0 b N mo q 1 r1 σ1 τ1 := hp1
  have o1 := hp1_0
  have hP : va_P D vwCl (gw cA ad σ1 τ1) H1 := hP
  have hFL := hFL.step fL1 (by decide)
  have gCN := gCN.agL (AgrL.fr fL1 (by decide))
  have hF := hF.step f1 (by decide)
  have gCF := gCF.ag (Agr.fr f1 (by decide))
  have gCM := gCM.ag (Agr.fr f1 (by decide))
  have gCS := gCS.ag (Agr.fr f1 (by decide))
  refine r_if_eq (tgt := 21) hx hb dX10_readWheat_4 (by decide) (fun c2 => ?_) (fun c2 => ?_)
  · clear hp1_1
    refine r_iconst hx hb dX10_readWheat_21 (by decide) (fun z3 ez3 => ?_)
    exact r_zret hx hb hr hK hP hS hk (by omega) dX10_readWheat_22 (show P_X10_readWheat σ0 τ0 b N mo q h nm z3 σ1 τ1 from ⟨hR, hF, hFL, by omega, by first | exact RO.ofr (by unfold wheP; dsimp only; rw [e1, bnd_r, e2, bnd_r]) (by omega) (CR.mk gCT (gCN.h (uh_n _ _ (by omega)) (uh_n _ _ (by omega))) (CS.whe gCS ur (by omega)) (gCM.h (uh_n _ _ (by omega)) (fun j g1 g2 => uh_n _ _ (by omega))) (gCF.h (uh_n _ _ (by omega)) (fun j g1 => uh_n _ _ (by omega))) ((ur 6 3 (by omega)).trans ((f2.at 6 3 (by decide)).trans g63)) (hF.at 6 4 (by decide))) | (obtain ⟨f, e2, x1, x2⟩ := o2.no (by omega); exact RO.ofl (by unfold wheP; dsimp only; rw [e1, bnd_r, e2, bnd_l]) (by omega) x1 x2) | (obtain ⟨f, e1, x1, x2⟩ := o1.no (by omega); exact RO.ofl (by unfold wheP; dsimp only; rw [e1, bnd_l]) (by omega) x1 x2), by omega⟩)
  · replace hp1_1 := hp1_1.resolve_left (by omega)
    obtain ⟨q1, e1, gCT, g63⟩ := o1.ye (by omega)
    refine lv_aload_n hx hb dX10_readWheat_7 rfl (lv_at hl 0 rfl) ?_
    refine fg_10_0 (k := 6) hx hb hts in_X10_readWheat_10 hown hK hP (by decide) (by decide) (hts _ lk_X10_readWheat_9) dX10_readWheat_8 ?_
    refine r_iconst hx hb dX10_readWheat_11 (by decide) (fun z4 ez4 => ?_)
    refine r_sipush hx hb dX10_readWheat_12 (by decide) (fun z5 ez5 => ?_)
    refine r_cVi (k := 1) (As := [.int z4, .int z5]) (rest := []) ⟨hx, hb, hml, hown, hts⟩ hK hP hN hS (c_X8_takeNumber_v l D cA ad hI σ1 τ1 hR z4 z5 b N mo _ 0 999 (by omega) (by omega) (by omega) (by omega) gCT) (cwV 2 hts gX10_readWheat_X8_takeNumber rfl rfl rfl (by decide +kernel) ⟨by decide, by decide⟩) (rv_Tape hK hP (by decide) (by decide)) rfl hl.1 rfl (Nat.le_of_ble_eq_true rfl) dX10_readWheat_15 (Nat.zero_le _) (Nat.zero_le _) (fun r6 u6 H6 locs6 hp6 hP hS => ?_)
    obtain ⟨σ6, τ6⟩ := u6
    obtain ⟨hR, f6, fL6, hq6, hp6_0, hp6_1⟩ : P_X8_takeNumber_v σ1 τ1 z4 z5 b N mo _ 0 999 r6 σ6 τ6 := hp6
    have o2 := hp6_0
    have f2 := f6
    have hP : va_P D vwCl (gw cA ad σ6 τ6) H6 := hP
    have hFL := hFL.step fL6 (by decide)
    have gCN := gCN.agL (AgrL.fr fL6 (by decide))
    have hF := hF.step f6 (by decide)
    have gCF := gCF.ag (Agr.fr f6 (by decide))
    have gCM := gCM.ag (Agr.fr f6 (by decide))
    have gCS := gCS.ag (Agr.fr f6 (by decide))
    refine r_if_ne (tgt := 23) hx hb dX10_readWheat_18 (by decide) (fun c7 => ?_) (fun c7 => ?_)
    · replace hp6_1 := hp6_1.resolve_left (by omega)
      obtain ⟨y, e2, gCT, gvl⟩ := o2.ye (by omega)
      refine lv_aload_n hx hb dX10_readWheat_23 rfl (lv_at hl 0 rfl) ?_
      refine fg_10_1 (k := 6) hx hb hts in_X10_readWheat_10 hown hK hP (by decide) (by decide) (hts _ lk_X10_readWheat_15) dX10_readWheat_24 ?_
      refine lv_aload_n hx hb dX10_readWheat_27 rfl (lv_at hl 0 rfl) ?_
      refine fg_10_0 (k := 6) hx hb hts in_X10_readWheat_10 hown hK hP (by decide) (by decide) (hts _ lk_X10_readWheat_9) dX10_readWheat_28 ?_
      refine fgN_8_12 (k := 1) hx hb hts in_X10_readWheat_8 hown hK hP (by decide) (by decide) (hN.use nw_10_93) dX10_readWheat_31 ?_
      refine fpN_9_1 (k := 3) hx hb hts in_X10_readWheat_9 hown hK hP (by decide) (by decide) (hN.use nw_10_99) hI hR hS dX10_readWheat_34 (fun σ8 H8 locs8 u8 v8 hR hP hS => ?_)
      have ur := u8
      have vr := v8
      have hF := hF.puts u8 3 rfl (by decide) (by decide) (by decide) (by decide)
      have gCF := gCF.ag (Agr.put u8 (by decide))
      have gCM := gCM.ag (Agr.put u8 (by decide))
      have gCT := gCT.ag (Agr.put u8 (by decide))
      have t9 : (σ8 1 13).toInt = (σ6 1 13).toInt := congrArg Int32.toInt (u8 1 13 (by omega))
      have t10 : (σ8 1 12).toInt = (σ6 1 12).toInt := congrArg Int32.toInt (u8 1 12 (by omega))
      refine r_iconst hx hb dX10_readWheat_37 (by decide) (fun z11 ez11 => ?_)
      exact r_zret hx hb hr hK hP hS hk (by omega) dX10_readWheat_38 (show P_X10_readWheat σ0 τ0 b N mo q h nm z11 σ8 τ6 from ⟨hR, hF, hFL, by omega, by first | exact RO.ofr (by unfold wheP; dsimp only; rw [e1, bnd_r, e2, bnd_r]) (by omega) (CR.mk gCT (gCN.h (uh_n _ _ (by omega)) (uh_n _ _ (by omega))) (CS.whe gCS ur (by omega)) (gCM.h (uh_n _ _ (by omega)) (fun j g1 g2 => uh_n _ _ (by omega))) (gCF.h (uh_n _ _ (by omega)) (fun j g1 => uh_n _ _ (by omega))) ((ur 6 3 (by omega)).trans ((f2.at 6 3 (by decide)).trans g63)) (hF.at 6 4 (by decide))) | (obtain ⟨f, e2, x1, x2⟩ := o2.no (by omega); exact RO.ofl (by unfold wheP; dsimp only; rw [e1, bnd_r, e2, bnd_l]) (by omega) x1 x2) | (obtain ⟨f, e1, x1, x2⟩ := o1.no (by omega); exact RO.ofl (by unfold wheP; dsimp only; rw [e1, bnd_l]) (by omega) x1 x2), by omega⟩)
    · clear hp6_1
      refine r_iconst hx hb dX10_readWheat_21 (by decide) (fun z12 ez12 => ?_)
      exact r_zret hx hb hr hK hP hS hk (by omega) dX10_readWheat_22 (show P_X10_readWheat σ0 τ0 b N mo q h nm z12 σ6 τ6 from ⟨hR, hF, hFL, by omega, by first | exact RO.ofr (by unfold wheP; dsimp only; rw [e1, bnd_r, e2, bnd_r]) (by omega) (CR.mk gCT (gCN.h (uh_n _ _ (by omega)) (uh_n _ _ (by omega))) (CS.whe gCS ur (by omega)) (gCM.h (uh_n _ _ (by omega)) (fun j g1 g2 => uh_n _ _ (by omega))) (gCF.h (uh_n _ _ (by omega)) (fun j g1 => uh_n _ _ (by omega))) ((ur 6 3 (by omega)).trans ((f2.at 6 3 (by decide)).trans g63)) (hF.at 6 4 (by decide))) | (obtain ⟨f, e2, x1, x2⟩ := o2.no (by omega); exact RO.ofl (by unfold wheP; dsimp only; rw [e1, bnd_r, e2, bnd_l]) (by omega) x1 x2) | (obtain ⟨f, e1, x1, x2⟩ := o1.no (by omega); exact RO.ofl (by unfold wheP; dsimp only; rw [e1, bnd_l]) (by omega) x1 x2), by omega⟩)
theorem in_X10_readWind_10 : ∀ w ∈ u_ws RX10 TX10 5, w ∈ wsX10_readWind := by decide +kernel
theorem in_X10_readWind_8 : ∀ w ∈ u_ws RX8 TX8 15, w ∈ wsX10_readWind := by decide +kernel
theorem in_X10_readWind_9 : ∀ w ∈ u_ws RX9 TX9 14, w ∈ wsX10_readWind := by decide +kernel
theorem lk_X10_readWind_15 : Cond.fieldLink RX10 15 "CuckooShares$ValleyText" "into" "LCuckooShares$Valley;" ∈ wsX10_readWind := by decide +kernel
theorem lk_X10_readWind_9 : Cond.fieldLink RX10 9 "CuckooShares$ValleyText" "tape" "LCuckooShares$Tape;" ∈ wsX10_readWind := by decide +kernel
abbrev L_X10_readWind : List Rc := [(6, 6, 3, 3), (1, 1, 7, 10), (1, 1, 12, 14), (3, 3, 2, 3)]
abbrev LL_X10_readWind : List Rc := [(1, 1, 11, 11)]
def P_X10_readWind (σ0 : Nat → Nat → Int32) (τ0 : Nat → Nat → Int64) (b : Nat → Int) (N : Nat) (mo : Nat) (q : Nat) (h : Nat → Int) (nm : Nat → Int) (r : Int32) (σ : Nat → Nat → Int32) (τ : Nat → Nat → Int64) : Prop := Rg σ ∧ Fr L_X10_readWind σ0 σ ∧ FrL LL_X10_readWind τ0 τ ∧ (0 ≤ r.toInt ∧ r.toInt ≤ 1) ∧ (RO r σ (winP b N mo (q, h, nm, σ0 6 3, σ0 6 4)) (CR σ τ b N mo)) ∧ (r.toInt = 0 ∨ (σ 1 13).toInt = (σ0 1 13).toInt)
set_option maxHeartbeats 4000000 in
theorem c_X10_readWind (l : Launch) (D : va_G) (cA : Nat → ClassId) (ad : Nat → Nat) (hI : Inj ad) (σ0 : Nat → Nat → Int32) (τ0 : Nat → Nat → Int64) (hR : Rg σ0) (b : Nat → Int) (N : Nat) (mo : Nat) (q : Nat) (h : Nat → Int) (nm : Nat → Int) (hpre0 : tkq b N mo q = 2) (gCT0 : CT σ0 τ0 b N mo q) (gCN0 : CN τ0 b h nm) (gCS0 : CS σ0 h) (gCM0 : CM σ0 h) (gCF0 : CF σ0 h) : Met l yX10_readWind wsX10_readWind ({ frames := 2, cells := 0, slots := 0, locals := 43 } : Room) (WQc D cA ad [.ref (ad 6)] σ0 τ0) (va_Qi (fun (r : Int32) (u : SS) => P_X10_readWind σ0 τ0 b N mo q h nm r u.1 u.2) (WB D cA ad) (AA ad)) 0 0 (AA ad) := by
  refine Met.ofW (cc := cX10_readWind) (maxL := 1) (ret := (some .boolean)) (by decide) rfl ?_
  intro p e s m args below meth c s₁ B hml hv
  obtain ⟨rfl, hP, hK, hN⟩ := hv
  have C : Cy p s m _ meth c cX10_readWind 1 wsX10_readWind RX10 D cA ad (some .boolean) := ⟨B.exec, B.bytes, hml, findClass_of_methodNamed B.named, atoms_spec (ws := wsX10_readWind) B.pre, hK, B.notSynchronized, B.returns, hI, hN⟩
  have hl := lv_entry ([.ref (ad 6)]) (n := 1) (Nat.le_of_ble_eq_true rfl)
  rw [lg_entry_eq]
  generalize (lg_sl ([.ref (ad 6)]) ++ List.replicate (1 - (lg_sl ([.ref (ad 6)])).length) Slot.unset).toArray = ls at hl ⊢
  have hl : lv_has ls 1 [(0, .ref (ad 6))] := hl
  have hS : va_S (AA ad) s.heap s.heap [] := va_S.rf
  have hF : Fr L_X10_readWind σ0 σ0 := Fr.rf
  have hFL : FrL LL_X10_readWind τ0 τ0 := FrL.rf
  have gCT := gCT0
  have gCN := gCN0
  have gCS := gCS0
  have gCM := gCM0
  have gCF := gCF0
  obtain ⟨hx, hb, _, hown, hts, _, hk, hr, _, _⟩ := C
  refine lv_aload_n hx hb dX10_readWind_0 rfl (lv_at hl 0 rfl) ?_
  refine r_cVi (k := 6) (As := []) (rest := []) ⟨hx, hb, hml, hown, hts⟩ hK hP hN hS (c_X10_takeOnce l D cA ad hI σ0 τ0 hR b N mo q 2 (by omega) (by omega) gCT) (cwV 0 hts gX10_readWind_X10_takeOnce rfl rfl rfl (by decide +kernel) ⟨by decide, by decide⟩) (rv_VText hK hP (by decide) (by decide)) rfl hl.1 rfl (Nat.le_of_ble_eq_true rfl) dX10_readWind_1 (Nat.zero_le _) (Nat.zero_le _) (fun r1 u1 H1 locs1 hp1 hP hS => ?_)
  obtain ⟨σ1, τ1⟩ := u1
  obtain ⟨hR, f1, fL1, hq1, hp1_0, hp1_1⟩ : P_X10_takeOnce σ0 τ0 b N mo q 2 r1 σ1 τ1 := hp1
  have o1 := hp1_0
  have hP : va_P D vwCl (gw cA ad σ1 τ1) H1 := hP
  have hFL := hFL.step fL1 (by decide)
  have gCN := gCN.agL (AgrL.fr fL1 (by decide))
  have hF := hF.step f1 (by decide)
  have gCF := gCF.ag (Agr.fr f1 (by decide))
  have gCM := gCM.ag (Agr.fr f1 (by decide))
  have gCS := gCS.ag (Agr.fr f1 (by decide))
  refine r_if_ne (tgt := 9) hx hb dX10_readWind_4 (by decide) (fun c2 => ?_) (fun c2 => ?_)
  · replace hp1_1 := hp1_1.resolve_left (by omega)
    obtain ⟨q1, e1, gCT, g63⟩ := o1.ye (by omega)
    have htk := gCT.tk
    refine lv_aload_n hx hb dX10_readWind_9 rfl (lv_at hl 0 rfl) ?_
    refine fg_10_0 (k := 6) hx hb hts in_X10_readWind_10 hown hK hP (by decide) (by decide) (hts _ lk_X10_readWind_9) dX10_readWind_10 ?_
    refine fgN_8_9 (k := 1) hx hb hts in_X10_readWind_8 hown hK hP (by decide) (by decide) (hN.use nw_10_34) dX10_readWind_13 ?_
    refine r_iconst hx hb dX10_readWind_16 (by decide) (fun z3 ez3 => ?_)
    refine r_icmp_lt (tgt := 32) hx hb dX10_readWind_17 (by decide) (fun c4 => ?_) (fun c4 => ?_)
    · refine lv_aload_n hx hb dX10_readWind_32 rfl (lv_at hl 0 rfl) ?_
      refine fg_10_0 (k := 6) hx hb hts in_X10_readWind_10 hown hK hP (by decide) (by decide) (hts _ lk_X10_readWind_9) dX10_readWind_33 ?_
      refine r_iconst hx hb dX10_readWind_36 (by decide) (fun z5 ez5 => ?_)
      refine r_cVi (k := 1) (As := [.int z5]) (rest := []) ⟨hx, hb, hml, hown, hts⟩ hK hP hN hS (c_X8_blame_v l D cA ad hI σ1 τ1 hR z5 _ _ _ _ (by omega) gCT) (cwV 1 hts gX10_readWind_X8_blame rfl rfl rfl (by decide +kernel) ⟨by decide, by decide⟩) (rv_Tape hK hP (by decide) (by decide)) rfl hl.1 rfl (Nat.le_of_ble_eq_true rfl) dX10_readWind_37 (Nat.zero_le _) (Nat.zero_le _) (fun r6 u6 H6 locs6 hp6 hP hS => ?_)
      obtain ⟨σ6, τ6⟩ := u6
      obtain ⟨hR, f6, fL6, hq6, hp6_0, hp6_1, hp6_2, gnCT⟩ : P_X8_blame_v σ1 τ1 z5 _ _ _ _ r6 σ6 τ6 := hp6
      have hP : va_P D vwCl (gw cA ad σ6 τ6) H6 := hP
      obtain rfl := FrL.nil fL6
      have hF := hF.step f6 (by decide)
      have gCF := gCF.ag (Agr.fr f6 (by decide))
      have gCM := gCM.ag (Agr.fr f6 (by decide))
      have gCS := gCS.ag (Agr.fr f6 (by decide))
      have gCT := gCT.ag (Agr.fr f6 (by decide))
      have t7 : (σ6 1 9).toInt = (σ1 1 9).toInt := congrArg Int32.toInt (f6.at 1 9 (by decide))
      exact r_zret hx hb hr hK hP hS hk (by omega) dX10_readWind_40 (show P_X10_readWind σ0 τ0 b N mo q h nm r6 σ6 τ1 from ⟨hR, hF, hFL, by omega, by first | exact RO.ofr (by unfold winP; dsimp only; rw [e1, bnd_r, if_neg (by omega), e2, bnd_r]) (by omega) (CR.mk gCT (gCN.h (uh2 (by omega) (by omega)) (uh2 (by omega) (by omega))) (gCS.h (fun j g1 => uh2 (by omega) (by omega))) (gCM.h (uh2 (by omega) (by omega)) (fun j g1 g2 => uh2 (by omega) (by omega))) (gCF.h (uh2 (by omega) (by omega)) (fun j g1 => uh2 (by omega) (by omega))) ((uv 6 3 (by omega)).trans ((f2.at 6 3 (by decide)).trans ((f1.at 6 3 (by decide)).trans ((uw 6 3 (by omega)).trans g63)))) (hF.at 6 4 (by decide))) | (obtain ⟨f, e2, x1, x2⟩ := o2.no (by omega); exact RO.ofl (by unfold winP; dsimp only; rw [e1, bnd_r, if_neg (by omega), e2, bnd_l]) (by omega) x1 x2) | exact RO.ofk (by unfold winP; dsimp only; rw [e1, bnd_r, if_pos (by omega)]) (by omega) (by omega) (by omega) | (obtain ⟨f, e1, x1, x2⟩ := o1.no (by omega); exact RO.ofl (by unfold winP; dsimp only; rw [e1, bnd_l]) (by omega) x1 x2), by omega⟩)
    · refine lv_aload_n hx hb dX10_readWind_20 rfl (lv_at hl 0 rfl) ?_
      refine fg_10_0 (k := 6) hx hb hts in_X10_readWind_10 hown hK hP (by decide) (by decide) (hts _ lk_X10_readWind_9) dX10_readWind_21 ?_
      refine fgN_8_9 (k := 1) hx hb hts in_X10_readWind_8 hown hK hP (by decide) (by decide) (hN.use nw_10_34) dX10_readWind_24 ?_
      refine r_bipush hx hb dX10_readWind_27 (by decide) (fun z8 ez8 => ?_)
      refine r_icmp_le (tgt := 41) hx hb dX10_readWind_29 (by decide) (fun c9 => ?_) (fun c9 => ?_)
      · refine lv_aload_n hx hb dX10_readWind_41 rfl (lv_at hl 0 rfl) ?_
        refine fg_10_1 (k := 6) hx hb hts in_X10_readWind_10 hown hK hP (by decide) (by decide) (hts _ lk_X10_readWind_15) dX10_readWind_42 ?_
        refine lv_aload_n hx hb dX10_readWind_45 rfl (lv_at hl 0 rfl) ?_
        refine fg_10_0 (k := 6) hx hb hts in_X10_readWind_10 hown hK hP (by decide) (by decide) (hts _ lk_X10_readWind_9) dX10_readWind_46 ?_
        refine fgN_8_9 (k := 1) hx hb hts in_X10_readWind_8 hown hK hP (by decide) (by decide) (hN.use nw_10_34) dX10_readWind_49 ?_
        refine fpN_9_2 (k := 3) hx hb hts in_X10_readWind_9 hown hK hP (by decide) (by decide) (hN.use nw_10_102) hI hR hS dX10_readWind_52 (fun σ10 H10 locs10 u10 v10 hR hP hS => ?_)
        have uw := u10
        have vw := v10
        have hF := hF.puts u10 3 rfl (by decide) (by decide) (by decide) (by decide)
        have gCF := gCF.ag (Agr.put u10 (by decide))
        have gCM := gCM.ag (Agr.put u10 (by decide))
        have gCS := gCS.ag (Agr.put u10 (by decide))
        have gCT := gCT.ag (Agr.put u10 (by decide))
        have t11 : (σ10 1 13).toInt = (σ1 1 13).toInt := congrArg Int32.toInt (u10 1 13 (by omega))
        have t12 : (σ10 1 9).toInt = (σ1 1 9).toInt := congrArg Int32.toInt (u10 1 9 (by omega))
        refine lv_aload_n hx hb dX10_readWind_55 rfl (lv_at hl 0 rfl) ?_
        refine fg_10_0 (k := 6) hx hb hts in_X10_readWind_10 hown hK hP (by decide) (by decide) (hts _ lk_X10_readWind_9) dX10_readWind_56 ?_
        refine r_cVv (k := 1) (As := []) (rest := []) ⟨hx, hb, hml, hown, hts⟩ hK hP hN hS (c_X8_next_v l D cA ad hI σ10 τ1 hR _ _ _ _ gCT) (cwV 0 hts gX10_readWind_X8_next rfl rfl rfl (by decide +kernel) ⟨by decide, by decide⟩) (rv_Tape hK hP (by decide) (by decide)) rfl hl.1 rfl (Nat.le_of_ble_eq_true rfl) dX10_readWind_59 (Nat.zero_le _) (Nat.zero_le _) (fun u13 H13 locs13 hp13 hP hS => ?_)
        obtain ⟨σ13, τ13⟩ := u13
        obtain ⟨hR, f13, fL13, hp13_0⟩ : P_X8_next_v σ10 τ1 _ _ _ _ σ13 τ13 := hp13
        have f1 := f13
        have hP : va_P D vwCl (gw cA ad σ13 τ13) H13 := hP
        have hFL := hFL.step fL13 (by decide)
        have gCN := gCN.agL (AgrL.fr fL13 (by decide))
        have hF := hF.step f13 (by decide)
        have gCF := gCF.ag (Agr.fr f13 (by decide))
        have gCM := gCM.ag (Agr.fr f13 (by decide))
        have gCS := gCS.ag (Agr.fr f13 (by decide))
        have t14 : (σ13 1 13).toInt = (σ10 1 13).toInt := congrArg Int32.toInt (f13.at 1 13 (by decide))
        have gCT := hp13_0
        refine lv_aload_n hx hb dX10_readWind_62 rfl (lv_at hl 0 rfl) ?_
        refine fg_10_0 (k := 6) hx hb hts in_X10_readWind_10 hown hK hP (by decide) (by decide) (hts _ lk_X10_readWind_9) dX10_readWind_63 ?_
        refine r_iconst hx hb dX10_readWind_66 (by decide) (fun z15 ez15 => ?_)
        refine r_bipush hx hb dX10_readWind_67 (by decide) (fun z16 ez16 => ?_)
        refine r_cVi (k := 1) (As := [.int z15, .int z16]) (rest := []) ⟨hx, hb, hml, hown, hts⟩ hK hP hN hS (c_X8_takeNumber_v l D cA ad hI σ13 τ13 hR z15 z16 b N mo _ 0 9 (by omega) (by omega) (by omega) (by omega) gCT) (cwV 2 hts gX10_readWind_X8_takeNumber rfl rfl rfl (by decide +kernel) ⟨by decide, by decide⟩) (rv_Tape hK hP (by decide) (by decide)) rfl hl.1 rfl (Nat.le_of_ble_eq_true rfl) dX10_readWind_69 (Nat.zero_le _) (Nat.zero_le _) (fun r17 u17 H17 locs17 hp17 hP hS => ?_)
        obtain ⟨σ17, τ17⟩ := u17
        obtain ⟨hR, f17, fL17, hq17, hp17_0, hp17_1⟩ : P_X8_takeNumber_v σ13 τ13 z15 z16 b N mo _ 0 9 r17 σ17 τ17 := hp17
        have o2 := hp17_0
        have f2 := f17
        have hP : va_P D vwCl (gw cA ad σ17 τ17) H17 := hP
        have hFL := hFL.step fL17 (by decide)
        have gCN := gCN.agL (AgrL.fr fL17 (by decide))
        have hF := hF.step f17 (by decide)
        have gCF := gCF.ag (Agr.fr f17 (by decide))
        have gCM := gCM.ag (Agr.fr f17 (by decide))
        have gCS := gCS.ag (Agr.fr f17 (by decide))
        refine r_if_ne (tgt := 77) hx hb dX10_readWind_72 (by decide) (fun c18 => ?_) (fun c18 => ?_)
        · replace hp17_1 := hp17_1.resolve_left (by omega)
          obtain ⟨y, e2, gCT, gvl⟩ := o2.ye (by omega)
          refine lv_aload_n hx hb dX10_readWind_77 rfl (lv_at hl 0 rfl) ?_
          refine fg_10_1 (k := 6) hx hb hts in_X10_readWind_10 hown hK hP (by decide) (by decide) (hts _ lk_X10_readWind_15) dX10_readWind_78 ?_
          refine lv_aload_n hx hb dX10_readWind_81 rfl (lv_at hl 0 rfl) ?_
          refine fg_10_0 (k := 6) hx hb hts in_X10_readWind_10 hown hK hP (by decide) (by decide) (hts _ lk_X10_readWind_9) dX10_readWind_82 ?_
          refine fgN_8_12 (k := 1) hx hb hts in_X10_readWind_8 hown hK hP (by decide) (by decide) (hN.use nw_10_93) dX10_readWind_85 ?_
          refine fpN_9_3 (k := 3) hx hb hts in_X10_readWind_9 hown hK hP (by decide) (by decide) (hN.use nw_10_105) hI hR hS dX10_readWind_88 (fun σ19 H19 locs19 u19 v19 hR hP hS => ?_)
          have uv := u19
          have vv := v19
          have hF := hF.puts u19 3 rfl (by decide) (by decide) (by decide) (by decide)
          have gCF := gCF.ag (Agr.put u19 (by decide))
          have gCM := gCM.ag (Agr.put u19 (by decide))
          have gCS := gCS.ag (Agr.put u19 (by decide))
          have gCT := gCT.ag (Agr.put u19 (by decide))
          have t20 : (σ19 1 13).toInt = (σ17 1 13).toInt := congrArg Int32.toInt (u19 1 13 (by omega))
          have t21 : (σ19 1 12).toInt = (σ17 1 12).toInt := congrArg Int32.toInt (u19 1 12 (by omega))
          refine r_iconst hx hb dX10_readWind_91 (by decide) (fun z22 ez22 => ?_)
          exact r_zret hx hb hr hK hP hS hk (by omega) dX10_readWind_92 (show P_X10_readWind σ0 τ0 b N mo q h nm z22 σ19 τ17 from ⟨hR, hF, hFL, by omega, by first | exact RO.ofr (by unfold winP; dsimp only; rw [e1, bnd_r, if_neg (by omega), e2, bnd_r]) (by omega) (CR.mk gCT (gCN.h (uh2 (by omega) (by omega)) (uh2 (by omega) (by omega))) (gCS.h (fun j g1 => uh2 (by omega) (by omega))) (gCM.h (uh2 (by omega) (by omega)) (fun j g1 g2 => uh2 (by omega) (by omega))) (gCF.h (uh2 (by omega) (by omega)) (fun j g1 => uh2 (by omega) (by omega))) ((uv 6 3 (by omega)).trans ((f2.at 6 3 (by decide)).trans ((f1.at 6 3 (by decide)).trans ((uw 6 3 (by omega)).trans g63)))) (hF.at 6 4 (by decide))) | (obtain ⟨f, e2, x1, x2⟩ := o2.no (by omega); exact RO.ofl (by unfold winP; dsimp only; rw [e1, bnd_r, if_neg (by omega), e2, bnd_l]) (by omega) x1 x2) | exact RO.ofk (by unfold winP; dsimp only; rw [e1, bnd_r, if_pos (by omega)]) (by omega) (by omega) (by omega) | (obtain ⟨f, e1, x1, x2⟩ := o1.no (by omega); exact RO.ofl (by unfold winP; dsimp only; rw [e1, bnd_l]) (by omega) x1 x2), by omega⟩)
        · clear hp17_1
          refine r_iconst hx hb dX10_readWind_75 (by decide) (fun z23 ez23 => ?_)
          exact r_zret hx hb hr hK hP hS hk (by omega) dX10_readWind_76 (show P_X10_readWind σ0 τ0 b N mo q h nm z23 σ17 τ17 from ⟨hR, hF, hFL, by omega, by first | exact RO.ofr (by unfold winP; dsimp only; rw [e1, bnd_r, if_neg (by omega), e2, bnd_r]) (by omega) (CR.mk gCT (gCN.h (uh2 (by omega) (by omega)) (uh2 (by omega) (by omega))) (gCS.h (fun j g1 => uh2 (by omega) (by omega))) (gCM.h (uh2 (by omega) (by omega)) (fun j g1 g2 => uh2 (by omega) (by omega))) (gCF.h (uh2 (by omega) (by omega)) (fun j g1 => uh2 (by omega) (by omega))) ((uv 6 3 (by omega)).trans ((f2.at 6 3 (by decide)).trans ((f1.at 6 3 (by decide)).trans ((uw 6 3 (by omega)).trans g63)))) (hF.at 6 4 (by decide))) | (obtain ⟨f, e2, x1, x2⟩ := o2.no (by omega); exact RO.ofl (by unfold winP; dsimp only; rw [e1, bnd_r, if_neg (by omega), e2, bnd_l]) (by omega) x1 x2) | exact RO.ofk (by unfold winP; dsimp only; rw [e1, bnd_r, if_pos (by omega)]) (by omega) (by omega) (by omega) | (obtain ⟨f, e1, x1, x2⟩ := o1.no (by omega); exact RO.ofl (by unfold winP; dsimp only; rw [e1, bnd_l]) (by omega) x1 x2), by omega⟩)
      · refine lv_aload_n hx hb dX10_readWind_32 rfl (lv_at hl 0 rfl) ?_
        refine fg_10_0 (k := 6) hx hb hts in_X10_readWind_10 hown hK hP (by decide) (by decide) (hts _ lk_X10_readWind_9) dX10_readWind_33 ?_
        refine r_iconst hx hb dX10_readWind_36 (by decide) (fun z24 ez24 => ?_)
        refine r_cVi (k := 1) (As := [.int z24]) (rest := []) ⟨hx, hb, hml, hown, hts⟩ hK hP hN hS (c_X8_blame_v l D cA ad hI σ1 τ1 hR z24 _ _ _ _ (by omega) gCT) (cwV 1 hts gX10_readWind_X8_blame rfl rfl rfl (by decide +kernel) ⟨by decide, by decide⟩) (rv_Tape hK hP (by decide) (by decide)) rfl hl.1 rfl (Nat.le_of_ble_eq_true rfl) dX10_readWind_37 (Nat.zero_le _) (Nat.zero_le _) (fun r25 u25 H25 locs25 hp25 hP hS => ?_)
        obtain ⟨σ25, τ25⟩ := u25
        obtain ⟨hR, f25, fL25, hq25, hp25_0, hp25_1, hp25_2, gnCT⟩ : P_X8_blame_v σ1 τ1 z24 _ _ _ _ r25 σ25 τ25 := hp25
        have hP : va_P D vwCl (gw cA ad σ25 τ25) H25 := hP
        obtain rfl := FrL.nil fL25
        have hF := hF.step f25 (by decide)
        have gCF := gCF.ag (Agr.fr f25 (by decide))
        have gCM := gCM.ag (Agr.fr f25 (by decide))
        have gCS := gCS.ag (Agr.fr f25 (by decide))
        have gCT := gCT.ag (Agr.fr f25 (by decide))
        have t26 : (σ25 1 9).toInt = (σ1 1 9).toInt := congrArg Int32.toInt (f25.at 1 9 (by decide))
        exact r_zret hx hb hr hK hP hS hk (by omega) dX10_readWind_40 (show P_X10_readWind σ0 τ0 b N mo q h nm r25 σ25 τ1 from ⟨hR, hF, hFL, by omega, by first | exact RO.ofr (by unfold winP; dsimp only; rw [e1, bnd_r, if_neg (by omega), e2, bnd_r]) (by omega) (CR.mk gCT (gCN.h (uh2 (by omega) (by omega)) (uh2 (by omega) (by omega))) (gCS.h (fun j g1 => uh2 (by omega) (by omega))) (gCM.h (uh2 (by omega) (by omega)) (fun j g1 g2 => uh2 (by omega) (by omega))) (gCF.h (uh2 (by omega) (by omega)) (fun j g1 => uh2 (by omega) (by omega))) ((uv 6 3 (by omega)).trans ((f2.at 6 3 (by decide)).trans ((f1.at 6 3 (by decide)).trans ((uw 6 3 (by omega)).trans g63)))) (hF.at 6 4 (by decide))) | (obtain ⟨f, e2, x1, x2⟩ := o2.no (by omega); exact RO.ofl (by unfold winP; dsimp only; rw [e1, bnd_r, if_neg (by omega), e2, bnd_l]) (by omega) x1 x2) | exact RO.ofk (by unfold winP; dsimp only; rw [e1, bnd_r, if_pos (by omega)]) (by omega) (by omega) (by omega) | (obtain ⟨f, e1, x1, x2⟩ := o1.no (by omega); exact RO.ofl (by unfold winP; dsimp only; rw [e1, bnd_l]) (by omega) x1 x2), by omega⟩)
  · clear hp1_1
    refine r_iconst hx hb dX10_readWind_7 (by decide) (fun z27 ez27 => ?_)
    exact r_zret hx hb hr hK hP hS hk (by omega) dX10_readWind_8 (show P_X10_readWind σ0 τ0 b N mo q h nm z27 σ1 τ1 from ⟨hR, hF, hFL, by omega, by first | exact RO.ofr (by unfold winP; dsimp only; rw [e1, bnd_r, if_neg (by omega), e2, bnd_r]) (by omega) (CR.mk gCT (gCN.h (uh2 (by omega) (by omega)) (uh2 (by omega) (by omega))) (gCS.h (fun j g1 => uh2 (by omega) (by omega))) (gCM.h (uh2 (by omega) (by omega)) (fun j g1 g2 => uh2 (by omega) (by omega))) (gCF.h (uh2 (by omega) (by omega)) (fun j g1 => uh2 (by omega) (by omega))) ((uv 6 3 (by omega)).trans ((f2.at 6 3 (by decide)).trans ((f1.at 6 3 (by decide)).trans ((uw 6 3 (by omega)).trans g63)))) (hF.at 6 4 (by decide))) | (obtain ⟨f, e2, x1, x2⟩ := o2.no (by omega); exact RO.ofl (by unfold winP; dsimp only; rw [e1, bnd_r, if_neg (by omega), e2, bnd_l]) (by omega) x1 x2) | exact RO.ofk (by unfold winP; dsimp only; rw [e1, bnd_r, if_pos (by omega)]) (by omega) (by omega) (by omega) | (obtain ⟨f, e1, x1, x2⟩ := o1.no (by omega); exact RO.ofl (by unfold winP; dsimp only; rw [e1, bnd_l]) (by omega) x1 x2), by omega⟩)
theorem in_X10_readLine_10 : ∀ w ∈ u_ws RX10 TX10 5, w ∈ wsX10_readLine := by decide +kernel
theorem in_X10_readLine_8 : ∀ w ∈ u_ws RX8 TX8 15, w ∈ wsX10_readLine := by decide +kernel
theorem lk_X10_readLine_9 : Cond.fieldLink RX10 9 "CuckooShares$ValleyText" "tape" "LCuckooShares$Tape;" ∈ wsX10_readLine := by decide +kernel
abbrev L_X10_readLine : List Rc := [(1, 1, 7, 10), (1, 1, 12, 14), (6, 6, 3, 4), (3, 3, 0, 6), (136, 139, 0, 2), (76, 83, 0, 2), (108, 115, 0, 5), (188, 227, 0, 2)]
abbrev LL_X10_readLine : List Rc := [(1, 1, 11, 11), (41, 41, 0, 7), (45, 45, 0, 7)]
def P_X10_readLine (σ0 : Nat → Nat → Int32) (τ0 : Nat → Nat → Int64) (b : Nat → Int) (N : Nat) (mo : Nat) (q : Nat) (h : Nat → Int) (nm : Nat → Int) (r : Int32) (σ : Nat → Nat → Int32) (τ : Nat → Nat → Int64) : Prop := Rg σ ∧ Fr L_X10_readLine σ0 σ ∧ FrL LL_X10_readLine τ0 τ ∧ (0 ≤ r.toInt ∧ r.toInt ≤ 1) ∧ (RO r σ (linP b N mo (q, h, nm, σ0 6 3, σ0 6 4)) (CR σ τ b N mo)) ∧ (r.toInt = 0 ∨ (σ 1 13).toInt = (σ0 1 13).toInt)
set_option maxHeartbeats 4000000 in
theorem c_X10_readLine (l : Launch) (D : va_G) (cA : Nat → ClassId) (ad : Nat → Nat) (hI : Inj ad) (σ0 : Nat → Nat → Int32) (τ0 : Nat → Nat → Int64) (hR : Rg σ0) (b : Nat → Int) (N : Nat) (mo : Nat) (q : Nat) (h : Nat → Int) (nm : Nat → Int) (gCT0 : CT σ0 τ0 b N mo q) (gCN0 : CN τ0 b h nm) (gCS0 : CS σ0 h) (gCM0 : CM σ0 h) (gCF0 : CF σ0 h) : Met l yX10_readLine wsX10_readLine ({ frames := 5, cells := 0, slots := 0, locals := 108 } : Room) (WQc D cA ad [.ref (ad 6)] σ0 τ0) (va_Qi (fun (r : Int32) (u : SS) => P_X10_readLine σ0 τ0 b N mo q h nm r u.1 u.2) (WB D cA ad) (AA ad)) 0 0 (AA ad) := by
  refine Met.ofW (cc := cX10_readLine) (maxL := 1) (ret := (some .boolean)) (by decide) rfl ?_
  intro p e s m args below meth c s₁ B hml hv
  obtain ⟨rfl, hP, hK, hN⟩ := hv
  have C : Cy p s m _ meth c cX10_readLine 1 wsX10_readLine RX10 D cA ad (some .boolean) := ⟨B.exec, B.bytes, hml, findClass_of_methodNamed B.named, atoms_spec (ws := wsX10_readLine) B.pre, hK, B.notSynchronized, B.returns, hI, hN⟩
  have hl := lv_entry ([.ref (ad 6)]) (n := 1) (Nat.le_of_ble_eq_true rfl)
  rw [lg_entry_eq]
  generalize (lg_sl ([.ref (ad 6)]) ++ List.replicate (1 - (lg_sl ([.ref (ad 6)])).length) Slot.unset).toArray = ls at hl ⊢
  have hl : lv_has ls 1 [(0, .ref (ad 6))] := hl
  have hS : va_S (AA ad) s.heap s.heap [] := va_S.rf
  have hF : Fr L_X10_readLine σ0 σ0 := Fr.rf
  have hFL : FrL LL_X10_readLine τ0 τ0 := FrL.rf
  have gCT := gCT0
  have gCN := gCN0
  have gCS := gCS0
  have gCM := gCM0
  have gCF := gCF0
  obtain ⟨hx, hb, _, hown, hts, _, hk, hr, _, _⟩ := C
  have htk := gCT.tk
  refine lv_aload_n hx hb dX10_readLine_0 rfl (lv_at hl 0 rfl) ?_
  refine fg_10_0 (k := 6) hx hb hts in_X10_readLine_10 hown hK hP (by decide) (by decide) (hts _ lk_X10_readLine_9) dX10_readLine_1 ?_
  refine fgN_8_9 (k := 1) hx hb hts in_X10_readLine_8 hown hK hP (by decide) (by decide) (hN.use nw_10_34) dX10_readLine_4 ?_
  by_cases c1 : (σ0 1 9).toInt = 0
  · refine lv_tableIn (off := 69) (tgt := 76) hx hb dX10_readLine_7 (by omega) (by omega) (by rw [c1]; rfl) (by decide) ?_
    refine lv_aload_n hx hb dX10_readLine_76 rfl (lv_at hl 0 rfl) ?_
    refine r_cVi (k := 6) (As := []) (rest := []) ⟨hx, hb, hml, hown, hts⟩ hK hP hN hS (c_X10_readRidge l D cA ad hI σ0 τ0 hR _ _ _ _ _ _ (by omega) gCT gCN gCS gCM gCF) (cwV 0 hts gX10_readLine_X10_readRidge rfl rfl rfl (by decide +kernel) ⟨by decide, by decide⟩) (rv_VText hK hP (by decide) (by decide)) rfl hl.1 rfl (Nat.le_of_ble_eq_true rfl) dX10_readLine_77 (Nat.zero_le _) (Nat.zero_le _) (fun r2 u2 H2 locs2 hp2 hP hS => ?_)
    obtain ⟨σ2, τ2⟩ := u2
    obtain ⟨hR, f2, fL2, hq2, hp2_0, hp2_1⟩ : P_X10_readRidge σ0 τ0 _ _ _ _ _ _ r2 σ2 τ2 := hp2
    have o77 := hp2_0
    have hP : va_P D vwCl (gw cA ad σ2 τ2) H2 := hP
    have hFL := hFL.step fL2 (by decide)
    have gCN := gCN.agL (AgrL.fr fL2 (by decide))
    have hF := hF.step f2 (by decide)
    have gCF := gCF.ag (Agr.fr f2 (by decide))
    have gCM := gCM.ag (Agr.fr f2 (by decide))
    exact r_zret hx hb hr hK hP hS hk (by omega) dX10_readLine_80 (show P_X10_readLine σ0 τ0 b N mo q h nm r2 σ2 τ2 from ⟨hR, hF, hFL, by omega, by first | (rw [lin_0 (z := (q, h, nm, σ0 6 3, σ0 6 4)) (by show tkq b N mo q = 0; omega)]; exact o77) | (rw [lin_1 (z := (q, h, nm, σ0 6 3, σ0 6 4)) (by show tkq b N mo q = 1; omega)]; exact o82) | (rw [lin_2 (z := (q, h, nm, σ0 6 3, σ0 6 4)) (by show tkq b N mo q = 2; omega)]; exact o87) | (rw [lin_7 (z := (q, h, nm, σ0 6 3, σ0 6 4)) (by show tkq b N mo q = 7; omega)]; exact o92) | (rw [lin_8 (z := (q, h, nm, σ0 6 3, σ0 6 4)) (by show tkq b N mo q = 8; omega)]; exact o97) | (rw [lin_9 (z := (q, h, nm, σ0 6 3, σ0 6 4)) (by show tkq b N mo q = 9; omega)]; exact o102) | (rw [lin_10 (z := (q, h, nm, σ0 6 3, σ0 6 4)) (by show tkq b N mo q = 10; omega)]; exact o107) | (rw [lin_11 (z := (q, h, nm, σ0 6 3, σ0 6 4)) (by show tkq b N mo q = 11; omega)]; exact o112) | (rw [lin_12 (z := (q, h, nm, σ0 6 3, σ0 6 4)) (by show tkq b N mo q = 12; omega)]; exact o117) | (rw [lin_13 (z := (q, h, nm, σ0 6 3, σ0 6 4)) (by show tkq b N mo q = 13; omega)]; exact o122) | exact RO.ofk (lin_x (z := (q, h, nm, σ0 6 3, σ0 6 4)) (by show tkq b N mo q < 0 ∨ (2 < tkq b N mo q ∧ tkq b N mo q < 7) ∨ 13 < tkq b N mo q; omega)) (by omega) (by omega) (by omega), by omega⟩)
  by_cases c3 : (σ0 1 9).toInt = 1
  · refine lv_tableIn (off := 74) (tgt := 81) hx hb dX10_readLine_7 (by omega) (by omega) (by rw [c3]; rfl) (by decide) ?_
    refine lv_aload_n hx hb dX10_readLine_81 rfl (lv_at hl 0 rfl) ?_
    refine r_cVi (k := 6) (As := []) (rest := []) ⟨hx, hb, hml, hown, hts⟩ hK hP hN hS (c_X10_readWheat l D cA ad hI σ0 τ0 hR _ _ _ _ _ _ (by omega) gCT gCN gCS gCM gCF) (cwV 0 hts gX10_readLine_X10_readWheat rfl rfl rfl (by decide +kernel) ⟨by decide, by decide⟩) (rv_VText hK hP (by decide) (by decide)) rfl hl.1 rfl (Nat.le_of_ble_eq_true rfl) dX10_readLine_82 (Nat.zero_le _) (Nat.zero_le _) (fun r4 u4 H4 locs4 hp4 hP hS => ?_)
    obtain ⟨σ4, τ4⟩ := u4
    obtain ⟨hR, f4, fL4, hq4, hp4_0, hp4_1⟩ : P_X10_readWheat σ0 τ0 _ _ _ _ _ _ r4 σ4 τ4 := hp4
    have o82 := hp4_0
    have hP : va_P D vwCl (gw cA ad σ4 τ4) H4 := hP
    have hFL := hFL.step fL4 (by decide)
    have gCN := gCN.agL (AgrL.fr fL4 (by decide))
    have hF := hF.step f4 (by decide)
    have gCF := gCF.ag (Agr.fr f4 (by decide))
    have gCM := gCM.ag (Agr.fr f4 (by decide))
    exact r_zret hx hb hr hK hP hS hk (by omega) dX10_readLine_85 (show P_X10_readLine σ0 τ0 b N mo q h nm r4 σ4 τ4 from ⟨hR, hF, hFL, by omega, by first | (rw [lin_0 (z := (q, h, nm, σ0 6 3, σ0 6 4)) (by show tkq b N mo q = 0; omega)]; exact o77) | (rw [lin_1 (z := (q, h, nm, σ0 6 3, σ0 6 4)) (by show tkq b N mo q = 1; omega)]; exact o82) | (rw [lin_2 (z := (q, h, nm, σ0 6 3, σ0 6 4)) (by show tkq b N mo q = 2; omega)]; exact o87) | (rw [lin_7 (z := (q, h, nm, σ0 6 3, σ0 6 4)) (by show tkq b N mo q = 7; omega)]; exact o92) | (rw [lin_8 (z := (q, h, nm, σ0 6 3, σ0 6 4)) (by show tkq b N mo q = 8; omega)]; exact o97) | (rw [lin_9 (z := (q, h, nm, σ0 6 3, σ0 6 4)) (by show tkq b N mo q = 9; omega)]; exact o102) | (rw [lin_10 (z := (q, h, nm, σ0 6 3, σ0 6 4)) (by show tkq b N mo q = 10; omega)]; exact o107) | (rw [lin_11 (z := (q, h, nm, σ0 6 3, σ0 6 4)) (by show tkq b N mo q = 11; omega)]; exact o112) | (rw [lin_12 (z := (q, h, nm, σ0 6 3, σ0 6 4)) (by show tkq b N mo q = 12; omega)]; exact o117) | (rw [lin_13 (z := (q, h, nm, σ0 6 3, σ0 6 4)) (by show tkq b N mo q = 13; omega)]; exact o122) | exact RO.ofk (lin_x (z := (q, h, nm, σ0 6 3, σ0 6 4)) (by show tkq b N mo q < 0 ∨ (2 < tkq b N mo q ∧ tkq b N mo q < 7) ∨ 13 < tkq b N mo q; omega)) (by omega) (by omega) (by omega), by omega⟩)
  by_cases c5 : (σ0 1 9).toInt = 2
  · refine lv_tableIn (off := 79) (tgt := 86) hx hb dX10_readLine_7 (by omega) (by omega) (by rw [c5]; rfl) (by decide) ?_
    refine lv_aload_n hx hb dX10_readLine_86 rfl (lv_at hl 0 rfl) ?_
    refine r_cVi (k := 6) (As := []) (rest := []) ⟨hx, hb, hml, hown, hts⟩ hK hP hN hS (c_X10_readWind l D cA ad hI σ0 τ0 hR _ _ _ _ _ _ (by omega) gCT gCN gCS gCM gCF) (cwV 0 hts gX10_readLine_X10_readWind rfl rfl rfl (by decide +kernel) ⟨by decide, by decide⟩) (rv_VText hK hP (by decide) (by decide)) rfl hl.1 rfl (Nat.le_of_ble_eq_true rfl) dX10_readLine_87 (Nat.zero_le _) (Nat.zero_le _) (fun r6 u6 H6 locs6 hp6 hP hS => ?_)
    obtain ⟨σ6, τ6⟩ := u6
    obtain ⟨hR, f6, fL6, hq6, hp6_0, hp6_1⟩ : P_X10_readWind σ0 τ0 _ _ _ _ _ _ r6 σ6 τ6 := hp6
    have o87 := hp6_0
    have hP : va_P D vwCl (gw cA ad σ6 τ6) H6 := hP
    have hFL := hFL.step fL6 (by decide)
    have gCN := gCN.agL (AgrL.fr fL6 (by decide))
    have hF := hF.step f6 (by decide)
    have gCF := gCF.ag (Agr.fr f6 (by decide))
    have gCM := gCM.ag (Agr.fr f6 (by decide))
    have gCS := gCS.ag (Agr.fr f6 (by decide))
    exact r_zret hx hb hr hK hP hS hk (by omega) dX10_readLine_90 (show P_X10_readLine σ0 τ0 b N mo q h nm r6 σ6 τ6 from ⟨hR, hF, hFL, by omega, by first | (rw [lin_0 (z := (q, h, nm, σ0 6 3, σ0 6 4)) (by show tkq b N mo q = 0; omega)]; exact o77) | (rw [lin_1 (z := (q, h, nm, σ0 6 3, σ0 6 4)) (by show tkq b N mo q = 1; omega)]; exact o82) | (rw [lin_2 (z := (q, h, nm, σ0 6 3, σ0 6 4)) (by show tkq b N mo q = 2; omega)]; exact o87) | (rw [lin_7 (z := (q, h, nm, σ0 6 3, σ0 6 4)) (by show tkq b N mo q = 7; omega)]; exact o92) | (rw [lin_8 (z := (q, h, nm, σ0 6 3, σ0 6 4)) (by show tkq b N mo q = 8; omega)]; exact o97) | (rw [lin_9 (z := (q, h, nm, σ0 6 3, σ0 6 4)) (by show tkq b N mo q = 9; omega)]; exact o102) | (rw [lin_10 (z := (q, h, nm, σ0 6 3, σ0 6 4)) (by show tkq b N mo q = 10; omega)]; exact o107) | (rw [lin_11 (z := (q, h, nm, σ0 6 3, σ0 6 4)) (by show tkq b N mo q = 11; omega)]; exact o112) | (rw [lin_12 (z := (q, h, nm, σ0 6 3, σ0 6 4)) (by show tkq b N mo q = 12; omega)]; exact o117) | (rw [lin_13 (z := (q, h, nm, σ0 6 3, σ0 6 4)) (by show tkq b N mo q = 13; omega)]; exact o122) | exact RO.ofk (lin_x (z := (q, h, nm, σ0 6 3, σ0 6 4)) (by show tkq b N mo q < 0 ∨ (2 < tkq b N mo q ∧ tkq b N mo q < 7) ∨ 13 < tkq b N mo q; omega)) (by omega) (by omega) (by omega), by omega⟩)
  by_cases c7 : (σ0 1 9).toInt = 3
  · refine lv_tableIn (off := 119) (tgt := 126) hx hb dX10_readLine_7 (by omega) (by omega) (by rw [c7]; rfl) (by decide) ?_
    refine lv_aload_n hx hb dX10_readLine_126 rfl (lv_at hl 0 rfl) ?_
    refine fg_10_0 (k := 6) hx hb hts in_X10_readLine_10 hown hK hP (by decide) (by decide) (hts _ lk_X10_readLine_9) dX10_readLine_127 ?_
    refine r_iconst hx hb dX10_readLine_130 (by decide) (fun z8 ez8 => ?_)
    refine r_cVi (k := 1) (As := [.int z8]) (rest := []) ⟨hx, hb, hml, hown, hts⟩ hK hP hN hS (c_X8_blame_v l D cA ad hI σ0 τ0 hR z8 _ _ _ _ (by omega) gCT) (cwV 1 hts gX10_readLine_X8_blame rfl rfl rfl (by decide +kernel) ⟨by decide, by decide⟩) (rv_Tape hK hP (by decide) (by decide)) rfl hl.1 rfl (Nat.le_of_ble_eq_true rfl) dX10_readLine_131 (Nat.zero_le _) (Nat.zero_le _) (fun r9 u9 H9 locs9 hp9 hP hS => ?_)
    obtain ⟨σ9, τ9⟩ := u9
    obtain ⟨hR, f9, fL9, hq9, hp9_0, hp9_1, hp9_2, gnCT⟩ : P_X8_blame_v σ0 τ0 z8 _ _ _ _ r9 σ9 τ9 := hp9
    have hP : va_P D vwCl (gw cA ad σ9 τ9) H9 := hP
    obtain rfl := FrL.nil fL9
    have hF := hF.step f9 (by decide)
    have gCF := gCF.ag (Agr.fr f9 (by decide))
    have gCM := gCM.ag (Agr.fr f9 (by decide))
    have gCS := gCS.ag (Agr.fr f9 (by decide))
    have gCT := gCT.ag (Agr.fr f9 (by decide))
    exact r_zret hx hb hr hK hP hS hk (by omega) dX10_readLine_134 (show P_X10_readLine σ0 τ0 b N mo q h nm r9 σ9 τ0 from ⟨hR, hF, hFL, by omega, by first | (rw [lin_0 (z := (q, h, nm, σ0 6 3, σ0 6 4)) (by show tkq b N mo q = 0; omega)]; exact o77) | (rw [lin_1 (z := (q, h, nm, σ0 6 3, σ0 6 4)) (by show tkq b N mo q = 1; omega)]; exact o82) | (rw [lin_2 (z := (q, h, nm, σ0 6 3, σ0 6 4)) (by show tkq b N mo q = 2; omega)]; exact o87) | (rw [lin_7 (z := (q, h, nm, σ0 6 3, σ0 6 4)) (by show tkq b N mo q = 7; omega)]; exact o92) | (rw [lin_8 (z := (q, h, nm, σ0 6 3, σ0 6 4)) (by show tkq b N mo q = 8; omega)]; exact o97) | (rw [lin_9 (z := (q, h, nm, σ0 6 3, σ0 6 4)) (by show tkq b N mo q = 9; omega)]; exact o102) | (rw [lin_10 (z := (q, h, nm, σ0 6 3, σ0 6 4)) (by show tkq b N mo q = 10; omega)]; exact o107) | (rw [lin_11 (z := (q, h, nm, σ0 6 3, σ0 6 4)) (by show tkq b N mo q = 11; omega)]; exact o112) | (rw [lin_12 (z := (q, h, nm, σ0 6 3, σ0 6 4)) (by show tkq b N mo q = 12; omega)]; exact o117) | (rw [lin_13 (z := (q, h, nm, σ0 6 3, σ0 6 4)) (by show tkq b N mo q = 13; omega)]; exact o122) | exact RO.ofk (lin_x (z := (q, h, nm, σ0 6 3, σ0 6 4)) (by show tkq b N mo q < 0 ∨ (2 < tkq b N mo q ∧ tkq b N mo q < 7) ∨ 13 < tkq b N mo q; omega)) (by omega) (by omega) (by omega), by omega⟩)
  by_cases c10 : (σ0 1 9).toInt = 4
  · refine lv_tableIn (off := 119) (tgt := 126) hx hb dX10_readLine_7 (by omega) (by omega) (by rw [c10]; rfl) (by decide) ?_
    refine lv_aload_n hx hb dX10_readLine_126 rfl (lv_at hl 0 rfl) ?_
    refine fg_10_0 (k := 6) hx hb hts in_X10_readLine_10 hown hK hP (by decide) (by decide) (hts _ lk_X10_readLine_9) dX10_readLine_127 ?_
    refine r_iconst hx hb dX10_readLine_130 (by decide) (fun z11 ez11 => ?_)
    refine r_cVi (k := 1) (As := [.int z11]) (rest := []) ⟨hx, hb, hml, hown, hts⟩ hK hP hN hS (c_X8_blame_v l D cA ad hI σ0 τ0 hR z11 _ _ _ _ (by omega) gCT) (cwV 1 hts gX10_readLine_X8_blame rfl rfl rfl (by decide +kernel) ⟨by decide, by decide⟩) (rv_Tape hK hP (by decide) (by decide)) rfl hl.1 rfl (Nat.le_of_ble_eq_true rfl) dX10_readLine_131 (Nat.zero_le _) (Nat.zero_le _) (fun r12 u12 H12 locs12 hp12 hP hS => ?_)
    obtain ⟨σ12, τ12⟩ := u12
    obtain ⟨hR, f12, fL12, hq12, hp12_0, hp12_1, hp12_2, gnCT⟩ : P_X8_blame_v σ0 τ0 z11 _ _ _ _ r12 σ12 τ12 := hp12
    have hP : va_P D vwCl (gw cA ad σ12 τ12) H12 := hP
    obtain rfl := FrL.nil fL12
    have hF := hF.step f12 (by decide)
    have gCF := gCF.ag (Agr.fr f12 (by decide))
    have gCM := gCM.ag (Agr.fr f12 (by decide))
    have gCS := gCS.ag (Agr.fr f12 (by decide))
    have gCT := gCT.ag (Agr.fr f12 (by decide))
    exact r_zret hx hb hr hK hP hS hk (by omega) dX10_readLine_134 (show P_X10_readLine σ0 τ0 b N mo q h nm r12 σ12 τ0 from ⟨hR, hF, hFL, by omega, by first | (rw [lin_0 (z := (q, h, nm, σ0 6 3, σ0 6 4)) (by show tkq b N mo q = 0; omega)]; exact o77) | (rw [lin_1 (z := (q, h, nm, σ0 6 3, σ0 6 4)) (by show tkq b N mo q = 1; omega)]; exact o82) | (rw [lin_2 (z := (q, h, nm, σ0 6 3, σ0 6 4)) (by show tkq b N mo q = 2; omega)]; exact o87) | (rw [lin_7 (z := (q, h, nm, σ0 6 3, σ0 6 4)) (by show tkq b N mo q = 7; omega)]; exact o92) | (rw [lin_8 (z := (q, h, nm, σ0 6 3, σ0 6 4)) (by show tkq b N mo q = 8; omega)]; exact o97) | (rw [lin_9 (z := (q, h, nm, σ0 6 3, σ0 6 4)) (by show tkq b N mo q = 9; omega)]; exact o102) | (rw [lin_10 (z := (q, h, nm, σ0 6 3, σ0 6 4)) (by show tkq b N mo q = 10; omega)]; exact o107) | (rw [lin_11 (z := (q, h, nm, σ0 6 3, σ0 6 4)) (by show tkq b N mo q = 11; omega)]; exact o112) | (rw [lin_12 (z := (q, h, nm, σ0 6 3, σ0 6 4)) (by show tkq b N mo q = 12; omega)]; exact o117) | (rw [lin_13 (z := (q, h, nm, σ0 6 3, σ0 6 4)) (by show tkq b N mo q = 13; omega)]; exact o122) | exact RO.ofk (lin_x (z := (q, h, nm, σ0 6 3, σ0 6 4)) (by show tkq b N mo q < 0 ∨ (2 < tkq b N mo q ∧ tkq b N mo q < 7) ∨ 13 < tkq b N mo q; omega)) (by omega) (by omega) (by omega), by omega⟩)
  by_cases c13 : (σ0 1 9).toInt = 5
  · refine lv_tableIn (off := 119) (tgt := 126) hx hb dX10_readLine_7 (by omega) (by omega) (by rw [c13]; rfl) (by decide) ?_
    refine lv_aload_n hx hb dX10_readLine_126 rfl (lv_at hl 0 rfl) ?_
    refine fg_10_0 (k := 6) hx hb hts in_X10_readLine_10 hown hK hP (by decide) (by decide) (hts _ lk_X10_readLine_9) dX10_readLine_127 ?_
    refine r_iconst hx hb dX10_readLine_130 (by decide) (fun z14 ez14 => ?_)
    refine r_cVi (k := 1) (As := [.int z14]) (rest := []) ⟨hx, hb, hml, hown, hts⟩ hK hP hN hS (c_X8_blame_v l D cA ad hI σ0 τ0 hR z14 _ _ _ _ (by omega) gCT) (cwV 1 hts gX10_readLine_X8_blame rfl rfl rfl (by decide +kernel) ⟨by decide, by decide⟩) (rv_Tape hK hP (by decide) (by decide)) rfl hl.1 rfl (Nat.le_of_ble_eq_true rfl) dX10_readLine_131 (Nat.zero_le _) (Nat.zero_le _) (fun r15 u15 H15 locs15 hp15 hP hS => ?_)
    obtain ⟨σ15, τ15⟩ := u15
    obtain ⟨hR, f15, fL15, hq15, hp15_0, hp15_1, hp15_2, gnCT⟩ : P_X8_blame_v σ0 τ0 z14 _ _ _ _ r15 σ15 τ15 := hp15
    have hP : va_P D vwCl (gw cA ad σ15 τ15) H15 := hP
    obtain rfl := FrL.nil fL15
    have hF := hF.step f15 (by decide)
    have gCF := gCF.ag (Agr.fr f15 (by decide))
    have gCM := gCM.ag (Agr.fr f15 (by decide))
    have gCS := gCS.ag (Agr.fr f15 (by decide))
    have gCT := gCT.ag (Agr.fr f15 (by decide))
    exact r_zret hx hb hr hK hP hS hk (by omega) dX10_readLine_134 (show P_X10_readLine σ0 τ0 b N mo q h nm r15 σ15 τ0 from ⟨hR, hF, hFL, by omega, by first | (rw [lin_0 (z := (q, h, nm, σ0 6 3, σ0 6 4)) (by show tkq b N mo q = 0; omega)]; exact o77) | (rw [lin_1 (z := (q, h, nm, σ0 6 3, σ0 6 4)) (by show tkq b N mo q = 1; omega)]; exact o82) | (rw [lin_2 (z := (q, h, nm, σ0 6 3, σ0 6 4)) (by show tkq b N mo q = 2; omega)]; exact o87) | (rw [lin_7 (z := (q, h, nm, σ0 6 3, σ0 6 4)) (by show tkq b N mo q = 7; omega)]; exact o92) | (rw [lin_8 (z := (q, h, nm, σ0 6 3, σ0 6 4)) (by show tkq b N mo q = 8; omega)]; exact o97) | (rw [lin_9 (z := (q, h, nm, σ0 6 3, σ0 6 4)) (by show tkq b N mo q = 9; omega)]; exact o102) | (rw [lin_10 (z := (q, h, nm, σ0 6 3, σ0 6 4)) (by show tkq b N mo q = 10; omega)]; exact o107) | (rw [lin_11 (z := (q, h, nm, σ0 6 3, σ0 6 4)) (by show tkq b N mo q = 11; omega)]; exact o112) | (rw [lin_12 (z := (q, h, nm, σ0 6 3, σ0 6 4)) (by show tkq b N mo q = 12; omega)]; exact o117) | (rw [lin_13 (z := (q, h, nm, σ0 6 3, σ0 6 4)) (by show tkq b N mo q = 13; omega)]; exact o122) | exact RO.ofk (lin_x (z := (q, h, nm, σ0 6 3, σ0 6 4)) (by show tkq b N mo q < 0 ∨ (2 < tkq b N mo q ∧ tkq b N mo q < 7) ∨ 13 < tkq b N mo q; omega)) (by omega) (by omega) (by omega), by omega⟩)
  by_cases c16 : (σ0 1 9).toInt = 6
  · refine lv_tableIn (off := 119) (tgt := 126) hx hb dX10_readLine_7 (by omega) (by omega) (by rw [c16]; rfl) (by decide) ?_
    refine lv_aload_n hx hb dX10_readLine_126 rfl (lv_at hl 0 rfl) ?_
    refine fg_10_0 (k := 6) hx hb hts in_X10_readLine_10 hown hK hP (by decide) (by decide) (hts _ lk_X10_readLine_9) dX10_readLine_127 ?_
    refine r_iconst hx hb dX10_readLine_130 (by decide) (fun z17 ez17 => ?_)
    refine r_cVi (k := 1) (As := [.int z17]) (rest := []) ⟨hx, hb, hml, hown, hts⟩ hK hP hN hS (c_X8_blame_v l D cA ad hI σ0 τ0 hR z17 _ _ _ _ (by omega) gCT) (cwV 1 hts gX10_readLine_X8_blame rfl rfl rfl (by decide +kernel) ⟨by decide, by decide⟩) (rv_Tape hK hP (by decide) (by decide)) rfl hl.1 rfl (Nat.le_of_ble_eq_true rfl) dX10_readLine_131 (Nat.zero_le _) (Nat.zero_le _) (fun r18 u18 H18 locs18 hp18 hP hS => ?_)
    obtain ⟨σ18, τ18⟩ := u18
    obtain ⟨hR, f18, fL18, hq18, hp18_0, hp18_1, hp18_2, gnCT⟩ : P_X8_blame_v σ0 τ0 z17 _ _ _ _ r18 σ18 τ18 := hp18
    have hP : va_P D vwCl (gw cA ad σ18 τ18) H18 := hP
    obtain rfl := FrL.nil fL18
    have hF := hF.step f18 (by decide)
    have gCF := gCF.ag (Agr.fr f18 (by decide))
    have gCM := gCM.ag (Agr.fr f18 (by decide))
    have gCS := gCS.ag (Agr.fr f18 (by decide))
    have gCT := gCT.ag (Agr.fr f18 (by decide))
    exact r_zret hx hb hr hK hP hS hk (by omega) dX10_readLine_134 (show P_X10_readLine σ0 τ0 b N mo q h nm r18 σ18 τ0 from ⟨hR, hF, hFL, by omega, by first | (rw [lin_0 (z := (q, h, nm, σ0 6 3, σ0 6 4)) (by show tkq b N mo q = 0; omega)]; exact o77) | (rw [lin_1 (z := (q, h, nm, σ0 6 3, σ0 6 4)) (by show tkq b N mo q = 1; omega)]; exact o82) | (rw [lin_2 (z := (q, h, nm, σ0 6 3, σ0 6 4)) (by show tkq b N mo q = 2; omega)]; exact o87) | (rw [lin_7 (z := (q, h, nm, σ0 6 3, σ0 6 4)) (by show tkq b N mo q = 7; omega)]; exact o92) | (rw [lin_8 (z := (q, h, nm, σ0 6 3, σ0 6 4)) (by show tkq b N mo q = 8; omega)]; exact o97) | (rw [lin_9 (z := (q, h, nm, σ0 6 3, σ0 6 4)) (by show tkq b N mo q = 9; omega)]; exact o102) | (rw [lin_10 (z := (q, h, nm, σ0 6 3, σ0 6 4)) (by show tkq b N mo q = 10; omega)]; exact o107) | (rw [lin_11 (z := (q, h, nm, σ0 6 3, σ0 6 4)) (by show tkq b N mo q = 11; omega)]; exact o112) | (rw [lin_12 (z := (q, h, nm, σ0 6 3, σ0 6 4)) (by show tkq b N mo q = 12; omega)]; exact o117) | (rw [lin_13 (z := (q, h, nm, σ0 6 3, σ0 6 4)) (by show tkq b N mo q = 13; omega)]; exact o122) | exact RO.ofk (lin_x (z := (q, h, nm, σ0 6 3, σ0 6 4)) (by show tkq b N mo q < 0 ∨ (2 < tkq b N mo q ∧ tkq b N mo q < 7) ∨ 13 < tkq b N mo q; omega)) (by omega) (by omega) (by omega), by omega⟩)
  by_cases c19 : (σ0 1 9).toInt = 7
  · refine lv_tableIn (off := 84) (tgt := 91) hx hb dX10_readLine_7 (by omega) (by omega) (by rw [c19]; rfl) (by decide) ?_
    refine lv_aload_n hx hb dX10_readLine_91 rfl (lv_at hl 0 rfl) ?_
    refine r_cVi (k := 6) (As := []) (rest := []) ⟨hx, hb, hml, hown, hts⟩ hK hP hN hS (c_X10_readHill l D cA ad hI σ0 τ0 hR _ _ _ _ _ _ gCT gCN gCS gCM gCF) (cwV 0 hts gX10_readLine_X10_readHill rfl rfl rfl (by decide +kernel) ⟨by decide, by decide⟩) (rv_VText hK hP (by decide) (by decide)) rfl hl.1 rfl (Nat.le_of_ble_eq_true rfl) dX10_readLine_92 (Nat.zero_le _) (Nat.zero_le _) (fun r20 u20 H20 locs20 hp20 hP hS => ?_)
    obtain ⟨σ20, τ20⟩ := u20
    obtain ⟨hR, f20, fL20, hq20, hp20_0, hp20_1⟩ : P_X10_readHill σ0 τ0 _ _ _ _ _ _ r20 σ20 τ20 := hp20
    have o92 := hp20_0
    have hP : va_P D vwCl (gw cA ad σ20 τ20) H20 := hP
    have hFL := hFL.step fL20 (by decide)
    have hF := hF.step f20 (by decide)
    have gCF := gCF.ag (Agr.fr f20 (by decide))
    have gCM := gCM.ag (Agr.fr f20 (by decide))
    exact r_zret hx hb hr hK hP hS hk (by omega) dX10_readLine_95 (show P_X10_readLine σ0 τ0 b N mo q h nm r20 σ20 τ20 from ⟨hR, hF, hFL, by omega, by first | (rw [lin_0 (z := (q, h, nm, σ0 6 3, σ0 6 4)) (by show tkq b N mo q = 0; omega)]; exact o77) | (rw [lin_1 (z := (q, h, nm, σ0 6 3, σ0 6 4)) (by show tkq b N mo q = 1; omega)]; exact o82) | (rw [lin_2 (z := (q, h, nm, σ0 6 3, σ0 6 4)) (by show tkq b N mo q = 2; omega)]; exact o87) | (rw [lin_7 (z := (q, h, nm, σ0 6 3, σ0 6 4)) (by show tkq b N mo q = 7; omega)]; exact o92) | (rw [lin_8 (z := (q, h, nm, σ0 6 3, σ0 6 4)) (by show tkq b N mo q = 8; omega)]; exact o97) | (rw [lin_9 (z := (q, h, nm, σ0 6 3, σ0 6 4)) (by show tkq b N mo q = 9; omega)]; exact o102) | (rw [lin_10 (z := (q, h, nm, σ0 6 3, σ0 6 4)) (by show tkq b N mo q = 10; omega)]; exact o107) | (rw [lin_11 (z := (q, h, nm, σ0 6 3, σ0 6 4)) (by show tkq b N mo q = 11; omega)]; exact o112) | (rw [lin_12 (z := (q, h, nm, σ0 6 3, σ0 6 4)) (by show tkq b N mo q = 12; omega)]; exact o117) | (rw [lin_13 (z := (q, h, nm, σ0 6 3, σ0 6 4)) (by show tkq b N mo q = 13; omega)]; exact o122) | exact RO.ofk (lin_x (z := (q, h, nm, σ0 6 3, σ0 6 4)) (by show tkq b N mo q < 0 ∨ (2 < tkq b N mo q ∧ tkq b N mo q < 7) ∨ 13 < tkq b N mo q; omega)) (by omega) (by omega) (by omega), by omega⟩)
  by_cases c21 : (σ0 1 9).toInt = 8
  · refine lv_tableIn (off := 89) (tgt := 96) hx hb dX10_readLine_7 (by omega) (by omega) (by rw [c21]; rfl) (by decide) ?_
    refine lv_aload_n hx hb dX10_readLine_96 rfl (lv_at hl 0 rfl) ?_
    refine r_cVi (k := 6) (As := []) (rest := []) ⟨hx, hb, hml, hown, hts⟩ hK hP hN hS (c_X10_readFall l D cA ad hI σ0 τ0 hR _ _ _ _ _ _ gCT gCN gCS gCM gCF) (cwV 0 hts gX10_readLine_X10_readFall rfl rfl rfl (by decide +kernel) ⟨by decide, by decide⟩) (rv_VText hK hP (by decide) (by decide)) rfl hl.1 rfl (Nat.le_of_ble_eq_true rfl) dX10_readLine_97 (Nat.zero_le _) (Nat.zero_le _) (fun r22 u22 H22 locs22 hp22 hP hS => ?_)
    obtain ⟨σ22, τ22⟩ := u22
    obtain ⟨hR, f22, fL22, hq22, hp22_0, hp22_1⟩ : P_X10_readFall σ0 τ0 _ _ _ _ _ _ r22 σ22 τ22 := hp22
    have o97 := hp22_0
    have hP : va_P D vwCl (gw cA ad σ22 τ22) H22 := hP
    have hFL := hFL.step fL22 (by decide)
    have gCN := gCN.agL (AgrL.fr fL22 (by decide))
    have hF := hF.step f22 (by decide)
    have gCF := gCF.ag (Agr.fr f22 (by decide))
    have gCM := gCM.ag (Agr.fr f22 (by decide))
    have gCS := gCS.ag (Agr.fr f22 (by decide))
    exact r_zret hx hb hr hK hP hS hk (by omega) dX10_readLine_100 (show P_X10_readLine σ0 τ0 b N mo q h nm r22 σ22 τ22 from ⟨hR, hF, hFL, by omega, by first | (rw [lin_0 (z := (q, h, nm, σ0 6 3, σ0 6 4)) (by show tkq b N mo q = 0; omega)]; exact o77) | (rw [lin_1 (z := (q, h, nm, σ0 6 3, σ0 6 4)) (by show tkq b N mo q = 1; omega)]; exact o82) | (rw [lin_2 (z := (q, h, nm, σ0 6 3, σ0 6 4)) (by show tkq b N mo q = 2; omega)]; exact o87) | (rw [lin_7 (z := (q, h, nm, σ0 6 3, σ0 6 4)) (by show tkq b N mo q = 7; omega)]; exact o92) | (rw [lin_8 (z := (q, h, nm, σ0 6 3, σ0 6 4)) (by show tkq b N mo q = 8; omega)]; exact o97) | (rw [lin_9 (z := (q, h, nm, σ0 6 3, σ0 6 4)) (by show tkq b N mo q = 9; omega)]; exact o102) | (rw [lin_10 (z := (q, h, nm, σ0 6 3, σ0 6 4)) (by show tkq b N mo q = 10; omega)]; exact o107) | (rw [lin_11 (z := (q, h, nm, σ0 6 3, σ0 6 4)) (by show tkq b N mo q = 11; omega)]; exact o112) | (rw [lin_12 (z := (q, h, nm, σ0 6 3, σ0 6 4)) (by show tkq b N mo q = 12; omega)]; exact o117) | (rw [lin_13 (z := (q, h, nm, σ0 6 3, σ0 6 4)) (by show tkq b N mo q = 13; omega)]; exact o122) | exact RO.ofk (lin_x (z := (q, h, nm, σ0 6 3, σ0 6 4)) (by show tkq b N mo q < 0 ∨ (2 < tkq b N mo q ∧ tkq b N mo q < 7) ∨ 13 < tkq b N mo q; omega)) (by omega) (by omega) (by omega), by omega⟩)
  by_cases c23 : (σ0 1 9).toInt = 9
  · refine lv_tableIn (off := 94) (tgt := 101) hx hb dX10_readLine_7 (by omega) (by omega) (by rw [c23]; rfl) (by decide) ?_
    refine lv_aload_n hx hb dX10_readLine_101 rfl (lv_at hl 0 rfl) ?_
    refine r_cVi (k := 6) (As := []) (rest := []) ⟨hx, hb, hml, hown, hts⟩ hK hP hN hS (c_X10_readMan l D cA ad hI σ0 τ0 hR _ _ _ _ _ _ gCT gCN gCS gCM gCF) (cwV 0 hts gX10_readLine_X10_readMan rfl rfl rfl (by decide +kernel) ⟨by decide, by decide⟩) (rv_VText hK hP (by decide) (by decide)) rfl hl.1 rfl (Nat.le_of_ble_eq_true rfl) dX10_readLine_102 (Nat.zero_le _) (Nat.zero_le _) (fun r24 u24 H24 locs24 hp24 hP hS => ?_)
    obtain ⟨σ24, τ24⟩ := u24
    obtain ⟨hR, f24, fL24, hq24, hp24_0, hp24_1⟩ : P_X10_readMan σ0 τ0 _ _ _ _ _ _ r24 σ24 τ24 := hp24
    have o102 := hp24_0
    have hP : va_P D vwCl (gw cA ad σ24 τ24) H24 := hP
    have hFL := hFL.step fL24 (by decide)
    have hF := hF.step f24 (by decide)
    have gCF := gCF.ag (Agr.fr f24 (by decide))
    exact r_zret hx hb hr hK hP hS hk (by omega) dX10_readLine_105 (show P_X10_readLine σ0 τ0 b N mo q h nm r24 σ24 τ24 from ⟨hR, hF, hFL, by omega, by first | (rw [lin_0 (z := (q, h, nm, σ0 6 3, σ0 6 4)) (by show tkq b N mo q = 0; omega)]; exact o77) | (rw [lin_1 (z := (q, h, nm, σ0 6 3, σ0 6 4)) (by show tkq b N mo q = 1; omega)]; exact o82) | (rw [lin_2 (z := (q, h, nm, σ0 6 3, σ0 6 4)) (by show tkq b N mo q = 2; omega)]; exact o87) | (rw [lin_7 (z := (q, h, nm, σ0 6 3, σ0 6 4)) (by show tkq b N mo q = 7; omega)]; exact o92) | (rw [lin_8 (z := (q, h, nm, σ0 6 3, σ0 6 4)) (by show tkq b N mo q = 8; omega)]; exact o97) | (rw [lin_9 (z := (q, h, nm, σ0 6 3, σ0 6 4)) (by show tkq b N mo q = 9; omega)]; exact o102) | (rw [lin_10 (z := (q, h, nm, σ0 6 3, σ0 6 4)) (by show tkq b N mo q = 10; omega)]; exact o107) | (rw [lin_11 (z := (q, h, nm, σ0 6 3, σ0 6 4)) (by show tkq b N mo q = 11; omega)]; exact o112) | (rw [lin_12 (z := (q, h, nm, σ0 6 3, σ0 6 4)) (by show tkq b N mo q = 12; omega)]; exact o117) | (rw [lin_13 (z := (q, h, nm, σ0 6 3, σ0 6 4)) (by show tkq b N mo q = 13; omega)]; exact o122) | exact RO.ofk (lin_x (z := (q, h, nm, σ0 6 3, σ0 6 4)) (by show tkq b N mo q < 0 ∨ (2 < tkq b N mo q ∧ tkq b N mo q < 7) ∨ 13 < tkq b N mo q; omega)) (by omega) (by omega) (by omega), by omega⟩)
  by_cases c25 : (σ0 1 9).toInt = 10
  · refine lv_tableIn (off := 99) (tgt := 106) hx hb dX10_readLine_7 (by omega) (by omega) (by rw [c25]; rfl) (by decide) ?_
    refine lv_aload_n hx hb dX10_readLine_106 rfl (lv_at hl 0 rfl) ?_
    refine r_cVi (k := 6) (As := []) (rest := []) ⟨hx, hb, hml, hown, hts⟩ hK hP hN hS (c_X10_readOld l D cA ad hI σ0 τ0 hR _ _ _ _ _ _ gCT gCN gCS gCM gCF) (cwV 0 hts gX10_readLine_X10_readOld rfl rfl rfl (by decide +kernel) ⟨by decide, by decide⟩) (rv_VText hK hP (by decide) (by decide)) rfl hl.1 rfl (Nat.le_of_ble_eq_true rfl) dX10_readLine_107 (Nat.zero_le _) (Nat.zero_le _) (fun r26 u26 H26 locs26 hp26 hP hS => ?_)
    obtain ⟨σ26, τ26⟩ := u26
    obtain ⟨hR, f26, fL26, hq26, hp26_0, hp26_1⟩ : P_X10_readOld σ0 τ0 _ _ _ _ _ _ r26 σ26 τ26 := hp26
    have o107 := hp26_0
    have hP : va_P D vwCl (gw cA ad σ26 τ26) H26 := hP
    have hFL := hFL.step fL26 (by decide)
    have gCN := gCN.agL (AgrL.fr fL26 (by decide))
    have hF := hF.step f26 (by decide)
    have gCF := gCF.ag (Agr.fr f26 (by decide))
    have gCS := gCS.ag (Agr.fr f26 (by decide))
    exact r_zret hx hb hr hK hP hS hk (by omega) dX10_readLine_110 (show P_X10_readLine σ0 τ0 b N mo q h nm r26 σ26 τ26 from ⟨hR, hF, hFL, by omega, by first | (rw [lin_0 (z := (q, h, nm, σ0 6 3, σ0 6 4)) (by show tkq b N mo q = 0; omega)]; exact o77) | (rw [lin_1 (z := (q, h, nm, σ0 6 3, σ0 6 4)) (by show tkq b N mo q = 1; omega)]; exact o82) | (rw [lin_2 (z := (q, h, nm, σ0 6 3, σ0 6 4)) (by show tkq b N mo q = 2; omega)]; exact o87) | (rw [lin_7 (z := (q, h, nm, σ0 6 3, σ0 6 4)) (by show tkq b N mo q = 7; omega)]; exact o92) | (rw [lin_8 (z := (q, h, nm, σ0 6 3, σ0 6 4)) (by show tkq b N mo q = 8; omega)]; exact o97) | (rw [lin_9 (z := (q, h, nm, σ0 6 3, σ0 6 4)) (by show tkq b N mo q = 9; omega)]; exact o102) | (rw [lin_10 (z := (q, h, nm, σ0 6 3, σ0 6 4)) (by show tkq b N mo q = 10; omega)]; exact o107) | (rw [lin_11 (z := (q, h, nm, σ0 6 3, σ0 6 4)) (by show tkq b N mo q = 11; omega)]; exact o112) | (rw [lin_12 (z := (q, h, nm, σ0 6 3, σ0 6 4)) (by show tkq b N mo q = 12; omega)]; exact o117) | (rw [lin_13 (z := (q, h, nm, σ0 6 3, σ0 6 4)) (by show tkq b N mo q = 13; omega)]; exact o122) | exact RO.ofk (lin_x (z := (q, h, nm, σ0 6 3, σ0 6 4)) (by show tkq b N mo q < 0 ∨ (2 < tkq b N mo q ∧ tkq b N mo q < 7) ∨ 13 < tkq b N mo q; omega)) (by omega) (by omega) (by omega), by omega⟩)
  by_cases c27 : (σ0 1 9).toInt = 11
  · refine lv_tableIn (off := 104) (tgt := 111) hx hb dX10_readLine_7 (by omega) (by omega) (by rw [c27]; rfl) (by decide) ?_
    refine lv_aload_n hx hb dX10_readLine_111 rfl (lv_at hl 0 rfl) ?_
    refine r_cVi (k := 6) (As := []) (rest := []) ⟨hx, hb, hml, hown, hts⟩ hK hP hN hS (c_X10_readDeaf l D cA ad hI σ0 τ0 hR _ _ _ _ _ _ gCT gCN gCS gCM gCF) (cwV 0 hts gX10_readLine_X10_readDeaf rfl rfl rfl (by decide +kernel) ⟨by decide, by decide⟩) (rv_VText hK hP (by decide) (by decide)) rfl hl.1 rfl (Nat.le_of_ble_eq_true rfl) dX10_readLine_112 (Nat.zero_le _) (Nat.zero_le _) (fun r28 u28 H28 locs28 hp28 hP hS => ?_)
    obtain ⟨σ28, τ28⟩ := u28
    obtain ⟨hR, f28, fL28, hq28, hp28_0, hp28_1⟩ : P_X10_readDeaf σ0 τ0 _ _ _ _ _ _ r28 σ28 τ28 := hp28
    have o112 := hp28_0
    have hP : va_P D vwCl (gw cA ad σ28 τ28) H28 := hP
    have hFL := hFL.step fL28 (by decide)
    have gCN := gCN.agL (AgrL.fr fL28 (by decide))
    have hF := hF.step f28 (by decide)
    have gCF := gCF.ag (Agr.fr f28 (by decide))
    have gCS := gCS.ag (Agr.fr f28 (by decide))
    exact r_zret hx hb hr hK hP hS hk (by omega) dX10_readLine_115 (show P_X10_readLine σ0 τ0 b N mo q h nm r28 σ28 τ28 from ⟨hR, hF, hFL, by omega, by first | (rw [lin_0 (z := (q, h, nm, σ0 6 3, σ0 6 4)) (by show tkq b N mo q = 0; omega)]; exact o77) | (rw [lin_1 (z := (q, h, nm, σ0 6 3, σ0 6 4)) (by show tkq b N mo q = 1; omega)]; exact o82) | (rw [lin_2 (z := (q, h, nm, σ0 6 3, σ0 6 4)) (by show tkq b N mo q = 2; omega)]; exact o87) | (rw [lin_7 (z := (q, h, nm, σ0 6 3, σ0 6 4)) (by show tkq b N mo q = 7; omega)]; exact o92) | (rw [lin_8 (z := (q, h, nm, σ0 6 3, σ0 6 4)) (by show tkq b N mo q = 8; omega)]; exact o97) | (rw [lin_9 (z := (q, h, nm, σ0 6 3, σ0 6 4)) (by show tkq b N mo q = 9; omega)]; exact o102) | (rw [lin_10 (z := (q, h, nm, σ0 6 3, σ0 6 4)) (by show tkq b N mo q = 10; omega)]; exact o107) | (rw [lin_11 (z := (q, h, nm, σ0 6 3, σ0 6 4)) (by show tkq b N mo q = 11; omega)]; exact o112) | (rw [lin_12 (z := (q, h, nm, σ0 6 3, σ0 6 4)) (by show tkq b N mo q = 12; omega)]; exact o117) | (rw [lin_13 (z := (q, h, nm, σ0 6 3, σ0 6 4)) (by show tkq b N mo q = 13; omega)]; exact o122) | exact RO.ofk (lin_x (z := (q, h, nm, σ0 6 3, σ0 6 4)) (by show tkq b N mo q < 0 ∨ (2 < tkq b N mo q ∧ tkq b N mo q < 7) ∨ 13 < tkq b N mo q; omega)) (by omega) (by omega) (by omega), by omega⟩)
  by_cases c29 : (σ0 1 9).toInt = 12
  · refine lv_tableIn (off := 109) (tgt := 116) hx hb dX10_readLine_7 (by omega) (by omega) (by rw [c29]; rfl) (by decide) ?_
    refine lv_aload_n hx hb dX10_readLine_116 rfl (lv_at hl 0 rfl) ?_
    refine r_cVi (k := 6) (As := []) (rest := []) ⟨hx, hb, hml, hown, hts⟩ hK hP hN hS (c_X10_readNeeds l D cA ad hI σ0 τ0 hR _ _ _ _ _ _ gCT gCN gCS gCM gCF) (cwV 0 hts gX10_readLine_X10_readNeeds rfl rfl rfl (by decide +kernel) ⟨by decide, by decide⟩) (rv_VText hK hP (by decide) (by decide)) rfl hl.1 rfl (Nat.le_of_ble_eq_true rfl) dX10_readLine_117 (Nat.zero_le _) (Nat.zero_le _) (fun r30 u30 H30 locs30 hp30 hP hS => ?_)
    obtain ⟨σ30, τ30⟩ := u30
    obtain ⟨hR, f30, fL30, hq30, hp30_0, hp30_1⟩ : P_X10_readNeeds σ0 τ0 _ _ _ _ _ _ r30 σ30 τ30 := hp30
    have o117 := hp30_0
    have hP : va_P D vwCl (gw cA ad σ30 τ30) H30 := hP
    have hFL := hFL.step fL30 (by decide)
    have gCN := gCN.agL (AgrL.fr fL30 (by decide))
    have hF := hF.step f30 (by decide)
    have gCF := gCF.ag (Agr.fr f30 (by decide))
    have gCS := gCS.ag (Agr.fr f30 (by decide))
    exact r_zret hx hb hr hK hP hS hk (by omega) dX10_readLine_120 (show P_X10_readLine σ0 τ0 b N mo q h nm r30 σ30 τ30 from ⟨hR, hF, hFL, by omega, by first | (rw [lin_0 (z := (q, h, nm, σ0 6 3, σ0 6 4)) (by show tkq b N mo q = 0; omega)]; exact o77) | (rw [lin_1 (z := (q, h, nm, σ0 6 3, σ0 6 4)) (by show tkq b N mo q = 1; omega)]; exact o82) | (rw [lin_2 (z := (q, h, nm, σ0 6 3, σ0 6 4)) (by show tkq b N mo q = 2; omega)]; exact o87) | (rw [lin_7 (z := (q, h, nm, σ0 6 3, σ0 6 4)) (by show tkq b N mo q = 7; omega)]; exact o92) | (rw [lin_8 (z := (q, h, nm, σ0 6 3, σ0 6 4)) (by show tkq b N mo q = 8; omega)]; exact o97) | (rw [lin_9 (z := (q, h, nm, σ0 6 3, σ0 6 4)) (by show tkq b N mo q = 9; omega)]; exact o102) | (rw [lin_10 (z := (q, h, nm, σ0 6 3, σ0 6 4)) (by show tkq b N mo q = 10; omega)]; exact o107) | (rw [lin_11 (z := (q, h, nm, σ0 6 3, σ0 6 4)) (by show tkq b N mo q = 11; omega)]; exact o112) | (rw [lin_12 (z := (q, h, nm, σ0 6 3, σ0 6 4)) (by show tkq b N mo q = 12; omega)]; exact o117) | (rw [lin_13 (z := (q, h, nm, σ0 6 3, σ0 6 4)) (by show tkq b N mo q = 13; omega)]; exact o122) | exact RO.ofk (lin_x (z := (q, h, nm, σ0 6 3, σ0 6 4)) (by show tkq b N mo q < 0 ∨ (2 < tkq b N mo q ∧ tkq b N mo q < 7) ∨ 13 < tkq b N mo q; omega)) (by omega) (by omega) (by omega), by omega⟩)
  by_cases c31 : (σ0 1 9).toInt = 13
  · refine lv_tableIn (off := 114) (tgt := 121) hx hb dX10_readLine_7 (by omega) (by omega) (by rw [c31]; rfl) (by decide) ?_
    refine lv_aload_n hx hb dX10_readLine_121 rfl (lv_at hl 0 rfl) ?_
    refine r_cVi (k := 6) (As := []) (rest := []) ⟨hx, hb, hml, hown, hts⟩ hK hP hN hS (c_X10_readFlight l D cA ad hI σ0 τ0 hR _ _ _ _ _ _ gCT gCN gCS gCM gCF) (cwV 0 hts gX10_readLine_X10_readFlight rfl rfl rfl (by decide +kernel) ⟨by decide, by decide⟩) (rv_VText hK hP (by decide) (by decide)) rfl hl.1 rfl (Nat.le_of_ble_eq_true rfl) dX10_readLine_122 (Nat.zero_le _) (Nat.zero_le _) (fun r32 u32 H32 locs32 hp32 hP hS => ?_)
    obtain ⟨σ32, τ32⟩ := u32
    obtain ⟨hR, f32, fL32, hq32, hp32_0, hp32_1⟩ : P_X10_readFlight σ0 τ0 _ _ _ _ _ _ r32 σ32 τ32 := hp32
    have o122 := hp32_0
    have hP : va_P D vwCl (gw cA ad σ32 τ32) H32 := hP
    have hFL := hFL.step fL32 (by decide)
    have gCN := gCN.agL (AgrL.fr fL32 (by decide))
    have hF := hF.step f32 (by decide)
    have gCM := gCM.ag (Agr.fr f32 (by decide))
    exact r_zret hx hb hr hK hP hS hk (by omega) dX10_readLine_125 (show P_X10_readLine σ0 τ0 b N mo q h nm r32 σ32 τ32 from ⟨hR, hF, hFL, by omega, by first | (rw [lin_0 (z := (q, h, nm, σ0 6 3, σ0 6 4)) (by show tkq b N mo q = 0; omega)]; exact o77) | (rw [lin_1 (z := (q, h, nm, σ0 6 3, σ0 6 4)) (by show tkq b N mo q = 1; omega)]; exact o82) | (rw [lin_2 (z := (q, h, nm, σ0 6 3, σ0 6 4)) (by show tkq b N mo q = 2; omega)]; exact o87) | (rw [lin_7 (z := (q, h, nm, σ0 6 3, σ0 6 4)) (by show tkq b N mo q = 7; omega)]; exact o92) | (rw [lin_8 (z := (q, h, nm, σ0 6 3, σ0 6 4)) (by show tkq b N mo q = 8; omega)]; exact o97) | (rw [lin_9 (z := (q, h, nm, σ0 6 3, σ0 6 4)) (by show tkq b N mo q = 9; omega)]; exact o102) | (rw [lin_10 (z := (q, h, nm, σ0 6 3, σ0 6 4)) (by show tkq b N mo q = 10; omega)]; exact o107) | (rw [lin_11 (z := (q, h, nm, σ0 6 3, σ0 6 4)) (by show tkq b N mo q = 11; omega)]; exact o112) | (rw [lin_12 (z := (q, h, nm, σ0 6 3, σ0 6 4)) (by show tkq b N mo q = 12; omega)]; exact o117) | (rw [lin_13 (z := (q, h, nm, σ0 6 3, σ0 6 4)) (by show tkq b N mo q = 13; omega)]; exact o122) | exact RO.ofk (lin_x (z := (q, h, nm, σ0 6 3, σ0 6 4)) (by show tkq b N mo q < 0 ∨ (2 < tkq b N mo q ∧ tkq b N mo q < 7) ∨ 13 < tkq b N mo q; omega)) (by omega) (by omega) (by omega), by omega⟩)
  refine lv_tableOut (tgt := 126) hx hb dX10_readLine_7 (by omega) (by decide) ?_
  refine lv_aload_n hx hb dX10_readLine_126 rfl (lv_at hl 0 rfl) ?_
  refine fg_10_0 (k := 6) hx hb hts in_X10_readLine_10 hown hK hP (by decide) (by decide) (hts _ lk_X10_readLine_9) dX10_readLine_127 ?_
  refine r_iconst hx hb dX10_readLine_130 (by decide) (fun z33 ez33 => ?_)
  refine r_cVi (k := 1) (As := [.int z33]) (rest := []) ⟨hx, hb, hml, hown, hts⟩ hK hP hN hS (c_X8_blame_v l D cA ad hI σ0 τ0 hR z33 _ _ _ _ (by omega) gCT) (cwV 1 hts gX10_readLine_X8_blame rfl rfl rfl (by decide +kernel) ⟨by decide, by decide⟩) (rv_Tape hK hP (by decide) (by decide)) rfl hl.1 rfl (Nat.le_of_ble_eq_true rfl) dX10_readLine_131 (Nat.zero_le _) (Nat.zero_le _) (fun r34 u34 H34 locs34 hp34 hP hS => ?_)
  obtain ⟨σ34, τ34⟩ := u34
  obtain ⟨hR, f34, fL34, hq34, hp34_0, hp34_1, hp34_2, gnCT⟩ : P_X8_blame_v σ0 τ0 z33 _ _ _ _ r34 σ34 τ34 := hp34
  have hP : va_P D vwCl (gw cA ad σ34 τ34) H34 := hP
  obtain rfl := FrL.nil fL34
  have hF := hF.step f34 (by decide)
  have gCF := gCF.ag (Agr.fr f34 (by decide))
  have gCM := gCM.ag (Agr.fr f34 (by decide))
  have gCS := gCS.ag (Agr.fr f34 (by decide))
  have gCT := gCT.ag (Agr.fr f34 (by decide))
  exact r_zret hx hb hr hK hP hS hk (by omega) dX10_readLine_134 (show P_X10_readLine σ0 τ0 b N mo q h nm r34 σ34 τ0 from ⟨hR, hF, hFL, by omega, by first | (rw [lin_0 (z := (q, h, nm, σ0 6 3, σ0 6 4)) (by show tkq b N mo q = 0; omega)]; exact o77) | (rw [lin_1 (z := (q, h, nm, σ0 6 3, σ0 6 4)) (by show tkq b N mo q = 1; omega)]; exact o82) | (rw [lin_2 (z := (q, h, nm, σ0 6 3, σ0 6 4)) (by show tkq b N mo q = 2; omega)]; exact o87) | (rw [lin_7 (z := (q, h, nm, σ0 6 3, σ0 6 4)) (by show tkq b N mo q = 7; omega)]; exact o92) | (rw [lin_8 (z := (q, h, nm, σ0 6 3, σ0 6 4)) (by show tkq b N mo q = 8; omega)]; exact o97) | (rw [lin_9 (z := (q, h, nm, σ0 6 3, σ0 6 4)) (by show tkq b N mo q = 9; omega)]; exact o102) | (rw [lin_10 (z := (q, h, nm, σ0 6 3, σ0 6 4)) (by show tkq b N mo q = 10; omega)]; exact o107) | (rw [lin_11 (z := (q, h, nm, σ0 6 3, σ0 6 4)) (by show tkq b N mo q = 11; omega)]; exact o112) | (rw [lin_12 (z := (q, h, nm, σ0 6 3, σ0 6 4)) (by show tkq b N mo q = 12; omega)]; exact o117) | (rw [lin_13 (z := (q, h, nm, σ0 6 3, σ0 6 4)) (by show tkq b N mo q = 13; omega)]; exact o122) | exact RO.ofk (lin_x (z := (q, h, nm, σ0 6 3, σ0 6 4)) (by show tkq b N mo q < 0 ∨ (2 < tkq b N mo q ∧ tkq b N mo q < 7) ∨ 13 < tkq b N mo q; omega)) (by omega) (by omega) (by omega), by omega⟩)
theorem in_X8_take_8 : ∀ w ∈ u_ws RX8 TX8 15, w ∈ wsX8_take := by decide +kernel
theorem lk_X8_take_85 : Cond.fieldLink RX8 85 "CuckooShares$Tape" "token" "I" ∈ wsX8_take := by decide +kernel
abbrev L_X8_take_v : List Rc := [(1, 1, 7, 10), (1, 1, 13, 14)]
abbrev LL_X8_take_v : List Rc := [(1, 1, 11, 11)]
def P_X8_take_v (σ0 : Nat → Nat → Int32) (τ0 : Nat → Nat → Int64) (a1 : Int32) (b : Nat → Int) (N : Nat) (mo : Nat) (q : Nat) (kk : Int) (r : Int32) (σ : Nat → Nat → Int32) (τ : Nat → Nat → Int64) : Prop := Rg σ ∧ Fr L_X8_take_v σ0 σ ∧ FrL LL_X8_take_v τ0 τ ∧ (0 ≤ r.toInt ∧ r.toInt ≤ 1) ∧ (RO r σ (takP b N mo kk q) (fun q1 => CT σ τ b N mo q1)) ∧ (r.toInt = 0 ∨ (σ 1 13).toInt = (σ0 1 13).toInt)
set_option maxHeartbeats 4000000 in
theorem c_X8_take_v (l : Launch) (D : va_G) (cA : Nat → ClassId) (ad : Nat → Nat) (hI : Inj ad) (σ0 : Nat → Nat → Int32) (τ0 : Nat → Nat → Int64) (hR : Rg σ0) (a1 : Int32) (b : Nat → Int) (N : Nat) (mo : Nat) (q : Nat) (kk : Int) (ha1 : 40 ≤ a1.toInt ∧ a1.toInt ≤ 45) (hpre0 : a1.toInt = kk) (gCT0 : CT σ0 τ0 b N mo q) : Met l yX8_take wsX8_take ({ frames := 1, cells := 0, slots := 0, locals := 21 } : Room) (WQc D cA ad [.ref (ad 1), .int a1] σ0 τ0) (va_Qi (fun (r : Int32) (u : SS) => P_X8_take_v σ0 τ0 a1 b N mo q kk r u.1 u.2) (WB D cA ad) (AA ad)) 0 0 (AA ad) := by
  refine Met.ofW (cc := cX8_take) (maxL := 2) (ret := (some .boolean)) (by decide) rfl ?_
  intro p e s m args below meth c s₁ B hml hv
  obtain ⟨rfl, hP, hK, hN⟩ := hv
  have C : Cy p s m _ meth c cX8_take 2 wsX8_take RX8 D cA ad (some .boolean) := ⟨B.exec, B.bytes, hml, findClass_of_methodNamed B.named, atoms_spec (ws := wsX8_take) B.pre, hK, B.notSynchronized, B.returns, hI, hN⟩
  have hl := lv_entry ([.ref (ad 1), .int a1]) (n := 2) (Nat.le_of_ble_eq_true rfl)
  rw [lg_entry_eq]
  generalize (lg_sl ([.ref (ad 1), .int a1]) ++ List.replicate (2 - (lg_sl ([.ref (ad 1), .int a1])).length) Slot.unset).toArray = ls at hl ⊢
  have hl : lv_has ls 2 [(0, .ref (ad 1)), (1, .int a1)] := hl
  have hS : va_S (AA ad) s.heap s.heap [] := va_S.rf
  have hF : Fr L_X8_take_v σ0 σ0 := Fr.rf
  have hFL : FrL LL_X8_take_v τ0 τ0 := FrL.rf
  have gCT := gCT0
  obtain ⟨hx, hb, _, hown, hts, _, hk, hr, _, _⟩ := C
  have htk := gCT.tk
  refine lv_aload_n hx hb dX8_take_0 rfl (lv_at hl 0 rfl) ?_
  refine fg_8_9 (k := 1) hx hb hts in_X8_take_8 hown hK hP (by decide) (by decide) (hts _ lk_X8_take_85) dX8_take_1 ?_
  refine lv_iload_n hx hb dX8_take_4 rfl (lv_at hl 1 rfl) ?_
  refine r_icmp_eq (tgt := 14) hx hb dX8_take_5 (by decide) (fun c1 => ?_) (fun c1 => ?_)
  · refine lv_aload_n hx hb dX8_take_14 rfl (lv_at hl 0 rfl) ?_
    refine r_cVv (k := 1) (As := []) (rest := []) ⟨hx, hb, hml, hown, hts⟩ hK hP hN hS (c_X8_next_v l D cA ad hI σ0 τ0 hR _ _ _ _ gCT) (cwV 0 hts gX8_take_X8_next rfl rfl rfl (by decide +kernel) ⟨by decide, by decide⟩) (rv_Tape hK hP (by decide) (by decide)) rfl hl.1 rfl (Nat.le_of_ble_eq_true rfl) dX8_take_15 (Nat.zero_le _) (Nat.zero_le _) (fun u2 H2 locs2 hp2 hP hS => ?_)
    obtain ⟨σ2, τ2⟩ := u2
    obtain ⟨hR, f2, fL2, hp2_0⟩ : P_X8_next_v σ0 τ0 _ _ _ _ σ2 τ2 := hp2
    have hP : va_P D vwCl (gw cA ad σ2 τ2) H2 := hP
    have hFL := hFL.step fL2 (by decide)
    have hF := hF.step f2 (by decide)
    have t3 : (σ2 1 13).toInt = (σ0 1 13).toInt := congrArg Int32.toInt (f2.at 1 13 (by decide))
    have gCT := hp2_0
    refine r_iconst hx hb dX8_take_18 (by decide) (fun z4 ez4 => ?_)
    exact r_zret hx hb hr hK hP hS hk (by omega) dX8_take_19 (show P_X8_take_v σ0 τ0 a1 b N mo q kk z4 σ2 τ2 from ⟨hR, hF, hFL, by omega, by first | exact RO.ofk (by unfold takP; rw [if_pos (by omega)]) (by omega) (by omega) (by omega) | exact RO.ofr (by unfold takP; rw [if_neg (by omega)]) (by omega) gCT, by omega⟩)
  · refine lv_aload_n hx hb dX8_take_8 rfl (lv_at hl 0 rfl) ?_
    refine r_iconst hx hb dX8_take_9 (by decide) (fun z5 ez5 => ?_)
    refine r_cVi (k := 1) (As := [.int z5]) (rest := []) ⟨hx, hb, hml, hown, hts⟩ hK hP hN hS (c_X8_blame_v l D cA ad hI σ0 τ0 hR z5 _ _ _ _ (by omega) gCT) (cwV 1 hts gX8_take_X8_blame rfl rfl rfl (by decide +kernel) ⟨by decide, by decide⟩) (rv_Tape hK hP (by decide) (by decide)) rfl hl.1 rfl (Nat.le_of_ble_eq_true rfl) dX8_take_10 (Nat.zero_le _) (Nat.zero_le _) (fun r6 u6 H6 locs6 hp6 hP hS => ?_)
    obtain ⟨σ6, τ6⟩ := u6
    obtain ⟨hR, f6, fL6, hq6, hp6_0, hp6_1, hp6_2, gnCT⟩ : P_X8_blame_v σ0 τ0 z5 _ _ _ _ r6 σ6 τ6 := hp6
    have hP : va_P D vwCl (gw cA ad σ6 τ6) H6 := hP
    obtain rfl := FrL.nil fL6
    have hF := hF.step f6 (by decide)
    have gCT := gCT.ag (Agr.fr f6 (by decide))
    exact r_zret hx hb hr hK hP hS hk (by omega) dX8_take_13 (show P_X8_take_v σ0 τ0 a1 b N mo q kk r6 σ6 τ0 from ⟨hR, hF, hFL, by omega, by first | exact RO.ofk (by unfold takP; rw [if_pos (by omega)]) (by omega) (by omega) (by omega) | exact RO.ofr (by unfold takP; rw [if_neg (by omega)]) (by omega) gCT, by omega⟩)
theorem in_X9_clear_9 : ∀ w ∈ u_ws RX9 TX9 14, w ∈ wsX9_clear := by decide +kernel
theorem lk_X9_clear_36 : Cond.fieldLink RX9 36 "CuckooShares$Valley" "ridge" "I" ∈ wsX9_clear := by decide +kernel
theorem lk_X9_clear_40 : Cond.fieldLink RX9 40 "CuckooShares$Valley" "wheat" "I" ∈ wsX9_clear := by decide +kernel
theorem lk_X9_clear_43 : Cond.fieldLink RX9 43 "CuckooShares$Valley" "windWay" "I" ∈ wsX9_clear := by decide +kernel
theorem lk_X9_clear_46 : Cond.fieldLink RX9 46 "CuckooShares$Valley" "windForce" "I" ∈ wsX9_clear := by decide +kernel
theorem lk_X9_clear_49 : Cond.fieldLink RX9 49 "CuckooShares$Valley" "hills" "I" ∈ wsX9_clear := by decide +kernel
theorem lk_X9_clear_52 : Cond.fieldLink RX9 52 "CuckooShares$Valley" "men" "I" ∈ wsX9_clear := by decide +kernel
theorem lk_X9_clear_55 : Cond.fieldLink RX9 55 "CuckooShares$Valley" "flights" "I" ∈ wsX9_clear := by decide +kernel
abbrev L_X9_clear : List Rc := [(3, 3, 0, 6)]
abbrev LL_X9_clear : List Rc := []
def P_X9_clear (σ0 : Nat → Nat → Int32) (τ0 : Nat → Nat → Int64)  (σ : Nat → Nat → Int32) (τ : Nat → Nat → Int64) : Prop := Rg σ ∧ Fr L_X9_clear σ0 σ ∧ FrL LL_X9_clear τ0 τ ∧ (CS σ h00)
set_option maxHeartbeats 4000000 in
theorem c_X9_clear (l : Launch) (D : va_G) (cA : Nat → ClassId) (ad : Nat → Nat) (hI : Inj ad) (σ0 : Nat → Nat → Int32) (τ0 : Nat → Nat → Int64) (hR : Rg σ0)   : Met l yX9_clear wsX9_clear ({ frames := 0, cells := 0, slots := 0, locals := 0 } : Room) (WQc D cA ad [.ref (ad 3)] σ0 τ0) (va_Qv (fun u : SS => P_X9_clear σ0 τ0 u.1 u.2) (WB D cA ad) (AA ad)) 0 0 (AA ad) := by
  refine Met.ofW (cc := cX9_clear) (maxL := 1) (ret := none) (by decide) rfl ?_
  intro p e s m args below meth c s₁ B hml hv
  obtain ⟨rfl, hP, hK, hN⟩ := hv
  have C : Cy p s m _ meth c cX9_clear 1 wsX9_clear RX9 D cA ad none := ⟨B.exec, B.bytes, hml, findClass_of_methodNamed B.named, atoms_spec (ws := wsX9_clear) B.pre, hK, B.notSynchronized, B.returns, hI, hN⟩
  have hl := lv_entry ([.ref (ad 3)]) (n := 1) (Nat.le_of_ble_eq_true rfl)
  rw [lg_entry_eq]
  generalize (lg_sl ([.ref (ad 3)]) ++ List.replicate (1 - (lg_sl ([.ref (ad 3)])).length) Slot.unset).toArray = ls at hl ⊢
  have hl : lv_has ls 1 [(0, .ref (ad 3))] := hl
  have hS : va_S (AA ad) s.heap s.heap [] := va_S.rf
  have hF : Fr L_X9_clear σ0 σ0 := Fr.rf
  have hFL : FrL LL_X9_clear τ0 τ0 := FrL.rf
  obtain ⟨hx, hb, _, hown, hts, _, hk, hr, _, _⟩ := C
  refine lv_aload_n hx hb dX9_clear_0 rfl (lv_at hl 0 rfl) ?_
  refine r_bipush hx hb dX9_clear_1 (by decide) (fun z1 ez1 => ?_)
  refine fp_9_0 (k := 3) hx hb hts in_X9_clear_9 hown hK hP (by decide) (by decide) (hts _ lk_X9_clear_36) hI hR hS dX9_clear_3 (fun σ2 H2 locs2 u2 v2 hR hP hS => ?_)
  have hF := hF.puts u2 0 rfl (by decide) (by decide) (by decide) (by decide)
  refine lv_aload_n hx hb dX9_clear_6 rfl (lv_at hl 0 rfl) ?_
  refine r_bipush hx hb dX9_clear_7 (by decide) (fun z3 ez3 => ?_)
  refine fp_9_1 (k := 3) hx hb hts in_X9_clear_9 hown hK hP (by decide) (by decide) (hts _ lk_X9_clear_40) hI hR hS dX9_clear_9 (fun σ4 H4 locs4 u4 v4 hR hP hS => ?_)
  have hF := hF.puts u4 0 rfl (by decide) (by decide) (by decide) (by decide)
  have t5 : (σ4 3 0).toInt = (σ2 3 0).toInt := congrArg Int32.toInt (u4 3 0 (by omega))
  refine lv_aload_n hx hb dX9_clear_12 rfl (lv_at hl 0 rfl) ?_
  refine r_iconst hx hb dX9_clear_13 (by decide) (fun z6 ez6 => ?_)
  refine fp_9_2 (k := 3) hx hb hts in_X9_clear_9 hown hK hP (by decide) (by decide) (hts _ lk_X9_clear_43) hI hR hS dX9_clear_14 (fun σ7 H7 locs7 u7 v7 hR hP hS => ?_)
  have hF := hF.puts u7 0 rfl (by decide) (by decide) (by decide) (by decide)
  have t8 : (σ7 3 0).toInt = (σ4 3 0).toInt := congrArg Int32.toInt (u7 3 0 (by omega))
  have t9 : (σ7 3 1).toInt = (σ4 3 1).toInt := congrArg Int32.toInt (u7 3 1 (by omega))
  refine lv_aload_n hx hb dX9_clear_17 rfl (lv_at hl 0 rfl) ?_
  refine r_iconst hx hb dX9_clear_18 (by decide) (fun z10 ez10 => ?_)
  refine fp_9_3 (k := 3) hx hb hts in_X9_clear_9 hown hK hP (by decide) (by decide) (hts _ lk_X9_clear_46) hI hR hS dX9_clear_19 (fun σ11 H11 locs11 u11 v11 hR hP hS => ?_)
  have hF := hF.puts u11 0 rfl (by decide) (by decide) (by decide) (by decide)
  have t12 : (σ11 3 0).toInt = (σ7 3 0).toInt := congrArg Int32.toInt (u11 3 0 (by omega))
  have t13 : (σ11 3 1).toInt = (σ7 3 1).toInt := congrArg Int32.toInt (u11 3 1 (by omega))
  refine lv_aload_n hx hb dX9_clear_22 rfl (lv_at hl 0 rfl) ?_
  refine r_iconst hx hb dX9_clear_23 (by decide) (fun z14 ez14 => ?_)
  refine fp_9_4 (k := 3) hx hb hts in_X9_clear_9 hown hK hP (by decide) (by decide) (hts _ lk_X9_clear_49) hI hR hS (by omega) dX9_clear_24 (fun σ15 H15 locs15 u15 v15 hR hP hS => ?_)
  have hF := hF.puts u15 0 rfl (by decide) (by decide) (by decide) (by decide)
  have t16 : (σ15 3 0).toInt = (σ11 3 0).toInt := congrArg Int32.toInt (u15 3 0 (by omega))
  have t17 : (σ15 3 1).toInt = (σ11 3 1).toInt := congrArg Int32.toInt (u15 3 1 (by omega))
  refine lv_aload_n hx hb dX9_clear_27 rfl (lv_at hl 0 rfl) ?_
  refine r_iconst hx hb dX9_clear_28 (by decide) (fun z18 ez18 => ?_)
  refine fp_9_5 (k := 3) hx hb hts in_X9_clear_9 hown hK hP (by decide) (by decide) (hts _ lk_X9_clear_52) hI hR hS (by omega) dX9_clear_29 (fun σ19 H19 locs19 u19 v19 hR hP hS => ?_)
  have hF := hF.puts u19 0 rfl (by decide) (by decide) (by decide) (by decide)
  have t20 : (σ19 3 0).toInt = (σ15 3 0).toInt := congrArg Int32.toInt (u19 3 0 (by omega))
  have t21 : (σ19 3 1).toInt = (σ15 3 1).toInt := congrArg Int32.toInt (u19 3 1 (by omega))
  have t22 : (σ19 3 4).toInt = (σ15 3 4).toInt := congrArg Int32.toInt (u19 3 4 (by omega))
  refine lv_aload_n hx hb dX9_clear_32 rfl (lv_at hl 0 rfl) ?_
  refine r_iconst hx hb dX9_clear_33 (by decide) (fun z23 ez23 => ?_)
  refine fp_9_6 (k := 3) hx hb hts in_X9_clear_9 hown hK hP (by decide) (by decide) (hts _ lk_X9_clear_55) hI hR hS (by omega) dX9_clear_34 (fun σ24 H24 locs24 u24 v24 hR hP hS => ?_)
  have hF := hF.puts u24 0 rfl (by decide) (by decide) (by decide) (by decide)
  have t25 : (σ24 3 0).toInt = (σ19 3 0).toInt := congrArg Int32.toInt (u24 3 0 (by omega))
  have t26 : (σ24 3 1).toInt = (σ19 3 1).toInt := congrArg Int32.toInt (u24 3 1 (by omega))
  have t27 : (σ24 3 4).toInt = (σ19 3 4).toInt := congrArg Int32.toInt (u24 3 4 (by omega))
  have t28 : (σ24 3 5).toInt = (σ19 3 5).toInt := congrArg Int32.toInt (u24 3 5 (by omega))
  exact r_vret hx hb hr hK hP hS hk dX9_clear_37 (show P_X9_clear σ0 τ0 σ24 τ0 from ⟨hR, hF, hFL, ⟨by show _ = (0 : Int); omega, by show _ = (0 : Int); omega, by show _ = (0 : Int); omega, by show _ = (99 : Int); omega, Or.inr ⟨by omega, rfl⟩⟩⟩)
theorem in_X9_hasMan_9 : ∀ w ∈ u_ws RX9 TX9 14, w ∈ wsX9_hasMan := by decide +kernel
theorem lk_X9_hasMan_52 : Cond.fieldLink RX9 52 "CuckooShares$Valley" "men" "I" ∈ wsX9_hasMan := by decide +kernel
abbrev L_X9_hasMan : List Rc := []
abbrev LL_X9_hasMan : List Rc := []
def P_X9_hasMan (σ0 : Nat → Nat → Int32) (τ0 : Nat → Nat → Int64) (k0 : Nat) (a1 : Int32) (r : Int32) (σ : Nat → Nat → Int32) (τ : Nat → Nat → Int64) : Prop := Rg σ ∧ Fr L_X9_hasMan σ0 σ ∧ FrL LL_X9_hasMan τ0 τ ∧ (0 ≤ r.toInt ∧ r.toInt ≤ 1) ∧ (r.toInt = 0 ∨ (r.toInt = 1 ∧ 0 ≤ a1.toInt ∧ a1.toInt < (σ0 k0 5).toInt ∧ a1.toInt ≤ 7))
set_option maxHeartbeats 4000000 in
theorem c_X9_hasMan (l : Launch) (D : va_G) (cA : Nat → ClassId) (ad : Nat → Nat) (hI : Inj ad) (σ0 : Nat → Nat → Int32) (τ0 : Nat → Nat → Int64) (hR : Rg σ0) (k0 : Nat) (a1 : Int32) (hk0 : 2 ≤ k0 ∧ k0 ≤ 5) : Met l yX9_hasMan wsX9_hasMan ({ frames := 0, cells := 0, slots := 0, locals := 0 } : Room) (WQc D cA ad [.ref (ad k0), .int a1] σ0 τ0) (va_Qi (fun (r : Int32) (u : SS) => P_X9_hasMan σ0 τ0 k0 a1 r u.1 u.2) (WB D cA ad) (AA ad)) 0 0 (AA ad) := by
  refine Met.ofW (cc := cX9_hasMan) (maxL := 2) (ret := (some .boolean)) (by decide) rfl ?_
  intro p e s m args below meth c s₁ B hml hv
  obtain ⟨rfl, hP, hK, hN⟩ := hv
  have C : Cy p s m _ meth c cX9_hasMan 2 wsX9_hasMan RX9 D cA ad (some .boolean) := ⟨B.exec, B.bytes, hml, findClass_of_methodNamed B.named, atoms_spec (ws := wsX9_hasMan) B.pre, hK, B.notSynchronized, B.returns, hI, hN⟩
  have hl := lv_entry ([.ref (ad k0), .int a1]) (n := 2) (Nat.le_of_ble_eq_true rfl)
  rw [lg_entry_eq]
  generalize (lg_sl ([.ref (ad k0), .int a1]) ++ List.replicate (2 - (lg_sl ([.ref (ad k0), .int a1])).length) Slot.unset).toArray = ls at hl ⊢
  have hl : lv_has ls 2 [(0, .ref (ad k0)), (1, .int a1)] := hl
  have hS : va_S (AA ad) s.heap s.heap [] := va_S.rf
  have hF : Fr L_X9_hasMan σ0 σ0 := Fr.rf
  have hFL : FrL LL_X9_hasMan τ0 τ0 := FrL.rf
  obtain ⟨hx, hb, _, hown, hts, _, hk, hr, _, _⟩ := C
  refine lv_iload_n hx hb dX9_hasMan_0 rfl (lv_at hl 1 rfl) ?_
  refine r_if_lt (tgt := 16) hx hb dX9_hasMan_1 (by decide) (fun c1 => ?_) (fun c1 => ?_)
  · refine r_iconst hx hb dX9_hasMan_16 (by decide) (fun z2 ez2 => ?_)
    exact r_zret hx hb hr hK hP hS hk (by omega) dX9_hasMan_17 (show P_X9_hasMan σ0 τ0 k0 a1 z2 σ0 τ0 from ⟨hR, hF, hFL, by omega, by omega⟩)
  · refine lv_iload_n hx hb dX9_hasMan_4 rfl (lv_at hl 1 rfl) ?_
    refine lv_aload_n hx hb dX9_hasMan_5 rfl (lv_at hl 0 rfl) ?_
    refine fg_9_5 (k := k0) hx hb hts in_X9_hasMan_9 hown hK hP (by omega) (by omega) (hts _ lk_X9_hasMan_52) dX9_hasMan_6 ?_
    have hr3 := rg_9_5 hR (k := k0) (by omega) (by omega)
    refine r_icmp_ge (tgt := 16) hx hb dX9_hasMan_9 (by decide) (fun c4 => ?_) (fun c4 => ?_)
    · refine r_iconst hx hb dX9_hasMan_16 (by decide) (fun z5 ez5 => ?_)
      exact r_zret hx hb hr hK hP hS hk (by omega) dX9_hasMan_17 (show P_X9_hasMan σ0 τ0 k0 a1 z5 σ0 τ0 from ⟨hR, hF, hFL, by omega, by omega⟩)
    · refine r_iconst hx hb dX9_hasMan_12 (by decide) (fun z6 ez6 => ?_)
      refine lv_goto (tgt := 17) hx hb dX9_hasMan_13 (by decide) ?_
      exact r_zret hx hb hr hK hP hS hk (by omega) dX9_hasMan_17 (show P_X9_hasMan σ0 τ0 k0 a1 z6 σ0 τ0 from ⟨hR, hF, hFL, by omega, by omega⟩)
theorem in_X9_noteEchoes_9 : ∀ w ∈ u_ws RX9 TX9 14, w ∈ wsX9_noteEchoes := by decide +kernel
theorem lk_X9_noteEchoes_23 : Cond.fieldLink RX9 23 "CuckooShares$Valley" "man" "[[I" ∈ wsX9_noteEchoes := by decide +kernel
theorem lk_X9_noteEchoes_32 : Cond.fieldLink RX9 32 "CuckooShares$Valley" "echo" "[I" ∈ wsX9_noteEchoes := by decide +kernel
theorem lk_X9_noteEchoes_52 : Cond.fieldLink RX9 52 "CuckooShares$Valley" "men" "I" ∈ wsX9_noteEchoes := by decide +kernel
abbrev L_X9_noteEchoes : List Rc := [(65, 65, 0, 7)]
abbrev LL_X9_noteEchoes : List Rc := []
def P_X9_noteEchoes (σ0 : Nat → Nat → Int32) (τ0 : Nat → Nat → Int64)  (σ : Nat → Nat → Int32) (τ : Nat → Nat → Int64) : Prop := Rg σ ∧ Fr L_X9_noteEchoes σ0 σ ∧ FrL LL_X9_noteEchoes τ0 τ
def J_X9_noteEchoes_2 (p : Program) (l : Launch) (e : Env) (s : State) (m : MethodId) (args : Array Value) (below : List Frame) (meth : Method) (c : Code) (D : va_G) (cA : Nat → ClassId) (ad : Nat → Nat) (σ0 : Nat → Nat → Int32) (τ0 : Nat → Nat → Int64)  (n : Nat) : Prop := ∀ (σ : Nat → Nat → Int32) (τ : Nat → Nat → Int64) (H : Heap) (locs : List Loc) (x1 : Int32) (ls : Array Slot), Rg σ → Fr L_X9_noteEchoes σ0 σ → FrL LL_X9_noteEchoes τ0 τ → va_P D vwCl (gw cA ad σ τ) H → va_S (AA ad) s.heap H locs → (0 ≤ x1.toInt ∧ x1.toInt ≤ 8) → lv_has ls 3 [(0, .ref (ad 3)), (1, .int x1)] → 21 * (8 - x1.toInt) + 20 < (n : Int) → W p l e ({ frames := 1, cells := 0, slots := 0, locals := 21 } : Room) s m args below meth c H locs 0 0 (MQ below (va_Qv (fun u : SS => P_X9_noteEchoes σ0 τ0 u.1 u.2) (WB D cA ad) (AA ad)) args s 0 0 (AA ad)) (F0 m 2 ls [])
def J_X9_noteEchoes_43 (p : Program) (l : Launch) (e : Env) (s : State) (m : MethodId) (args : Array Value) (below : List Frame) (meth : Method) (c : Code) (D : va_G) (cA : Nat → ClassId) (ad : Nat → Nat) (σ0 : Nat → Nat → Int32) (τ0 : Nat → Nat → Int64)  (n : Nat) : Prop := ∀ (σ : Nat → Nat → Int32) (τ : Nat → Nat → Int64) (H : Heap) (locs : List Loc) (x1 : Int32) (ls : Array Slot), Rg σ → Fr L_X9_noteEchoes σ0 σ → FrL LL_X9_noteEchoes τ0 τ → va_P D vwCl (gw cA ad σ τ) H → va_S (AA ad) s.heap H locs → (0 ≤ x1.toInt ∧ x1.toInt ≤ 8) → (0 ≤ (σ 3 5).toInt ∧ (σ 3 5).toInt ≤ 8) → lv_has ls 3 [(0, .ref (ad 3)), (1, .int x1)] → 2 * (8 - x1.toInt) + 1 < (n : Int) → W p l e ({ frames := 1, cells := 0, slots := 0, locals := 21 } : Room) s m args below meth c H locs 0 0 (MQ below (va_Qv (fun u : SS => P_X9_noteEchoes σ0 τ0 u.1 u.2) (WB D cA ad) (AA ad)) args s 0 0 (AA ad)) (F0 m 43 ls [])
set_option maxHeartbeats 4000000 in
theorem B_X9_noteEchoes_2 (p : Program) (l : Launch) (e : Env) (s : State) (m : MethodId) (args : Array Value) (below : List Frame) (meth : Method) (c : Code) (D : va_G) (cA : Nat → ClassId) (ad : Nat → Nat) (σ0 : Nat → Nat → Int32) (τ0 : Nat → Nat → Int64)  (n : Nat) (C : Cy p s m args meth c cX9_noteEchoes 3 wsX9_noteEchoes RX9 D cA ad none)  (K2 : J_X9_noteEchoes_2 p l e s m args below meth c D cA ad σ0 τ0 n) (K43 : J_X9_noteEchoes_43 p l e s m args below meth c D cA ad σ0 τ0 n) : J_X9_noteEchoes_2 p l e s m args below meth c D cA ad σ0 τ0 (n + 1) := by
  obtain ⟨hx, hb, hml, hown, hts, hK, hk, hr, hI, hN⟩ := C
  intro σ τ H locs x1 ls hR hF hFL hP hS hc0 hl hm
  obtain rfl := FrL.nil hFL
  refine lv_iload_n hx hb dX9_noteEchoes_2 rfl (lv_at hl 1 rfl) ?_
  refine lv_aload_n hx hb dX9_noteEchoes_3 rfl (lv_at hl 0 rfl) ?_
  refine fg_9_5 (k := 3) hx hb hts in_X9_noteEchoes_9 hown hK hP (by decide) (by decide) (hts _ lk_X9_noteEchoes_52) dX9_noteEchoes_4 ?_
  have hr1 := rg_9_5 hR (k := 3) (by decide) (by decide)
  refine r_icmp_ge (tgt := 41) hx hb dX9_noteEchoes_7 (by decide) (fun c2 => ?_) (fun c2 => ?_)
  · refine r_iconst hx hb dX9_noteEchoes_41 (by decide) (fun z3 ez3 => ?_)
    refine lv_istore_n (lv' := [(1, .int z3), (0, .ref (ad 3))]) hx hb dX9_noteEchoes_42 rfl hl (by decide) rfl (fun ls hl => ?_)
    exact K43 σ τ0 H locs z3 ls hR hF hFL hP hS (by omega) (by omega) (lv_sub hl [1, 0] rfl) (by omega)
  · refine lv_aload_n hx hb dX9_noteEchoes_10 rfl (lv_at hl 0 rfl) ?_
    refine fg_9_13 (k := 3) hx hb hts in_X9_noteEchoes_9 hown hK hP (by decide) (by decide) (hts _ lk_X9_noteEchoes_32) dX9_noteEchoes_11 ?_
    refine lv_iload_n hx hb dX9_noteEchoes_14 rfl (lv_at hl 1 rfl) ?_
    refine lv_aload_n hx hb dX9_noteEchoes_15 rfl (lv_at hl 0 rfl) ?_
    refine fg_9_10 (k := 3) hx hb hts in_X9_noteEchoes_9 hown hK hP (by decide) (by decide) (hts _ lk_X9_noteEchoes_23) dX9_noteEchoes_16 ?_
    refine lv_iload_n hx hb dX9_noteEchoes_19 rfl (lv_at hl 1 rfl) ?_
    obtain ⟨j4, ej4⟩ : ∃ j : Nat, x1.toInt = (j : Int) := ⟨_, ti_nat (by omega)⟩
    refine ad_manA (k := 53) (j := j4) hx hb hK hP (by decide) (by decide) ej4 (by omega) dX9_noteEchoes_20 ?_
    refine r_iconst hx hb dX9_noteEchoes_21 (by decide) (fun z5 ez5 => ?_)
    refine ad_manR (k := 108 + j4) (j := 4) hx hb hK hP (by omega) (by omega) (by omega) (by omega) dX9_noteEchoes_22 ?_
    refine r_iconst hx hb dX9_noteEchoes_23 (by decide) (fun z6 ez6 => ?_)
    refine r_icmp_ne (tgt := 33) hx hb dX9_noteEchoes_24 (by decide) (fun c7 => ?_) (fun c7 => ?_)
    · refine r_iconst hx hb dX9_noteEchoes_33 (by decide) (fun z8 ez8 => ?_)
      refine as_echo (k := 65) (j := j4) hx hb hK hP hI hR hS (by decide) (by decide) ej4 (by omega) dX9_noteEchoes_34 (fun σ9 H9 locs9 u9 v9 hR hP hS => ?_)
      have hF := hF.puts u9 0 rfl (by decide) (by decide) (by omega) (by omega)
      have t10 : (σ9 3 5).toInt = (σ 3 5).toInt := congrArg Int32.toInt (u9 3 5 (by omega))
      refine r_iinc (k := 1) (lv1 := fun z11 => [(1, .int z11), (0, .ref (ad 3))]) hx hb dX9_noteEchoes_35 hl rfl (by decide) (fun _ => rfl) (by decide) (by omega) (fun z11 ls ez11 hl => ?_)
      refine lv_goto (tgt := 2) hx hb dX9_noteEchoes_38 (by decide) ?_
      exact K2 σ9 τ0 H9 locs9 z11 ls hR hF hFL hP hS (by omega) (lv_sub hl [1, 0] rfl) (by omega)
    · refine r_iconst hx hb dX9_noteEchoes_27 (by decide) (fun z12 ez12 => ?_)
      refine lv_iload_n hx hb dX9_noteEchoes_28 rfl (lv_at hl 1 rfl) ?_
      refine r_ishlU hx hb dX9_noteEchoes_29 (fun z13 => ?_)
      refine lv_goto (tgt := 34) hx hb dX9_noteEchoes_30 (by decide) ?_
      refine as_echo (k := 65) (j := j4) hx hb hK hP hI hR hS (by decide) (by decide) ej4 (by omega) dX9_noteEchoes_34 (fun σ14 H14 locs14 u14 v14 hR hP hS => ?_)
      have hF := hF.puts u14 0 rfl (by decide) (by decide) (by omega) (by omega)
      have t15 : (σ14 3 5).toInt = (σ 3 5).toInt := congrArg Int32.toInt (u14 3 5 (by omega))
      refine r_iinc (k := 1) (lv1 := fun z16 => [(1, .int z16), (0, .ref (ad 3))]) hx hb dX9_noteEchoes_35 hl rfl (by decide) (fun _ => rfl) (by decide) (by omega) (fun z16 ls ez16 hl => ?_)
      refine lv_goto (tgt := 2) hx hb dX9_noteEchoes_38 (by decide) ?_
      exact K2 σ14 τ0 H14 locs14 z16 ls hR hF hFL hP hS (by omega) (lv_sub hl [1, 0] rfl) (by omega)
set_option maxHeartbeats 4000000 in
theorem B_X9_noteEchoes_43 (p : Program) (l : Launch) (e : Env) (s : State) (m : MethodId) (args : Array Value) (below : List Frame) (meth : Method) (c : Code) (D : va_G) (cA : Nat → ClassId) (ad : Nat → Nat) (σ0 : Nat → Nat → Int32) (τ0 : Nat → Nat → Int64)  (n : Nat) (C : Cy p s m args meth c cX9_noteEchoes 3 wsX9_noteEchoes RX9 D cA ad none)  (K2 : J_X9_noteEchoes_2 p l e s m args below meth c D cA ad σ0 τ0 n) (K43 : J_X9_noteEchoes_43 p l e s m args below meth c D cA ad σ0 τ0 n) : J_X9_noteEchoes_43 p l e s m args below meth c D cA ad σ0 τ0 (n + 1) := by
  obtain ⟨hx, hb, hml, hown, hts, hK, hk, hr, hI, hN⟩ := C
  intro σ τ H locs x1 ls hR hF hFL hP hS hc0 hc1 hl hm
  obtain rfl := FrL.nil hFL
  refine lv_iload_n hx hb dX9_noteEchoes_43 rfl (lv_at hl 1 rfl) ?_
  refine lv_aload_n hx hb dX9_noteEchoes_44 rfl (lv_at hl 0 rfl) ?_
  refine fg_9_5 (k := 3) hx hb hts in_X9_noteEchoes_9 hown hK hP (by decide) (by decide) (hts _ lk_X9_noteEchoes_52) dX9_noteEchoes_45 ?_
  refine r_icmp_ge (tgt := 98) hx hb dX9_noteEchoes_48 (by decide) (fun c1 => ?_) (fun c1 => ?_)
  · exact r_vret hx hb hr hK hP hS hk dX9_noteEchoes_98 (show P_X9_noteEchoes σ0 τ0 σ τ0 from ⟨hR, hF, hFL⟩)
  · refine lv_aload_n hx hb dX9_noteEchoes_51 rfl (lv_at hl 0 rfl) ?_
    refine fg_9_10 (k := 3) hx hb hts in_X9_noteEchoes_9 hown hK hP (by decide) (by decide) (hts _ lk_X9_noteEchoes_23) dX9_noteEchoes_52 ?_
    refine lv_iload_n hx hb dX9_noteEchoes_55 rfl (lv_at hl 1 rfl) ?_
    obtain ⟨j2, ej2⟩ : ∃ j : Nat, x1.toInt = (j : Int) := ⟨_, ti_nat (by omega)⟩
    refine ad_manA (k := 53) (j := j2) hx hb hK hP (by decide) (by decide) ej2 (by omega) dX9_noteEchoes_56 ?_
    refine r_iconst hx hb dX9_noteEchoes_57 (by decide) (fun z3 ez3 => ?_)
    refine ad_manR (k := 108 + j2) (j := 4) hx hb hK hP (by omega) (by omega) (by omega) (by omega) dX9_noteEchoes_58 ?_
    refine lv_istore_n (lv' := [(2, .int (σ (108 + j2) 4)), (0, .ref (ad 3)), (1, .int x1)]) hx hb dX9_noteEchoes_59 rfl hl (by decide) rfl (fun ls hl => ?_)
    refine lv_aload_n hx hb dX9_noteEchoes_60 rfl (lv_at hl 1 rfl) ?_
    refine lv_iload_n hx hb dX9_noteEchoes_61 rfl (lv_at hl 0 rfl) ?_
    refine r_cVi (k := 3) (As := [.int (σ (108 + j2) 4)]) (rest := []) ⟨hx, hb, hml, hown, hts⟩ hK hP hN hS (c_X9_hasMan l D cA ad hI σ τ0 hR 3 (σ (108 + j2) 4) ⟨by omega, by omega⟩) (cwV 1 hts gX9_noteEchoes_X9_hasMan rfl rfl rfl (by decide +kernel) ⟨by decide, by decide⟩) (rv_Valley hK hP (by decide) (by decide)) rfl hl.1 rfl (Nat.le_of_ble_eq_true rfl) dX9_noteEchoes_62 (Nat.zero_le _) (Nat.zero_le _) (fun r4 u4 H4 locs4 hp4 hP hS => ?_)
    obtain ⟨σ4, τ4⟩ := u4
    obtain ⟨hR, f4, fL4, hq4, hp4_0⟩ : P_X9_hasMan σ τ0 3 (σ (108 + j2) 4) r4 σ4 τ4 := hp4
    have hP : va_P D vwCl (gw cA ad σ4 τ4) H4 := hP
    obtain rfl := FrL.nil fL4
    obtain rfl := Fr.nil f4
    refine r_if_eq (tgt := 92) hx hb dX9_noteEchoes_65 (by decide) (fun c5 => ?_) (fun c5 => ?_)
    · refine r_iinc (k := 2) (lv1 := fun z6 => [(1, .int z6), (2, .int (σ (108 + j2) 4)), (0, .ref (ad 3))]) hx hb dX9_noteEchoes_92 hl rfl (by decide) (fun _ => rfl) (by decide) (by omega) (fun z6 ls ez6 hl => ?_)
      refine lv_goto (tgt := 43) hx hb dX9_noteEchoes_95 (by decide) ?_
      exact K43 σ τ0 H4 locs4 z6 ls hR hF hFL hP hS (by omega) (by omega) (lv_sub hl [2, 0] rfl) (by omega)
    · refine lv_aload_n hx hb dX9_noteEchoes_68 rfl (lv_at hl 1 rfl) ?_
      refine fg_9_10 (k := 3) hx hb hts in_X9_noteEchoes_9 hown hK hP (by decide) (by decide) (hts _ lk_X9_noteEchoes_23) dX9_noteEchoes_69 ?_
      refine lv_iload_n hx hb dX9_noteEchoes_72 rfl (lv_at hl 0 rfl) ?_
      obtain ⟨j7, ej7⟩ : ∃ j : Nat, (σ (108 + j2) 4).toInt = (j : Int) := ⟨_, ti_nat (by omega)⟩
      refine ad_manA (k := 53) (j := j7) hx hb hK hP (by decide) (by decide) ej7 (by omega) dX9_noteEchoes_73 ?_
      refine r_iconst hx hb dX9_noteEchoes_74 (by decide) (fun z8 ez8 => ?_)
      refine ad_manR (k := 108 + j7) (j := 4) hx hb hK hP (by omega) (by omega) (by omega) (by omega) dX9_noteEchoes_75 ?_
      refine r_iconst hx hb dX9_noteEchoes_76 (by decide) (fun z9 ez9 => ?_)
      refine r_icmp_ne (tgt := 92) hx hb dX9_noteEchoes_77 (by decide) (fun c10 => ?_) (fun c10 => ?_)
      · refine r_iinc (k := 2) (lv1 := fun z11 => [(1, .int z11), (2, .int (σ (108 + j2) 4)), (0, .ref (ad 3))]) hx hb dX9_noteEchoes_92 hl rfl (by decide) (fun _ => rfl) (by decide) (by omega) (fun z11 ls ez11 hl => ?_)
        refine lv_goto (tgt := 43) hx hb dX9_noteEchoes_95 (by decide) ?_
        exact K43 σ τ0 H4 locs4 z11 ls hR hF hFL hP hS (by omega) (by omega) (lv_sub hl [2, 0] rfl) (by omega)
      · refine lv_aload_n hx hb dX9_noteEchoes_80 rfl (lv_at hl 1 rfl) ?_
        refine fg_9_13 (k := 3) hx hb hts in_X9_noteEchoes_9 hown hK hP (by decide) (by decide) (hts _ lk_X9_noteEchoes_32) dX9_noteEchoes_81 ?_
        refine lv_iload_n hx hb dX9_noteEchoes_84 rfl (lv_at hl 0 rfl) ?_
        refine lv_dup2_11 hx hb dX9_noteEchoes_85 rfl rfl ?_
        refine ad_echo (k := 65) (j := j7) hx hb hK hP (by decide) (by decide) ej7 (by omega) dX9_noteEchoes_86 ?_
        refine r_iconst hx hb dX9_noteEchoes_87 (by decide) (fun z12 ez12 => ?_)
        refine lv_iload_n hx hb dX9_noteEchoes_88 rfl (lv_at hl 2 rfl) ?_
        refine r_ishlU hx hb dX9_noteEchoes_89 (fun z13 => ?_)
        refine r_iorU hx hb dX9_noteEchoes_90 (fun z14 => ?_)
        refine as_echo (k := 65) (j := j7) hx hb hK hP hI hR hS (by decide) (by decide) ej7 (by omega) dX9_noteEchoes_91 (fun σ15 H15 locs15 u15 v15 hR hP hS => ?_)
        have hF := hF.puts u15 0 rfl (by decide) (by decide) (by omega) (by omega)
        have t16 : (σ15 3 5).toInt = (σ 3 5).toInt := congrArg Int32.toInt (u15 3 5 (by omega))
        refine r_iinc (k := 2) (lv1 := fun z17 => [(1, .int z17), (2, .int (σ (108 + j2) 4)), (0, .ref (ad 3))]) hx hb dX9_noteEchoes_92 hl rfl (by decide) (fun _ => rfl) (by decide) (by omega) (fun z17 ls ez17 hl => ?_)
        refine lv_goto (tgt := 43) hx hb dX9_noteEchoes_95 (by decide) ?_
        exact K43 σ15 τ0 H15 locs15 z17 ls hR hF hFL hP hS (by omega) (by omega) (lv_sub hl [2, 0] rfl) (by omega)
theorem A_X9_noteEchoes (p : Program) (l : Launch) (e : Env) (s : State) (m : MethodId) (args : Array Value) (below : List Frame) (meth : Method) (c : Code) (D : va_G) (cA : Nat → ClassId) (ad : Nat → Nat) (σ0 : Nat → Nat → Int32) (τ0 : Nat → Nat → Int64)  (C : Cy p s m args meth c cX9_noteEchoes 3 wsX9_noteEchoes RX9 D cA ad none)  : ∀ n : Nat, J_X9_noteEchoes_2 p l e s m args below meth c D cA ad σ0 τ0 n ∧ J_X9_noteEchoes_43 p l e s m args below meth c D cA ad σ0 τ0 n := by
  intro n
  induction n with
  | zero =>
    exact ⟨(by intro σ τ H locs x1 ls hR hF hFL hP hS hc0 hl hm; exfalso; omega), (by intro σ τ H locs x1 ls hR hF hFL hP hS hc0 hc1 hl hm; exfalso; omega)⟩
  | succ n ih =>
    exact ⟨B_X9_noteEchoes_2 p l e s m args below meth c D cA ad σ0 τ0 n C  ih.1 ih.2, B_X9_noteEchoes_43 p l e s m args below meth c D cA ad σ0 τ0 n C  ih.1 ih.2⟩
set_option maxHeartbeats 4000000 in
theorem c_X9_noteEchoes (l : Launch) (D : va_G) (cA : Nat → ClassId) (ad : Nat → Nat) (hI : Inj ad) (σ0 : Nat → Nat → Int32) (τ0 : Nat → Nat → Int64) (hR : Rg σ0)   : Met l yX9_noteEchoes wsX9_noteEchoes ({ frames := 1, cells := 0, slots := 0, locals := 21 } : Room) (WQc D cA ad [.ref (ad 3)] σ0 τ0) (va_Qv (fun u : SS => P_X9_noteEchoes σ0 τ0 u.1 u.2) (WB D cA ad) (AA ad)) 0 0 (AA ad) := by
  refine Met.ofW (cc := cX9_noteEchoes) (maxL := 3) (ret := none) (by decide) rfl ?_
  intro p e s m args below meth c s₁ B hml hv
  obtain ⟨rfl, hP, hK, hN⟩ := hv
  have C : Cy p s m _ meth c cX9_noteEchoes 3 wsX9_noteEchoes RX9 D cA ad none := ⟨B.exec, B.bytes, hml, findClass_of_methodNamed B.named, atoms_spec (ws := wsX9_noteEchoes) B.pre, hK, B.notSynchronized, B.returns, hI, hN⟩
  have hl := lv_entry ([.ref (ad 3)]) (n := 3) (Nat.le_of_ble_eq_true rfl)
  rw [lg_entry_eq]
  generalize (lg_sl ([.ref (ad 3)]) ++ List.replicate (3 - (lg_sl ([.ref (ad 3)])).length) Slot.unset).toArray = ls at hl ⊢
  have hl : lv_has ls 3 [(0, .ref (ad 3))] := hl
  have hS : va_S (AA ad) s.heap s.heap [] := va_S.rf
  have hF : Fr L_X9_noteEchoes σ0 σ0 := Fr.rf
  have hFL : FrL LL_X9_noteEchoes τ0 τ0 := FrL.rf
  have hA := A_X9_noteEchoes p l e s m _ below meth c D cA ad σ0 τ0 C  421
  have K2 := hA.1
  have K43 := hA.2
  clear hA
  obtain ⟨hx, hb, _, hown, hts, _, hk, hr, _, _⟩ := C
  refine r_iconst hx hb dX9_noteEchoes_0 (by decide) (fun z1 ez1 => ?_)
  refine lv_istore_n (lv' := [(1, .int z1), (0, .ref (ad 3))]) hx hb dX9_noteEchoes_1 rfl hl (by decide) rfl (fun ls hl => ?_)
  exact K2 σ0 τ0 s.heap [] z1 ls hR hF hFL hP hS (by omega) (lv_sub hl [1, 0] rfl) (by omega)
theorem in_X10_read_10 : ∀ w ∈ u_ws RX10 TX10 5, w ∈ wsX10_read := by decide +kernel
theorem in_X10_read_8 : ∀ w ∈ u_ws RX8 TX8 15, w ∈ wsX10_read := by decide +kernel
theorem lk_X10_read_15 : Cond.fieldLink RX10 15 "CuckooShares$ValleyText" "into" "LCuckooShares$Valley;" ∈ wsX10_read := by decide +kernel
theorem lk_X10_read_24 : Cond.fieldLink RX10 24 "CuckooShares$ValleyText" "lines" "I" ∈ wsX10_read := by decide +kernel
theorem lk_X10_read_28 : Cond.fieldLink RX10 28 "CuckooShares$ValleyText" "wordsTold" "I" ∈ wsX10_read := by decide +kernel
theorem lk_X10_read_31 : Cond.fieldLink RX10 31 "CuckooShares$ValleyText" "fallsTold" "I" ∈ wsX10_read := by decide +kernel
theorem lk_X10_read_9 : Cond.fieldLink RX10 9 "CuckooShares$ValleyText" "tape" "LCuckooShares$Tape;" ∈ wsX10_read := by decide +kernel
abbrev L_X10_read : List Rc := [(3, 3, 0, 6), (6, 6, 2, 4), (65, 65, 0, 7), (1, 1, 7, 10), (1, 1, 12, 14), (136, 139, 0, 2), (76, 83, 0, 2), (108, 115, 0, 5), (188, 227, 0, 2)]
abbrev LL_X10_read : List Rc := [(1, 1, 11, 11), (41, 41, 0, 7), (45, 45, 0, 7)]
def P_X10_read (σ0 : Nat → Nat → Int32) (τ0 : Nat → Nat → Int64) (b : Nat → Int) (N : Nat) (mo : Nat) (r : Int32) (σ : Nat → Nat → Int32) (τ : Nat → Nat → Int64) : Prop := Rg σ ∧ Fr L_X10_read σ0 σ ∧ FrL LL_X10_read τ0 τ ∧ (0 ≤ r.toInt ∧ r.toInt ≤ 1) ∧ (RO r σ (valP b N mo 941 0 (z00 b N mo)) (fun y => (σ 6 2).toInt = (y.1 : Int) ∧ CR σ τ b N mo y.2)) ∧ (r.toInt = 0 ∨ (σ 1 13).toInt = (σ0 1 13).toInt)
def J_X10_read_22 (p : Program) (l : Launch) (e : Env) (s : State) (m : MethodId) (args : Array Value) (below : List Frame) (meth : Method) (c : Code) (D : va_G) (cA : Nat → ClassId) (ad : Nat → Nat) (σ0 : Nat → Nat → Int32) (τ0 : Nat → Nat → Int64) (b : Nat → Int) (N : Nat) (mo : Nat) (n : Nat) : Prop := ∀ (σ : Nat → Nat → Int32) (τ : Nat → Nat → Int64) (H : Heap) (locs : List Loc) (fu : Nat) (nl : Nat) (q : Nat) (h : Nat → Int) (nm : Nat → Int) (ls : Array Slot), Rg σ → Fr L_X10_read σ0 σ → FrL LL_X10_read τ0 τ → va_P D vwCl (gw cA ad σ τ) H → va_S (AA ad) s.heap H locs → (0 ≤ (σ 6 2).toInt ∧ (σ 6 2).toInt ≤ 940) → (valP b N mo 941 0 (z00 b N mo) = valP b N mo fu nl (q, h, nm, σ 6 3, σ 6 4)) → ((σ 6 2).toInt = (nl : Int)) → (fu + nl = 941) → (nl ≤ q) → (q ≤ N ∧ (mo < N → q ≤ mo)) → ((σ 1 13).toInt = (σ0 1 13).toInt) → (CT σ τ b N mo q) → (CN τ b h nm) → (CS σ h) → (CM σ h) → (CF σ h) → lv_has ls 1 [(0, .ref (ad 6))] → 2 * (940 - (σ 6 2).toInt) + 1 < (n : Int) → W p l e ({ frames := 6, cells := 0, slots := 0, locals := 128 } : Room) s m args below meth c H locs 0 0 (MQ below (va_Qi (fun (r : Int32) (u : SS) => P_X10_read σ0 τ0 b N mo r u.1 u.2) (WB D cA ad) (AA ad)) args s 0 0 (AA ad)) (F0 m 22 ls [])
set_option maxHeartbeats 4000000 in
theorem B_X10_read_22 (p : Program) (l : Launch) (e : Env) (s : State) (m : MethodId) (args : Array Value) (below : List Frame) (meth : Method) (c : Code) (D : va_G) (cA : Nat → ClassId) (ad : Nat → Nat) (σ0 : Nat → Nat → Int32) (τ0 : Nat → Nat → Int64) (b : Nat → Int) (N : Nat) (mo : Nat) (n : Nat) (C : Cy p s m args meth c cX10_read 1 wsX10_read RX10 D cA ad (some .boolean)) (hpre0 : CT σ0 τ0 b N mo (posq b N mo 0)) (hpre1 : N ≤ 940) (K22 : J_X10_read_22 p l e s m args below meth c D cA ad σ0 τ0 b N mo n) : J_X10_read_22 p l e s m args below meth c D cA ad σ0 τ0 b N mo (n + 1) := by
  obtain ⟨hx, hb, hml, hown, hts, hK, hk, hr, hI, hN⟩ := C
  intro σ τ H locs fu nl q h nm ls hR hF hFL hP hS hc0 hi0 hi1 hi2 hi3 hi4 hi5 gCT gCN gCS gCM gCF hl hm
  refine lv_aload_n hx hb dX10_read_22 rfl (lv_at hl 0 rfl) ?_
  refine fg_10_0 (k := 6) hx hb hts in_X10_read_10 hown hK hP (by decide) (by decide) (hts _ lk_X10_read_9) dX10_read_23 ?_
  have htk := gCT.tk
  refine fgN_8_9 (k := 1) hx hb hts in_X10_read_8 hown hK hP (by decide) (by decide) (hN.use nw_10_34) dX10_read_26 ?_
  refine r_bipush hx hb dX10_read_29 (by decide) (fun z1 ez1 => ?_)
  refine r_icmp_eq (tgt := 78) hx hb dX10_read_31 (by decide) (fun c2 => ?_) (fun c2 => ?_)
  · have h48 : tkq b N mo q = 48 := by first | omega | exact tkq_end (by omega) (by omega)
    refine lv_aload_n hx hb dX10_read_78 rfl (lv_at hl 0 rfl) ?_
    refine fg_10_1 (k := 6) hx hb hts in_X10_read_10 hown hK hP (by decide) (by decide) (hts _ lk_X10_read_15) dX10_read_79 ?_
    refine r_cVv (k := 3) (As := []) (rest := []) ⟨hx, hb, hml, hown, hts⟩ hK hP hN hS (c_X9_noteEchoes l D cA ad hI σ τ hR) (cwV 0 hts gX10_read_X9_noteEchoes rfl rfl rfl (by decide +kernel) ⟨by decide, by decide⟩) (rv_Valley hK hP (by decide) (by decide)) rfl hl.1 rfl (Nat.le_of_ble_eq_true rfl) dX10_read_82 (Nat.zero_le _) (Nat.zero_le _) (fun u3 H3 locs3 hp3 hP hS => ?_)
    obtain ⟨σ3, τ3⟩ := u3
    obtain ⟨hR, f3, fL3⟩ : P_X9_noteEchoes σ τ σ3 τ3 := hp3
    have fne := f3
    have hP : va_P D vwCl (gw cA ad σ3 τ3) H3 := hP
    obtain rfl := FrL.nil fL3
    have hF := hF.step f3 (by decide)
    have gCF := gCF.ag (Agr.fr f3 (by decide))
    have gCM := gCM.ag (Agr.fr f3 (by decide))
    have gCS := gCS.ag (Agr.fr f3 (by decide))
    have gCT := gCT.ag (Agr.fr f3 (by decide))
    have t4 : (σ3 1 13).toInt = (σ 1 13).toInt := congrArg Int32.toInt (f3.at 1 13 (by decide))
    have t5 : (σ3 6 2).toInt = (σ 6 2).toInt := congrArg Int32.toInt (f3.at 6 2 (by decide))
    refine r_iconst hx hb dX10_read_85 (by decide) (fun z6 ez6 => ?_)
    exact r_zret hx hb hr hK hP hS hk (by omega) dX10_read_86 (show P_X10_read σ0 τ0 b N mo z6 σ3 τ from ⟨hR, hF, hFL, by omega, by first | exact RO.ofr (by rw [hi0, valP_e h48]) (by omega) ⟨by show _ = (nl : Int); omega, CR.mk gCT gCN gCS gCM gCF (fne.at 6 3 (by decide)) (fne.at 6 4 (by decide))⟩ | (obtain ⟨f, e2, x1, x2⟩ := o2.no (by omega); exact RO.ofl (by rw [hi0, valP_f (show tkq b N mo q ≠ 48 by omega) (stp_f2 e1 e2)]) (by omega) x1 x2) | (obtain ⟨f, e1, x1, x2⟩ := o1.no (by omega); exact RO.ofl (by rw [hi0, valP_f (show tkq b N mo q ≠ 48 by omega) (stp_f1 e1)]) (by omega) x1 x2), by omega⟩)
  · refine lv_aload_n hx hb dX10_read_34 rfl (lv_at hl 0 rfl) ?_
    refine fg_10_2 (k := 6) hx hb hts in_X10_read_10 hown hK hP (by decide) (by decide) (hts _ lk_X10_read_24) dX10_read_35 ?_
    refine r_sipush hx hb dX10_read_38 (by decide) (fun z7 ez7 => ?_)
    refine r_icmp_ge (tgt := 78) hx hb dX10_read_41 (by decide) (fun c8 => ?_) (fun c8 => ?_)
    · have h48 : tkq b N mo q = 48 := by first | omega | exact tkq_end (by omega) (by omega)
      refine lv_aload_n hx hb dX10_read_78 rfl (lv_at hl 0 rfl) ?_
      refine fg_10_1 (k := 6) hx hb hts in_X10_read_10 hown hK hP (by decide) (by decide) (hts _ lk_X10_read_15) dX10_read_79 ?_
      refine r_cVv (k := 3) (As := []) (rest := []) ⟨hx, hb, hml, hown, hts⟩ hK hP hN hS (c_X9_noteEchoes l D cA ad hI σ τ hR) (cwV 0 hts gX10_read_X9_noteEchoes rfl rfl rfl (by decide +kernel) ⟨by decide, by decide⟩) (rv_Valley hK hP (by decide) (by decide)) rfl hl.1 rfl (Nat.le_of_ble_eq_true rfl) dX10_read_82 (Nat.zero_le _) (Nat.zero_le _) (fun u9 H9 locs9 hp9 hP hS => ?_)
      obtain ⟨σ9, τ9⟩ := u9
      obtain ⟨hR, f9, fL9⟩ : P_X9_noteEchoes σ τ σ9 τ9 := hp9
      have fne := f9
      have hP : va_P D vwCl (gw cA ad σ9 τ9) H9 := hP
      obtain rfl := FrL.nil fL9
      have hF := hF.step f9 (by decide)
      have gCF := gCF.ag (Agr.fr f9 (by decide))
      have gCM := gCM.ag (Agr.fr f9 (by decide))
      have gCS := gCS.ag (Agr.fr f9 (by decide))
      have gCT := gCT.ag (Agr.fr f9 (by decide))
      have t10 : (σ9 1 13).toInt = (σ 1 13).toInt := congrArg Int32.toInt (f9.at 1 13 (by decide))
      have t11 : (σ9 6 2).toInt = (σ 6 2).toInt := congrArg Int32.toInt (f9.at 6 2 (by decide))
      refine r_iconst hx hb dX10_read_85 (by decide) (fun z12 ez12 => ?_)
      exact r_zret hx hb hr hK hP hS hk (by omega) dX10_read_86 (show P_X10_read σ0 τ0 b N mo z12 σ9 τ from ⟨hR, hF, hFL, by omega, by first | exact RO.ofr (by rw [hi0, valP_e h48]) (by omega) ⟨by show _ = (nl : Int); omega, CR.mk gCT gCN gCS gCM gCF (fne.at 6 3 (by decide)) (fne.at 6 4 (by decide))⟩ | (obtain ⟨f, e2, x1, x2⟩ := o2.no (by omega); exact RO.ofl (by rw [hi0, valP_f (show tkq b N mo q ≠ 48 by omega) (stp_f2 e1 e2)]) (by omega) x1 x2) | (obtain ⟨f, e1, x1, x2⟩ := o1.no (by omega); exact RO.ofl (by rw [hi0, valP_f (show tkq b N mo q ≠ 48 by omega) (stp_f1 e1)]) (by omega) x1 x2), by omega⟩)
    · obtain ⟨fu0, rfl⟩ : ∃ x, fu = x + 1 := ⟨fu - 1, by omega⟩
      refine lv_aload_n hx hb dX10_read_44 rfl (lv_at hl 0 rfl) ?_
      refine r_cVi (k := 6) (As := []) (rest := []) ⟨hx, hb, hml, hown, hts⟩ hK hP hN hS (c_X10_readLine l D cA ad hI σ τ hR b N mo q h nm gCT gCN gCS gCM gCF) (cwV 0 hts gX10_read_X10_readLine rfl rfl rfl (by decide +kernel) ⟨by decide, by decide⟩) (rv_VText hK hP (by decide) (by decide)) rfl hl.1 rfl (Nat.le_of_ble_eq_true rfl) dX10_read_45 (Nat.zero_le _) (Nat.zero_le _) (fun r13 u13 H13 locs13 hp13 hP hS => ?_)
      obtain ⟨σ13, τ13⟩ := u13
      obtain ⟨hR, f13, fL13, hq13, hp13_0, hp13_1⟩ : P_X10_readLine σ τ b N mo q h nm r13 σ13 τ13 := hp13
      have o1 := hp13_0
      have hP : va_P D vwCl (gw cA ad σ13 τ13) H13 := hP
      have hFL := hFL.step fL13 (by decide)
      have hF := hF.step f13 (by decide)
      have t14 : (σ13 6 2).toInt = (σ 6 2).toInt := congrArg Int32.toInt (f13.at 6 2 (by decide))
      refine r_if_eq (tgt := 63) hx hb dX10_read_48 (by decide) (fun c15 => ?_) (fun c15 => ?_)
      · clear hp13_1
        refine r_iconst hx hb dX10_read_63 (by decide) (fun z16 ez16 => ?_)
        exact r_zret hx hb hr hK hP hS hk (by omega) dX10_read_64 (show P_X10_read σ0 τ0 b N mo z16 σ13 τ13 from ⟨hR, hF, hFL, by omega, by first | exact RO.ofr (by rw [hi0, valP_e h48]) (by omega) ⟨by show _ = (nl : Int); omega, CR.mk gCT gCN gCS gCM gCF (fne.at 6 3 (by decide)) (fne.at 6 4 (by decide))⟩ | (obtain ⟨f, e2, x1, x2⟩ := o2.no (by omega); exact RO.ofl (by rw [hi0, valP_f (show tkq b N mo q ≠ 48 by omega) (stp_f2 e1 e2)]) (by omega) x1 x2) | (obtain ⟨f, e1, x1, x2⟩ := o1.no (by omega); exact RO.ofl (by rw [hi0, valP_f (show tkq b N mo q ≠ 48 by omega) (stp_f1 e1)]) (by omega) x1 x2), by omega⟩)
      · replace hp13_1 := hp13_1.resolve_left (by omega)
        obtain ⟨z1, e1, gCT, gCN, gCS, gCM, gCF, g63, g64⟩ := o1.ye (by omega)
        refine lv_aload_n hx hb dX10_read_51 rfl (lv_at hl 0 rfl) ?_
        refine fg_10_0 (k := 6) hx hb hts in_X10_read_10 hown hK hP (by decide) (by decide) (hts _ lk_X10_read_9) dX10_read_52 ?_
        refine r_bipush hx hb dX10_read_55 (by decide) (fun z17 ez17 => ?_)
        refine r_cVi (k := 1) (As := [.int z17]) (rest := []) ⟨hx, hb, hml, hown, hts⟩ hK hP hN hS (c_X8_take_v l D cA ad hI σ13 τ13 hR z17 b N mo _ 40 (by omega) (by omega) gCT) (cwV 1 hts gX10_read_X8_take rfl rfl rfl (by decide +kernel) ⟨by decide, by decide⟩) (rv_Tape hK hP (by decide) (by decide)) rfl hl.1 rfl (Nat.le_of_ble_eq_true rfl) dX10_read_57 (Nat.zero_le _) (Nat.zero_le _) (fun r18 u18 H18 locs18 hp18 hP hS => ?_)
        obtain ⟨σ18, τ18⟩ := u18
        obtain ⟨hR, f18, fL18, hq18, hp18_0, hp18_1⟩ : P_X8_take_v σ13 τ13 z17 b N mo _ 40 r18 σ18 τ18 := hp18
        have o2 := hp18_0
        have f57 := f18
        have hP : va_P D vwCl (gw cA ad σ18 τ18) H18 := hP
        have hFL := hFL.step fL18 (by decide)
        have gCN := gCN.agL (AgrL.fr fL18 (by decide))
        have hF := hF.step f18 (by decide)
        have gCF := gCF.ag (Agr.fr f18 (by decide))
        have gCM := gCM.ag (Agr.fr f18 (by decide))
        have gCS := gCS.ag (Agr.fr f18 (by decide))
        have t19 : (σ18 6 2).toInt = (σ13 6 2).toInt := congrArg Int32.toInt (f18.at 6 2 (by decide))
        refine r_if_ne (tgt := 65) hx hb dX10_read_60 (by decide) (fun c20 => ?_) (fun c20 => ?_)
        · replace hp18_1 := hp18_1.resolve_left (by omega)
          obtain ⟨q2, e2, gCT⟩ := o2.ye (by omega)
          have hgo := stp_go e1 e2
          refine lv_aload_n hx hb dX10_read_65 rfl (lv_at hl 0 rfl) ?_
          refine lv_dup hx hb dX10_read_66 rfl ?_
          refine fg_10_2 (k := 6) hx hb hts in_X10_read_10 hown hK hP (by decide) (by decide) (hts _ lk_X10_read_24) dX10_read_67 ?_
          refine r_iconst hx hb dX10_read_70 (by decide) (fun z21 ez21 => ?_)
          refine r_iadd hx hb dX10_read_71 (by omega) (fun z22 ez22 => ?_)
          refine fp_10_2 (k := 6) hx hb hts in_X10_read_10 hown hK hP (by decide) (by decide) (hts _ lk_X10_read_24) hI hR hS (by omega) dX10_read_72 (fun σ23 H23 locs23 u23 v23 hR hP hS => ?_)
          have u62 := u23
          have v62 := v23
          have hF := hF.puts u23 1 rfl (by decide) (by decide) (by decide) (by decide)
          have gCF := gCF.ag (Agr.put u23 (by decide))
          have gCM := gCM.ag (Agr.put u23 (by decide))
          have gCS := gCS.ag (Agr.put u23 (by decide))
          have gCT := gCT.ag (Agr.put u23 (by decide))
          have t24 : (σ23 1 13).toInt = (σ18 1 13).toInt := congrArg Int32.toInt (u23 1 13 (by omega))
          refine lv_goto (tgt := 22) hx hb dX10_read_75 (by decide) ?_
          exact K22 σ23 τ18 H23 locs23 fu0 (nl + 1) _ _ _ ls hR hF hFL hP hS (by omega) (by first | (rw [hi0, valP_s (show tkq b N mo q ≠ 48 by omega) hgo.1, (show σ23 6 3 = z1.2.2.2.1 from (u62 6 3 (by omega)).trans ((f57.at 6 3 (by decide)).trans g63)), (show σ23 6 4 = z1.2.2.2.2 from (u62 6 4 (by omega)).trans ((f57.at 6 4 (by decide)).trans g64))]; try rfl) | (unfold z00; rw [i32_0.mp (show (σ23 6 3).toInt = 0 by have := congrArg Int32.toInt (u64 6 3 (by omega)); omega), i32_0.mp (show (σ23 6 4).toInt = 0 by omega)])) (by omega) (by omega) (by first | exact Nat.zero_le _ | (have h9 := hgo.2.1; dsimp only at h9; omega)) (by first | exact posq_ok | exact hgo.2.2 hi4.1 hi4.2) (by omega) gCT gCN gCS gCM gCF (lv_sub hl [0] rfl) (by omega)
        · clear hp18_1
          refine r_iconst hx hb dX10_read_63 (by decide) (fun z25 ez25 => ?_)
          exact r_zret hx hb hr hK hP hS hk (by omega) dX10_read_64 (show P_X10_read σ0 τ0 b N mo z25 σ18 τ18 from ⟨hR, hF, hFL, by omega, by first | exact RO.ofr (by rw [hi0, valP_e h48]) (by omega) ⟨by show _ = (nl : Int); omega, CR.mk gCT gCN gCS gCM gCF (fne.at 6 3 (by decide)) (fne.at 6 4 (by decide))⟩ | (obtain ⟨f, e2, x1, x2⟩ := o2.no (by omega); exact RO.ofl (by rw [hi0, valP_f (show tkq b N mo q ≠ 48 by omega) (stp_f2 e1 e2)]) (by omega) x1 x2) | (obtain ⟨f, e1, x1, x2⟩ := o1.no (by omega); exact RO.ofl (by rw [hi0, valP_f (show tkq b N mo q ≠ 48 by omega) (stp_f1 e1)]) (by omega) x1 x2), by omega⟩)
theorem A_X10_read (p : Program) (l : Launch) (e : Env) (s : State) (m : MethodId) (args : Array Value) (below : List Frame) (meth : Method) (c : Code) (D : va_G) (cA : Nat → ClassId) (ad : Nat → Nat) (σ0 : Nat → Nat → Int32) (τ0 : Nat → Nat → Int64) (b : Nat → Int) (N : Nat) (mo : Nat) (C : Cy p s m args meth c cX10_read 1 wsX10_read RX10 D cA ad (some .boolean)) (hpre0 : CT σ0 τ0 b N mo (posq b N mo 0)) (hpre1 : N ≤ 940) : ∀ n : Nat, J_X10_read_22 p l e s m args below meth c D cA ad σ0 τ0 b N mo n := by
  intro n
  induction n with
  | zero =>
    exact (by intro σ τ H locs fu nl q h nm ls hR hF hFL hP hS hc0 hi0 hi1 hi2 hi3 hi4 hi5 gCT gCN gCS gCM gCF hl hm; exfalso; omega)
  | succ n ih =>
    exact B_X10_read_22 p l e s m args below meth c D cA ad σ0 τ0 b N mo n C hpre0 hpre1 ih
set_option maxHeartbeats 4000000 in
theorem c_X10_read (l : Launch) (D : va_G) (cA : Nat → ClassId) (ad : Nat → Nat) (hI : Inj ad) (σ0 : Nat → Nat → Int32) (τ0 : Nat → Nat → Int64) (hR : Rg σ0) (b : Nat → Int) (N : Nat) (mo : Nat) (hpre0 : CT σ0 τ0 b N mo (posq b N mo 0)) (hpre1 : N ≤ 940) : Met l yX10_read wsX10_read ({ frames := 6, cells := 0, slots := 0, locals := 128 } : Room) (WQc D cA ad [.ref (ad 6)] σ0 τ0) (va_Qi (fun (r : Int32) (u : SS) => P_X10_read σ0 τ0 b N mo r u.1 u.2) (WB D cA ad) (AA ad)) 0 0 (AA ad) := by
  refine Met.ofW (cc := cX10_read) (maxL := 1) (ret := (some .boolean)) (by decide) rfl ?_
  intro p e s m args below meth c s₁ B hml hv
  obtain ⟨rfl, hP, hK, hN⟩ := hv
  have C : Cy p s m _ meth c cX10_read 1 wsX10_read RX10 D cA ad (some .boolean) := ⟨B.exec, B.bytes, hml, findClass_of_methodNamed B.named, atoms_spec (ws := wsX10_read) B.pre, hK, B.notSynchronized, B.returns, hI, hN⟩
  have hl := lv_entry ([.ref (ad 6)]) (n := 1) (Nat.le_of_ble_eq_true rfl)
  rw [lg_entry_eq]
  generalize (lg_sl ([.ref (ad 6)]) ++ List.replicate (1 - (lg_sl ([.ref (ad 6)])).length) Slot.unset).toArray = ls at hl ⊢
  have hl : lv_has ls 1 [(0, .ref (ad 6))] := hl
  have hS : va_S (AA ad) s.heap s.heap [] := va_S.rf
  have hF : Fr L_X10_read σ0 σ0 := Fr.rf
  have hFL : FrL LL_X10_read τ0 τ0 := FrL.rf
  have hA := A_X10_read p l e s m _ below meth c D cA ad σ0 τ0 b N mo C hpre0 hpre1 3770
  have K22 := hA
  clear hA
  obtain ⟨hx, hb, _, hown, hts, _, hk, hr, _, _⟩ := C
  have gCT := hpre0
  refine lv_aload_n hx hb dX10_read_0 rfl (lv_at hl 0 rfl) ?_
  refine fg_10_1 (k := 6) hx hb hts in_X10_read_10 hown hK hP (by decide) (by decide) (hts _ lk_X10_read_15) dX10_read_1 ?_
  refine r_cVv (k := 3) (As := []) (rest := []) ⟨hx, hb, hml, hown, hts⟩ hK hP hN hS (c_X9_clear l D cA ad hI σ0 τ0 hR) (cwV 0 hts gX10_read_X9_clear rfl rfl rfl (by decide +kernel) ⟨by decide, by decide⟩) (rv_Valley hK hP (by decide) (by decide)) rfl hl.1 rfl (Nat.le_of_ble_eq_true rfl) dX10_read_4 (Nat.zero_le _) (Nat.zero_le _) (fun u1 H1 locs1 hp1 hP hS => ?_)
  obtain ⟨σ1, τ1⟩ := u1
  obtain ⟨hR, f1, fL1, hp1_0⟩ : P_X9_clear σ0 τ0 σ1 τ1 := hp1
  have hcl := hp1_0
  have hP : va_P D vwCl (gw cA ad σ1 τ1) H1 := hP
  obtain rfl := FrL.nil fL1
  have hF := hF.step f1 (by decide)
  have gCT := gCT.ag (Agr.fr f1 (by decide))
  have t2 : (σ1 1 13).toInt = (σ0 1 13).toInt := congrArg Int32.toInt (f1.at 1 13 (by decide))
  have gCN : CN τ0 b h00 (fun _ => 0) := CN.z00
  have gCS := hcl
  have gCM : CM σ1 h00 := CM.z00
  have gCF : CF σ1 h00 := CF.z00
  refine lv_aload_n hx hb dX10_read_7 rfl (lv_at hl 0 rfl) ?_
  refine r_iconst hx hb dX10_read_8 (by decide) (fun z3 ez3 => ?_)
  refine fp_10_2 (k := 6) hx hb hts in_X10_read_10 hown hK hP (by decide) (by decide) (hts _ lk_X10_read_24) hI hR hS (by omega) dX10_read_9 (fun σ4 H4 locs4 u4 v4 hR hP hS => ?_)
  have hF := hF.puts u4 1 rfl (by decide) (by decide) (by decide) (by decide)
  have gCF := gCF.ag (Agr.put u4 (by decide))
  have gCM := gCM.ag (Agr.put u4 (by decide))
  have gCS := gCS.ag (Agr.put u4 (by decide))
  have gCT := gCT.ag (Agr.put u4 (by decide))
  have t5 : (σ4 1 13).toInt = (σ1 1 13).toInt := congrArg Int32.toInt (u4 1 13 (by omega))
  refine lv_aload_n hx hb dX10_read_12 rfl (lv_at hl 0 rfl) ?_
  refine r_iconst hx hb dX10_read_13 (by decide) (fun z6 ez6 => ?_)
  refine fp_10_3 (k := 6) hx hb hts in_X10_read_10 hown hK hP (by decide) (by decide) (hts _ lk_X10_read_28) hI hR hS dX10_read_14 (fun σ7 H7 locs7 u7 v7 hR hP hS => ?_)
  have u63 := u7
  have v63 := v7
  have hF := hF.puts u7 1 rfl (by decide) (by decide) (by decide) (by decide)
  have gCF := gCF.ag (Agr.put u7 (by decide))
  have gCM := gCM.ag (Agr.put u7 (by decide))
  have gCS := gCS.ag (Agr.put u7 (by decide))
  have gCT := gCT.ag (Agr.put u7 (by decide))
  have t8 : (σ7 1 13).toInt = (σ4 1 13).toInt := congrArg Int32.toInt (u7 1 13 (by omega))
  have t9 : (σ7 6 2).toInt = (σ4 6 2).toInt := congrArg Int32.toInt (u7 6 2 (by omega))
  refine lv_aload_n hx hb dX10_read_17 rfl (lv_at hl 0 rfl) ?_
  refine r_iconst hx hb dX10_read_18 (by decide) (fun z10 ez10 => ?_)
  refine fp_10_4 (k := 6) hx hb hts in_X10_read_10 hown hK hP (by decide) (by decide) (hts _ lk_X10_read_31) hI hR hS dX10_read_19 (fun σ11 H11 locs11 u11 v11 hR hP hS => ?_)
  have u64 := u11
  have v64 := v11
  have hF := hF.puts u11 1 rfl (by decide) (by decide) (by decide) (by decide)
  have gCF := gCF.ag (Agr.put u11 (by decide))
  have gCM := gCM.ag (Agr.put u11 (by decide))
  have gCS := gCS.ag (Agr.put u11 (by decide))
  have gCT := gCT.ag (Agr.put u11 (by decide))
  have t12 : (σ11 1 13).toInt = (σ7 1 13).toInt := congrArg Int32.toInt (u11 1 13 (by omega))
  have t13 : (σ11 6 2).toInt = (σ7 6 2).toInt := congrArg Int32.toInt (u11 6 2 (by omega))
  exact K22 σ11 τ0 H11 locs11 941 0 _ _ _ ls hR hF hFL hP hS (by omega) (by first | (rw [hi0, valP_s (show tkq b N mo q ≠ 48 by omega) hgo.1, (show σ11 6 3 = z1.2.2.2.1 from (u62 6 3 (by omega)).trans ((f57.at 6 3 (by decide)).trans g63)), (show σ11 6 4 = z1.2.2.2.2 from (u62 6 4 (by omega)).trans ((f57.at 6 4 (by decide)).trans g64))]; try rfl) | (unfold z00; rw [i32_0.mp (show (σ11 6 3).toInt = 0 by have := congrArg Int32.toInt (u64 6 3 (by omega)); omega), i32_0.mp (show (σ11 6 4).toInt = 0 by omega)])) (by omega) (by omega) (by first | exact Nat.zero_le _ | (have h9 := hgo.2.1; dsimp only at h9; omega)) (by first | exact posq_ok | exact hgo.2.2 hi4.1 hi4.2) (by omega) gCT gCN gCS gCM gCF (lv_sub hl [0] rfl) (by omega)
theorem in_X2_begin_2 : ∀ w ∈ u_ws RX2 TX2 7, w ∈ wsX2_begin := by decide +kernel
theorem in_X2_begin_9 : ∀ w ∈ u_ws RX9 TX9 14, w ∈ wsX2_begin := by decide +kernel
theorem lk_X2_begin_15 : Cond.fieldLink RX2 15 "CuckooShares$Days" "coins" "[I" ∈ wsX2_begin := by decide +kernel
theorem lk_X2_begin_18 : Cond.fieldLink RX2 18 "CuckooShares$Days" "sworn" "[I" ∈ wsX2_begin := by decide +kernel
theorem lk_X2_begin_21 : Cond.fieldLink RX2 21 "CuckooShares$Days" "store" "[I" ∈ wsX2_begin := by decide +kernel
theorem lk_X2_begin_24 : Cond.fieldLink RX2 24 "CuckooShares$Days" "flight" "I" ∈ wsX2_begin := by decide +kernel
theorem lk_X2_begin_28 : Cond.fieldLink RX2 28 "CuckooShares$Days" "year" "I" ∈ wsX2_begin := by decide +kernel
theorem lk_X2_begin_31 : Cond.fieldLink RX2 31 "CuckooShares$Days" "hour" "I" ∈ wsX2_begin := by decide +kernel
theorem lk_X2_begin_9 : Cond.fieldLink RX2 9 "CuckooShares$Days" "hill" "[I" ∈ wsX2_begin := by decide +kernel
abbrev L_X2_begin : List Rc := [(7, 7, 0, 2), (308, 308, 0, 7), (321, 321, 0, 7), (334, 334, 0, 7), (347, 347, 0, 7)]
abbrev LL_X2_begin : List Rc := []
def P_X2_begin (σ0 : Nat → Nat → Int32) (τ0 : Nat → Nat → Int64)  (σ : Nat → Nat → Int32) (τ : Nat → Nat → Int64) : Prop := Rg σ ∧ Fr L_X2_begin σ0 σ ∧ FrL LL_X2_begin τ0 τ
def J_X2_begin_17 (p : Program) (l : Launch) (e : Env) (s : State) (m : MethodId) (args : Array Value) (below : List Frame) (meth : Method) (c : Code) (D : va_G) (cA : Nat → ClassId) (ad : Nat → Nat) (σ0 : Nat → Nat → Int32) (τ0 : Nat → Nat → Int64)  (n : Nat) : Prop := ∀ (σ : Nat → Nat → Int32) (τ : Nat → Nat → Int64) (H : Heap) (locs : List Loc) (x2 : Int32) (ls : Array Slot), Rg σ → Fr L_X2_begin σ0 σ → FrL LL_X2_begin τ0 τ → va_P D vwCl (gw cA ad σ τ) H → va_S (AA ad) s.heap H locs → (0 ≤ x2.toInt ∧ x2.toInt ≤ 8) → lv_has ls 3 [(0, .ref (ad 7)), (1, .ref (ad 2)), (2, .int x2)] → 2 * (8 - x2.toInt) + 1 < (n : Int) → W p l e ({ frames := 0, cells := 0, slots := 0, locals := 0 } : Room) s m args below meth c H locs 0 0 (MQ below (va_Qv (fun u : SS => P_X2_begin σ0 τ0 u.1 u.2) (WB D cA ad) (AA ad)) args s 0 0 (AA ad)) (F0 m 17 ls [])
set_option maxHeartbeats 4000000 in
theorem B_X2_begin_17 (p : Program) (l : Launch) (e : Env) (s : State) (m : MethodId) (args : Array Value) (below : List Frame) (meth : Method) (c : Code) (D : va_G) (cA : Nat → ClassId) (ad : Nat → Nat) (σ0 : Nat → Nat → Int32) (τ0 : Nat → Nat → Int64)  (n : Nat) (C : Cy p s m args meth c cX2_begin 3 wsX2_begin RX2 D cA ad none)  (K17 : J_X2_begin_17 p l e s m args below meth c D cA ad σ0 τ0 n) : J_X2_begin_17 p l e s m args below meth c D cA ad σ0 τ0 (n + 1) := by
  obtain ⟨hx, hb, hml, hown, hts, hK, hk, hr, hI, hN⟩ := C
  intro σ τ H locs x2 ls hR hF hFL hP hS hc0 hl hm
  obtain rfl := FrL.nil hFL
  refine lv_iload_n hx hb dX2_begin_17 rfl (lv_at hl 2 rfl) ?_
  refine lv_aload_n hx hb dX2_begin_18 rfl (lv_at hl 1 rfl) ?_
  refine fgN_9_5 (k := 2) hx hb hts in_X2_begin_9 hown hK hP (by decide) (by decide) (hN.use nw_2_34) dX2_begin_19 ?_
  have hr1 := rg_9_5 hR (k := 2) (by decide) (by decide)
  refine r_icmp_ge (tgt := 73) hx hb dX2_begin_22 (by decide) (fun c2 => ?_) (fun c2 => ?_)
  · exact r_vret hx hb hr hK hP hS hk dX2_begin_73 (show P_X2_begin σ0 τ0 σ τ0 from ⟨hR, hF, hFL⟩)
  · refine lv_aload_n hx hb dX2_begin_25 rfl (lv_at hl 0 rfl) ?_
    refine fg_2_3 (k := 7) hx hb hts in_X2_begin_2 hown hK hP (by decide) (by decide) (hts _ lk_X2_begin_9) dX2_begin_26 ?_
    refine lv_iload_n hx hb dX2_begin_29 rfl (lv_at hl 2 rfl) ?_
    refine lv_aload_n hx hb dX2_begin_30 rfl (lv_at hl 1 rfl) ?_
    refine fgN_9_10 (k := 2) hx hb hts in_X2_begin_9 hown hK hP (by decide) (by decide) (hN.use nw_2_39) dX2_begin_31 ?_
    refine lv_iload_n hx hb dX2_begin_34 rfl (lv_at hl 2 rfl) ?_
    obtain ⟨j3, ej3⟩ : ∃ j : Nat, x2.toInt = (j : Int) := ⟨_, ti_nat (by omega)⟩
    refine ad_manA (k := 52) (j := j3) hx hb hK hP (by decide) (by decide) ej3 (by omega) dX2_begin_35 ?_
    refine r_iconst hx hb dX2_begin_36 (by decide) (fun z4 ez4 => ?_)
    refine ad_manR (k := 100 + j3) (j := 0) hx hb hK hP (by omega) (by omega) (by omega) (by omega) dX2_begin_37 ?_
    refine as_days8 (k := 308) (j := j3) hx hb hK hP hI hR hS (by decide) (by decide) ej3 (by omega) dX2_begin_38 (fun σ5 H5 locs5 u5 v5 hR hP hS => ?_)
    have hF := hF.puts u5 1 rfl (by decide) (by decide) (by omega) (by omega)
    refine lv_aload_n hx hb dX2_begin_39 rfl (lv_at hl 0 rfl) ?_
    refine fg_2_4 (k := 7) hx hb hts in_X2_begin_2 hown hK hP (by decide) (by decide) (hts _ lk_X2_begin_15) dX2_begin_40 ?_
    refine lv_iload_n hx hb dX2_begin_43 rfl (lv_at hl 2 rfl) ?_
    refine lv_aload_n hx hb dX2_begin_44 rfl (lv_at hl 1 rfl) ?_
    refine fgN_9_10 (k := 2) hx hb hts in_X2_begin_9 hown hK hP (by decide) (by decide) (hN.use nw_2_39) dX2_begin_45 ?_
    refine lv_iload_n hx hb dX2_begin_48 rfl (lv_at hl 2 rfl) ?_
    refine ad_manA (k := 52) (j := j3) hx hb hK hP (by decide) (by decide) ej3 (by omega) dX2_begin_49 ?_
    refine r_iconst hx hb dX2_begin_50 (by decide) (fun z6 ez6 => ?_)
    refine ad_manR (k := 100 + j3) (j := 2) hx hb hK hP (by omega) (by omega) (by omega) (by omega) dX2_begin_51 ?_
    refine as_days8 (k := 321) (j := j3) hx hb hK hP hI hR hS (by decide) (by decide) ej3 (by omega) dX2_begin_52 (fun σ7 H7 locs7 u7 v7 hR hP hS => ?_)
    have hF := hF.puts u7 2 rfl (by decide) (by decide) (by omega) (by omega)
    refine lv_aload_n hx hb dX2_begin_53 rfl (lv_at hl 0 rfl) ?_
    refine fg_2_5 (k := 7) hx hb hts in_X2_begin_2 hown hK hP (by decide) (by decide) (hts _ lk_X2_begin_18) dX2_begin_54 ?_
    refine lv_iload_n hx hb dX2_begin_57 rfl (lv_at hl 2 rfl) ?_
    refine r_iconst hx hb dX2_begin_58 (by decide) (fun z8 ez8 => ?_)
    refine as_days8 (k := 334) (j := j3) hx hb hK hP hI hR hS (by decide) (by decide) ej3 (by omega) dX2_begin_59 (fun σ9 H9 locs9 u9 v9 hR hP hS => ?_)
    have hF := hF.puts u9 3 rfl (by decide) (by decide) (by omega) (by omega)
    refine lv_aload_n hx hb dX2_begin_60 rfl (lv_at hl 0 rfl) ?_
    refine fg_2_6 (k := 7) hx hb hts in_X2_begin_2 hown hK hP (by decide) (by decide) (hts _ lk_X2_begin_21) dX2_begin_61 ?_
    refine lv_iload_n hx hb dX2_begin_64 rfl (lv_at hl 2 rfl) ?_
    refine r_iconst hx hb dX2_begin_65 (by decide) (fun z10 ez10 => ?_)
    refine as_days8 (k := 347) (j := j3) hx hb hK hP hI hR hS (by decide) (by decide) ej3 (by omega) dX2_begin_66 (fun σ11 H11 locs11 u11 v11 hR hP hS => ?_)
    have hF := hF.puts u11 4 rfl (by decide) (by decide) (by omega) (by omega)
    refine r_iinc (k := 2) (lv1 := fun z12 => [(2, .int z12), (0, .ref (ad 7)), (1, .ref (ad 2))]) hx hb dX2_begin_67 hl rfl (by decide) (fun _ => rfl) (by decide) (by omega) (fun z12 ls ez12 hl => ?_)
    refine lv_goto (tgt := 17) hx hb dX2_begin_70 (by decide) ?_
    exact K17 σ11 τ0 H11 locs11 z12 ls hR hF hFL hP hS (by omega) (lv_sub hl [1, 2, 0] rfl) (by omega)
theorem A_X2_begin (p : Program) (l : Launch) (e : Env) (s : State) (m : MethodId) (args : Array Value) (below : List Frame) (meth : Method) (c : Code) (D : va_G) (cA : Nat → ClassId) (ad : Nat → Nat) (σ0 : Nat → Nat → Int32) (τ0 : Nat → Nat → Int64)  (C : Cy p s m args meth c cX2_begin 3 wsX2_begin RX2 D cA ad none)  : ∀ n : Nat, J_X2_begin_17 p l e s m args below meth c D cA ad σ0 τ0 n := by
  intro n
  induction n with
  | zero =>
    exact (by intro σ τ H locs x2 ls hR hF hFL hP hS hc0 hl hm; exfalso; omega)
  | succ n ih =>
    exact B_X2_begin_17 p l e s m args below meth c D cA ad σ0 τ0 n C  ih
set_option maxHeartbeats 4000000 in
theorem c_X2_begin (l : Launch) (D : va_G) (cA : Nat → ClassId) (ad : Nat → Nat) (hI : Inj ad) (σ0 : Nat → Nat → Int32) (τ0 : Nat → Nat → Int64) (hR : Rg σ0)   : Met l yX2_begin wsX2_begin ({ frames := 0, cells := 0, slots := 0, locals := 0 } : Room) (WQc D cA ad [.ref (ad 7), .ref (ad 2)] σ0 τ0) (va_Qv (fun u : SS => P_X2_begin σ0 τ0 u.1 u.2) (WB D cA ad) (AA ad)) 0 0 (AA ad) := by
  refine Met.ofW (cc := cX2_begin) (maxL := 3) (ret := none) (by decide) rfl ?_
  intro p e s m args below meth c s₁ B hml hv
  obtain ⟨rfl, hP, hK, hN⟩ := hv
  have C : Cy p s m _ meth c cX2_begin 3 wsX2_begin RX2 D cA ad none := ⟨B.exec, B.bytes, hml, findClass_of_methodNamed B.named, atoms_spec (ws := wsX2_begin) B.pre, hK, B.notSynchronized, B.returns, hI, hN⟩
  have hl := lv_entry ([.ref (ad 7), .ref (ad 2)]) (n := 3) (Nat.le_of_ble_eq_true rfl)
  rw [lg_entry_eq]
  generalize (lg_sl ([.ref (ad 7), .ref (ad 2)]) ++ List.replicate (3 - (lg_sl ([.ref (ad 7), .ref (ad 2)])).length) Slot.unset).toArray = ls at hl ⊢
  have hl : lv_has ls 3 [(0, .ref (ad 7)), (1, .ref (ad 2))] := hl
  have hS : va_S (AA ad) s.heap s.heap [] := va_S.rf
  have hF : Fr L_X2_begin σ0 σ0 := Fr.rf
  have hFL : FrL LL_X2_begin τ0 τ0 := FrL.rf
  have hA := A_X2_begin p l e s m _ below meth c D cA ad σ0 τ0 C  42
  have K17 := hA
  clear hA
  obtain ⟨hx, hb, _, hown, hts, _, hk, hr, _, _⟩ := C
  refine lv_aload_n hx hb dX2_begin_0 rfl (lv_at hl 0 rfl) ?_
  refine r_iconst hx hb dX2_begin_1 (by decide) (fun z1 ez1 => ?_)
  refine fp_2_0 (k := 7) hx hb hts in_X2_begin_2 hown hK hP (by decide) (by decide) (hts _ lk_X2_begin_28) hI hR hS dX2_begin_2 (fun σ2 H2 locs2 u2 v2 hR hP hS => ?_)
  have hF := hF.puts u2 0 rfl (by decide) (by decide) (by decide) (by decide)
  refine lv_aload_n hx hb dX2_begin_5 rfl (lv_at hl 0 rfl) ?_
  refine r_iconst hx hb dX2_begin_6 (by decide) (fun z3 ez3 => ?_)
  refine fp_2_1 (k := 7) hx hb hts in_X2_begin_2 hown hK hP (by decide) (by decide) (hts _ lk_X2_begin_24) hI hR hS dX2_begin_7 (fun σ4 H4 locs4 u4 v4 hR hP hS => ?_)
  have hF := hF.puts u4 0 rfl (by decide) (by decide) (by decide) (by decide)
  refine lv_aload_n hx hb dX2_begin_10 rfl (lv_at hl 0 rfl) ?_
  refine r_iconst hx hb dX2_begin_11 (by decide) (fun z5 ez5 => ?_)
  refine fp_2_2 (k := 7) hx hb hts in_X2_begin_2 hown hK hP (by decide) (by decide) (hts _ lk_X2_begin_31) hI hR hS dX2_begin_12 (fun σ6 H6 locs6 u6 v6 hR hP hS => ?_)
  have hF := hF.puts u6 0 rfl (by decide) (by decide) (by decide) (by decide)
  refine r_iconst hx hb dX2_begin_15 (by decide) (fun z7 ez7 => ?_)
  refine lv_istore_n (lv' := [(2, .int z7), (0, .ref (ad 7)), (1, .ref (ad 2))]) hx hb dX2_begin_16 rfl hl (by decide) rfl (fun ls hl => ?_)
  exact K17 σ6 τ0 H6 locs6 z7 ls hR hF hFL hP hS (by omega) (lv_sub hl [1, 2, 0] rfl) (by omega)
theorem in_X3_clear_3 : ∀ w ∈ u_ws RX3 TX3 3, w ∈ wsX3_clear := by decide +kernel
theorem lk_X3_clear_18 : Cond.fieldLink RX3 18 "CuckooShares$History" "size" "I" ∈ wsX3_clear := by decide +kernel
abbrev L_X3_clear : List Rc := [(20, 20, 2, 2)]
abbrev LL_X3_clear : List Rc := []
def P_X3_clear (σ0 : Nat → Nat → Int32) (τ0 : Nat → Nat → Int64)  (σ : Nat → Nat → Int32) (τ : Nat → Nat → Int64) : Prop := Rg σ ∧ Fr L_X3_clear σ0 σ ∧ FrL LL_X3_clear τ0 τ
set_option maxHeartbeats 4000000 in
theorem c_X3_clear (l : Launch) (D : va_G) (cA : Nat → ClassId) (ad : Nat → Nat) (hI : Inj ad) (σ0 : Nat → Nat → Int32) (τ0 : Nat → Nat → Int64) (hR : Rg σ0)   : Met l yX3_clear wsX3_clear ({ frames := 0, cells := 0, slots := 0, locals := 0 } : Room) (WQc D cA ad [.ref (ad 20)] σ0 τ0) (va_Qv (fun u : SS => P_X3_clear σ0 τ0 u.1 u.2) (WB D cA ad) (AA ad)) 0 0 (AA ad) := by
  refine Met.ofW (cc := cX3_clear) (maxL := 1) (ret := none) (by decide) rfl ?_
  intro p e s m args below meth c s₁ B hml hv
  obtain ⟨rfl, hP, hK, hN⟩ := hv
  have C : Cy p s m _ meth c cX3_clear 1 wsX3_clear RX3 D cA ad none := ⟨B.exec, B.bytes, hml, findClass_of_methodNamed B.named, atoms_spec (ws := wsX3_clear) B.pre, hK, B.notSynchronized, B.returns, hI, hN⟩
  have hl := lv_entry ([.ref (ad 20)]) (n := 1) (Nat.le_of_ble_eq_true rfl)
  rw [lg_entry_eq]
  generalize (lg_sl ([.ref (ad 20)]) ++ List.replicate (1 - (lg_sl ([.ref (ad 20)])).length) Slot.unset).toArray = ls at hl ⊢
  have hl : lv_has ls 1 [(0, .ref (ad 20))] := hl
  have hS : va_S (AA ad) s.heap s.heap [] := va_S.rf
  have hF : Fr L_X3_clear σ0 σ0 := Fr.rf
  have hFL : FrL LL_X3_clear τ0 τ0 := FrL.rf
  obtain ⟨hx, hb, _, hown, hts, _, hk, hr, _, _⟩ := C
  refine lv_aload_n hx hb dX3_clear_0 rfl (lv_at hl 0 rfl) ?_
  refine r_iconst hx hb dX3_clear_1 (by decide) (fun z1 ez1 => ?_)
  refine fp_3_2 (k := 20) hx hb hts in_X3_clear_3 hown hK hP (by decide) (by decide) (hts _ lk_X3_clear_18) hI hR hS (by omega) dX3_clear_2 (fun σ2 H2 locs2 u2 v2 hR hP hS => ?_)
  have hF := hF.puts u2 0 rfl (by decide) (by decide) (by decide) (by decide)
  exact r_vret hx hb hr hK hP hS hk dX3_clear_5 (show P_X3_clear σ0 τ0 σ2 τ0 from ⟨hR, hF, hFL⟩)
theorem in_X6_clear_6 : ∀ w ∈ u_ws RX6 TX6 7, w ∈ wsX6_clear := by decide +kernel
theorem lk_X6_clear_24 : Cond.fieldLink RX6 24 "CuckooShares$Sentence" "told" "Z" ∈ wsX6_clear := by decide +kernel
theorem lk_X6_clear_28 : Cond.fieldLink RX6 28 "CuckooShares$Sentence" "ones" "I" ∈ wsX6_clear := by decide +kernel
theorem lk_X6_clear_32 : Cond.fieldLink RX6 32 "CuckooShares$Sentence" "steps" "I" ∈ wsX6_clear := by decide +kernel
abbrev L_X6_clear : List Rc := [(23, 24, 0, 2)]
abbrev LL_X6_clear : List Rc := []
def P_X6_clear (σ0 : Nat → Nat → Int32) (τ0 : Nat → Nat → Int64) (k0 : Nat) (σ : Nat → Nat → Int32) (τ : Nat → Nat → Int64) : Prop := Rg σ ∧ Fr L_X6_clear σ0 σ ∧ FrL LL_X6_clear τ0 τ ∧ ((σ k0 1).toInt = 0) ∧ ((σ k0 2).toInt = 0)
set_option maxHeartbeats 4000000 in
theorem c_X6_clear (l : Launch) (D : va_G) (cA : Nat → ClassId) (ad : Nat → Nat) (hI : Inj ad) (σ0 : Nat → Nat → Int32) (τ0 : Nat → Nat → Int64) (hR : Rg σ0) (k0 : Nat) (hk0 : 23 ≤ k0 ∧ k0 ≤ 24) : Met l yX6_clear wsX6_clear ({ frames := 0, cells := 0, slots := 0, locals := 0 } : Room) (WQc D cA ad [.ref (ad k0)] σ0 τ0) (va_Qv (fun u : SS => P_X6_clear σ0 τ0 k0 u.1 u.2) (WB D cA ad) (AA ad)) 0 0 (AA ad) := by
  refine Met.ofW (cc := cX6_clear) (maxL := 1) (ret := none) (by decide) rfl ?_
  intro p e s m args below meth c s₁ B hml hv
  obtain ⟨rfl, hP, hK, hN⟩ := hv
  have C : Cy p s m _ meth c cX6_clear 1 wsX6_clear RX6 D cA ad none := ⟨B.exec, B.bytes, hml, findClass_of_methodNamed B.named, atoms_spec (ws := wsX6_clear) B.pre, hK, B.notSynchronized, B.returns, hI, hN⟩
  have hl := lv_entry ([.ref (ad k0)]) (n := 1) (Nat.le_of_ble_eq_true rfl)
  rw [lg_entry_eq]
  generalize (lg_sl ([.ref (ad k0)]) ++ List.replicate (1 - (lg_sl ([.ref (ad k0)])).length) Slot.unset).toArray = ls at hl ⊢
  have hl : lv_has ls 1 [(0, .ref (ad k0))] := hl
  have hS : va_S (AA ad) s.heap s.heap [] := va_S.rf
  have hF : Fr L_X6_clear σ0 σ0 := Fr.rf
  have hFL : FrL LL_X6_clear τ0 τ0 := FrL.rf
  obtain ⟨hx, hb, _, hown, hts, _, hk, hr, _, _⟩ := C
  refine lv_aload_n hx hb dX6_clear_0 rfl (lv_at hl 0 rfl) ?_
  refine r_iconst hx hb dX6_clear_1 (by decide) (fun z1 ez1 => ?_)
  refine fp_6_0 (k := k0) hx hb hts in_X6_clear_6 hown hK hP (by omega) (by omega) (hts _ lk_X6_clear_24) hI hR hS (by omega) dX6_clear_2 (fun σ2 H2 locs2 u2 v2 hR hP hS => ?_)
  have hF := hF.puts u2 0 rfl (by omega) (by omega) (by decide) (by decide)
  refine lv_aload_n hx hb dX6_clear_5 rfl (lv_at hl 0 rfl) ?_
  refine r_iconst hx hb dX6_clear_6 (by decide) (fun z3 ez3 => ?_)
  refine fp_6_1 (k := k0) hx hb hts in_X6_clear_6 hown hK hP (by omega) (by omega) (hts _ lk_X6_clear_28) hI hR hS (by omega) dX6_clear_7 (fun σ4 H4 locs4 u4 v4 hR hP hS => ?_)
  have hF := hF.puts u4 0 rfl (by omega) (by omega) (by decide) (by decide)
  refine lv_aload_n hx hb dX6_clear_10 rfl (lv_at hl 0 rfl) ?_
  refine r_iconst hx hb dX6_clear_11 (by decide) (fun z5 ez5 => ?_)
  refine fp_6_2 (k := k0) hx hb hts in_X6_clear_6 hown hK hP (by omega) (by omega) (hts _ lk_X6_clear_32) hI hR hS (by omega) dX6_clear_12 (fun σ6 H6 locs6 u6 v6 hR hP hS => ?_)
  have hF := hF.puts u6 0 rfl (by omega) (by omega) (by decide) (by decide)
  have t7 : (σ6 k0 1).toInt = (σ4 k0 1).toInt := congrArg Int32.toInt (u6 k0 1 (by omega))
  exact r_vret hx hb hr hK hP hS hk dX6_clear_15 (show P_X6_clear σ0 τ0 k0 σ6 τ0 from ⟨hR, hF, hFL, by omega, by omega⟩)
theorem in_X8_byteAt_8 : ∀ w ∈ u_ws RX8 TX8 15, w ∈ wsX8_byteAt := by decide +kernel
theorem lk_X8_byteAt_9 : Cond.fieldLink RX8 9 "CuckooShares$Tape" "bytes" "[B" ∈ wsX8_byteAt := by decide +kernel
abbrev L_X8_byteAt : List Rc := []
abbrev LL_X8_byteAt : List Rc := []
def P_X8_byteAt (σ0 : Nat → Nat → Int32) (τ0 : Nat → Nat → Int64) (a1 : Int32) (r : Int32) (σ : Nat → Nat → Int32) (τ : Nat → Nat → Int64) : Prop := Rg σ ∧ Fr L_X8_byteAt σ0 σ ∧ FrL LL_X8_byteAt τ0 τ ∧ (0 ≤ r.toInt ∧ r.toInt ≤ 255) ∧ ((0 ≤ a1.toInt ∧ a1.toInt < 940 ∧ r.toInt = bC σ0 a1.toInt.toNat) ∨ ((a1.toInt < 0 ∨ 940 ≤ a1.toInt) ∧ r.toInt = 0))
set_option maxHeartbeats 4000000 in
theorem c_X8_byteAt (l : Launch) (D : va_G) (cA : Nat → ClassId) (ad : Nat → Nat) (hI : Inj ad) (σ0 : Nat → Nat → Int32) (τ0 : Nat → Nat → Int64) (hR : Rg σ0) (a1 : Int32) (ha1 : 0 ≤ a1.toInt ∧ a1.toInt ≤ 939) : Met l yX8_byteAt wsX8_byteAt ({ frames := 0, cells := 0, slots := 0, locals := 0 } : Room) (WQc D cA ad [.ref (ad 1), .int a1] σ0 τ0) (va_Qi (fun (r : Int32) (u : SS) => P_X8_byteAt σ0 τ0 a1 r u.1 u.2) (WB D cA ad) (AA ad)) 0 0 (AA ad) := by
  refine Met.ofW (cc := cX8_byteAt) (maxL := 2) (ret := (some .int)) (by decide) rfl ?_
  intro p e s m args below meth c s₁ B hml hv
  obtain ⟨rfl, hP, hK, hN⟩ := hv
  have C : Cy p s m _ meth c cX8_byteAt 2 wsX8_byteAt RX8 D cA ad (some .int) := ⟨B.exec, B.bytes, hml, findClass_of_methodNamed B.named, atoms_spec (ws := wsX8_byteAt) B.pre, hK, B.notSynchronized, B.returns, hI, hN⟩
  have hl := lv_entry ([.ref (ad 1), .int a1]) (n := 2) (Nat.le_of_ble_eq_true rfl)
  rw [lg_entry_eq]
  generalize (lg_sl ([.ref (ad 1), .int a1]) ++ List.replicate (2 - (lg_sl ([.ref (ad 1), .int a1])).length) Slot.unset).toArray = ls at hl ⊢
  have hl : lv_has ls 2 [(0, .ref (ad 1)), (1, .int a1)] := hl
  have hS : va_S (AA ad) s.heap s.heap [] := va_S.rf
  have hF : Fr L_X8_byteAt σ0 σ0 := Fr.rf
  have hFL : FrL LL_X8_byteAt τ0 τ0 := FrL.rf
  obtain ⟨hx, hb, _, hown, hts, _, hk, hr, _, _⟩ := C
  refine lv_iload_n hx hb dX8_byteAt_0 rfl (lv_at hl 1 rfl) ?_
  refine r_if_lt (tgt := 24) hx hb dX8_byteAt_1 (by decide) (fun c1 => ?_) (fun c1 => ?_)
  · exfalso; omega
  · refine lv_iload_n hx hb dX8_byteAt_4 rfl (lv_at hl 1 rfl) ?_
    refine r_sipush hx hb dX8_byteAt_5 (by decide) (fun z2 ez2 => ?_)
    refine r_icmp_ge (tgt := 24) hx hb dX8_byteAt_8 (by decide) (fun c3 => ?_) (fun c3 => ?_)
    · exfalso; omega
    · refine lv_aload_n hx hb dX8_byteAt_11 rfl (lv_at hl 0 rfl) ?_
      refine fg_8_0 (k := 1) hx hb hts in_X8_byteAt_8 hown hK hP (by decide) (by decide) (hts _ lk_X8_byteAt_9) dX8_byteAt_12 ?_
      refine lv_iload_n hx hb dX8_byteAt_15 rfl (lv_at hl 1 rfl) ?_
      obtain ⟨j4, ej4⟩ : ∃ j : Nat, a1.toInt = (j : Int) := ⟨_, ti_nat (by omega)⟩
      refine ad_bytes (k := 35) (j := j4) hx hb hK hP (by decide) (by decide) ej4 (by omega) dX8_byteAt_16 ?_
      refine lv_sipush (v := 255) hx hb dX8_byteAt_17 (by decide) ?_
      have kcz5 : (255 : Int32).toInt = 255 := rfl
      refine lv_iand hx hb dX8_byteAt_20 ?_
      refine lv_goto (tgt := 25) hx hb dX8_byteAt_21 (by decide) ?_
      exact r_iret hx hb hr hK hP hS hk dX8_byteAt_25 (show P_X8_byteAt σ0 τ0 a1 ((σ0 35 j4) &&& 255) σ0 τ0 from ⟨hR, hF, hFL, by first | omega | exact ti_and (n := 8) (by decide), by first | exact Or.inr ⟨by omega, by omega⟩ | exact Or.inl ⟨by omega, by omega, by unfold bC; rw [show a1.toInt.toNat = j4 from (by omega)]⟩⟩)
abbrev L_X8_isBlank : List Rc := []
abbrev LL_X8_isBlank : List Rc := []
def P_X8_isBlank (σ0 : Nat → Nat → Int32) (τ0 : Nat → Nat → Int64) (a0 : Int32) (r : Int32) (σ : Nat → Nat → Int32) (τ : Nat → Nat → Int64) : Prop := Rg σ ∧ Fr L_X8_isBlank σ0 σ ∧ FrL LL_X8_isBlank τ0 τ ∧ (0 ≤ r.toInt ∧ r.toInt ≤ 1) ∧ ((r.toInt = 1 ∧ (a0.toInt = 32 ∨ a0.toInt = 10)) ∨ (r.toInt = 0 ∧ a0.toInt ≠ 32 ∧ a0.toInt ≠ 10))
set_option maxHeartbeats 4000000 in
theorem c_X8_isBlank (l : Launch) (D : va_G) (cA : Nat → ClassId) (ad : Nat → Nat) (hI : Inj ad) (σ0 : Nat → Nat → Int32) (τ0 : Nat → Nat → Int64) (hR : Rg σ0) (a0 : Int32) (ha0 : 0 ≤ a0.toInt ∧ a0.toInt ≤ 255) : Met l yX8_isBlank wsX8_isBlank ({ frames := 0, cells := 0, slots := 0, locals := 0 } : Room) (WQc D cA ad [.int a0] σ0 τ0) (va_Qi (fun (r : Int32) (u : SS) => P_X8_isBlank σ0 τ0 a0 r u.1 u.2) (WB D cA ad) (AA ad)) 0 0 (AA ad) := by
  refine Met.ofW (cc := cX8_isBlank) (maxL := 1) (ret := (some .boolean)) (by decide) rfl ?_
  intro p e s m args below meth c s₁ B hml hv
  obtain ⟨rfl, hP, hK, hN⟩ := hv
  have C : Cy p s m _ meth c cX8_isBlank 1 wsX8_isBlank RX8 D cA ad (some .boolean) := ⟨B.exec, B.bytes, hml, findClass_of_methodNamed B.named, atoms_spec (ws := wsX8_isBlank) B.pre, hK, B.notSynchronized, B.returns, hI, hN⟩
  have hl := lv_entry ([.int a0]) (n := 1) (Nat.le_of_ble_eq_true rfl)
  rw [lg_entry_eq]
  generalize (lg_sl ([.int a0]) ++ List.replicate (1 - (lg_sl ([.int a0])).length) Slot.unset).toArray = ls at hl ⊢
  have hl : lv_has ls 1 [(0, .int a0)] := hl
  have hS : va_S (AA ad) s.heap s.heap [] := va_S.rf
  have hF : Fr L_X8_isBlank σ0 σ0 := Fr.rf
  have hFL : FrL LL_X8_isBlank τ0 τ0 := FrL.rf
  obtain ⟨hx, hb, _, hown, hts, _, hk, hr, _, _⟩ := C
  refine lv_iload_n hx hb dX8_isBlank_0 rfl (lv_at hl 0 rfl) ?_
  refine r_bipush hx hb dX8_isBlank_1 (by decide) (fun z1 ez1 => ?_)
  refine r_icmp_eq (tgt := 12) hx hb dX8_isBlank_3 (by decide) (fun c2 => ?_) (fun c2 => ?_)
  · refine r_iconst hx hb dX8_isBlank_12 (by decide) (fun z3 ez3 => ?_)
    refine lv_goto (tgt := 17) hx hb dX8_isBlank_13 (by decide) ?_
    exact r_zret hx hb hr hK hP hS hk (by omega) dX8_isBlank_17 (show P_X8_isBlank σ0 τ0 a0 z3 σ0 τ0 from ⟨hR, hF, hFL, by omega, by omega⟩)
  · refine lv_iload_n hx hb dX8_isBlank_6 rfl (lv_at hl 0 rfl) ?_
    refine r_bipush hx hb dX8_isBlank_7 (by decide) (fun z4 ez4 => ?_)
    refine r_icmp_ne (tgt := 16) hx hb dX8_isBlank_9 (by decide) (fun c5 => ?_) (fun c5 => ?_)
    · refine r_iconst hx hb dX8_isBlank_16 (by decide) (fun z6 ez6 => ?_)
      exact r_zret hx hb hr hK hP hS hk (by omega) dX8_isBlank_17 (show P_X8_isBlank σ0 τ0 a0 z6 σ0 τ0 from ⟨hR, hF, hFL, by omega, by omega⟩)
    · refine r_iconst hx hb dX8_isBlank_12 (by decide) (fun z7 ez7 => ?_)
      refine lv_goto (tgt := 17) hx hb dX8_isBlank_13 (by decide) ?_
      exact r_zret hx hb hr hK hP hS hk (by omega) dX8_isBlank_17 (show P_X8_isBlank σ0 τ0 a0 z7 σ0 τ0 from ⟨hR, hF, hFL, by omega, by omega⟩)
abbrev L_X8_isDigit : List Rc := []
abbrev LL_X8_isDigit : List Rc := []
def P_X8_isDigit (σ0 : Nat → Nat → Int32) (τ0 : Nat → Nat → Int64) (a0 : Int32) (r : Int32) (σ : Nat → Nat → Int32) (τ : Nat → Nat → Int64) : Prop := Rg σ ∧ Fr L_X8_isDigit σ0 σ ∧ FrL LL_X8_isDigit τ0 τ ∧ (0 ≤ r.toInt ∧ r.toInt ≤ 1) ∧ ((r.toInt = 1 ∧ 48 ≤ a0.toInt ∧ a0.toInt ≤ 57) ∨ (r.toInt = 0 ∧ (a0.toInt < 48 ∨ 57 < a0.toInt)))
set_option maxHeartbeats 4000000 in
theorem c_X8_isDigit (l : Launch) (D : va_G) (cA : Nat → ClassId) (ad : Nat → Nat) (hI : Inj ad) (σ0 : Nat → Nat → Int32) (τ0 : Nat → Nat → Int64) (hR : Rg σ0) (a0 : Int32) (ha0 : 0 ≤ a0.toInt ∧ a0.toInt ≤ 255) : Met l yX8_isDigit wsX8_isDigit ({ frames := 0, cells := 0, slots := 0, locals := 0 } : Room) (WQc D cA ad [.int a0] σ0 τ0) (va_Qi (fun (r : Int32) (u : SS) => P_X8_isDigit σ0 τ0 a0 r u.1 u.2) (WB D cA ad) (AA ad)) 0 0 (AA ad) := by
  refine Met.ofW (cc := cX8_isDigit) (maxL := 1) (ret := (some .boolean)) (by decide) rfl ?_
  intro p e s m args below meth c s₁ B hml hv
  obtain ⟨rfl, hP, hK, hN⟩ := hv
  have C : Cy p s m _ meth c cX8_isDigit 1 wsX8_isDigit RX8 D cA ad (some .boolean) := ⟨B.exec, B.bytes, hml, findClass_of_methodNamed B.named, atoms_spec (ws := wsX8_isDigit) B.pre, hK, B.notSynchronized, B.returns, hI, hN⟩
  have hl := lv_entry ([.int a0]) (n := 1) (Nat.le_of_ble_eq_true rfl)
  rw [lg_entry_eq]
  generalize (lg_sl ([.int a0]) ++ List.replicate (1 - (lg_sl ([.int a0])).length) Slot.unset).toArray = ls at hl ⊢
  have hl : lv_has ls 1 [(0, .int a0)] := hl
  have hS : va_S (AA ad) s.heap s.heap [] := va_S.rf
  have hF : Fr L_X8_isDigit σ0 σ0 := Fr.rf
  have hFL : FrL LL_X8_isDigit τ0 τ0 := FrL.rf
  obtain ⟨hx, hb, _, hown, hts, _, hk, hr, _, _⟩ := C
  refine lv_iload_n hx hb dX8_isDigit_0 rfl (lv_at hl 0 rfl) ?_
  refine r_bipush hx hb dX8_isDigit_1 (by decide) (fun z1 ez1 => ?_)
  refine r_icmp_lt (tgt := 16) hx hb dX8_isDigit_3 (by decide) (fun c2 => ?_) (fun c2 => ?_)
  · refine r_iconst hx hb dX8_isDigit_16 (by decide) (fun z3 ez3 => ?_)
    exact r_zret hx hb hr hK hP hS hk (by omega) dX8_isDigit_17 (show P_X8_isDigit σ0 τ0 a0 z3 σ0 τ0 from ⟨hR, hF, hFL, by omega, by omega⟩)
  · refine lv_iload_n hx hb dX8_isDigit_6 rfl (lv_at hl 0 rfl) ?_
    refine r_bipush hx hb dX8_isDigit_7 (by decide) (fun z4 ez4 => ?_)
    refine r_icmp_gt (tgt := 16) hx hb dX8_isDigit_9 (by decide) (fun c5 => ?_) (fun c5 => ?_)
    · refine r_iconst hx hb dX8_isDigit_16 (by decide) (fun z6 ez6 => ?_)
      exact r_zret hx hb hr hK hP hS hk (by omega) dX8_isDigit_17 (show P_X8_isDigit σ0 τ0 a0 z6 σ0 τ0 from ⟨hR, hF, hFL, by omega, by omega⟩)
    · refine r_iconst hx hb dX8_isDigit_12 (by decide) (fun z7 ez7 => ?_)
      refine lv_goto (tgt := 17) hx hb dX8_isDigit_13 (by decide) ?_
      exact r_zret hx hb hr hK hP hS hk (by omega) dX8_isDigit_17 (show P_X8_isDigit σ0 τ0 a0 z7 σ0 τ0 from ⟨hR, hF, hFL, by omega, by omega⟩)
abbrev L_X8_isInRun : List Rc := []
abbrev LL_X8_isInRun : List Rc := []
def P_X8_isInRun (σ0 : Nat → Nat → Int32) (τ0 : Nat → Nat → Int64) (a0 : Int32) (r : Int32) (σ : Nat → Nat → Int32) (τ : Nat → Nat → Int64) : Prop := Rg σ ∧ Fr L_X8_isInRun σ0 σ ∧ FrL LL_X8_isInRun τ0 τ ∧ (0 ≤ r.toInt ∧ r.toInt ≤ 1) ∧ ((r.toInt = 1 ∧ ((97 ≤ a0.toInt ∧ a0.toInt ≤ 122) ∨ (48 ≤ a0.toInt ∧ a0.toInt ≤ 57))) ∨ (r.toInt = 0 ∧ ¬ ((97 ≤ a0.toInt ∧ a0.toInt ≤ 122) ∨ (48 ≤ a0.toInt ∧ a0.toInt ≤ 57))))
set_option maxHeartbeats 4000000 in
theorem c_X8_isInRun (l : Launch) (D : va_G) (cA : Nat → ClassId) (ad : Nat → Nat) (hI : Inj ad) (σ0 : Nat → Nat → Int32) (τ0 : Nat → Nat → Int64) (hR : Rg σ0) (a0 : Int32) (ha0 : 0 ≤ a0.toInt ∧ a0.toInt ≤ 255) : Met l yX8_isInRun wsX8_isInRun ({ frames := 1, cells := 0, slots := 0, locals := 20 } : Room) (WQc D cA ad [.int a0] σ0 τ0) (va_Qi (fun (r : Int32) (u : SS) => P_X8_isInRun σ0 τ0 a0 r u.1 u.2) (WB D cA ad) (AA ad)) 0 0 (AA ad) := by
  refine Met.ofW (cc := cX8_isInRun) (maxL := 1) (ret := (some .boolean)) (by decide) rfl ?_
  intro p e s m args below meth c s₁ B hml hv
  obtain ⟨rfl, hP, hK, hN⟩ := hv
  have C : Cy p s m _ meth c cX8_isInRun 1 wsX8_isInRun RX8 D cA ad (some .boolean) := ⟨B.exec, B.bytes, hml, findClass_of_methodNamed B.named, atoms_spec (ws := wsX8_isInRun) B.pre, hK, B.notSynchronized, B.returns, hI, hN⟩
  have hl := lv_entry ([.int a0]) (n := 1) (Nat.le_of_ble_eq_true rfl)
  rw [lg_entry_eq]
  generalize (lg_sl ([.int a0]) ++ List.replicate (1 - (lg_sl ([.int a0])).length) Slot.unset).toArray = ls at hl ⊢
  have hl : lv_has ls 1 [(0, .int a0)] := hl
  have hS : va_S (AA ad) s.heap s.heap [] := va_S.rf
  have hF : Fr L_X8_isInRun σ0 σ0 := Fr.rf
  have hFL : FrL LL_X8_isInRun τ0 τ0 := FrL.rf
  obtain ⟨hx, hb, _, hown, hts, _, hk, hr, _, _⟩ := C
  refine lv_iload_n hx hb dX8_isInRun_0 rfl (lv_at hl 0 rfl) ?_
  refine r_bipush hx hb dX8_isInRun_1 (by decide) (fun z1 ez1 => ?_)
  refine r_icmp_lt (tgt := 12) hx hb dX8_isInRun_3 (by decide) (fun c2 => ?_) (fun c2 => ?_)
  · refine lv_iload_n hx hb dX8_isInRun_12 rfl (lv_at hl 0 rfl) ?_
    refine r_cSi (As := [.int a0]) (rest := []) ⟨hx, hb, hml, hown, hts⟩ hK hP hN hS (c_X8_isDigit l D cA ad hI σ0 τ0 hR a0 (by omega)) (va_cwS 1 hts gX8_isInRun_X8_isDigit rfl rfl rfl (by decide +kernel) ⟨by decide, by decide⟩) rfl hl.1 rfl (Nat.le_of_ble_eq_true rfl) dX8_isInRun_13 (Nat.zero_le _) (Nat.zero_le _) (fun r3 u3 H3 locs3 hp3 hP hS => ?_)
    obtain ⟨σ3, τ3⟩ := u3
    obtain ⟨hR, f3, fL3, hq3, hp3_0⟩ : P_X8_isDigit σ0 τ0 a0 r3 σ3 τ3 := hp3
    have hP : va_P D vwCl (gw cA ad σ3 τ3) H3 := hP
    obtain rfl := FrL.nil fL3
    obtain rfl := Fr.nil f3
    refine r_if_eq (tgt := 23) hx hb dX8_isInRun_16 (by decide) (fun c4 => ?_) (fun c4 => ?_)
    · refine r_iconst hx hb dX8_isInRun_23 (by decide) (fun z5 ez5 => ?_)
      exact r_zret hx hb hr hK hP hS hk (by omega) dX8_isInRun_24 (show P_X8_isInRun σ0 τ0 a0 z5 σ0 τ0 from ⟨hR, hF, hFL, by omega, by omega⟩)
    · refine r_iconst hx hb dX8_isInRun_19 (by decide) (fun z6 ez6 => ?_)
      refine lv_goto (tgt := 24) hx hb dX8_isInRun_20 (by decide) ?_
      exact r_zret hx hb hr hK hP hS hk (by omega) dX8_isInRun_24 (show P_X8_isInRun σ0 τ0 a0 z6 σ0 τ0 from ⟨hR, hF, hFL, by omega, by omega⟩)
  · refine lv_iload_n hx hb dX8_isInRun_6 rfl (lv_at hl 0 rfl) ?_
    refine r_bipush hx hb dX8_isInRun_7 (by decide) (fun z7 ez7 => ?_)
    refine r_icmp_le (tgt := 19) hx hb dX8_isInRun_9 (by decide) (fun c8 => ?_) (fun c8 => ?_)
    · refine r_iconst hx hb dX8_isInRun_19 (by decide) (fun z9 ez9 => ?_)
      refine lv_goto (tgt := 24) hx hb dX8_isInRun_20 (by decide) ?_
      exact r_zret hx hb hr hK hP hS hk (by omega) dX8_isInRun_24 (show P_X8_isInRun σ0 τ0 a0 z9 σ0 τ0 from ⟨hR, hF, hFL, by omega, by omega⟩)
    · refine lv_iload_n hx hb dX8_isInRun_12 rfl (lv_at hl 0 rfl) ?_
      refine r_cSi (As := [.int a0]) (rest := []) ⟨hx, hb, hml, hown, hts⟩ hK hP hN hS (c_X8_isDigit l D cA ad hI σ0 τ0 hR a0 (by omega)) (va_cwS 1 hts gX8_isInRun_X8_isDigit rfl rfl rfl (by decide +kernel) ⟨by decide, by decide⟩) rfl hl.1 rfl (Nat.le_of_ble_eq_true rfl) dX8_isInRun_13 (Nat.zero_le _) (Nat.zero_le _) (fun r10 u10 H10 locs10 hp10 hP hS => ?_)
      obtain ⟨σ10, τ10⟩ := u10
      obtain ⟨hR, f10, fL10, hq10, hp10_0⟩ : P_X8_isDigit σ0 τ0 a0 r10 σ10 τ10 := hp10
      have hP : va_P D vwCl (gw cA ad σ10 τ10) H10 := hP
      obtain rfl := FrL.nil fL10
      obtain rfl := Fr.nil f10
      refine r_if_eq (tgt := 23) hx hb dX8_isInRun_16 (by decide) (fun c11 => ?_) (fun c11 => ?_)
      · refine r_iconst hx hb dX8_isInRun_23 (by decide) (fun z12 ez12 => ?_)
        exact r_zret hx hb hr hK hP hS hk (by omega) dX8_isInRun_24 (show P_X8_isInRun σ0 τ0 a0 z12 σ0 τ0 from ⟨hR, hF, hFL, by omega, by omega⟩)
      · refine r_iconst hx hb dX8_isInRun_19 (by decide) (fun z13 ez13 => ?_)
        refine lv_goto (tgt := 24) hx hb dX8_isInRun_20 (by decide) ?_
        exact r_zret hx hb hr hK hP hS hk (by omega) dX8_isInRun_24 (show P_X8_isInRun σ0 τ0 a0 z13 σ0 τ0 from ⟨hR, hF, hFL, by omega, by omega⟩)
abbrev L_X8_next_f : List Rc := [(1, 1, 7, 10)]
abbrev LL_X8_next_f : List Rc := [(1, 1, 11, 11)]
def P_X8_next_f (σ0 : Nat → Nat → Int32) (τ0 : Nat → Nat → Int64) (b : Nat → Int) (N : Nat) (mo : Nat) (σ : Nat → Nat → Int32) (τ : Nat → Nat → Int64) : Prop := Rg σ ∧ Fr L_X8_next_f σ0 σ ∧ FrL LL_X8_next_f τ0 τ ∧ (CT σ τ b N mo (posq b N mo 0))
set_option maxHeartbeats 4000000 in
theorem c_X8_next_f (l : Launch) (D : va_G) (cA : Nat → ClassId) (ad : Nat → Nat) (hI : Inj ad) (σ0 : Nat → Nat → Int32) (τ0 : Nat → Nat → Int64) (hR : Rg σ0) (b : Nat → Int) (N : Nat) (mo : Nat) (hpre0 : (σ0 1 7).toInt = 0) (hpre1 : 1 ≤ (σ0 1 6).toInt ∧ (σ0 1 6).toInt ≤ 941) (hpre2 : ∀ e : Nat, (σ0 1 6).toInt = (e : Int) + 1 → endq N mo (posq b N mo e)) (gTL0 : TL σ0 τ0 b N mo) : Met l yX8_next wsX8_next ({ frames := 0, cells := 0, slots := 0, locals := 0 } : Room) (WQc D cA ad [.ref (ad 1)] σ0 τ0) (va_Qv (fun u : SS => P_X8_next_f σ0 τ0 b N mo u.1 u.2) (WB D cA ad) (AA ad)) 0 0 (AA ad) := by
  refine Met.ofW (cc := cX8_next) (maxL := 1) (ret := none) (by decide) rfl ?_
  intro p e s m args below meth c s₁ B hml hv
  obtain ⟨rfl, hP, hK, hN⟩ := hv
  have C : Cy p s m _ meth c cX8_next 1 wsX8_next RX8 D cA ad none := ⟨B.exec, B.bytes, hml, findClass_of_methodNamed B.named, atoms_spec (ws := wsX8_next) B.pre, hK, B.notSynchronized, B.returns, hI, hN⟩
  have hl := lv_entry ([.ref (ad 1)]) (n := 1) (Nat.le_of_ble_eq_true rfl)
  rw [lg_entry_eq]
  generalize (lg_sl ([.ref (ad 1)]) ++ List.replicate (1 - (lg_sl ([.ref (ad 1)])).length) Slot.unset).toArray = ls at hl ⊢
  have hl : lv_has ls 1 [(0, .ref (ad 1))] := hl
  have hS : va_S (AA ad) s.heap s.heap [] := va_S.rf
  have hF : Fr L_X8_next_f σ0 σ0 := Fr.rf
  have hFL : FrL LL_X8_next_f τ0 τ0 := FrL.rf
  have gTL := gTL0
  obtain ⟨hx, hb, _, hown, hts, _, hk, hr, _, _⟩ := C
  refine lv_aload_n hx hb dX8_next_0 rfl (lv_at hl 0 rfl) ?_
  refine fg_8_7 (k := 1) hx hb hts in_X8_next_8 hown hK hP (by decide) (by decide) (hts _ lk_X8_next_69) dX8_next_1 ?_
  refine lv_aload_n hx hb dX8_next_4 rfl (lv_at hl 0 rfl) ?_
  refine fg_8_6 (k := 1) hx hb hts in_X8_next_8 hown hK hP (by decide) (by decide) (hts _ lk_X8_next_39) dX8_next_5 ?_
  refine r_icmp_ge (tgt := 85) hx hb dX8_next_8 (by decide) (fun c1 => ?_) (fun c1 => ?_)
  · exfalso; omega
  · refine lv_aload_n hx hb dX8_next_11 rfl (lv_at hl 0 rfl) ?_
    refine fg_8_7 (k := 1) hx hb hts in_X8_next_8 hown hK hP (by decide) (by decide) (hts _ lk_X8_next_69) dX8_next_12 ?_
    refine lv_aload_n hx hb dX8_next_15 rfl (lv_at hl 0 rfl) ?_
    refine fg_8_1 (k := 1) hx hb hts in_X8_next_8 hown hK hP (by decide) (by decide) (hts _ lk_X8_next_15) dX8_next_16 ?_
    refine al_tokens (k := 36) hx hb hK hP (by decide) (by decide) dX8_next_19 (fun z2 ez2 => ?_)
    refine r_icmp_ge (tgt := 85) hx hb dX8_next_20 (by decide) (fun c3 => ?_) (fun c3 => ?_)
    · exfalso; omega
    · refine lv_aload_n hx hb dX8_next_23 rfl (lv_at hl 0 rfl) ?_
      refine lv_aload_n hx hb dX8_next_24 rfl (lv_at hl 0 rfl) ?_
      refine fg_8_1 (k := 1) hx hb hts in_X8_next_8 hown hK hP (by decide) (by decide) (hts _ lk_X8_next_15) dX8_next_25 ?_
      refine lv_aload_n hx hb dX8_next_28 rfl (lv_at hl 0 rfl) ?_
      refine fg_8_7 (k := 1) hx hb hts in_X8_next_8 hown hK hP (by decide) (by decide) (hts _ lk_X8_next_69) dX8_next_29 ?_
      refine ad_tokens (k := 36) (j := 0) hx hb hK hP (by decide) (by decide) (by omega) (by omega) dX8_next_32 ?_
      refine fp_8_9 (k := 1) hx hb hts in_X8_next_8 hown hK hP (by decide) (by decide) (hts _ lk_X8_next_85) hI hR hS dX8_next_33 (fun σ4 H4 locs4 u4 v4 hR hP hS => ?_)
      have u1 := u4
      have v1 := v4
      have hF := hF.puts u4 0 rfl (by decide) (by decide) (by decide) (by decide)
      have gTL := gTL.ag (Agr.put u4 (by decide))
      have t5 : (σ4 1 7).toInt = (σ0 1 7).toInt := congrArg Int32.toInt (u4 1 7 (by omega))
      have t6 : (σ4 1 6).toInt = (σ0 1 6).toInt := congrArg Int32.toInt (u4 1 6 (by omega))
      refine lv_aload_n hx hb dX8_next_36 rfl (lv_at hl 0 rfl) ?_
      refine lv_aload_n hx hb dX8_next_37 rfl (lv_at hl 0 rfl) ?_
      refine fg_8_2 (k := 1) hx hb hts in_X8_next_8 hown hK hP (by decide) (by decide) (hts _ lk_X8_next_19) dX8_next_38 ?_
      refine lv_aload_n hx hb dX8_next_41 rfl (lv_at hl 0 rfl) ?_
      refine fg_8_7 (k := 1) hx hb hts in_X8_next_8 hown hK hP (by decide) (by decide) (hts _ lk_X8_next_69) dX8_next_42 ?_
      refine ad_tokens (k := 37) (j := 0) hx hb hK hP (by decide) (by decide) (by omega) (by omega) dX8_next_45 ?_
      refine fp_8_8 (k := 1) hx hb hts in_X8_next_8 hown hK hP (by decide) (by decide) (hts _ lk_X8_next_88) hI hR hS dX8_next_46 (fun σ7 H7 locs7 u7 v7 hR hP hS => ?_)
      have u2 := u7
      have v2 := v7
      have hF := hF.puts u7 0 rfl (by decide) (by decide) (by decide) (by decide)
      have gTL := gTL.ag (Agr.put u7 (by decide))
      have t8 : (σ7 1 7).toInt = (σ4 1 7).toInt := congrArg Int32.toInt (u7 1 7 (by omega))
      have t9 : (σ7 1 6).toInt = (σ4 1 6).toInt := congrArg Int32.toInt (u7 1 6 (by omega))
      refine lv_aload_n hx hb dX8_next_49 rfl (lv_at hl 0 rfl) ?_
      refine lv_aload_n hx hb dX8_next_50 rfl (lv_at hl 0 rfl) ?_
      refine fg_8_3 (k := 1) hx hb hts in_X8_next_8 hown hK hP (by decide) (by decide) (hts _ lk_X8_next_22) dX8_next_51 ?_
      refine lv_aload_n hx hb dX8_next_54 rfl (lv_at hl 0 rfl) ?_
      refine fg_8_7 (k := 1) hx hb hts in_X8_next_8 hown hK hP (by decide) (by decide) (hts _ lk_X8_next_69) dX8_next_55 ?_
      refine ad_tokens (k := 38) (j := 0) hx hb hK hP (by decide) (by decide) (by omega) (by omega) dX8_next_58 ?_
      refine fp_8_10 (k := 1) hx hb hts in_X8_next_8 hown hK hP (by decide) (by decide) (hts _ lk_X8_next_91) hI hR hS dX8_next_59 (fun σ10 H10 locs10 u10 v10 hR hP hS => ?_)
      have u3 := u10
      have v3 := v10
      have hF := hF.puts u10 0 rfl (by decide) (by decide) (by decide) (by decide)
      have gTL := gTL.ag (Agr.put u10 (by decide))
      have t11 : (σ10 1 7).toInt = (σ7 1 7).toInt := congrArg Int32.toInt (u10 1 7 (by omega))
      have t12 : (σ10 1 6).toInt = (σ7 1 6).toInt := congrArg Int32.toInt (u10 1 6 (by omega))
      refine lv_aload_n hx hb dX8_next_62 rfl (lv_at hl 0 rfl) ?_
      refine lv_aload_n hx hb dX8_next_63 rfl (lv_at hl 0 rfl) ?_
      refine fg_8_4 (k := 1) hx hb hts in_X8_next_8 hown hK hP (by decide) (by decide) (hts _ lk_X8_next_25) dX8_next_64 ?_
      refine lv_aload_n hx hb dX8_next_67 rfl (lv_at hl 0 rfl) ?_
      refine fg_8_7 (k := 1) hx hb hts in_X8_next_8 hown hK hP (by decide) (by decide) (hts _ lk_X8_next_69) dX8_next_68 ?_
      refine adL_names (k := 39) (j := 0) hx hb hK hP (by decide) (by decide) (by omega) (by omega) dX8_next_71 ?_
      refine fpL_8_11 (k := 1) hx hb hts in_X8_next_8 hown hK hP (by decide) (by decide) (hts _ lk_X8_next_94) hI hS dX8_next_72 (fun τ13 H13 locs13 uL13 vL13 hP hS => ?_)
      have uL := uL13
      have vL := vL13
      have hFL := hFL.puts uL13 0 rfl (by decide) (by decide) (by decide) (by decide)
      have gTL := gTL.agL (AgrL.put uL13 (by decide))
      refine lv_aload_n hx hb dX8_next_75 rfl (lv_at hl 0 rfl) ?_
      refine lv_dup hx hb dX8_next_76 rfl ?_
      refine fg_8_7 (k := 1) hx hb hts in_X8_next_8 hown hK hP (by decide) (by decide) (hts _ lk_X8_next_69) dX8_next_77 ?_
      refine r_iconst hx hb dX8_next_80 (by decide) (fun z14 ez14 => ?_)
      refine r_iadd hx hb dX8_next_81 (by omega) (fun z15 ez15 => ?_)
      refine fp_8_7 (k := 1) hx hb hts in_X8_next_8 hown hK hP (by decide) (by decide) (hts _ lk_X8_next_69) hI hR hS (by omega) dX8_next_82 (fun σ16 H16 locs16 u16 v16 hR hP hS => ?_)
      have u5 := u16
      have v5 := v16
      have hF := hF.puts u16 0 rfl (by decide) (by decide) (by decide) (by decide)
      have gTL := gTL.ag (Agr.put u16 (by decide))
      have t17 : (σ16 1 6).toInt = (σ10 1 6).toInt := congrArg Int32.toInt (u16 1 6 (by omega))
      exact r_vret hx hb hr hK hP hS hk dX8_next_85 (show P_X8_next_f σ0 τ0 b N mo σ16 τ13 from ⟨hR, hF, hFL, CT.frs gTL0 hpre2 u1 v1 u2 v2 u3 v3 uL vL u5 rfl (by omega) (by omega) (by omega)⟩)
theorem in_X8_note_8 : ∀ w ∈ u_ws RX8 TX8 15, w ∈ wsX8_note := by decide +kernel
theorem lk_X8_note_15 : Cond.fieldLink RX8 15 "CuckooShares$Tape" "tokens" "[I" ∈ wsX8_note := by decide +kernel
theorem lk_X8_note_19 : Cond.fieldLink RX8 19 "CuckooShares$Tape" "places" "[I" ∈ wsX8_note := by decide +kernel
theorem lk_X8_note_22 : Cond.fieldLink RX8 22 "CuckooShares$Tape" "numbers" "[I" ∈ wsX8_note := by decide +kernel
theorem lk_X8_note_25 : Cond.fieldLink RX8 25 "CuckooShares$Tape" "names" "[J" ∈ wsX8_note := by decide +kernel
theorem lk_X8_note_39 : Cond.fieldLink RX8 39 "CuckooShares$Tape" "tokensRead" "I" ∈ wsX8_note := by decide +kernel
abbrev L_X8_note_v : List Rc := [(36, 36, 0, 940), (37, 37, 0, 940), (38, 38, 0, 940), (1, 1, 6, 6)]
abbrev LL_X8_note_v : List Rc := [(39, 39, 0, 940)]
def P_X8_note_v (σ0 : Nat → Nat → Int32) (τ0 : Nat → Nat → Int64) (a1 : Int32) (a2 : Int32) (a3 : Int32) (a4 : Int64) (b : Nat → Int) (N : Nat) (mo : Nat) (σ : Nat → Nat → Int32) (τ : Nat → Nat → Int64) : Prop := Rg σ ∧ Fr L_X8_note_v σ0 σ ∧ FrL LL_X8_note_v τ0 τ ∧ ((σ 1 6).toInt = (σ0 1 6).toInt + 1) ∧ TL σ τ b N mo
set_option maxHeartbeats 4000000 in
theorem c_X8_note_v (l : Launch) (D : va_G) (cA : Nat → ClassId) (ad : Nat → Nat) (hI : Inj ad) (σ0 : Nat → Nat → Int32) (τ0 : Nat → Nat → Int64) (hR : Rg σ0) (a1 : Int32) (a2 : Int32) (a3 : Int32) (a4 : Int64) (b : Nat → Int) (N : Nat) (mo : Nat) (ha1 : 0 ≤ a1.toInt ∧ a1.toInt ≤ 49) (ha2 : 0 ≤ a2.toInt ∧ a2.toInt ≤ 900) (hpre0 : 0 ≤ (σ0 1 6).toInt ∧ (σ0 1 6).toInt ≤ 940) (hpre1 : TV b N mo (posq b N mo (σ0 1 6).toInt.toNat) a1.toInt a2.toInt a3.toInt a4) (gTL0 : TL σ0 τ0 b N mo) : Met l yX8_note wsX8_note ({ frames := 0, cells := 0, slots := 0, locals := 0 } : Room) (WQc D cA ad [.ref (ad 1), .int a1, .int a2, .int a3, .long a4] σ0 τ0) (va_Qv (fun u : SS => P_X8_note_v σ0 τ0 a1 a2 a3 a4 b N mo u.1 u.2) (WB D cA ad) (AA ad)) 0 0 (AA ad) := by
  refine Met.ofW (cc := cX8_note) (maxL := 6) (ret := none) (by decide) rfl ?_
  intro p e s m args below meth c s₁ B hml hv
  obtain ⟨rfl, hP, hK, hN⟩ := hv
  have C : Cy p s m _ meth c cX8_note 6 wsX8_note RX8 D cA ad none := ⟨B.exec, B.bytes, hml, findClass_of_methodNamed B.named, atoms_spec (ws := wsX8_note) B.pre, hK, B.notSynchronized, B.returns, hI, hN⟩
  have hl := lv_entry ([.ref (ad 1), .int a1, .int a2, .int a3, .long a4]) (n := 6) (Nat.le_of_ble_eq_true rfl)
  rw [lg_entry_eq]
  generalize (lg_sl ([.ref (ad 1), .int a1, .int a2, .int a3, .long a4]) ++ List.replicate (6 - (lg_sl ([.ref (ad 1), .int a1, .int a2, .int a3, .long a4])).length) Slot.unset).toArray = ls at hl ⊢
  have hl : lv_has ls 6 [(0, .ref (ad 1)), (1, .int a1), (2, .int a2), (3, .int a3), (4, .long a4)] := hl
  have hS : va_S (AA ad) s.heap s.heap [] := va_S.rf
  have hF : Fr L_X8_note_v σ0 σ0 := Fr.rf
  have hFL : FrL LL_X8_note_v τ0 τ0 := FrL.rf
  have gTL := gTL0
  obtain ⟨hx, hb, _, hown, hts, _, hk, hr, _, _⟩ := C
  refine lv_aload_n hx hb dX8_note_0 rfl (lv_at hl 0 rfl) ?_
  refine fg_8_6 (k := 1) hx hb hts in_X8_note_8 hown hK hP (by decide) (by decide) (hts _ lk_X8_note_39) dX8_note_1 ?_
  refine lv_aload_n hx hb dX8_note_4 rfl (lv_at hl 0 rfl) ?_
  refine fg_8_1 (k := 1) hx hb hts in_X8_note_8 hown hK hP (by decide) (by decide) (hts _ lk_X8_note_15) dX8_note_5 ?_
  refine al_tokens (k := 36) hx hb hK hP (by decide) (by decide) dX8_note_8 (fun z1 ez1 => ?_)
  refine r_icmp_ge (tgt := 63) hx hb dX8_note_9 (by decide) (fun c2 => ?_) (fun c2 => ?_)
  · exfalso; omega
  · refine lv_aload_n hx hb dX8_note_12 rfl (lv_at hl 0 rfl) ?_
    refine fg_8_1 (k := 1) hx hb hts in_X8_note_8 hown hK hP (by decide) (by decide) (hts _ lk_X8_note_15) dX8_note_13 ?_
    refine lv_aload_n hx hb dX8_note_16 rfl (lv_at hl 0 rfl) ?_
    refine fg_8_6 (k := 1) hx hb hts in_X8_note_8 hown hK hP (by decide) (by decide) (hts _ lk_X8_note_39) dX8_note_17 ?_
    refine lv_iload_n hx hb dX8_note_20 rfl (lv_at hl 1 rfl) ?_
    obtain ⟨j3, ej3⟩ : ∃ j : Nat, (σ0 1 6).toInt = (j : Int) := ⟨_, ti_nat (by omega)⟩
    refine as_tokens (k := 36) (j := j3) hx hb hK hP hI hR hS (by decide) (by decide) ej3 (by omega) dX8_note_21 (fun σ4 H4 locs4 u4 v4 hR hP hS => ?_)
    have u1 := u4
    have v1 := v4
    have hF := hF.puts u4 0 rfl (by decide) (by decide) (by omega) (by omega)
    have t5 : (σ4 1 6).toInt = (σ0 1 6).toInt := congrArg Int32.toInt (u4 1 6 (by omega))
    refine lv_aload_n hx hb dX8_note_22 rfl (lv_at hl 0 rfl) ?_
    refine fg_8_2 (k := 1) hx hb hts in_X8_note_8 hown hK hP (by decide) (by decide) (hts _ lk_X8_note_19) dX8_note_23 ?_
    refine lv_aload_n hx hb dX8_note_26 rfl (lv_at hl 0 rfl) ?_
    refine fg_8_6 (k := 1) hx hb hts in_X8_note_8 hown hK hP (by decide) (by decide) (hts _ lk_X8_note_39) dX8_note_27 ?_
    refine lv_iload_n hx hb dX8_note_30 rfl (lv_at hl 2 rfl) ?_
    refine as_tokens (k := 37) (j := j3) hx hb hK hP hI hR hS (by decide) (by decide) (by omega) (by omega) dX8_note_31 (fun σ6 H6 locs6 u6 v6 hR hP hS => ?_)
    have u2 := u6
    have v2 := v6
    have hF := hF.puts u6 1 rfl (by decide) (by decide) (by omega) (by omega)
    have t7 : (σ6 1 6).toInt = (σ4 1 6).toInt := congrArg Int32.toInt (u6 1 6 (by omega))
    refine lv_aload_n hx hb dX8_note_32 rfl (lv_at hl 0 rfl) ?_
    refine fg_8_3 (k := 1) hx hb hts in_X8_note_8 hown hK hP (by decide) (by decide) (hts _ lk_X8_note_22) dX8_note_33 ?_
    refine lv_aload_n hx hb dX8_note_36 rfl (lv_at hl 0 rfl) ?_
    refine fg_8_6 (k := 1) hx hb hts in_X8_note_8 hown hK hP (by decide) (by decide) (hts _ lk_X8_note_39) dX8_note_37 ?_
    refine lv_iload_n hx hb dX8_note_40 rfl (lv_at hl 3 rfl) ?_
    refine as_tokens (k := 38) (j := j3) hx hb hK hP hI hR hS (by decide) (by decide) (by omega) (by omega) dX8_note_41 (fun σ8 H8 locs8 u8 v8 hR hP hS => ?_)
    have u3 := u8
    have v3 := v8
    have hF := hF.puts u8 2 rfl (by decide) (by decide) (by omega) (by omega)
    have t9 : (σ8 1 6).toInt = (σ6 1 6).toInt := congrArg Int32.toInt (u8 1 6 (by omega))
    refine lv_aload_n hx hb dX8_note_42 rfl (lv_at hl 0 rfl) ?_
    refine fg_8_4 (k := 1) hx hb hts in_X8_note_8 hown hK hP (by decide) (by decide) (hts _ lk_X8_note_25) dX8_note_43 ?_
    refine lv_aload_n hx hb dX8_note_46 rfl (lv_at hl 0 rfl) ?_
    refine fg_8_6 (k := 1) hx hb hts in_X8_note_8 hown hK hP (by decide) (by decide) (hts _ lk_X8_note_39) dX8_note_47 ?_
    refine lv_lload hx hb dX8_note_50 (lv_at hl 4 rfl) ?_
    refine asL_names (k := 39) (j := j3) hx hb hK hP hI hS (by decide) (by decide) (by omega) (by omega) dX8_note_52 (fun τ10 H10 locs10 uL10 vL10 hP hS => ?_)
    have uL := uL10
    have vL := vL10
    have hFL := hFL.puts uL10 0 rfl (by decide) (by decide) (by omega) (by omega)
    refine lv_aload_n hx hb dX8_note_53 rfl (lv_at hl 0 rfl) ?_
    refine lv_dup hx hb dX8_note_54 rfl ?_
    refine fg_8_6 (k := 1) hx hb hts in_X8_note_8 hown hK hP (by decide) (by decide) (hts _ lk_X8_note_39) dX8_note_55 ?_
    refine r_iconst hx hb dX8_note_58 (by decide) (fun z11 ez11 => ?_)
    refine r_iadd hx hb dX8_note_59 (by omega) (fun z12 ez12 => ?_)
    refine fp_8_6 (k := 1) hx hb hts in_X8_note_8 hown hK hP (by decide) (by decide) (hts _ lk_X8_note_39) hI hR hS (by omega) dX8_note_60 (fun σ13 H13 locs13 u13 v13 hR hP hS => ?_)
    have u5 := u13
    have v5 := v13
    have hF := hF.puts u13 3 rfl (by decide) (by decide) (by decide) (by decide)
    exact r_vret hx hb hr hK hP hS hk dX8_note_63 (show P_X8_note_v σ0 τ0 a1 a2 a3 a4 b N mo σ13 τ10 from ⟨hR, hF, hFL, by omega, TL.note gTL0 u1 v1 u2 v2 u3 v3 uL vL u5 (by omega) (by omega) hpre1⟩)
theorem lk_J0_coder_7d493_15 : Cond.fieldLink RJ0 15 "java/lang/String" "coder" "B" ∈ wsJ0_coder_7d493 := by decide +kernel
theorem lk_J0_coder_7d493_38 : Cond.fieldLink RJ0 38 "java/lang/String" "COMPACT_STRINGS" "Z" ∈ wsJ0_coder_7d493 := by decide +kernel
abbrev L_J0_coder_7d493_s0 : List Rc := []
abbrev LL_J0_coder_7d493_s0 : List Rc := []
def P_J0_coder_7d493_s0 (σ0 : Nat → Nat → Int32) (τ0 : Nat → Nat → Int64)  (r : Int32) (σ : Nat → Nat → Int32) (τ : Nat → Nat → Int64) : Prop := Rg σ ∧ Fr L_J0_coder_7d493_s0 σ0 σ ∧ FrL LL_J0_coder_7d493_s0 τ0 τ ∧ (0 ≤ r.toInt ∧ r.toInt ≤ 0)
set_option maxHeartbeats 4000000 in
theorem c_J0_coder_7d493_s0 (l : Launch) (D : va_G) (cA : Nat → ClassId) (ad : Nat → Nat) (hI : Inj ad) (σ0 : Nat → Nat → Int32) (τ0 : Nat → Nat → Int64) (hR : Rg σ0)   : Met l yJ0_coder_7d493 wsJ0_coder_7d493 ({ frames := 0, cells := 0, slots := 0, locals := 0 } : Room) (WQc D cA ad [.ref (ad 407)] σ0 τ0) (va_Qi (fun (r : Int32) (u : SS) => P_J0_coder_7d493_s0 σ0 τ0 r u.1 u.2) (WB D cA ad) (AA ad)) 0 0 (AA ad) := by
  refine Met.ofW (cc := cJ0_coder_7d493) (maxL := 1) (ret := (some .byte)) (by decide) rfl ?_
  intro p e s m args below meth c s₁ B hml hv
  obtain ⟨rfl, hP, hK, hN⟩ := hv
  have C : Cy p s m _ meth c cJ0_coder_7d493 1 wsJ0_coder_7d493 RJ0 D cA ad (some .byte) := ⟨B.exec, B.bytes, hml, findClass_of_methodNamed B.named, atoms_spec (ws := wsJ0_coder_7d493) B.pre, hK, B.notSynchronized, B.returns, hI, hN⟩
  have hl := lv_entry ([.ref (ad 407)]) (n := 1) (Nat.le_of_ble_eq_true rfl)
  rw [lg_entry_eq]
  generalize (lg_sl ([.ref (ad 407)]) ++ List.replicate (1 - (lg_sl ([.ref (ad 407)])).length) Slot.unset).toArray = ls at hl ⊢
  have hl : lv_has ls 1 [(0, .ref (ad 407))] := hl
  have hS : va_S (AA ad) s.heap s.heap [] := va_S.rf
  have hF : Fr L_J0_coder_7d493_s0 σ0 σ0 := Fr.rf
  have hFL : FrL LL_J0_coder_7d493_s0 τ0 τ0 := FrL.rf
  obtain ⟨hx, hb, _, hown, hts, _, hk, hr, _, _⟩ := C
  refine sz_cs hx hb hN hS hown (hts _ lk_J0_coder_7d493_38) dJ0_coder_7d493_0 (fun z1 ez1 => ?_)
  refine r_if_eq (tgt := 13) hx hb dJ0_coder_7d493_3 (by decide) (fun c2 => ?_) (fun c2 => ?_)
  · exfalso; omega
  · refine lv_aload_n hx hb dJ0_coder_7d493_6 rfl (lv_at hl 0 rfl) ?_
    refine sc_0 hx hb hN hS hown (hts _ lk_J0_coder_7d493_15) dJ0_coder_7d493_7 (fun z3 ez3 => ?_)
    refine lv_goto (tgt := 14) hx hb dJ0_coder_7d493_10 (by decide) ?_
    exact r_bret hx hb hr hK hP hS hk (by omega) dJ0_coder_7d493_14 (show P_J0_coder_7d493_s0 σ0 τ0 z3 σ0 τ0 from ⟨hR, hF, hFL, by omega⟩)
theorem lk_J0_length_8abf5_9 : Cond.fieldLink RJ0 9 "java/lang/String" "value" "[B" ∈ wsJ0_length_8abf5 := by decide +kernel
abbrev L_J0_length_8abf5_s0 : List Rc := []
abbrev LL_J0_length_8abf5_s0 : List Rc := []
def P_J0_length_8abf5_s0 (σ0 : Nat → Nat → Int32) (τ0 : Nat → Nat → Int64)  (r : Int32) (σ : Nat → Nat → Int32) (τ : Nat → Nat → Int64) : Prop := Rg σ ∧ Fr L_J0_length_8abf5_s0 σ0 σ ∧ FrL LL_J0_length_8abf5_s0 τ0 τ ∧ (98 ≤ r.toInt ∧ r.toInt ≤ 98)
set_option maxHeartbeats 4000000 in
theorem c_J0_length_8abf5_s0 (l : Launch) (D : va_G) (cA : Nat → ClassId) (ad : Nat → Nat) (hI : Inj ad) (σ0 : Nat → Nat → Int32) (τ0 : Nat → Nat → Int64) (hR : Rg σ0)   : Met l yJ0_length_8abf5 wsJ0_length_8abf5 ({ frames := 1, cells := 0, slots := 0, locals := 20 } : Room) (WQc D cA ad [.ref (ad 407)] σ0 τ0) (va_Qi (fun (r : Int32) (u : SS) => P_J0_length_8abf5_s0 σ0 τ0 r u.1 u.2) (WB D cA ad) (AA ad)) 0 0 (AA ad) := by
  refine Met.ofW (cc := cJ0_length_8abf5) (maxL := 1) (ret := (some .int)) (by decide) rfl ?_
  intro p e s m args below meth c s₁ B hml hv
  obtain ⟨rfl, hP, hK, hN⟩ := hv
  have C : Cy p s m _ meth c cJ0_length_8abf5 1 wsJ0_length_8abf5 RJ0 D cA ad (some .int) := ⟨B.exec, B.bytes, hml, findClass_of_methodNamed B.named, atoms_spec (ws := wsJ0_length_8abf5) B.pre, hK, B.notSynchronized, B.returns, hI, hN⟩
  have hl := lv_entry ([.ref (ad 407)]) (n := 1) (Nat.le_of_ble_eq_true rfl)
  rw [lg_entry_eq]
  generalize (lg_sl ([.ref (ad 407)]) ++ List.replicate (1 - (lg_sl ([.ref (ad 407)])).length) Slot.unset).toArray = ls at hl ⊢
  have hl : lv_has ls 1 [(0, .ref (ad 407))] := hl
  have hS : va_S (AA ad) s.heap s.heap [] := va_S.rf
  have hF : Fr L_J0_length_8abf5_s0 σ0 σ0 := Fr.rf
  have hFL : FrL LL_J0_length_8abf5_s0 τ0 τ0 := FrL.rf
  obtain ⟨hx, hb, _, hown, hts, _, hk, hr, _, _⟩ := C
  refine lv_aload_n hx hb dJ0_length_8abf5_0 rfl (lv_at hl 0 rfl) ?_
  refine sv_0 hx hb hN hS hown (hts _ lk_J0_length_8abf5_9) dJ0_length_8abf5_1 ?_
  refine sl_0 hx hb hN hS dJ0_length_8abf5_4 (fun z1 ez1 => ?_)
  refine lv_aload_n hx hb dJ0_length_8abf5_5 rfl (lv_at hl 0 rfl) ?_
  refine r_cVi (k := 407) (As := []) (rest := [.int z1]) ⟨hx, hb, hml, hown, hts⟩ hK hP hN hS (c_J0_coder_7d493_s0 l D cA ad hI σ0 τ0 hR) (cwV 0 hts gJ0_length_8abf5_J0_coder_7d493 rfl rfl rfl (by decide +kernel) ⟨by decide, by decide⟩) (so_0 hN hS) rfl hl.1 rfl (Nat.le_of_ble_eq_true rfl) dJ0_length_8abf5_6 (Nat.zero_le _) (Nat.zero_le _) (fun r2 u2 H2 locs2 hp2 hP hS => ?_)
  obtain ⟨σ2, τ2⟩ := u2
  obtain ⟨hR, f2, fL2, hq2⟩ : P_J0_coder_7d493_s0 σ0 τ0 r2 σ2 τ2 := hp2
  have hP : va_P D vwCl (gw cA ad σ2 τ2) H2 := hP
  obtain rfl := FrL.nil fL2
  obtain rfl := Fr.nil f2
  refine r_ishr0 hx hb dJ0_length_8abf5_9 (by omega) (fun z3 ez3 => ?_)
  exact r_iret hx hb hr hK hP hS hk dJ0_length_8abf5_10 (show P_J0_length_8abf5_s0 σ0 τ0 z3 σ0 τ0 from ⟨hR, hF, hFL, by omega⟩)
