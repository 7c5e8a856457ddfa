theorem lk_L_man : Cond.classLink RL 13 "java/util/NoSuchElementException" ∈ wsL_man := by decide +kernel
set_option maxHeartbeats 4000000 in
theorem c_L_man (l : Launch) (hl0 : l.stackTraces = false) (D : va_G) (cA : Nat → ClassId) (ad : Nat → Nat) (hI : Inj ad) (σ0 : Nat → Nat → Int32) (τ0 : Nat → Nat → Int64) (hR : Rg σ0) (a1 : Int32) (a2 : Int32) : vx_Met l yL_man wsL_man ({ frames := 7, cells := 1, slots := 6, locals := 104 } : Room) (WQx D cA ad [.ref (ad 0), .int a1, .int a2, .ref (ad 406)] σ0 τ0) (va_Qi (fun (r : Int32) (u : SS) => Rg u.1 ∧ Fr L_X11_man σ0 u.1 ∧ FrL (LO LL_X11_man) τ0 u.2) (WB D cA ad) (AA ad)) (XN ad) 1 6 (AA ad) := by
  refine vx_ofWH (cc := cL_man) (maxL := 5) (ret := some .int) (hh := [(0, 10, 13, 13)]) (by decide) rfl ?_
  intro p e s m args below meth c s₁ B hml hv
  obtain ⟨rfl, hP, hK, hV⟩ := hv
  have hx := B.exec
  have hb := B.bytes
  have hr := B.returns
  have hts := atoms_spec (ws := wsL_man) B.pre
  have hown : s.vm.findClass RL = some m.cls := findClass_of_methodNamed B.named
  have hk := B.notSynchronized
  have htab : c.exceptionTable.toList = tableOf [(0, 10, 13, 13)] := vx_table (x := yL_law) B (hts _ List.mem_cons_self)
  have hS : va_S (AA ad) s.heap s.heap [] := va_S.rf
  have hl := lv_entry ([.ref (ad 0), .int a1, .int a2, .ref (ad 406)]) (n := 5) (Nat.le_of_ble_eq_true rfl)
  rw [lg_entry_eq]
  generalize (lg_sl ([.ref (ad 0), .int a1, .int a2, .ref (ad 406)]) ++ List.replicate (5 - (lg_sl ([.ref (ad 0), .int a1, .int a2, .ref (ad 406)])).length) Slot.unset).toArray = ls at hl ⊢
  have hl : lv_has ls 5 [(0, .ref (ad 0)), (1, .int a1), (2, .int a2), (3, .ref (ad 406))] := hl
  refine lv_aload_n hx hb dL_man_0 rfl (lv_at hl 3 rfl) ?_
  refine r_iconst hx hb dL_man_1 (by decide) (fun z1 ez1 => ?_)
  refine lv_aload_n hx hb dL_man_2 rfl (lv_at hl 0 rfl) ?_
  refine lv_iload_n hx hb dL_man_3 rfl (lv_at hl 1 rfl) ?_
  refine lv_iload_n hx hb dL_man_4 rfl (lv_at hl 2 rfl) ?_
  refine r_xVi (k := 0) (As := [.int a1, .int a2]) (rest := [.int z1, .ref (ad 406)]) ⟨hx, hb, hml, hown, hts⟩ hK hP hV hS (c_X11_man l hl0 D cA ad hI σ0 τ0 hR a1 a2) (cwV 2 hts gL_man_X11_man rfl rfl rfl (by decide +kernel) ⟨by decide, by decide⟩) (rv_X hK hP (by decide) (by decide)) rfl hl.1 rfl (Nat.le_of_ble_eq_true rfl) dL_man_5 (Nat.le_of_ble_eq_true rfl) (Nat.le_of_ble_eq_true rfl) (fun ce q9 u H1 locs1 hR1 hF1 hFL1 hP1 hS1 h1 h2 h3 => ?_) (fun r u H1 locs1 hp hP1 hS1 => ?_)
  · obtain ⟨σ1, τ1⟩ := u
    refine vx_catch (own := RL) (name := NSE) (E := NSE) hown [] _ [] htab (fun z hz => nomatch hz) rfl (by decide) (hts _ lk_L_man) (va_Nw.use rfl hV.2.1.2.2.2) h1 h2 h3 ?_
    refine lv_astore (lv' := (4, .ref q9) :: [(0, .ref (ad 0)), (1, .int a1), (2, .int a2), (3, .ref (ad 406))]) hx hb dL_man_13 hl (by decide) rfl (fun ls hl => ?_)
    refine r_iconst hx hb dL_man_15 (by decide) (fun z2 ez2 => ?_)
    exact vx_ret (r_iret hx hb hr hK hP1 hS1 hk dL_man_16 (show Rg σ1 ∧ Fr L_X11_man σ0 σ1 ∧ FrL (LO LL_X11_man) τ0 τ1 from ⟨hR1, hF1, LO.a hFL1⟩))
  · obtain ⟨σ1, τ1⟩ := u
    have hR1 := hp.1
    have hF1 := hp.2.1
    have hFL1 := hp.2.2
    refine r_i2l hx hb dL_man_8 (fun z3 => ?_)
    refine asL_out (k := 406) (j := 0) hx hb hK hP1 hI hS1 (by decide) (by decide) (by omega) (by omega) dL_man_9 (fun τ2 H2 locs2 uL vL hP2 hS2 => ?_)
    refine lv_goto (tgt := 17) hx hb dL_man_10 (by decide) ?_
    refine r_iconst hx hb dL_man_17 (by decide) (fun z4 ez4 => ?_)
    exact vx_ret (r_iret hx hb hr hK hP2 hS2 hk dL_man_18 (show Rg σ1 ∧ Fr L_X11_man σ0 σ1 ∧ FrL (LO LL_X11_man) τ0 τ2 from ⟨hR1, hF1, LO.b hFL1 uL⟩))
theorem lk_L_mean : Cond.classLink RL 13 "java/util/NoSuchElementException" ∈ wsL_mean := by decide +kernel
set_option maxHeartbeats 4000000 in
theorem c_L_mean (l : Launch) (hl0 : l.stackTraces = false) (D : va_G) (cA : Nat → ClassId) (ad : Nat → Nat) (hI : Inj ad) (σ0 : Nat → Nat → Int32) (τ0 : Nat → Nat → Int64) (hR : Rg σ0) (a1 : Int32) (a2 : Int32) : vx_Met l yL_mean wsL_mean ({ frames := 7, cells := 1, slots := 6, locals := 163 } : Room) (WQx D cA ad [.ref (ad 0), .int a1, .int a2, .ref (ad 406)] σ0 τ0) (va_Qi (fun (r : Int32) (u : SS) => Rg u.1 ∧ Fr L_X11_mean σ0 u.1 ∧ FrL (LO LL_X11_mean) τ0 u.2) (WB D cA ad) (AA ad)) (XN ad) 1 6 (AA ad) := by
  refine vx_ofWH (cc := cL_mean) (maxL := 5) (ret := some .int) (hh := [(0, 10, 13, 13)]) (by decide) rfl ?_
  intro p e s m args below meth c s₁ B hml hv
  obtain ⟨rfl, hP, hK, hV⟩ := hv
  have hx := B.exec
  have hb := B.bytes
  have hr := B.returns
  have hts := atoms_spec (ws := wsL_mean) B.pre
  have hown : s.vm.findClass RL = some m.cls := findClass_of_methodNamed B.named
  have hk := B.notSynchronized
  have htab : c.exceptionTable.toList = tableOf [(0, 10, 13, 13)] := vx_table (x := yL_law) B (hts _ List.mem_cons_self)
  have hS : va_S (AA ad) s.heap s.heap [] := va_S.rf
  have hl := lv_entry ([.ref (ad 0), .int a1, .int a2, .ref (ad 406)]) (n := 5) (Nat.le_of_ble_eq_true rfl)
  rw [lg_entry_eq]
  generalize (lg_sl ([.ref (ad 0), .int a1, .int a2, .ref (ad 406)]) ++ List.replicate (5 - (lg_sl ([.ref (ad 0), .int a1, .int a2, .ref (ad 406)])).length) Slot.unset).toArray = ls at hl ⊢
  have hl : lv_has ls 5 [(0, .ref (ad 0)), (1, .int a1), (2, .int a2), (3, .ref (ad 406))] := hl
  refine lv_aload_n hx hb dL_mean_0 rfl (lv_at hl 3 rfl) ?_
  refine r_iconst hx hb dL_mean_1 (by decide) (fun z1 ez1 => ?_)
  refine lv_aload_n hx hb dL_mean_2 rfl (lv_at hl 0 rfl) ?_
  refine lv_iload_n hx hb dL_mean_3 rfl (lv_at hl 1 rfl) ?_
  refine lv_iload_n hx hb dL_mean_4 rfl (lv_at hl 2 rfl) ?_
  refine r_xVi (k := 0) (As := [.int a1, .int a2]) (rest := [.int z1, .ref (ad 406)]) ⟨hx, hb, hml, hown, hts⟩ hK hP hV hS (c_X11_mean l hl0 D cA ad hI σ0 τ0 hR a1 a2) (cwV 2 hts gL_mean_X11_mean rfl rfl rfl (by decide +kernel) ⟨by decide, by decide⟩) (rv_X hK hP (by decide) (by decide)) rfl hl.1 rfl (Nat.le_of_ble_eq_true rfl) dL_mean_5 (Nat.le_of_ble_eq_true rfl) (Nat.le_of_ble_eq_true rfl) (fun ce q9 u H1 locs1 hR1 hF1 hFL1 hP1 hS1 h1 h2 h3 => ?_) (fun r u H1 locs1 hp hP1 hS1 => ?_)
  · obtain ⟨σ1, τ1⟩ := u
    refine vx_catch (own := RL) (name := NSE) (E := NSE) hown [] _ [] htab (fun z hz => nomatch hz) rfl (by decide) (hts _ lk_L_mean) (va_Nw.use rfl hV.2.1.2.2.2) h1 h2 h3 ?_
    refine lv_astore (lv' := (4, .ref q9) :: [(0, .ref (ad 0)), (1, .int a1), (2, .int a2), (3, .ref (ad 406))]) hx hb dL_mean_13 hl (by decide) rfl (fun ls hl => ?_)
    refine r_iconst hx hb dL_mean_15 (by decide) (fun z2 ez2 => ?_)
    exact vx_ret (r_iret hx hb hr hK hP1 hS1 hk dL_mean_16 (show Rg σ1 ∧ Fr L_X11_mean σ0 σ1 ∧ FrL (LO LL_X11_mean) τ0 τ1 from ⟨hR1, hF1, LO.a hFL1⟩))
  · obtain ⟨σ1, τ1⟩ := u
    have hR1 := hp.1
    have hF1 := hp.2.1
    have hFL1 := hp.2.2
    refine r_i2l hx hb dL_mean_8 (fun z3 => ?_)
    refine asL_out (k := 406) (j := 0) hx hb hK hP1 hI hS1 (by decide) (by decide) (by omega) (by omega) dL_mean_9 (fun τ2 H2 locs2 uL vL hP2 hS2 => ?_)
    refine lv_goto (tgt := 17) hx hb dL_mean_10 (by decide) ?_
    refine r_iconst hx hb dL_mean_17 (by decide) (fun z4 ez4 => ?_)
    exact vx_ret (r_iret hx hb hr hK hP2 hS2 hk dL_mean_18 (show Rg σ1 ∧ Fr L_X11_mean σ0 σ1 ∧ FrL (LO LL_X11_mean) τ0 τ2 from ⟨hR1, hF1, LO.b hFL1 uL⟩))
theorem lk_L_better : Cond.classLink RL 13 "java/util/NoSuchElementException" ∈ wsL_better := by decide +kernel
set_option maxHeartbeats 4000000 in
theorem c_L_better (l : Launch) (hl0 : l.stackTraces = false) (D : va_G) (cA : Nat → ClassId) (ad : Nat → Nat) (hI : Inj ad) (σ0 : Nat → Nat → Int32) (τ0 : Nat → Nat → Int64) (hR : Rg σ0) (a1 : Int32) : vx_Met l yL_better wsL_better ({ frames := 7, cells := 1, slots := 6, locals := 103 } : Room) (WQx D cA ad [.ref (ad 0), .int a1, .ref (ad 406)] σ0 τ0) (va_Qi (fun (r : Int32) (u : SS) => Rg u.1 ∧ Fr L_X11_better σ0 u.1 ∧ FrL (LO LL_X11_better) τ0 u.2) (WB D cA ad) (AA ad)) (XN ad) 1 6 (AA ad) := by
  refine vx_ofWH (cc := cL_better) (maxL := 4) (ret := some .int) (hh := [(0, 9, 12, 13)]) (by decide) rfl ?_
  intro p e s m args below meth c s₁ B hml hv
  obtain ⟨rfl, hP, hK, hV⟩ := hv
  have hx := B.exec
  have hb := B.bytes
  have hr := B.returns
  have hts := atoms_spec (ws := wsL_better) B.pre
  have hown : s.vm.findClass RL = some m.cls := findClass_of_methodNamed B.named
  have hk := B.notSynchronized
  have htab : c.exceptionTable.toList = tableOf [(0, 9, 12, 13)] := vx_table (x := yL_law) B (hts _ List.mem_cons_self)
  have hS : va_S (AA ad) s.heap s.heap [] := va_S.rf
  have hl := lv_entry ([.ref (ad 0), .int a1, .ref (ad 406)]) (n := 4) (Nat.le_of_ble_eq_true rfl)
  rw [lg_entry_eq]
  generalize (lg_sl ([.ref (ad 0), .int a1, .ref (ad 406)]) ++ List.replicate (4 - (lg_sl ([.ref (ad 0), .int a1, .ref (ad 406)])).length) Slot.unset).toArray = ls at hl ⊢
  have hl : lv_has ls 4 [(0, .ref (ad 0)), (1, .int a1), (2, .ref (ad 406))] := hl
  refine lv_aload_n hx hb dL_better_0 rfl (lv_at hl 2 rfl) ?_
  refine r_iconst hx hb dL_better_1 (by decide) (fun z1 ez1 => ?_)
  refine lv_aload_n hx hb dL_better_2 rfl (lv_at hl 0 rfl) ?_
  refine lv_iload_n hx hb dL_better_3 rfl (lv_at hl 1 rfl) ?_
  refine r_xVi (k := 0) (As := [.int a1]) (rest := [.int z1, .ref (ad 406)]) ⟨hx, hb, hml, hown, hts⟩ hK hP hV hS (c_X11_better l hl0 D cA ad hI σ0 τ0 hR a1) (cwV 1 hts gL_better_X11_better rfl rfl rfl (by decide +kernel) ⟨by decide, by decide⟩) (rv_X hK hP (by decide) (by decide)) rfl hl.1 rfl (Nat.le_of_ble_eq_true rfl) dL_better_4 (Nat.le_of_ble_eq_true rfl) (Nat.le_of_ble_eq_true rfl) (fun ce q9 u H1 locs1 hR1 hF1 hFL1 hP1 hS1 h1 h2 h3 => ?_) (fun r u H1 locs1 hp hP1 hS1 => ?_)
  · obtain ⟨σ1, τ1⟩ := u
    refine vx_catch (own := RL) (name := NSE) (E := NSE) hown [] _ [] htab (fun z hz => nomatch hz) rfl (by decide) (hts _ lk_L_better) (va_Nw.use rfl hV.2.1.2.2.2) h1 h2 h3 ?_
    refine lv_astore_n (lv' := (3, .ref q9) :: [(0, .ref (ad 0)), (1, .int a1), (2, .ref (ad 406))]) hx hb dL_better_12 rfl hl (by decide) rfl (fun ls hl => ?_)
    refine r_iconst hx hb dL_better_13 (by decide) (fun z2 ez2 => ?_)
    exact vx_ret (r_iret hx hb hr hK hP1 hS1 hk dL_better_14 (show Rg σ1 ∧ Fr L_X11_better σ0 σ1 ∧ FrL (LO LL_X11_better) τ0 τ1 from ⟨hR1, hF1, LO.a hFL1⟩))
  · obtain ⟨σ1, τ1⟩ := u
    have hR1 := hp.1
    have hF1 := hp.2.1
    have hFL1 := hp.2.2
    refine r_i2l hx hb dL_better_7 (fun z3 => ?_)
    refine asL_out (k := 406) (j := 0) hx hb hK hP1 hI hS1 (by decide) (by decide) (by omega) (by omega) dL_better_8 (fun τ2 H2 locs2 uL vL hP2 hS2 => ?_)
    refine lv_goto (tgt := 15) hx hb dL_better_9 (by decide) ?_
    refine r_iconst hx hb dL_better_15 (by decide) (fun z4 ez4 => ?_)
    exact vx_ret (r_iret hx hb hr hK hP2 hS2 hk dL_better_16 (show Rg σ1 ∧ Fr L_X11_better σ0 σ1 ∧ FrL (LO LL_X11_better) τ0 τ2 from ⟨hR1, hF1, LO.b hFL1 uL⟩))
