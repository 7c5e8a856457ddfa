abbrev L_X8_wordIn_s1 : List Rc := []
def P_X8_wordIn_s1 (σ0 : Nat → Nat → Int32) (a2 : Int32) (a3 : Int32) (r : Int32) (σ : Nat → Nat → Int32) : Prop := Rg σ ∧ Fr L_X8_wordIn_s1 σ0 σ ∧ (-1 ≤ r.toInt ∧ r.toInt ≤ 5)
def J_X8_wordIn_s1_3 (p : Program) (l : Launch) (e : Env) (s : State) (m : MethodId) (args : Array Value) (below : List Frame) (meth : Method) (c : Code) (D : va_G) (cA : Nat → ClassId) (ad : Nat → Nat) (σ0 : Nat → Nat → Int32) (a2 : Int32) (a3 : Int32) (n : Nat) : Prop := ∀ (σ : Nat → Nat → Int32) (τ : Nat → Nat → Int64) (H : Heap) (locs : List Loc) (x4 : Int32) (ls : Array Slot), Rg σ → Fr L_X8_wordIn_s1 σ0 σ → va_P D vwCl (gw cA ad σ τ) H → va_S (AA ad) s.heap H locs → (0 ≤ x4.toInt ∧ x4.toInt ≤ 6) → lv_has ls 5 [(0, .ref (ad 1)), (1, .ref (ad 408)), (2, .int a2), (3, .int a3), (4, .int x4)] → 2 * (6 - x4.toInt) + 1 < (n : Int) → W p l e ({ frames := 5, cells := 0, slots := 0, locals := 111 } : Room) s m args below meth c H locs 0 0 (MQ below (va_Qi (fun (r : Int32) (u : SS) => P_X8_wordIn_s1 σ0 a2 a3 r u.1) (WB D cA ad) (AA ad)) args s 0 0 (AA ad)) (F0 m 3 ls [])
set_option maxHeartbeats 4000000 in
theorem B_X8_wordIn_s1_3 (p : Program) (l : Launch) (e : Env) (s : State) (m : MethodId) (args : Array Value) (below : List Frame) (meth : Method) (c : Code) (D : va_G) (cA : Nat → ClassId) (ad : Nat → Nat) (σ0 : Nat → Nat → Int32) (a2 : Int32) (a3 : Int32) (n : Nat) (C : Cy p s m args meth c cX8_wordIn 5 wsX8_wordIn RX8 D cA ad (some .int)) (ha2 : 0 ≤ a2.toInt ∧ a2.toInt ≤ 899) (ha3 : 0 ≤ a3.toInt ∧ a3.toInt ≤ 940) (K3 : J_X8_wordIn_s1_3 p l e s m args below meth c D cA ad σ0 a2 a3 n) : J_X8_wordIn_s1_3 p l e s m args below meth c D cA ad σ0 a2 a3 (n + 1) := by
  obtain ⟨hx, hb, hml, hown, hts, hK, hk, hr, hI, hN⟩ := C
  intro σ τ H locs x4 ls hR hF hP hS hc0 hl hm
  obtain rfl := Fr.nil hF
  refine lv_iload hx hb dX8_wordIn_3 (lv_at hl 4 rfl) ?_
  refine r_iconst hx hb dX8_wordIn_5 (by decide) (fun z1 ez1 => ?_)
  refine r_iadd hx hb dX8_wordIn_6 (by omega) (fun z2 ez2 => ?_)
  refine r_bipush hx hb dX8_wordIn_7 (by decide) (fun z3 ez3 => ?_)
  refine r_imulR (n := 7) hx hb dX8_wordIn_9 (by omega) (by omega) (fun z4 ez4 => ?_)
  refine lv_aload_n hx hb dX8_wordIn_10 rfl (lv_at hl 1 rfl) ?_
  refine r_cVi (k := 408) (As := []) (rest := [.int z4]) ⟨hx, hb, hml, hown, hts⟩ hK hP hN hS (c_J0_length_8abf5_s1 l D cA ad hI σ0 τ hR) (cwV 0 hts gX8_wordIn_J0_length_8abf5 rfl rfl rfl (by decide +kernel) ⟨by decide, by decide⟩) (so_1 hN hS) rfl hl.1 rfl (Nat.le_of_ble_eq_true rfl) dX8_wordIn_11 (Nat.zero_le _) (Nat.zero_le _) (fun r5 u5 H5 locs5 hp5 hP hS => ?_)
  obtain ⟨σ5, τ5⟩ := u5
  obtain ⟨hR, f5, hq5⟩ : P_J0_length_8abf5_s1 σ0 r5 σ5 := hp5
  have hP : va_P D vwCl (gw cA ad σ5 τ5) H5 := hP
  obtain rfl := Fr.nil f5
  refine r_icmp_gt (tgt := 38) hx hb dX8_wordIn_14 (by decide) (fun c6 => ?_) (fun c6 => ?_)
  · refine r_iconst hx hb dX8_wordIn_38 (by decide) (fun z7 ez7 => ?_)
    exact r_iret hx hb hr hK hP hS hk dX8_wordIn_39 (show P_X8_wordIn_s1 σ0 a2 a3 z7 σ0 from ⟨hR, hF, by omega⟩)
  · refine lv_aload_n hx hb dX8_wordIn_17 rfl (lv_at hl 0 rfl) ?_
    refine lv_aload_n hx hb dX8_wordIn_18 rfl (lv_at hl 1 rfl) ?_
    refine lv_iload hx hb dX8_wordIn_19 (lv_at hl 4 rfl) ?_
    refine lv_iload_n hx hb dX8_wordIn_21 rfl (lv_at hl 2 rfl) ?_
    refine lv_iload_n hx hb dX8_wordIn_22 rfl (lv_at hl 3 rfl) ?_
    refine r_cVi (k := 1) (As := [.ref (ad 408), .int x4, .int a2, .int a3]) (rest := []) ⟨hx, hb, hml, hown, hts⟩ hK hP hN hS (c_X8_isWord_s1 l D cA ad hI σ0 τ5 hR x4 a2 a3 (by omega) (by omega) (by omega)) (cwV 4 hts gX8_wordIn_X8_isWord rfl rfl rfl (by decide +kernel) ⟨by decide, by decide⟩) (rv_Tape hK hP (by decide) (by decide)) rfl hl.1 rfl (Nat.le_of_ble_eq_true rfl) dX8_wordIn_23 (Nat.zero_le _) (Nat.zero_le _) (fun r8 u8 H8 locs8 hp8 hP hS => ?_)
    obtain ⟨σ8, τ8⟩ := u8
    obtain ⟨hR, f8, hq8⟩ : P_X8_isWord_s1 σ0 x4 a2 a3 r8 σ8 := hp8
    have hP : va_P D vwCl (gw cA ad σ8 τ8) H8 := hP
    obtain rfl := Fr.nil f8
    refine r_if_eq (tgt := 32) hx hb dX8_wordIn_26 (by decide) (fun c9 => ?_) (fun c9 => ?_)
    · refine r_iinc (k := 4) (lv1 := fun z10 => [(4, .int z10), (0, .ref (ad 1)), (1, .ref (ad 408)), (2, .int a2), (3, .int a3)]) hx hb dX8_wordIn_32 hl rfl (by decide) (fun _ => rfl) (by decide) (by omega) (fun z10 ls ez10 hl => ?_)
      refine lv_goto (tgt := 3) hx hb dX8_wordIn_35 (by decide) ?_
      exact K3 σ0 τ8 H8 locs8 z10 ls hR hF hP hS (by omega) (lv_sub hl [1, 2, 3, 4, 0] rfl) (by omega)
    · refine lv_iload hx hb dX8_wordIn_29 (lv_at hl 4 rfl) ?_
      exact r_iret hx hb hr hK hP hS hk dX8_wordIn_31 (show P_X8_wordIn_s1 σ0 a2 a3 x4 σ0 from ⟨hR, hF, by omega⟩)
theorem A_X8_wordIn_s1 (p : Program) (l : Launch) (e : Env) (s : State) (m : MethodId) (args : Array Value) (below : List Frame) (meth : Method) (c : Code) (D : va_G) (cA : Nat → ClassId) (ad : Nat → Nat) (σ0 : Nat → Nat → Int32) (a2 : Int32) (a3 : Int32) (C : Cy p s m args meth c cX8_wordIn 5 wsX8_wordIn RX8 D cA ad (some .int)) (ha2 : 0 ≤ a2.toInt ∧ a2.toInt ≤ 899) (ha3 : 0 ≤ a3.toInt ∧ a3.toInt ≤ 940) : ∀ n : Nat, J_X8_wordIn_s1_3 p l e s m args below meth c D cA ad σ0 a2 a3 n := by
  intro n
  induction n with
  | zero =>
    exact (by intro σ τ H locs x4 ls hR hF hP hS hc0 hl hm; exfalso; omega)
  | succ n ih =>
    exact B_X8_wordIn_s1_3 p l e s m args below meth c D cA ad σ0 a2 a3 n C ha2 ha3 ih
set_option maxHeartbeats 4000000 in
theorem c_X8_wordIn_s1 (l : Launch) (D : va_G) (cA : Nat → ClassId) (ad : Nat → Nat) (hI : Inj ad) (σ0 : Nat → Nat → Int32) (τ0 : Nat → Nat → Int64) (hR : Rg σ0) (a2 : Int32) (a3 : Int32) (ha2 : 0 ≤ a2.toInt ∧ a2.toInt ≤ 899) (ha3 : 0 ≤ a3.toInt ∧ a3.toInt ≤ 940) : Met l yX8_wordIn wsX8_wordIn ({ frames := 5, cells := 0, slots := 0, locals := 111 } : Room) (WQc D cA ad [.ref (ad 1), .ref (ad 408), .int a2, .int a3] σ0 τ0) (va_Qi (fun (r : Int32) (u : SS) => P_X8_wordIn_s1 σ0 a2 a3 r u.1) (WB D cA ad) (AA ad)) 0 0 (AA ad) := by
  refine Met.ofW (cc := cX8_wordIn) (maxL := 5) (ret := (some .int)) (by decide) rfl ?_
  intro p e s m args below meth c s₁ B hml hv
  obtain ⟨rfl, hP, hK, hN⟩ := hv
  have C : Cy p s m _ meth c cX8_wordIn 5 wsX8_wordIn RX8 D cA ad (some .int) := ⟨B.exec, B.bytes, hml, findClass_of_methodNamed B.named, atoms_spec (ws := wsX8_wordIn) B.pre, hK, B.notSynchronized, B.returns, hI, hN⟩
  have hl := lv_entry ([.ref (ad 1), .ref (ad 408), .int a2, .int a3]) (n := 5) (Nat.le_of_ble_eq_true rfl)
  rw [lg_entry_eq]
  generalize (lg_sl ([.ref (ad 1), .ref (ad 408), .int a2, .int a3]) ++ List.replicate (5 - (lg_sl ([.ref (ad 1), .ref (ad 408), .int a2, .int a3])).length) Slot.unset).toArray = ls at hl ⊢
  have hl : lv_has ls 5 [(0, .ref (ad 1)), (1, .ref (ad 408)), (2, .int a2), (3, .int a3)] := hl
  have hS : va_S (AA ad) s.heap s.heap [] := va_S.rf
  have hF : Fr L_X8_wordIn_s1 σ0 σ0 := Fr.rf
  have hA := A_X8_wordIn_s1 p l e s m _ below meth c D cA ad σ0 a2 a3 C ha2 ha3 34
  have K3 := hA
  clear hA
  obtain ⟨hx, hb, _, hown, hts, _, hk, hr, _, _⟩ := C
  refine r_iconst hx hb dX8_wordIn_0 (by decide) (fun z1 ez1 => ?_)
  refine lv_istore (lv' := [(4, .int z1), (0, .ref (ad 1)), (1, .ref (ad 408)), (2, .int a2), (3, .int a3)]) hx hb dX8_wordIn_1 hl (by decide) rfl (fun ls hl => ?_)
  exact K3 σ0 τ0 s.heap [] z1 ls hR hF hP hS (by omega) (lv_sub hl [1, 2, 3, 4, 0] rfl) (by omega)
abbrev L_J0_coder_7d493_s2 : List Rc := []
def P_J0_coder_7d493_s2 (σ0 : Nat → Nat → Int32)  (r : Int32) (σ : Nat → Nat → Int32) : Prop := Rg σ ∧ Fr L_J0_coder_7d493_s2 σ0 σ ∧ (0 ≤ r.toInt ∧ r.toInt ≤ 0)
set_option maxHeartbeats 4000000 in
theorem c_J0_coder_7d493_s2 (l : Launch) (D : va_G) (cA : Nat → ClassId) (ad : Nat → Nat) (hI : Inj ad) (σ0 : Nat → Nat → Int32) (τ0 : Nat → Nat → Int64) (hR : Rg σ0)   : Met l yJ0_coder_7d493 wsJ0_coder_7d493 ({ frames := 0, cells := 0, slots := 0, locals := 0 } : Room) (WQc D cA ad [.ref (ad 409)] σ0 τ0) (va_Qi (fun (r : Int32) (u : SS) => P_J0_coder_7d493_s2 σ0 r u.1) (WB D cA ad) (AA ad)) 0 0 (AA ad) := by
  refine Met.ofW (cc := cJ0_coder_7d493) (maxL := 1) (ret := (some .byte)) (by decide) rfl ?_
  intro p e s m args below meth c s₁ B hml hv
  obtain ⟨rfl, hP, hK, hN⟩ := hv
  have C : Cy p s m _ meth c cJ0_coder_7d493 1 wsJ0_coder_7d493 RJ0 D cA ad (some .byte) := ⟨B.exec, B.bytes, hml, findClass_of_methodNamed B.named, atoms_spec (ws := wsJ0_coder_7d493) B.pre, hK, B.notSynchronized, B.returns, hI, hN⟩
  have hl := lv_entry ([.ref (ad 409)]) (n := 1) (Nat.le_of_ble_eq_true rfl)
  rw [lg_entry_eq]
  generalize (lg_sl ([.ref (ad 409)]) ++ List.replicate (1 - (lg_sl ([.ref (ad 409)])).length) Slot.unset).toArray = ls at hl ⊢
  have hl : lv_has ls 1 [(0, .ref (ad 409))] := hl
  have hS : va_S (AA ad) s.heap s.heap [] := va_S.rf
  have hF : Fr L_J0_coder_7d493_s2 σ0 σ0 := Fr.rf
  obtain ⟨hx, hb, _, hown, hts, _, hk, hr, _, _⟩ := C
  refine sz_cs hx hb hN hS hown (hts _ lk_J0_coder_7d493_38) dJ0_coder_7d493_0 (fun z1 ez1 => ?_)
  refine r_if_eq (tgt := 13) hx hb dJ0_coder_7d493_3 (by decide) (fun c2 => ?_) (fun c2 => ?_)
  · exfalso; omega
  · refine lv_aload_n hx hb dJ0_coder_7d493_6 rfl (lv_at hl 0 rfl) ?_
    refine sc_2 hx hb hN hS hown (hts _ lk_J0_coder_7d493_15) dJ0_coder_7d493_7 (fun z3 ez3 => ?_)
    refine lv_goto (tgt := 14) hx hb dJ0_coder_7d493_10 (by decide) ?_
    exact r_bret hx hb hr hK hP hS hk (by omega) dJ0_coder_7d493_14 (show P_J0_coder_7d493_s2 σ0 z3 σ0 from ⟨hR, hF, by omega⟩)
abbrev L_J0_length_8abf5_s2 : List Rc := []
def P_J0_length_8abf5_s2 (σ0 : Nat → Nat → Int32)  (r : Int32) (σ : Nat → Nat → Int32) : Prop := Rg σ ∧ Fr L_J0_length_8abf5_s2 σ0 σ ∧ (77 ≤ r.toInt ∧ r.toInt ≤ 77)
set_option maxHeartbeats 4000000 in
theorem c_J0_length_8abf5_s2 (l : Launch) (D : va_G) (cA : Nat → ClassId) (ad : Nat → Nat) (hI : Inj ad) (σ0 : Nat → Nat → Int32) (τ0 : Nat → Nat → Int64) (hR : Rg σ0)   : Met l yJ0_length_8abf5 wsJ0_length_8abf5 ({ frames := 1, cells := 0, slots := 0, locals := 20 } : Room) (WQc D cA ad [.ref (ad 409)] σ0 τ0) (va_Qi (fun (r : Int32) (u : SS) => P_J0_length_8abf5_s2 σ0 r u.1) (WB D cA ad) (AA ad)) 0 0 (AA ad) := by
  refine Met.ofW (cc := cJ0_length_8abf5) (maxL := 1) (ret := (some .int)) (by decide) rfl ?_
  intro p e s m args below meth c s₁ B hml hv
  obtain ⟨rfl, hP, hK, hN⟩ := hv
  have C : Cy p s m _ meth c cJ0_length_8abf5 1 wsJ0_length_8abf5 RJ0 D cA ad (some .int) := ⟨B.exec, B.bytes, hml, findClass_of_methodNamed B.named, atoms_spec (ws := wsJ0_length_8abf5) B.pre, hK, B.notSynchronized, B.returns, hI, hN⟩
  have hl := lv_entry ([.ref (ad 409)]) (n := 1) (Nat.le_of_ble_eq_true rfl)
  rw [lg_entry_eq]
  generalize (lg_sl ([.ref (ad 409)]) ++ List.replicate (1 - (lg_sl ([.ref (ad 409)])).length) Slot.unset).toArray = ls at hl ⊢
  have hl : lv_has ls 1 [(0, .ref (ad 409))] := hl
  have hS : va_S (AA ad) s.heap s.heap [] := va_S.rf
  have hF : Fr L_J0_length_8abf5_s2 σ0 σ0 := Fr.rf
  obtain ⟨hx, hb, _, hown, hts, _, hk, hr, _, _⟩ := C
  refine lv_aload_n hx hb dJ0_length_8abf5_0 rfl (lv_at hl 0 rfl) ?_
  refine sv_2 hx hb hN hS hown (hts _ lk_J0_length_8abf5_9) dJ0_length_8abf5_1 ?_
  refine sl_2 hx hb hN hS dJ0_length_8abf5_4 (fun z1 ez1 => ?_)
  refine lv_aload_n hx hb dJ0_length_8abf5_5 rfl (lv_at hl 0 rfl) ?_
  refine r_cVi (k := 409) (As := []) (rest := [.int z1]) ⟨hx, hb, hml, hown, hts⟩ hK hP hN hS (c_J0_coder_7d493_s2 l D cA ad hI σ0 τ0 hR) (cwV 0 hts gJ0_length_8abf5_J0_coder_7d493 rfl rfl rfl (by decide +kernel) ⟨by decide, by decide⟩) (so_2 hN hS) rfl hl.1 rfl (Nat.le_of_ble_eq_true rfl) dJ0_length_8abf5_6 (Nat.zero_le _) (Nat.zero_le _) (fun r2 u2 H2 locs2 hp2 hP hS => ?_)
  obtain ⟨σ2, τ2⟩ := u2
  obtain ⟨hR, f2, hq2⟩ : P_J0_coder_7d493_s2 σ0 r2 σ2 := hp2
  have hP : va_P D vwCl (gw cA ad σ2 τ2) H2 := hP
  obtain rfl := Fr.nil f2
  refine r_ishr0 hx hb dJ0_length_8abf5_9 (by omega) (fun z3 ez3 => ?_)
  exact r_iret hx hb hr hK hP hS hk dJ0_length_8abf5_10 (show P_J0_length_8abf5_s2 σ0 z3 σ0 from ⟨hR, hF, by omega⟩)
abbrev L_J0_isLatin1_aae02_s2 : List Rc := []
def P_J0_isLatin1_aae02_s2 (σ0 : Nat → Nat → Int32)  (r : Int32) (σ : Nat → Nat → Int32) : Prop := Rg σ ∧ Fr L_J0_isLatin1_aae02_s2 σ0 σ ∧ (1 ≤ r.toInt ∧ r.toInt ≤ 1)
set_option maxHeartbeats 4000000 in
theorem c_J0_isLatin1_aae02_s2 (l : Launch) (D : va_G) (cA : Nat → ClassId) (ad : Nat → Nat) (hI : Inj ad) (σ0 : Nat → Nat → Int32) (τ0 : Nat → Nat → Int64) (hR : Rg σ0)   : Met l yJ0_isLatin1_aae02 wsJ0_isLatin1_aae02 ({ frames := 0, cells := 0, slots := 0, locals := 0 } : Room) (WQc D cA ad [.ref (ad 409)] σ0 τ0) (va_Qi (fun (r : Int32) (u : SS) => P_J0_isLatin1_aae02_s2 σ0 r u.1) (WB D cA ad) (AA ad)) 0 0 (AA ad) := by
  refine Met.ofW (cc := cJ0_isLatin1_aae02) (maxL := 1) (ret := (some .boolean)) (by decide) rfl ?_
  intro p e s m args below meth c s₁ B hml hv
  obtain ⟨rfl, hP, hK, hN⟩ := hv
  have C : Cy p s m _ meth c cJ0_isLatin1_aae02 1 wsJ0_isLatin1_aae02 RJ0 D cA ad (some .boolean) := ⟨B.exec, B.bytes, hml, findClass_of_methodNamed B.named, atoms_spec (ws := wsJ0_isLatin1_aae02) B.pre, hK, B.notSynchronized, B.returns, hI, hN⟩
  have hl := lv_entry ([.ref (ad 409)]) (n := 1) (Nat.le_of_ble_eq_true rfl)
  rw [lg_entry_eq]
  generalize (lg_sl ([.ref (ad 409)]) ++ List.replicate (1 - (lg_sl ([.ref (ad 409)])).length) Slot.unset).toArray = ls at hl ⊢
  have hl : lv_has ls 1 [(0, .ref (ad 409))] := hl
  have hS : va_S (AA ad) s.heap s.heap [] := va_S.rf
  have hF : Fr L_J0_isLatin1_aae02_s2 σ0 σ0 := Fr.rf
  obtain ⟨hx, hb, _, hown, hts, _, hk, hr, _, _⟩ := C
  refine sz_cs hx hb hN hS hown (hts _ lk_J0_isLatin1_aae02_38) dJ0_isLatin1_aae02_0 (fun z1 ez1 => ?_)
  refine r_if_eq (tgt := 17) hx hb dJ0_isLatin1_aae02_3 (by decide) (fun c2 => ?_) (fun c2 => ?_)
  · exfalso; omega
  · refine lv_aload_n hx hb dJ0_isLatin1_aae02_6 rfl (lv_at hl 0 rfl) ?_
    refine sc_2 hx hb hN hS hown (hts _ lk_J0_isLatin1_aae02_15) dJ0_isLatin1_aae02_7 (fun z3 ez3 => ?_)
    refine r_if_ne (tgt := 17) hx hb dJ0_isLatin1_aae02_10 (by decide) (fun c4 => ?_) (fun c4 => ?_)
    · exfalso; omega
    · refine r_iconst hx hb dJ0_isLatin1_aae02_13 (by decide) (fun z5 ez5 => ?_)
      refine lv_goto (tgt := 18) hx hb dJ0_isLatin1_aae02_14 (by decide) ?_
      exact r_zret hx hb hr hK hP hS hk (by omega) dJ0_isLatin1_aae02_18 (show P_J0_isLatin1_aae02_s2 σ0 z5 σ0 from ⟨hR, hF, by omega⟩)
abbrev L_J3_checkIndex_8e157_l77_n : List Rc := []
def P_J3_checkIndex_8e157_l77_n (σ0 : Nat → Nat → Int32) (a0 : Int32) (a1 : Int32) (r : Int32) (σ : Nat → Nat → Int32) : Prop := Rg σ ∧ Fr L_J3_checkIndex_8e157_l77_n σ0 σ ∧ (0 ≤ r.toInt ∧ r.toInt ≤ 76)
set_option maxHeartbeats 4000000 in
theorem c_J3_checkIndex_8e157_l77_n (l : Launch) (D : va_G) (cA : Nat → ClassId) (ad : Nat → Nat) (hI : Inj ad) (σ0 : Nat → Nat → Int32) (τ0 : Nat → Nat → Int64) (hR : Rg σ0) (a0 : Int32) (a1 : Int32) (ha0 : 0 ≤ a0.toInt ∧ a0.toInt ≤ 76) (ha1 : 77 ≤ a1.toInt ∧ a1.toInt ≤ 77) : Met l yJ3_checkIndex_8e157 wsJ3_checkIndex_8e157 ({ frames := 0, cells := 0, slots := 0, locals := 0 } : Room) (WQc D cA ad [.int a0, .int a1, .null] σ0 τ0) (va_Qi (fun (r : Int32) (u : SS) => P_J3_checkIndex_8e157_l77_n σ0 a0 a1 r u.1) (WB D cA ad) (AA ad)) 0 0 (AA ad) := by
  refine Met.ofW (cc := cJ3_checkIndex_8e157) (maxL := 3) (ret := (some .int)) (by decide) rfl ?_
  intro p e s m args below meth c s₁ B hml hv
  obtain ⟨rfl, hP, hK, hN⟩ := hv
  have C : Cy p s m _ meth c cJ3_checkIndex_8e157 3 wsJ3_checkIndex_8e157 RJ3 D cA ad (some .int) := ⟨B.exec, B.bytes, hml, findClass_of_methodNamed B.named, atoms_spec (ws := wsJ3_checkIndex_8e157) B.pre, hK, B.notSynchronized, B.returns, hI, hN⟩
  have hl := lv_entry ([.int a0, .int a1, .null]) (n := 3) (Nat.le_of_ble_eq_true rfl)
  rw [lg_entry_eq]
  generalize (lg_sl ([.int a0, .int a1, .null]) ++ List.replicate (3 - (lg_sl ([.int a0, .int a1, .null])).length) Slot.unset).toArray = ls at hl ⊢
  have hl : lv_has ls 3 [(0, .int a0), (1, .int a1), (2, .null)] := hl
  have hS : va_S (AA ad) s.heap s.heap [] := va_S.rf
  have hF : Fr L_J3_checkIndex_8e157_l77_n σ0 σ0 := Fr.rf
  obtain ⟨hx, hb, _, hown, hts, _, hk, hr, _, _⟩ := C
  refine lv_iload_n hx hb dJ3_checkIndex_8e157_0 rfl (lv_at hl 0 rfl) ?_
  refine r_if_lt (tgt := 9) hx hb dJ3_checkIndex_8e157_1 (by decide) (fun c1 => ?_) (fun c1 => ?_)
  · exfalso; omega
  · refine lv_iload_n hx hb dJ3_checkIndex_8e157_4 rfl (lv_at hl 0 rfl) ?_
    refine lv_iload_n hx hb dJ3_checkIndex_8e157_5 rfl (lv_at hl 1 rfl) ?_
    refine r_icmp_lt (tgt := 16) hx hb dJ3_checkIndex_8e157_6 (by decide) (fun c2 => ?_) (fun c2 => ?_)
    · refine lv_iload_n hx hb dJ3_checkIndex_8e157_16 rfl (lv_at hl 0 rfl) ?_
      exact r_iret hx hb hr hK hP hS hk dJ3_checkIndex_8e157_17 (show P_J3_checkIndex_8e157_l77_n σ0 a0 a1 a0 σ0 from ⟨hR, hF, by omega⟩)
    · exfalso; omega
abbrev L_J3_checkIndex_8e157_l77_t : List Rc := []
def P_J3_checkIndex_8e157_l77_t (σ0 : Nat → Nat → Int32) (a0 : Int32) (a1 : Int32) (a2 : Nat) (r : Int32) (σ : Nat → Nat → Int32) : Prop := Rg σ ∧ Fr L_J3_checkIndex_8e157_l77_t σ0 σ ∧ (0 ≤ r.toInt ∧ r.toInt ≤ 76)
set_option maxHeartbeats 4000000 in
theorem c_J3_checkIndex_8e157_l77_t (l : Launch) (D : va_G) (cA : Nat → ClassId) (ad : Nat → Nat) (hI : Inj ad) (σ0 : Nat → Nat → Int32) (τ0 : Nat → Nat → Int64) (hR : Rg σ0) (a0 : Int32) (a1 : Int32) (a2 : Nat) (ha0 : 0 ≤ a0.toInt ∧ a0.toInt ≤ 76) (ha1 : 77 ≤ a1.toInt ∧ a1.toInt ≤ 77) : Met l yJ3_checkIndex_8e157 wsJ3_checkIndex_8e157 ({ frames := 0, cells := 0, slots := 0, locals := 0 } : Room) (WQc D cA ad [.int a0, .int a1, .ref a2] σ0 τ0) (va_Qi (fun (r : Int32) (u : SS) => P_J3_checkIndex_8e157_l77_t σ0 a0 a1 a2 r u.1) (WB D cA ad) (AA ad)) 0 0 (AA ad) := by
  refine Met.ofW (cc := cJ3_checkIndex_8e157) (maxL := 3) (ret := (some .int)) (by decide) rfl ?_
  intro p e s m args below meth c s₁ B hml hv
  obtain ⟨rfl, hP, hK, hN⟩ := hv
  have C : Cy p s m _ meth c cJ3_checkIndex_8e157 3 wsJ3_checkIndex_8e157 RJ3 D cA ad (some .int) := ⟨B.exec, B.bytes, hml, findClass_of_methodNamed B.named, atoms_spec (ws := wsJ3_checkIndex_8e157) B.pre, hK, B.notSynchronized, B.returns, hI, hN⟩
  have hl := lv_entry ([.int a0, .int a1, .ref a2]) (n := 3) (Nat.le_of_ble_eq_true rfl)
  rw [lg_entry_eq]
  generalize (lg_sl ([.int a0, .int a1, .ref a2]) ++ List.replicate (3 - (lg_sl ([.int a0, .int a1, .ref a2])).length) Slot.unset).toArray = ls at hl ⊢
  have hl : lv_has ls 3 [(0, .int a0), (1, .int a1), (2, .ref a2)] := hl
  have hS : va_S (AA ad) s.heap s.heap [] := va_S.rf
  have hF : Fr L_J3_checkIndex_8e157_l77_t σ0 σ0 := Fr.rf
  obtain ⟨hx, hb, _, hown, hts, _, hk, hr, _, _⟩ := C
  refine lv_iload_n hx hb dJ3_checkIndex_8e157_0 rfl (lv_at hl 0 rfl) ?_
  refine r_if_lt (tgt := 9) hx hb dJ3_checkIndex_8e157_1 (by decide) (fun c1 => ?_) (fun c1 => ?_)
  · exfalso; omega
  · refine lv_iload_n hx hb dJ3_checkIndex_8e157_4 rfl (lv_at hl 0 rfl) ?_
    refine lv_iload_n hx hb dJ3_checkIndex_8e157_5 rfl (lv_at hl 1 rfl) ?_
    refine r_icmp_lt (tgt := 16) hx hb dJ3_checkIndex_8e157_6 (by decide) (fun c2 => ?_) (fun c2 => ?_)
    · refine lv_iload_n hx hb dJ3_checkIndex_8e157_16 rfl (lv_at hl 0 rfl) ?_
      exact r_iret hx hb hr hK hP hS hk dJ3_checkIndex_8e157_17 (show P_J3_checkIndex_8e157_l77_t σ0 a0 a1 a2 a0 σ0 from ⟨hR, hF, by omega⟩)
    · exfalso; omega
abbrev L_J0_checkIndex_df160_l77 : List Rc := []
def P_J0_checkIndex_df160_l77 (σ0 : Nat → Nat → Int32) (a0 : Int32) (a1 : Int32) (σ : Nat → Nat → Int32) : Prop := Rg σ ∧ Fr L_J0_checkIndex_df160_l77 σ0 σ
set_option maxHeartbeats 4000000 in
theorem c_J0_checkIndex_df160_l77 (l : Launch) (D : va_G) (cA : Nat → ClassId) (ad : Nat → Nat) (hI : Inj ad) (σ0 : Nat → Nat → Int32) (τ0 : Nat → Nat → Int64) (hR : Rg σ0) (a0 : Int32) (a1 : Int32) (ha0 : 0 ≤ a0.toInt ∧ a0.toInt ≤ 76) (ha1 : 77 ≤ a1.toInt ∧ a1.toInt ≤ 77) : Met l yJ0_checkIndex_df160 wsJ0_checkIndex_df160 ({ frames := 1, cells := 0, slots := 0, locals := 22 } : Room) (WQc D cA ad [.int a0, .int a1] σ0 τ0) (va_Qv (fun u : SS => P_J0_checkIndex_df160_l77 σ0 a0 a1 u.1) (WB D cA ad) (AA ad)) 0 0 (AA ad) := by
  refine Met.ofW (cc := cJ0_checkIndex_df160) (maxL := 2) (ret := none) (by decide) rfl ?_
  intro p e s m args below meth c s₁ B hml hv
  obtain ⟨rfl, hP, hK, hN⟩ := hv
  have C : Cy p s m _ meth c cJ0_checkIndex_df160 2 wsJ0_checkIndex_df160 RJ0 D cA ad none := ⟨B.exec, B.bytes, hml, findClass_of_methodNamed B.named, atoms_spec (ws := wsJ0_checkIndex_df160) B.pre, hK, B.notSynchronized, B.returns, hI, hN⟩
  have hl := lv_entry ([.int a0, .int a1]) (n := 2) (Nat.le_of_ble_eq_true rfl)
  rw [lg_entry_eq]
  generalize (lg_sl ([.int a0, .int a1]) ++ List.replicate (2 - (lg_sl ([.int a0, .int a1])).length) Slot.unset).toArray = ls at hl ⊢
  have hl : lv_has ls 2 [(0, .int a0), (1, .int a1)] := hl
  have hS : va_S (AA ad) s.heap s.heap [] := va_S.rf
  have hF : Fr L_J0_checkIndex_df160_l77 σ0 σ0 := Fr.rf
  obtain ⟨hx, hb, _, hown, hts, _, hk, hr, _, _⟩ := C
  refine lv_iload_n hx hb dJ0_checkIndex_df160_0 rfl (lv_at hl 0 rfl) ?_
  refine lv_iload_n hx hb dJ0_checkIndex_df160_1 rfl (lv_at hl 1 rfl) ?_
  refine sz_fm hx hb hN hS hown (hts _ lk_J0_checkIndex_df160_1053) dJ0_checkIndex_df160_2 ?_ (fun t1 => ?_)
  · refine r_cSi (As := [.int a0, .int a1, .null]) (rest := []) ⟨hx, hb, hml, hown, hts⟩ hK hP hN hS (c_J3_checkIndex_8e157_l77_n l D cA ad hI σ0 τ0 hR a0 a1 (by omega) (by omega)) (va_cwS 3 hts gJ0_checkIndex_df160_J3_checkIndex_8e157 rfl rfl rfl (by decide +kernel) ⟨by decide, by decide⟩) rfl hl.1 rfl (Nat.le_of_ble_eq_true rfl) dJ0_checkIndex_df160_5 (Nat.zero_le _) (Nat.zero_le _) (fun r2 u2 H2 locs2 hp2 hP hS => ?_)
    obtain ⟨σ2, τ2⟩ := u2
    obtain ⟨hR, f2, hq2⟩ : P_J3_checkIndex_8e157_l77_n σ0 a0 a1 r2 σ2 := hp2
    have hP : va_P D vwCl (gw cA ad σ2 τ2) H2 := hP
    obtain rfl := Fr.nil f2
    refine lv_pop hx hb dJ0_checkIndex_df160_8 rfl ?_
    exact r_vret hx hb hr hK hP hS hk dJ0_checkIndex_df160_9 (show P_J0_checkIndex_df160_l77 σ0 a0 a1 σ0 from ⟨hR, hF⟩)
  · refine r_cSi (As := [.int a0, .int a1, .ref t1]) (rest := []) ⟨hx, hb, hml, hown, hts⟩ hK hP hN hS (c_J3_checkIndex_8e157_l77_t l D cA ad hI σ0 τ0 hR a0 a1 t1 (by omega) (by omega)) (va_cwS 3 hts gJ0_checkIndex_df160_J3_checkIndex_8e157 rfl rfl rfl (by decide +kernel) ⟨by decide, by decide⟩) rfl hl.1 rfl (Nat.le_of_ble_eq_true rfl) dJ0_checkIndex_df160_5 (Nat.zero_le _) (Nat.zero_le _) (fun r3 u3 H3 locs3 hp3 hP hS => ?_)
    obtain ⟨σ3, τ3⟩ := u3
    obtain ⟨hR, f3, hq3⟩ : P_J3_checkIndex_8e157_l77_t σ0 a0 a1 t1 r3 σ3 := hp3
    have hP : va_P D vwCl (gw cA ad σ3 τ3) H3 := hP
    obtain rfl := Fr.nil f3
    refine lv_pop hx hb dJ0_checkIndex_df160_8 rfl ?_
    exact r_vret hx hb hr hK hP hS hk dJ0_checkIndex_df160_9 (show P_J0_checkIndex_df160_l77 σ0 a0 a1 σ0 from ⟨hR, hF⟩)
abbrev L_J1_charAt_3b067_s2 : List Rc := []
def P_J1_charAt_3b067_s2 (σ0 : Nat → Nat → Int32) (a1 : Int32) (r : Int32) (σ : Nat → Nat → Int32) : Prop := Rg σ ∧ Fr L_J1_charAt_3b067_s2 σ0 σ ∧ (0 ≤ r.toInt ∧ r.toInt ≤ 255)
set_option maxHeartbeats 4000000 in
theorem c_J1_charAt_3b067_s2 (l : Launch) (D : va_G) (cA : Nat → ClassId) (ad : Nat → Nat) (hI : Inj ad) (σ0 : Nat → Nat → Int32) (τ0 : Nat → Nat → Int64) (hR : Rg σ0) (a1 : Int32) (ha1 : 0 ≤ a1.toInt ∧ a1.toInt ≤ 76) : Met l yJ1_charAt_3b067 wsJ1_charAt_3b067 ({ frames := 2, cells := 0, slots := 0, locals := 43 } : Room) (WQc D cA ad [.ref (ad 416), .int a1] σ0 τ0) (va_Qi (fun (r : Int32) (u : SS) => P_J1_charAt_3b067_s2 σ0 a1 r u.1) (WB D cA ad) (AA ad)) 0 0 (AA ad) := by
  refine Met.ofW (cc := cJ1_charAt_3b067) (maxL := 2) (ret := (some .char)) (by decide) rfl ?_
  intro p e s m args below meth c s₁ B hml hv
  obtain ⟨rfl, hP, hK, hN⟩ := hv
  have C : Cy p s m _ meth c cJ1_charAt_3b067 2 wsJ1_charAt_3b067 RJ1 D cA ad (some .char) := ⟨B.exec, B.bytes, hml, findClass_of_methodNamed B.named, atoms_spec (ws := wsJ1_charAt_3b067) B.pre, hK, B.notSynchronized, B.returns, hI, hN⟩
  have hl := lv_entry ([.ref (ad 416), .int a1]) (n := 2) (Nat.le_of_ble_eq_true rfl)
  rw [lg_entry_eq]
  generalize (lg_sl ([.ref (ad 416), .int a1]) ++ List.replicate (2 - (lg_sl ([.ref (ad 416), .int a1])).length) Slot.unset).toArray = ls at hl ⊢
  have hl : lv_has ls 2 [(0, .ref (ad 416)), (1, .int a1)] := hl
  have hS : va_S (AA ad) s.heap s.heap [] := va_S.rf
  have hF : Fr L_J1_charAt_3b067_s2 σ0 σ0 := Fr.rf
  obtain ⟨hx, hb, _, hown, hts, _, hk, hr, _, _⟩ := C
  refine lv_iload_n hx hb dJ1_charAt_3b067_0 rfl (lv_at hl 1 rfl) ?_
  refine lv_aload_n hx hb dJ1_charAt_3b067_1 rfl (lv_at hl 0 rfl) ?_
  refine sl_2 hx hb hN hS dJ1_charAt_3b067_2 (fun z1 ez1 => ?_)
  refine r_cSv (As := [.int a1, .int z1]) (rest := []) ⟨hx, hb, hml, hown, hts⟩ hK hP hN hS (c_J0_checkIndex_df160_l77 l D cA ad hI σ0 τ0 hR a1 z1 (by omega) (by omega)) (va_cwS 2 hts gJ1_charAt_3b067_J0_checkIndex_df160 rfl rfl rfl (by decide +kernel) ⟨by decide, by decide⟩) rfl hl.1 rfl (Nat.le_of_ble_eq_true rfl) dJ1_charAt_3b067_3 (Nat.zero_le _) (Nat.zero_le _) (fun u2 H2 locs2 hp2 hP hS => ?_)
  obtain ⟨σ2, τ2⟩ := u2
  obtain ⟨hR, f2⟩ : P_J0_checkIndex_df160_l77 σ0 a1 z1 σ2 := hp2
  have hP : va_P D vwCl (gw cA ad σ2 τ2) H2 := hP
  obtain rfl := Fr.nil f2
  refine lv_aload_n hx hb dJ1_charAt_3b067_6 rfl (lv_at hl 0 rfl) ?_
  refine lv_iload_n hx hb dJ1_charAt_3b067_7 rfl (lv_at hl 1 rfl) ?_
  obtain ⟨j3, ej3⟩ : ∃ j : Nat, a1.toInt = (j : Int) := ⟨_, ti_nat (by omega)⟩
  refine sb_2 (j := j3) hx hb hN hS ej3 (by omega) dJ1_charAt_3b067_8 (fun z4 => ?_)
  refine r_sipush hx hb dJ1_charAt_3b067_9 (by decide) (fun z5 ez5 => ?_)
  refine r_iand (w := 255) hx hb 8 dJ1_charAt_3b067_12 (by omega) (by decide) (fun z6 ez6 => ?_)
  refine r_i2c hx hb dJ1_charAt_3b067_13 (by omega) (fun z7 ez7 => ?_)
  exact r_cret hx hb hr hK hP hS hk (by omega) dJ1_charAt_3b067_14 (show P_J1_charAt_3b067_s2 σ0 a1 z7 σ0 from ⟨hR, hF, by omega⟩)
abbrev L_J0_charAt_5068e_s2 : List Rc := []
def P_J0_charAt_5068e_s2 (σ0 : Nat → Nat → Int32) (a1 : Int32) (r : Int32) (σ : Nat → Nat → Int32) : Prop := Rg σ ∧ Fr L_J0_charAt_5068e_s2 σ0 σ ∧ (0 ≤ r.toInt ∧ r.toInt ≤ 255)
set_option maxHeartbeats 4000000 in
theorem c_J0_charAt_5068e_s2 (l : Launch) (D : va_G) (cA : Nat → ClassId) (ad : Nat → Nat) (hI : Inj ad) (σ0 : Nat → Nat → Int32) (τ0 : Nat → Nat → Int64) (hR : Rg σ0) (a1 : Int32) (ha1 : 0 ≤ a1.toInt ∧ a1.toInt ≤ 76) : Met l yJ0_charAt_5068e wsJ0_charAt_5068e ({ frames := 3, cells := 0, slots := 0, locals := 64 } : Room) (WQc D cA ad [.ref (ad 409), .int a1] σ0 τ0) (va_Qi (fun (r : Int32) (u : SS) => P_J0_charAt_5068e_s2 σ0 a1 r u.1) (WB D cA ad) (AA ad)) 0 0 (AA ad) := by
  refine Met.ofW (cc := cJ0_charAt_5068e) (maxL := 2) (ret := (some .char)) (by decide) rfl ?_
  intro p e s m args below meth c s₁ B hml hv
  obtain ⟨rfl, hP, hK, hN⟩ := hv
  have C : Cy p s m _ meth c cJ0_charAt_5068e 2 wsJ0_charAt_5068e RJ0 D cA ad (some .char) := ⟨B.exec, B.bytes, hml, findClass_of_methodNamed B.named, atoms_spec (ws := wsJ0_charAt_5068e) B.pre, hK, B.notSynchronized, B.returns, hI, hN⟩
  have hl := lv_entry ([.ref (ad 409), .int a1]) (n := 2) (Nat.le_of_ble_eq_true rfl)
  rw [lg_entry_eq]
  generalize (lg_sl ([.ref (ad 409), .int a1]) ++ List.replicate (2 - (lg_sl ([.ref (ad 409), .int a1])).length) Slot.unset).toArray = ls at hl ⊢
  have hl : lv_has ls 2 [(0, .ref (ad 409)), (1, .int a1)] := hl
  have hS : va_S (AA ad) s.heap s.heap [] := va_S.rf
  have hF : Fr L_J0_charAt_5068e_s2 σ0 σ0 := Fr.rf
  obtain ⟨hx, hb, _, hown, hts, _, hk, hr, _, _⟩ := C
  refine lv_aload_n hx hb dJ0_charAt_5068e_0 rfl (lv_at hl 0 rfl) ?_
  refine r_cVi (k := 409) (As := []) (rest := []) ⟨hx, hb, hml, hown, hts⟩ hK hP hN hS (c_J0_isLatin1_aae02_s2 l D cA ad hI σ0 τ0 hR) (cwV 0 hts gJ0_charAt_5068e_J0_isLatin1_aae02 rfl rfl rfl (by decide +kernel) ⟨by decide, by decide⟩) (so_2 hN hS) rfl hl.1 rfl (Nat.le_of_ble_eq_true rfl) dJ0_charAt_5068e_1 (Nat.zero_le _) (Nat.zero_le _) (fun r1 u1 H1 locs1 hp1 hP hS => ?_)
  obtain ⟨σ1, τ1⟩ := u1
  obtain ⟨hR, f1, hq1⟩ : P_J0_isLatin1_aae02_s2 σ0 r1 σ1 := hp1
  have hP : va_P D vwCl (gw cA ad σ1 τ1) H1 := hP
  obtain rfl := Fr.nil f1
  refine r_if_eq (tgt := 16) hx hb dJ0_charAt_5068e_4 (by decide) (fun c2 => ?_) (fun c2 => ?_)
  · exfalso; omega
  · refine lv_aload_n hx hb dJ0_charAt_5068e_7 rfl (lv_at hl 0 rfl) ?_
    refine sv_2 hx hb hN hS hown (hts _ lk_J0_charAt_5068e_9) dJ0_charAt_5068e_8 ?_
    refine lv_iload_n hx hb dJ0_charAt_5068e_11 rfl (lv_at hl 1 rfl) ?_
    refine r_cSi (As := [.ref (ad 416), .int a1]) (rest := []) ⟨hx, hb, hml, hown, hts⟩ hK hP hN hS (c_J1_charAt_3b067_s2 l D cA ad hI σ0 τ1 hR a1 (by omega)) (va_cwS 2 hts gJ0_charAt_5068e_J1_charAt_3b067 rfl rfl rfl (by decide +kernel) ⟨by decide, by decide⟩) rfl hl.1 rfl (Nat.le_of_ble_eq_true rfl) dJ0_charAt_5068e_12 (Nat.zero_le _) (Nat.zero_le _) (fun r3 u3 H3 locs3 hp3 hP hS => ?_)
    obtain ⟨σ3, τ3⟩ := u3
    obtain ⟨hR, f3, hq3⟩ : P_J1_charAt_3b067_s2 σ0 a1 r3 σ3 := hp3
    have hP : va_P D vwCl (gw cA ad σ3 τ3) H3 := hP
    obtain rfl := Fr.nil f3
    exact r_cret hx hb hr hK hP hS hk (by omega) dJ0_charAt_5068e_15 (show P_J0_charAt_5068e_s2 σ0 a1 r3 σ0 from ⟨hR, hF, by omega⟩)
abbrev L_X8_isWord_s2 : List Rc := []
def P_X8_isWord_s2 (σ0 : Nat → Nat → Int32) (a2 : Int32) (a3 : Int32) (a4 : Int32) (r : Int32) (σ : Nat → Nat → Int32) : Prop := Rg σ ∧ Fr L_X8_isWord_s2 σ0 σ ∧ (0 ≤ r.toInt ∧ r.toInt ≤ 1)
def J_X8_isWord_s2_3 (p : Program) (l : Launch) (e : Env) (s : State) (m : MethodId) (args : Array Value) (below : List Frame) (meth : Method) (c : Code) (D : va_G) (cA : Nat → ClassId) (ad : Nat → Nat) (σ0 : Nat → Nat → Int32) (a2 : Int32) (a3 : Int32) (a4 : Int32) (n : Nat) : Prop := ∀ (σ : Nat → Nat → Int32) (τ : Nat → Nat → Int64) (H : Heap) (locs : List Loc) (x5 : Int32) (ls : Array Slot), Rg σ → Fr L_X8_isWord_s2 σ0 σ → va_P D vwCl (gw cA ad σ τ) H → va_S (AA ad) s.heap H locs → (0 ≤ x5.toInt ∧ x5.toInt ≤ 7) → lv_has ls 7 [(0, .ref (ad 1)), (1, .ref (ad 409)), (2, .int a2), (3, .int a3), (4, .int a4), (5, .int x5)] → 3 * (7 - x5.toInt) + 2 < (n : Int) → W p l e ({ frames := 4, cells := 0, slots := 0, locals := 85 } : Room) s m args below meth c H locs 0 0 (MQ below (va_Qi (fun (r : Int32) (u : SS) => P_X8_isWord_s2 σ0 a2 a3 a4 r u.1) (WB D cA ad) (AA ad)) args s 0 0 (AA ad)) (F0 m 3 ls [])
def J_X8_isWord_s2_32 (p : Program) (l : Launch) (e : Env) (s : State) (m : MethodId) (args : Array Value) (below : List Frame) (meth : Method) (c : Code) (D : va_G) (cA : Nat → ClassId) (ad : Nat → Nat) (σ0 : Nat → Nat → Int32) (a2 : Int32) (a3 : Int32) (a4 : Int32) (n : Nat) : Prop := ∀ (σ : Nat → Nat → Int32) (τ : Nat → Nat → Int64) (H : Heap) (locs : List Loc) (x5 : Int32) (w0 : Int32) (ls : Array Slot), Rg σ → Fr L_X8_isWord_s2 σ0 σ → va_P D vwCl (gw cA ad σ τ) H → va_S (AA ad) s.heap H locs → (0 ≤ x5.toInt ∧ x5.toInt ≤ 6) → (0 ≤ w0.toInt ∧ w0.toInt ≤ 255) → lv_has ls 7 [(0, .ref (ad 1)), (1, .ref (ad 409)), (2, .int a2), (3, .int a3), (4, .int a4), (5, .int x5)] → 3 * (7 - x5.toInt) + 1 < (n : Int) → W p l e ({ frames := 4, cells := 0, slots := 0, locals := 85 } : Room) s m args below meth c H locs 0 0 (MQ below (va_Qi (fun (r : Int32) (u : SS) => P_X8_isWord_s2 σ0 a2 a3 a4 r u.1) (WB D cA ad) (AA ad)) args s 0 0 (AA ad)) (F0 m 32 ls [.int w0])
set_option maxHeartbeats 4000000 in
theorem B_X8_isWord_s2_3 (p : Program) (l : Launch) (e : Env) (s : State) (m : MethodId) (args : Array Value) (below : List Frame) (meth : Method) (c : Code) (D : va_G) (cA : Nat → ClassId) (ad : Nat → Nat) (σ0 : Nat → Nat → Int32) (a2 : Int32) (a3 : Int32) (a4 : Int32) (n : Nat) (C : Cy p s m args meth c cX8_isWord 7 wsX8_isWord RX8 D cA ad (some .boolean)) (ha2 : 0 ≤ a2.toInt ∧ a2.toInt ≤ 10) (ha3 : 0 ≤ a3.toInt ∧ a3.toInt ≤ 899) (ha4 : 0 ≤ a4.toInt ∧ a4.toInt ≤ 940) (K3 : J_X8_isWord_s2_3 p l e s m args below meth c D cA ad σ0 a2 a3 a4 n) (K32 : J_X8_isWord_s2_32 p l e s m args below meth c D cA ad σ0 a2 a3 a4 n) : J_X8_isWord_s2_3 p l e s m args below meth c D cA ad σ0 a2 a3 a4 (n + 1) := by
  obtain ⟨hx, hb, hml, hown, hts, hK, hk, hr, hI, hN⟩ := C
  intro σ τ H locs x5 ls hR hF hP hS hc0 hl hm
  obtain rfl := Fr.nil hF
  refine lv_iload hx hb dX8_isWord_3 (lv_at hl 5 rfl) ?_
  refine r_bipush hx hb dX8_isWord_5 (by decide) (fun z1 ez1 => ?_)
  refine r_icmp_ge (tgt := 58) hx hb dX8_isWord_7 (by decide) (fun c2 => ?_) (fun c2 => ?_)
  · refine r_iconst hx hb dX8_isWord_58 (by decide) (fun z3 ez3 => ?_)
    exact r_zret hx hb hr hK hP hS hk (by omega) dX8_isWord_59 (show P_X8_isWord_s2 σ0 a2 a3 a4 z3 σ0 from ⟨hR, hF, by omega⟩)
  · refine lv_iload_n hx hb dX8_isWord_10 rfl (lv_at hl 3 rfl) ?_
    refine lv_iload hx hb dX8_isWord_11 (lv_at hl 5 rfl) ?_
    refine r_iadd hx hb dX8_isWord_13 (by omega) (fun z4 ez4 => ?_)
    refine lv_iload hx hb dX8_isWord_14 (lv_at hl 4 rfl) ?_
    refine r_icmp_ge (tgt := 30) hx hb dX8_isWord_16 (by decide) (fun c5 => ?_) (fun c5 => ?_)
    · refine r_bipush hx hb dX8_isWord_30 (by decide) (fun z6 ez6 => ?_)
      exact K32 σ0 τ H locs x5 z6 ls hR hF hP hS (by omega) (by omega) (lv_sub hl [0, 1, 2, 3, 4, 5] rfl) (by omega)
    · refine lv_aload_n hx hb dX8_isWord_19 rfl (lv_at hl 0 rfl) ?_
      refine lv_iload_n hx hb dX8_isWord_20 rfl (lv_at hl 3 rfl) ?_
      refine lv_iload hx hb dX8_isWord_21 (lv_at hl 5 rfl) ?_
      refine r_iadd hx hb dX8_isWord_23 (by omega) (fun z7 ez7 => ?_)
      refine r_cVi (k := 1) (As := [.int z7]) (rest := []) ⟨hx, hb, hml, hown, hts⟩ hK hP hN hS (c_X8_byteAt l D cA ad hI σ0 τ hR z7 (by omega)) (cwV 1 hts gX8_isWord_X8_byteAt rfl rfl rfl (by decide +kernel) ⟨by decide, by decide⟩) (rv_Tape hK hP (by decide) (by decide)) rfl hl.1 rfl (Nat.le_of_ble_eq_true rfl) dX8_isWord_24 (Nat.zero_le _) (Nat.zero_le _) (fun r8 u8 H8 locs8 hp8 hP hS => ?_)
      obtain ⟨σ8, τ8⟩ := u8
      obtain ⟨hR, f8, hq8⟩ : P_X8_byteAt σ0 z7 r8 σ8 := hp8
      have hP : va_P D vwCl (gw cA ad σ8 τ8) H8 := hP
      obtain rfl := Fr.nil f8
      refine lv_goto (tgt := 32) hx hb dX8_isWord_27 (by decide) ?_
      exact K32 σ0 τ8 H8 locs8 x5 r8 ls hR hF hP hS (by omega) (by omega) (lv_sub hl [0, 1, 2, 3, 4, 5] rfl) (by omega)
set_option maxHeartbeats 4000000 in
theorem B_X8_isWord_s2_32 (p : Program) (l : Launch) (e : Env) (s : State) (m : MethodId) (args : Array Value) (below : List Frame) (meth : Method) (c : Code) (D : va_G) (cA : Nat → ClassId) (ad : Nat → Nat) (σ0 : Nat → Nat → Int32) (a2 : Int32) (a3 : Int32) (a4 : Int32) (n : Nat) (C : Cy p s m args meth c cX8_isWord 7 wsX8_isWord RX8 D cA ad (some .boolean)) (ha2 : 0 ≤ a2.toInt ∧ a2.toInt ≤ 10) (ha3 : 0 ≤ a3.toInt ∧ a3.toInt ≤ 899) (ha4 : 0 ≤ a4.toInt ∧ a4.toInt ≤ 940) (K3 : J_X8_isWord_s2_3 p l e s m args below meth c D cA ad σ0 a2 a3 a4 n) (K32 : J_X8_isWord_s2_32 p l e s m args below meth c D cA ad σ0 a2 a3 a4 n) : J_X8_isWord_s2_32 p l e s m args below meth c D cA ad σ0 a2 a3 a4 (n + 1) := by
  obtain ⟨hx, hb, hml, hown, hts, hK, hk, hr, hI, hN⟩ := C
  intro σ τ H locs x5 w0 ls hR hF hP hS hc0 hc1 hl hm
  obtain rfl := Fr.nil hF
  refine lv_istore (lv' := [(6, .int w0), (0, .ref (ad 1)), (1, .ref (ad 409)), (2, .int a2), (3, .int a3), (4, .int a4), (5, .int x5)]) hx hb dX8_isWord_32 hl (by decide) rfl (fun ls hl => ?_)
  refine lv_aload_n hx hb dX8_isWord_34 rfl (lv_at hl 2 rfl) ?_
  refine lv_iload_n hx hb dX8_isWord_35 rfl (lv_at hl 3 rfl) ?_
  refine r_bipush hx hb dX8_isWord_36 (by decide) (fun z1 ez1 => ?_)
  refine r_imulR (n := 7) hx hb dX8_isWord_38 (by omega) (by omega) (fun z2 ez2 => ?_)
  refine lv_iload hx hb dX8_isWord_39 (lv_at hl 6 rfl) ?_
  refine r_iadd hx hb dX8_isWord_41 (by omega) (fun z3 ez3 => ?_)
  refine r_cVi (k := 409) (As := [.int z3]) (rest := []) ⟨hx, hb, hml, hown, hts⟩ hK hP hN hS (c_J0_charAt_5068e_s2 l D cA ad hI σ0 τ hR z3 (by omega)) (cwV 1 hts gX8_isWord_J0_charAt_5068e rfl rfl rfl (by decide +kernel) ⟨by decide, by decide⟩) (so_2 hN hS) rfl hl.1 rfl (Nat.le_of_ble_eq_true rfl) dX8_isWord_42 (Nat.zero_le _) (Nat.zero_le _) (fun r4 u4 H4 locs4 hp4 hP hS => ?_)
  obtain ⟨σ4, τ4⟩ := u4
  obtain ⟨hR, f4, hq4⟩ : P_J0_charAt_5068e_s2 σ0 z3 r4 σ4 := hp4
  have hP : va_P D vwCl (gw cA ad σ4 τ4) H4 := hP
  obtain rfl := Fr.nil f4
  refine lv_iload hx hb dX8_isWord_45 (lv_at hl 0 rfl) ?_
  refine r_icmp_eq (tgt := 52) hx hb dX8_isWord_47 (by decide) (fun c5 => ?_) (fun c5 => ?_)
  · refine r_iinc (k := 6) (lv1 := fun z6 => [(5, .int z6), (6, .int w0), (0, .ref (ad 1)), (1, .ref (ad 409)), (2, .int a2), (3, .int a3), (4, .int a4)]) hx hb dX8_isWord_52 hl rfl (by decide) (fun _ => rfl) (by decide) (by omega) (fun z6 ls ez6 hl => ?_)
    refine lv_goto (tgt := 3) hx hb dX8_isWord_55 (by decide) ?_
    exact K3 σ0 τ4 H4 locs4 z6 ls hR hF hP hS (by omega) (lv_sub hl [2, 3, 4, 5, 6, 0] rfl) (by omega)
  · refine r_iconst hx hb dX8_isWord_50 (by decide) (fun z7 ez7 => ?_)
    exact r_zret hx hb hr hK hP hS hk (by omega) dX8_isWord_51 (show P_X8_isWord_s2 σ0 a2 a3 a4 z7 σ0 from ⟨hR, hF, by omega⟩)
theorem A_X8_isWord_s2 (p : Program) (l : Launch) (e : Env) (s : State) (m : MethodId) (args : Array Value) (below : List Frame) (meth : Method) (c : Code) (D : va_G) (cA : Nat → ClassId) (ad : Nat → Nat) (σ0 : Nat → Nat → Int32) (a2 : Int32) (a3 : Int32) (a4 : Int32) (C : Cy p s m args meth c cX8_isWord 7 wsX8_isWord RX8 D cA ad (some .boolean)) (ha2 : 0 ≤ a2.toInt ∧ a2.toInt ≤ 10) (ha3 : 0 ≤ a3.toInt ∧ a3.toInt ≤ 899) (ha4 : 0 ≤ a4.toInt ∧ a4.toInt ≤ 940) : ∀ n : Nat, J_X8_isWord_s2_3 p l e s m args below meth c D cA ad σ0 a2 a3 a4 n ∧ J_X8_isWord_s2_32 p l e s m args below meth c D cA ad σ0 a2 a3 a4 n := by
  intro n
  induction n with
  | zero =>
    exact ⟨(by intro σ τ H locs x5 ls hR hF hP hS hc0 hl hm; exfalso; omega), (by intro σ τ H locs x5 w0 ls hR hF hP hS hc0 hc1 hl hm; exfalso; omega)⟩
  | succ n ih =>
    exact ⟨B_X8_isWord_s2_3 p l e s m args below meth c D cA ad σ0 a2 a3 a4 n C ha2 ha3 ha4 ih.1 ih.2, B_X8_isWord_s2_32 p l e s m args below meth c D cA ad σ0 a2 a3 a4 n C ha2 ha3 ha4 ih.1 ih.2⟩
set_option maxHeartbeats 4000000 in
theorem c_X8_isWord_s2 (l : Launch) (D : va_G) (cA : Nat → ClassId) (ad : Nat → Nat) (hI : Inj ad) (σ0 : Nat → Nat → Int32) (τ0 : Nat → Nat → Int64) (hR : Rg σ0) (a2 : Int32) (a3 : Int32) (a4 : Int32) (ha2 : 0 ≤ a2.toInt ∧ a2.toInt ≤ 10) (ha3 : 0 ≤ a3.toInt ∧ a3.toInt ≤ 899) (ha4 : 0 ≤ a4.toInt ∧ a4.toInt ≤ 940) : Met l yX8_isWord wsX8_isWord ({ frames := 4, cells := 0, slots := 0, locals := 85 } : Room) (WQc D cA ad [.ref (ad 1), .ref (ad 409), .int a2, .int a3, .int a4] σ0 τ0) (va_Qi (fun (r : Int32) (u : SS) => P_X8_isWord_s2 σ0 a2 a3 a4 r u.1) (WB D cA ad) (AA ad)) 0 0 (AA ad) := by
  refine Met.ofW (cc := cX8_isWord) (maxL := 7) (ret := (some .boolean)) (by decide) rfl ?_
  intro p e s m args below meth c s₁ B hml hv
  obtain ⟨rfl, hP, hK, hN⟩ := hv
  have C : Cy p s m _ meth c cX8_isWord 7 wsX8_isWord RX8 D cA ad (some .boolean) := ⟨B.exec, B.bytes, hml, findClass_of_methodNamed B.named, atoms_spec (ws := wsX8_isWord) B.pre, hK, B.notSynchronized, B.returns, hI, hN⟩
  have hl := lv_entry ([.ref (ad 1), .ref (ad 409), .int a2, .int a3, .int a4]) (n := 7) (Nat.le_of_ble_eq_true rfl)
  rw [lg_entry_eq]
  generalize (lg_sl ([.ref (ad 1), .ref (ad 409), .int a2, .int a3, .int a4]) ++ List.replicate (7 - (lg_sl ([.ref (ad 1), .ref (ad 409), .int a2, .int a3, .int a4])).length) Slot.unset).toArray = ls at hl ⊢
  have hl : lv_has ls 7 [(0, .ref (ad 1)), (1, .ref (ad 409)), (2, .int a2), (3, .int a3), (4, .int a4)] := hl
  have hS : va_S (AA ad) s.heap s.heap [] := va_S.rf
  have hF : Fr L_X8_isWord_s2 σ0 σ0 := Fr.rf
  have hA := A_X8_isWord_s2 p l e s m _ below meth c D cA ad σ0 a2 a3 a4 C ha2 ha3 ha4 55
  have K3 := hA.1
  have K32 := hA.2
  clear hA
  obtain ⟨hx, hb, _, hown, hts, _, hk, hr, _, _⟩ := C
  refine r_iconst hx hb dX8_isWord_0 (by decide) (fun z1 ez1 => ?_)
  refine lv_istore (lv' := [(5, .int z1), (0, .ref (ad 1)), (1, .ref (ad 409)), (2, .int a2), (3, .int a3), (4, .int a4)]) hx hb dX8_isWord_1 hl (by decide) rfl (fun ls hl => ?_)
  exact K3 σ0 τ0 s.heap [] z1 ls hR hF hP hS (by omega) (lv_sub hl [1, 2, 3, 4, 5, 0] rfl) (by omega)
abbrev L_X8_wordIn_s2 : List Rc := []
def P_X8_wordIn_s2 (σ0 : Nat → Nat → Int32) (a2 : Int32) (a3 : Int32) (r : Int32) (σ : Nat → Nat → Int32) : Prop := Rg σ ∧ Fr L_X8_wordIn_s2 σ0 σ ∧ (-1 ≤ r.toInt ∧ r.toInt ≤ 10)
def J_X8_wordIn_s2_3 (p : Program) (l : Launch) (e : Env) (s : State) (m : MethodId) (args : Array Value) (below : List Frame) (meth : Method) (c : Code) (D : va_G) (cA : Nat → ClassId) (ad : Nat → Nat) (σ0 : Nat → Nat → Int32) (a2 : Int32) (a3 : Int32) (n : Nat) : Prop := ∀ (σ : Nat → Nat → Int32) (τ : Nat → Nat → Int64) (H : Heap) (locs : List Loc) (x4 : Int32) (ls : Array Slot), Rg σ → Fr L_X8_wordIn_s2 σ0 σ → va_P D vwCl (gw cA ad σ τ) H → va_S (AA ad) s.heap H locs → (0 ≤ x4.toInt ∧ x4.toInt ≤ 11) → lv_has ls 5 [(0, .ref (ad 1)), (1, .ref (ad 409)), (2, .int a2), (3, .int a3), (4, .int x4)] → 2 * (11 - x4.toInt) + 1 < (n : Int) → W p l e ({ frames := 5, cells := 0, slots := 0, locals := 111 } : Room) s m args below meth c H locs 0 0 (MQ below (va_Qi (fun (r : Int32) (u : SS) => P_X8_wordIn_s2 σ0 a2 a3 r u.1) (WB D cA ad) (AA ad)) args s 0 0 (AA ad)) (F0 m 3 ls [])
set_option maxHeartbeats 4000000 in
theorem B_X8_wordIn_s2_3 (p : Program) (l : Launch) (e : Env) (s : State) (m : MethodId) (args : Array Value) (below : List Frame) (meth : Method) (c : Code) (D : va_G) (cA : Nat → ClassId) (ad : Nat → Nat) (σ0 : Nat → Nat → Int32) (a2 : Int32) (a3 : Int32) (n : Nat) (C : Cy p s m args meth c cX8_wordIn 5 wsX8_wordIn RX8 D cA ad (some .int)) (ha2 : 0 ≤ a2.toInt ∧ a2.toInt ≤ 899) (ha3 : 0 ≤ a3.toInt ∧ a3.toInt ≤ 940) (K3 : J_X8_wordIn_s2_3 p l e s m args below meth c D cA ad σ0 a2 a3 n) : J_X8_wordIn_s2_3 p l e s m args below meth c D cA ad σ0 a2 a3 (n + 1) := by
  obtain ⟨hx, hb, hml, hown, hts, hK, hk, hr, hI, hN⟩ := C
  intro σ τ H locs x4 ls hR hF hP hS hc0 hl hm
  obtain rfl := Fr.nil hF
  refine lv_iload hx hb dX8_wordIn_3 (lv_at hl 4 rfl) ?_
  refine r_iconst hx hb dX8_wordIn_5 (by decide) (fun z1 ez1 => ?_)
  refine r_iadd hx hb dX8_wordIn_6 (by omega) (fun z2 ez2 => ?_)
  refine r_bipush hx hb dX8_wordIn_7 (by decide) (fun z3 ez3 => ?_)
  refine r_imulR (n := 7) hx hb dX8_wordIn_9 (by omega) (by omega) (fun z4 ez4 => ?_)
  refine lv_aload_n hx hb dX8_wordIn_10 rfl (lv_at hl 1 rfl) ?_
  refine r_cVi (k := 409) (As := []) (rest := [.int z4]) ⟨hx, hb, hml, hown, hts⟩ hK hP hN hS (c_J0_length_8abf5_s2 l D cA ad hI σ0 τ hR) (cwV 0 hts gX8_wordIn_J0_length_8abf5 rfl rfl rfl (by decide +kernel) ⟨by decide, by decide⟩) (so_2 hN hS) rfl hl.1 rfl (Nat.le_of_ble_eq_true rfl) dX8_wordIn_11 (Nat.zero_le _) (Nat.zero_le _) (fun r5 u5 H5 locs5 hp5 hP hS => ?_)
  obtain ⟨σ5, τ5⟩ := u5
  obtain ⟨hR, f5, hq5⟩ : P_J0_length_8abf5_s2 σ0 r5 σ5 := hp5
  have hP : va_P D vwCl (gw cA ad σ5 τ5) H5 := hP
  obtain rfl := Fr.nil f5
  refine r_icmp_gt (tgt := 38) hx hb dX8_wordIn_14 (by decide) (fun c6 => ?_) (fun c6 => ?_)
  · refine r_iconst hx hb dX8_wordIn_38 (by decide) (fun z7 ez7 => ?_)
    exact r_iret hx hb hr hK hP hS hk dX8_wordIn_39 (show P_X8_wordIn_s2 σ0 a2 a3 z7 σ0 from ⟨hR, hF, by omega⟩)
  · refine lv_aload_n hx hb dX8_wordIn_17 rfl (lv_at hl 0 rfl) ?_
    refine lv_aload_n hx hb dX8_wordIn_18 rfl (lv_at hl 1 rfl) ?_
    refine lv_iload hx hb dX8_wordIn_19 (lv_at hl 4 rfl) ?_
    refine lv_iload_n hx hb dX8_wordIn_21 rfl (lv_at hl 2 rfl) ?_
    refine lv_iload_n hx hb dX8_wordIn_22 rfl (lv_at hl 3 rfl) ?_
    refine r_cVi (k := 1) (As := [.ref (ad 409), .int x4, .int a2, .int a3]) (rest := []) ⟨hx, hb, hml, hown, hts⟩ hK hP hN hS (c_X8_isWord_s2 l D cA ad hI σ0 τ5 hR x4 a2 a3 (by omega) (by omega) (by omega)) (cwV 4 hts gX8_wordIn_X8_isWord rfl rfl rfl (by decide +kernel) ⟨by decide, by decide⟩) (rv_Tape hK hP (by decide) (by decide)) rfl hl.1 rfl (Nat.le_of_ble_eq_true rfl) dX8_wordIn_23 (Nat.zero_le _) (Nat.zero_le _) (fun r8 u8 H8 locs8 hp8 hP hS => ?_)
    obtain ⟨σ8, τ8⟩ := u8
    obtain ⟨hR, f8, hq8⟩ : P_X8_isWord_s2 σ0 x4 a2 a3 r8 σ8 := hp8
    have hP : va_P D vwCl (gw cA ad σ8 τ8) H8 := hP
    obtain rfl := Fr.nil f8
    refine r_if_eq (tgt := 32) hx hb dX8_wordIn_26 (by decide) (fun c9 => ?_) (fun c9 => ?_)
    · refine r_iinc (k := 4) (lv1 := fun z10 => [(4, .int z10), (0, .ref (ad 1)), (1, .ref (ad 409)), (2, .int a2), (3, .int a3)]) hx hb dX8_wordIn_32 hl rfl (by decide) (fun _ => rfl) (by decide) (by omega) (fun z10 ls ez10 hl => ?_)
      refine lv_goto (tgt := 3) hx hb dX8_wordIn_35 (by decide) ?_
      exact K3 σ0 τ8 H8 locs8 z10 ls hR hF hP hS (by omega) (lv_sub hl [1, 2, 3, 4, 0] rfl) (by omega)
    · refine lv_iload hx hb dX8_wordIn_29 (lv_at hl 4 rfl) ?_
      exact r_iret hx hb hr hK hP hS hk dX8_wordIn_31 (show P_X8_wordIn_s2 σ0 a2 a3 x4 σ0 from ⟨hR, hF, by omega⟩)
theorem A_X8_wordIn_s2 (p : Program) (l : Launch) (e : Env) (s : State) (m : MethodId) (args : Array Value) (below : List Frame) (meth : Method) (c : Code) (D : va_G) (cA : Nat → ClassId) (ad : Nat → Nat) (σ0 : Nat → Nat → Int32) (a2 : Int32) (a3 : Int32) (C : Cy p s m args meth c cX8_wordIn 5 wsX8_wordIn RX8 D cA ad (some .int)) (ha2 : 0 ≤ a2.toInt ∧ a2.toInt ≤ 899) (ha3 : 0 ≤ a3.toInt ∧ a3.toInt ≤ 940) : ∀ n : Nat, J_X8_wordIn_s2_3 p l e s m args below meth c D cA ad σ0 a2 a3 n := by
  intro n
  induction n with
  | zero =>
    exact (by intro σ τ H locs x4 ls hR hF hP hS hc0 hl hm; exfalso; omega)
  | succ n ih =>
    exact B_X8_wordIn_s2_3 p l e s m args below meth c D cA ad σ0 a2 a3 n C ha2 ha3 ih
set_option maxHeartbeats 4000000 in
theorem c_X8_wordIn_s2 (l : Launch) (D : va_G) (cA : Nat → ClassId) (ad : Nat → Nat) (hI : Inj ad) (σ0 : Nat → Nat → Int32) (τ0 : Nat → Nat → Int64) (hR : Rg σ0) (a2 : Int32) (a3 : Int32) (ha2 : 0 ≤ a2.toInt ∧ a2.toInt ≤ 899) (ha3 : 0 ≤ a3.toInt ∧ a3.toInt ≤ 940) : Met l yX8_wordIn wsX8_wordIn ({ frames := 5, cells := 0, slots := 0, locals := 111 } : Room) (WQc D cA ad [.ref (ad 1), .ref (ad 409), .int a2, .int a3] σ0 τ0) (va_Qi (fun (r : Int32) (u : SS) => P_X8_wordIn_s2 σ0 a2 a3 r u.1) (WB D cA ad) (AA ad)) 0 0 (AA ad) := by
  refine Met.ofW (cc := cX8_wordIn) (maxL := 5) (ret := (some .int)) (by decide) rfl ?_
  intro p e s m args below meth c s₁ B hml hv
  obtain ⟨rfl, hP, hK, hN⟩ := hv
  have C : Cy p s m _ meth c cX8_wordIn 5 wsX8_wordIn RX8 D cA ad (some .int) := ⟨B.exec, B.bytes, hml, findClass_of_methodNamed B.named, atoms_spec (ws := wsX8_wordIn) B.pre, hK, B.notSynchronized, B.returns, hI, hN⟩
  have hl := lv_entry ([.ref (ad 1), .ref (ad 409), .int a2, .int a3]) (n := 5) (Nat.le_of_ble_eq_true rfl)
  rw [lg_entry_eq]
  generalize (lg_sl ([.ref (ad 1), .ref (ad 409), .int a2, .int a3]) ++ List.replicate (5 - (lg_sl ([.ref (ad 1), .ref (ad 409), .int a2, .int a3])).length) Slot.unset).toArray = ls at hl ⊢
  have hl : lv_has ls 5 [(0, .ref (ad 1)), (1, .ref (ad 409)), (2, .int a2), (3, .int a3)] := hl
  have hS : va_S (AA ad) s.heap s.heap [] := va_S.rf
  have hF : Fr L_X8_wordIn_s2 σ0 σ0 := Fr.rf
  have hA := A_X8_wordIn_s2 p l e s m _ below meth c D cA ad σ0 a2 a3 C ha2 ha3 54
  have K3 := hA
  clear hA
  obtain ⟨hx, hb, _, hown, hts, _, hk, hr, _, _⟩ := C
  refine r_iconst hx hb dX8_wordIn_0 (by decide) (fun z1 ez1 => ?_)
  refine lv_istore (lv' := [(4, .int z1), (0, .ref (ad 1)), (1, .ref (ad 409)), (2, .int a2), (3, .int a3)]) hx hb dX8_wordIn_1 hl (by decide) rfl (fun ls hl => ?_)
  exact K3 σ0 τ0 s.heap [] z1 ls hR hF hP hS (by omega) (lv_sub hl [1, 2, 3, 4, 0] rfl) (by omega)
abbrev L_X8_wordToken : List Rc := []
def P_X8_wordToken (σ0 : Nat → Nat → Int32) (a1 : Int32) (a2 : Int32) (r : Int32) (σ : Nat → Nat → Int32) : Prop := Rg σ ∧ Fr L_X8_wordToken σ0 σ ∧ (0 ≤ r.toInt ∧ r.toInt ≤ 47)
set_option maxHeartbeats 4000000 in
theorem c_X8_wordToken (l : Launch) (D : va_G) (cA : Nat → ClassId) (ad : Nat → Nat) (hI : Inj ad) (σ0 : Nat → Nat → Int32) (τ0 : Nat → Nat → Int64) (hR : Rg σ0) (a1 : Int32) (a2 : Int32) (ha1 : 0 ≤ a1.toInt ∧ a1.toInt ≤ 899) (ha2 : 0 ≤ a2.toInt ∧ a2.toInt ≤ 940) : Met l yX8_wordToken wsX8_wordToken ({ frames := 6, cells := 0, slots := 0, locals := 135 } : Room) (WQc D cA ad [.ref (ad 1), .int a1, .int a2] σ0 τ0) (va_Qi (fun (r : Int32) (u : SS) => P_X8_wordToken σ0 a1 a2 r u.1) (WB D cA ad) (AA ad)) 0 0 (AA ad) := by
  refine Met.ofW (cc := cX8_wordToken) (maxL := 4) (ret := (some .int)) (by decide) rfl ?_
  intro p e s m args below meth c s₁ B hml hv
  obtain ⟨rfl, hP, hK, hN⟩ := hv
  have C : Cy p s m _ meth c cX8_wordToken 4 wsX8_wordToken RX8 D cA ad (some .int) := ⟨B.exec, B.bytes, hml, findClass_of_methodNamed B.named, atoms_spec (ws := wsX8_wordToken) B.pre, hK, B.notSynchronized, B.returns, hI, hN⟩
  have hl := lv_entry ([.ref (ad 1), .int a1, .int a2]) (n := 4) (Nat.le_of_ble_eq_true rfl)
  rw [lg_entry_eq]
  generalize (lg_sl ([.ref (ad 1), .int a1, .int a2]) ++ List.replicate (4 - (lg_sl ([.ref (ad 1), .int a1, .int a2])).length) Slot.unset).toArray = ls at hl ⊢
  have hl : lv_has ls 4 [(0, .ref (ad 1)), (1, .int a1), (2, .int a2)] := hl
  have hS : va_S (AA ad) s.heap s.heap [] := va_S.rf
  have hF : Fr L_X8_wordToken σ0 σ0 := Fr.rf
  obtain ⟨hx, hb, _, hown, hts, _, hk, hr, _, _⟩ := C
  refine lv_aload_n hx hb dX8_wordToken_0 rfl (lv_at hl 0 rfl) ?_
  refine va_ldcS hx hb hown hN.2.2.1 dX8_wordToken_1 ?_
  refine lv_iload_n hx hb dX8_wordToken_3 rfl (lv_at hl 1 rfl) ?_
  refine lv_iload_n hx hb dX8_wordToken_4 rfl (lv_at hl 2 rfl) ?_
  refine r_cVi (k := 1) (As := [.ref (ad 407), .int a1, .int a2]) (rest := []) ⟨hx, hb, hml, hown, hts⟩ hK hP hN hS (c_X8_wordIn_s0 l D cA ad hI σ0 τ0 hR a1 a2 (by omega) (by omega)) (cwV 3 hts gX8_wordToken_X8_wordIn rfl rfl rfl (by decide +kernel) ⟨by decide, by decide⟩) (rv_Tape hK hP (by decide) (by decide)) rfl hl.1 rfl (Nat.le_of_ble_eq_true rfl) dX8_wordToken_5 (Nat.zero_le _) (Nat.zero_le _) (fun r1 u1 H1 locs1 hp1 hP hS => ?_)
  obtain ⟨σ1, τ1⟩ := u1
  obtain ⟨hR, f1, hq1⟩ : P_X8_wordIn_s0 σ0 a1 a2 r1 σ1 := hp1
  have hP : va_P D vwCl (gw cA ad σ1 τ1) H1 := hP
  obtain rfl := Fr.nil f1
  refine lv_istore_n (lv' := [(3, .int r1), (0, .ref (ad 1)), (1, .int a1), (2, .int a2)]) hx hb dX8_wordToken_8 rfl hl (by decide) rfl (fun ls hl => ?_)
  refine lv_iload_n hx hb dX8_wordToken_9 rfl (lv_at hl 0 rfl) ?_
  refine r_iconst hx hb dX8_wordToken_10 (by decide) (fun z2 ez2 => ?_)
  refine r_icmp_eq (tgt := 16) hx hb dX8_wordToken_11 (by decide) (fun c3 => ?_) (fun c3 => ?_)
  · refine lv_aload_n hx hb dX8_wordToken_16 rfl (lv_at hl 1 rfl) ?_
    refine va_ldcS hx hb hown hN.2.2.2.1 dX8_wordToken_17 ?_
    refine lv_iload_n hx hb dX8_wordToken_19 rfl (lv_at hl 2 rfl) ?_
    refine lv_iload_n hx hb dX8_wordToken_20 rfl (lv_at hl 3 rfl) ?_
    refine r_cVi (k := 1) (As := [.ref (ad 408), .int a1, .int a2]) (rest := []) ⟨hx, hb, hml, hown, hts⟩ hK hP hN hS (c_X8_wordIn_s1 l D cA ad hI σ0 τ1 hR a1 a2 (by omega) (by omega)) (cwV 3 hts gX8_wordToken_X8_wordIn rfl rfl rfl (by decide +kernel) ⟨by decide, by decide⟩) (rv_Tape hK hP (by decide) (by decide)) rfl hl.1 rfl (Nat.le_of_ble_eq_true rfl) dX8_wordToken_21 (Nat.zero_le _) (Nat.zero_le _) (fun r4 u4 H4 locs4 hp4 hP hS => ?_)
    obtain ⟨σ4, τ4⟩ := u4
    obtain ⟨hR, f4, hq4⟩ : P_X8_wordIn_s1 σ0 a1 a2 r4 σ4 := hp4
    have hP : va_P D vwCl (gw cA ad σ4 τ4) H4 := hP
    obtain rfl := Fr.nil f4
    refine lv_istore_n (lv' := [(3, .int r4), (0, .ref (ad 1)), (1, .int a1), (2, .int a2)]) hx hb dX8_wordToken_24 rfl hl (by decide) rfl (fun ls hl => ?_)
    refine lv_iload_n hx hb dX8_wordToken_25 rfl (lv_at hl 0 rfl) ?_
    refine r_iconst hx hb dX8_wordToken_26 (by decide) (fun z5 ez5 => ?_)
    refine r_icmp_eq (tgt := 35) hx hb dX8_wordToken_27 (by decide) (fun c6 => ?_) (fun c6 => ?_)
    · refine lv_aload_n hx hb dX8_wordToken_35 rfl (lv_at hl 1 rfl) ?_
      refine va_ldcS hx hb hown hN.2.2.2.2.1 dX8_wordToken_36 ?_
      refine lv_iload_n hx hb dX8_wordToken_38 rfl (lv_at hl 2 rfl) ?_
      refine lv_iload_n hx hb dX8_wordToken_39 rfl (lv_at hl 3 rfl) ?_
      refine r_cVi (k := 1) (As := [.ref (ad 409), .int a1, .int a2]) (rest := []) ⟨hx, hb, hml, hown, hts⟩ hK hP hN hS (c_X8_wordIn_s2 l D cA ad hI σ0 τ4 hR a1 a2 (by omega) (by omega)) (cwV 3 hts gX8_wordToken_X8_wordIn rfl rfl rfl (by decide +kernel) ⟨by decide, by decide⟩) (rv_Tape hK hP (by decide) (by decide)) rfl hl.1 rfl (Nat.le_of_ble_eq_true rfl) dX8_wordToken_40 (Nat.zero_le _) (Nat.zero_le _) (fun r7 u7 H7 locs7 hp7 hP hS => ?_)
      obtain ⟨σ7, τ7⟩ := u7
      obtain ⟨hR, f7, hq7⟩ : P_X8_wordIn_s2 σ0 a1 a2 r7 σ7 := hp7
      have hP : va_P D vwCl (gw cA ad σ7 τ7) H7 := hP
      obtain rfl := Fr.nil f7
      refine lv_istore_n (lv' := [(3, .int r7), (0, .ref (ad 1)), (1, .int a1), (2, .int a2)]) hx hb dX8_wordToken_43 rfl hl (by decide) rfl (fun ls hl => ?_)
      refine lv_iload_n hx hb dX8_wordToken_44 rfl (lv_at hl 0 rfl) ?_
      refine r_iconst hx hb dX8_wordToken_45 (by decide) (fun z8 ez8 => ?_)
      refine r_icmp_ne (tgt := 54) hx hb dX8_wordToken_46 (by decide) (fun c9 => ?_) (fun c9 => ?_)
      · refine r_bipush hx hb dX8_wordToken_54 (by decide) (fun z10 ez10 => ?_)
        refine lv_iload_n hx hb dX8_wordToken_56 rfl (lv_at hl 0 rfl) ?_
        refine r_iadd hx hb dX8_wordToken_57 (by omega) (fun z11 ez11 => ?_)
        exact r_iret hx hb hr hK hP hS hk dX8_wordToken_58 (show P_X8_wordToken σ0 a1 a2 z11 σ0 from ⟨hR, hF, by omega⟩)
      · refine r_bipush hx hb dX8_wordToken_49 (by decide) (fun z12 ez12 => ?_)
        refine lv_goto (tgt := 58) hx hb dX8_wordToken_51 (by decide) ?_
        exact r_iret hx hb hr hK hP hS hk dX8_wordToken_58 (show P_X8_wordToken σ0 a1 a2 z12 σ0 from ⟨hR, hF, by omega⟩)
    · refine r_bipush hx hb dX8_wordToken_30 (by decide) (fun z13 ez13 => ?_)
      refine lv_iload_n hx hb dX8_wordToken_32 rfl (lv_at hl 0 rfl) ?_
      refine r_iadd hx hb dX8_wordToken_33 (by omega) (fun z14 ez14 => ?_)
      exact r_iret hx hb hr hK hP hS hk dX8_wordToken_34 (show P_X8_wordToken σ0 a1 a2 z14 σ0 from ⟨hR, hF, by omega⟩)
  · refine lv_iload_n hx hb dX8_wordToken_14 rfl (lv_at hl 0 rfl) ?_
    exact r_iret hx hb hr hK hP hS hk dX8_wordToken_15 (show P_X8_wordToken σ0 a1 a2 r1 σ0 from ⟨hR, hF, by omega⟩)
theorem in_X8_scanRun_8 : ∀ w ∈ u_ws RX8 TX8 15, w ∈ wsX8_scanRun := by decide +kernel
theorem lk_X8_scanRun_29 : Cond.fieldLink RX8 29 "CuckooShares$Tape" "size" "I" ∈ wsX8_scanRun := by decide +kernel
theorem lk_X8_scanRun_78 : Cond.constantLong RX8 78 (27) ∈ wsX8_scanRun := by decide +kernel
theorem lk_X8_scanRun_80 : Cond.constantLong RX8 80 (97) ∈ wsX8_scanRun := by decide +kernel
abbrev L_X8_scanRun : List Rc := [(36, 36, 0, 940), (37, 37, 0, 940), (38, 38, 0, 940), (1, 1, 6, 6)]
def P_X8_scanRun (σ0 : Nat → Nat → Int32) (a1 : Int32) (r : Int32) (σ : Nat → Nat → Int32) : Prop := Rg σ ∧ Fr L_X8_scanRun σ0 σ ∧ (0 ≤ r.toInt ∧ r.toInt ≤ 940)
def J_X8_scanRun_13 (p : Program) (l : Launch) (e : Env) (s : State) (m : MethodId) (args : Array Value) (below : List Frame) (meth : Method) (c : Code) (D : va_G) (cA : Nat → ClassId) (ad : Nat → Nat) (σ0 : Nat → Nat → Int32) (a1 : Int32) (n : Nat) : Prop := ∀ (σ : Nat → Nat → Int32) (τ : Nat → Nat → Int64) (H : Heap) (locs : List Loc) (x2 : Int32) (x3 : Int32) (x4 : Int32) (y5 : Int64) (x7 : Int32) (ls : Array Slot), Rg σ → Fr L_X8_scanRun σ0 σ → va_P D vwCl (gw cA ad σ τ) H → va_S (AA ad) s.heap H locs → (0 ≤ x7.toInt ∧ x7.toInt ≤ 940) → lv_has ls 9 [(0, .ref (ad 1)), (1, .int a1), (2, .int x2), (3, .int x3), (4, .int x4), (5, .long y5), (7, .int x7)] → 4 * (940 - x7.toInt) + 3 < (n : Int) → W p l e ({ frames := 7, cells := 0, slots := 0, locals := 158 } : Room) s m args below meth c H locs 0 0 (MQ below (va_Qi (fun (r : Int32) (u : SS) => P_X8_scanRun σ0 a1 r u.1) (WB D cA ad) (AA ad)) args s 0 0 (AA ad)) (F0 m 13 ls [])
def J_X8_scanRun_96 (p : Program) (l : Launch) (e : Env) (s : State) (m : MethodId) (args : Array Value) (below : List Frame) (meth : Method) (c : Code) (D : va_G) (cA : Nat → ClassId) (ad : Nat → Nat) (σ0 : Nat → Nat → Int32) (a1 : Int32) (n : Nat) : Prop := ∀ (σ : Nat → Nat → Int32) (τ : Nat → Nat → Int64) (H : Heap) (locs : List Loc) (x2 : Int32) (x3 : Int32) (x4 : Int32) (y5 : Int64) (x7 : Int32) (ls : Array Slot), Rg σ → Fr L_X8_scanRun σ0 σ → va_P D vwCl (gw cA ad σ τ) H → va_S (AA ad) s.heap H locs → (0 ≤ x7.toInt ∧ x7.toInt ≤ 940) → lv_has ls 9 [(0, .ref (ad 1)), (1, .int a1), (2, .int x2), (3, .int x3), (4, .int x4), (5, .long y5), (7, .int x7)] → 2 < (n : Int) → W p l e ({ frames := 7, cells := 0, slots := 0, locals := 158 } : Room) s m args below meth c H locs 0 0 (MQ below (va_Qi (fun (r : Int32) (u : SS) => P_X8_scanRun σ0 a1 r u.1) (WB D cA ad) (AA ad)) args s 0 0 (AA ad)) (F0 m 96 ls [])
def J_X8_scanRun_116 (p : Program) (l : Launch) (e : Env) (s : State) (m : MethodId) (args : Array Value) (below : List Frame) (meth : Method) (c : Code) (D : va_G) (cA : Nat → ClassId) (ad : Nat → Nat) (σ0 : Nat → Nat → Int32) (a1 : Int32) (n : Nat) : Prop := ∀ (σ : Nat → Nat → Int32) (τ : Nat → Nat → Int64) (H : Heap) (locs : List Loc) (x2 : Int32) (x3 : Int32) (x4 : Int32) (y5 : Int64) (x7 : Int32) (x8 : Int32) (ls : Array Slot), Rg σ → Fr L_X8_scanRun σ0 σ → va_P D vwCl (gw cA ad σ τ) H → va_S (AA ad) s.heap H locs → (0 ≤ x7.toInt ∧ x7.toInt ≤ 940) → (49 ≤ x8.toInt ∧ x8.toInt ≤ 49) → lv_has ls 9 [(0, .ref (ad 1)), (1, .int a1), (2, .int x2), (3, .int x3), (4, .int x4), (5, .long y5), (7, .int x7), (8, .int x8)] → 1 < (n : Int) → W p l e ({ frames := 7, cells := 0, slots := 0, locals := 158 } : Room) s m args below meth c H locs 0 0 (MQ below (va_Qi (fun (r : Int32) (u : SS) => P_X8_scanRun σ0 a1 r u.1) (WB D cA ad) (AA ad)) args s 0 0 (AA ad)) (F0 m 116 ls [])
set_option maxHeartbeats 4000000 in
theorem B_X8_scanRun_13 (p : Program) (l : Launch) (e : Env) (s : State) (m : MethodId) (args : Array Value) (below : List Frame) (meth : Method) (c : Code) (D : va_G) (cA : Nat → ClassId) (ad : Nat → Nat) (σ0 : Nat → Nat → Int32) (a1 : Int32) (n : Nat) (C : Cy p s m args meth c cX8_scanRun 9 wsX8_scanRun RX8 D cA ad (some .int)) (ha1 : 0 ≤ a1.toInt ∧ a1.toInt ≤ 899) (K13 : J_X8_scanRun_13 p l e s m args below meth c D cA ad σ0 a1 n) (K96 : J_X8_scanRun_96 p l e s m args below meth c D cA ad σ0 a1 n) (K116 : J_X8_scanRun_116 p l e s m args below meth c D cA ad σ0 a1 n) : J_X8_scanRun_13 p l e s m args below meth c D cA ad σ0 a1 (n + 1) := by
  obtain ⟨hx, hb, hml, hown, hts, hK, hk, hr, hI, hN⟩ := C
  intro σ τ H locs x2 x3 x4 y5 x7 ls hR hF hP hS hc0 hl hm
  refine lv_iload hx hb dX8_scanRun_13 (lv_at hl 6 rfl) ?_
  refine lv_aload_n hx hb dX8_scanRun_15 rfl (lv_at hl 0 rfl) ?_
  refine fg_8_5 (k := 1) hx hb hts in_X8_scanRun_8 hown hK hP (by decide) (by decide) (hts _ lk_X8_scanRun_29) dX8_scanRun_16 ?_
  have hr1 := rg_8_5 hR (k := 1) (by decide) (by decide)
  refine r_icmp_ge (tgt := 96) hx hb dX8_scanRun_19 (by decide) (fun c2 => ?_) (fun c2 => ?_)
  · exact K96 σ τ H locs x2 x3 x4 y5 x7 ls hR hF hP hS (by omega) (lv_sub hl [0, 1, 2, 3, 4, 5, 6] rfl) (by omega)
  · refine lv_aload_n hx hb dX8_scanRun_22 rfl (lv_at hl 0 rfl) ?_
    refine lv_iload hx hb dX8_scanRun_23 (lv_at hl 6 rfl) ?_
    refine r_cVi (k := 1) (As := [.int x7]) (rest := []) ⟨hx, hb, hml, hown, hts⟩ hK hP hN hS (c_X8_byteAt l D cA ad hI σ τ hR x7 (by omega)) (cwV 1 hts gX8_scanRun_X8_byteAt rfl rfl rfl (by decide +kernel) ⟨by decide, by decide⟩) (rv_Tape hK hP (by decide) (by decide)) rfl hl.1 rfl (Nat.le_of_ble_eq_true rfl) dX8_scanRun_25 (Nat.zero_le _) (Nat.zero_le _) (fun r3 u3 H3 locs3 hp3 hP hS => ?_)
    obtain ⟨σ3, τ3⟩ := u3
    obtain ⟨hR, f3, hq3⟩ : P_X8_byteAt σ x7 r3 σ3 := hp3
    have hP : va_P D vwCl (gw cA ad σ3 τ3) H3 := hP
    obtain rfl := Fr.nil f3
    refine r_cSi (As := [.int r3]) (rest := []) ⟨hx, hb, hml, hown, hts⟩ hK hP hN hS (c_X8_isInRun l D cA ad hI σ τ3 hR r3 (by omega)) (va_cwS 1 hts gX8_scanRun_X8_isInRun rfl rfl rfl (by decide +kernel) ⟨by decide, by decide⟩) rfl hl.1 rfl (Nat.le_of_ble_eq_true rfl) dX8_scanRun_28 (Nat.zero_le _) (Nat.zero_le _) (fun r4 u4 H4 locs4 hp4 hP hS => ?_)
    obtain ⟨σ4, τ4⟩ := u4
    obtain ⟨hR, f4, hq4⟩ : P_X8_isInRun σ r3 r4 σ4 := hp4
    have hP : va_P D vwCl (gw cA ad σ4 τ4) H4 := hP
    obtain rfl := Fr.nil f4
    refine r_if_eq (tgt := 96) hx hb dX8_scanRun_31 (by decide) (fun c5 => ?_) (fun c5 => ?_)
    · exact K96 σ τ4 H4 locs4 x2 x3 x4 y5 x7 ls hR hF hP hS (by omega) (lv_sub hl [0, 1, 2, 3, 4, 5, 6] rfl) (by omega)
    · refine lv_aload_n hx hb dX8_scanRun_34 rfl (lv_at hl 0 rfl) ?_
      refine lv_iload hx hb dX8_scanRun_35 (lv_at hl 6 rfl) ?_
      refine r_cVi (k := 1) (As := [.int x7]) (rest := []) ⟨hx, hb, hml, hown, hts⟩ hK hP hN hS (c_X8_byteAt l D cA ad hI σ τ4 hR x7 (by omega)) (cwV 1 hts gX8_scanRun_X8_byteAt rfl rfl rfl (by decide +kernel) ⟨by decide, by decide⟩) (rv_Tape hK hP (by decide) (by decide)) rfl hl.1 rfl (Nat.le_of_ble_eq_true rfl) dX8_scanRun_37 (Nat.zero_le _) (Nat.zero_le _) (fun r6 u6 H6 locs6 hp6 hP hS => ?_)
      obtain ⟨σ6, τ6⟩ := u6
      obtain ⟨hR, f6, hq6⟩ : P_X8_byteAt σ x7 r6 σ6 := hp6
      have hP : va_P D vwCl (gw cA ad σ6 τ6) H6 := hP
      obtain rfl := Fr.nil f6
      refine lv_istore (lv' := [(8, .int r6), (0, .ref (ad 1)), (1, .int a1), (2, .int x2), (3, .int x3), (4, .int x4), (5, .long y5), (7, .int x7)]) hx hb dX8_scanRun_40 hl (by decide) rfl (fun ls hl => ?_)
      refine lv_iload hx hb dX8_scanRun_42 (lv_at hl 0 rfl) ?_
      refine r_cSi (As := [.int r6]) (rest := []) ⟨hx, hb, hml, hown, hts⟩ hK hP hN hS (c_X8_isDigit l D cA ad hI σ τ6 hR r6 (by omega)) (va_cwS 1 hts gX8_scanRun_X8_isDigit rfl rfl rfl (by decide +kernel) ⟨by decide, by decide⟩) rfl hl.1 rfl (Nat.le_of_ble_eq_true rfl) dX8_scanRun_44 (Nat.zero_le _) (Nat.zero_le _) (fun r7 u7 H7 locs7 hp7 hP hS => ?_)
      obtain ⟨σ7, τ7⟩ := u7
      obtain ⟨hR, f7, hq7⟩ : P_X8_isDigit σ r6 r7 σ7 := hp7
      have hP : va_P D vwCl (gw cA ad σ7 τ7) H7 := hP
      obtain rfl := Fr.nil f7
      refine r_if_eq (tgt := 69) hx hb dX8_scanRun_47 (by decide) (fun c8 => ?_) (fun c8 => ?_)
      · refine r_iincU (k := 3) (lv1 := fun z9 => [(2, .int z9), (8, .int r6), (0, .ref (ad 1)), (1, .int a1), (3, .int x3), (4, .int x4), (5, .long y5), (7, .int x7)]) hx hb dX8_scanRun_69 hl rfl (by decide) (fun _ => rfl) (fun z9 ls hl => ?_)
        refine lv_lload hx hb dX8_scanRun_72 (lv_at hl 6 rfl) ?_
        refine lv_ldc2 (v := 27) hx hb hown (hts _ lk_X8_scanRun_78) dX8_scanRun_74 ?_
        refine r_lmul hx hb dX8_scanRun_77 (fun z10 => ?_)
        refine lv_iload hx hb dX8_scanRun_78 (lv_at hl 1 rfl) ?_
        refine r_i2l hx hb dX8_scanRun_80 (fun z11 => ?_)
        refine r_ladd hx hb dX8_scanRun_81 (fun z12 => ?_)
        refine lv_ldc2 (v := 97) hx hb hown (hts _ lk_X8_scanRun_80) dX8_scanRun_82 ?_
        refine r_lsub hx hb dX8_scanRun_85 (fun z13 => ?_)
        refine lv_lconst (v := 1) hx hb dX8_scanRun_86 (by decide) ?_
        refine r_ladd hx hb dX8_scanRun_87 (fun z14 => ?_)
        refine lv_lstore (lv' := [(5, .long z14), (2, .int z9), (8, .int r6), (0, .ref (ad 1)), (1, .int a1), (3, .int x3), (4, .int x4), (7, .int x7)]) hx hb dX8_scanRun_88 hl (by decide) rfl (fun ls hl => ?_)
        refine r_iinc (k := 7) (lv1 := fun z15 => [(7, .int z15), (5, .long z14), (2, .int z9), (8, .int r6), (0, .ref (ad 1)), (1, .int a1), (3, .int x3), (4, .int x4)]) hx hb dX8_scanRun_90 hl rfl (by decide) (fun _ => rfl) (by decide) (by omega) (fun z15 ls ez15 hl => ?_)
        refine lv_goto (tgt := 13) hx hb dX8_scanRun_93 (by decide) ?_
        exact K13 σ τ7 H7 locs7 z9 x3 x4 z14 z15 ls hR hF hP hS (by omega) (lv_sub hl [4, 5, 2, 6, 7, 1, 0] rfl) (by omega)
      · refine r_iincU (k := 4) (lv1 := fun z16 => [(3, .int z16), (8, .int r6), (0, .ref (ad 1)), (1, .int a1), (2, .int x2), (4, .int x4), (5, .long y5), (7, .int x7)]) hx hb dX8_scanRun_50 hl rfl (by decide) (fun _ => rfl) (fun z16 ls hl => ?_)
        refine lv_iload hx hb dX8_scanRun_53 (lv_at hl 5 rfl) ?_
        refine r_bipush hx hb dX8_scanRun_55 (by decide) (fun z17 ez17 => ?_)
        refine r_imulU hx hb dX8_scanRun_57 (fun z18 => ?_)
        refine lv_iload hx hb dX8_scanRun_58 (lv_at hl 1 rfl) ?_
        refine r_iaddU hx hb dX8_scanRun_60 (fun z19 => ?_)
        refine r_bipush hx hb dX8_scanRun_61 (by decide) (fun z20 ez20 => ?_)
        refine r_isubU hx hb dX8_scanRun_63 (fun z21 => ?_)
        refine lv_istore (lv' := [(4, .int z21), (3, .int z16), (8, .int r6), (0, .ref (ad 1)), (1, .int a1), (2, .int x2), (5, .long y5), (7, .int x7)]) hx hb dX8_scanRun_64 hl (by decide) rfl (fun ls hl => ?_)
        refine lv_goto (tgt := 90) hx hb dX8_scanRun_66 (by decide) ?_
        refine r_iinc (k := 7) (lv1 := fun z22 => [(7, .int z22), (4, .int z21), (3, .int z16), (8, .int r6), (0, .ref (ad 1)), (1, .int a1), (2, .int x2), (5, .long y5)]) hx hb dX8_scanRun_90 hl rfl (by decide) (fun _ => rfl) (by decide) (by omega) (fun z22 ls ez22 hl => ?_)
        refine lv_goto (tgt := 13) hx hb dX8_scanRun_93 (by decide) ?_
        exact K13 σ τ7 H7 locs7 x2 z16 z21 y5 z22 ls hR hF hP hS (by omega) (lv_sub hl [4, 5, 6, 2, 1, 7, 0] rfl) (by omega)
set_option maxHeartbeats 4000000 in
theorem B_X8_scanRun_96 (p : Program) (l : Launch) (e : Env) (s : State) (m : MethodId) (args : Array Value) (below : List Frame) (meth : Method) (c : Code) (D : va_G) (cA : Nat → ClassId) (ad : Nat → Nat) (σ0 : Nat → Nat → Int32) (a1 : Int32) (n : Nat) (C : Cy p s m args meth c cX8_scanRun 9 wsX8_scanRun RX8 D cA ad (some .int)) (ha1 : 0 ≤ a1.toInt ∧ a1.toInt ≤ 899) (K13 : J_X8_scanRun_13 p l e s m args below meth c D cA ad σ0 a1 n) (K96 : J_X8_scanRun_96 p l e s m args below meth c D cA ad σ0 a1 n) (K116 : J_X8_scanRun_116 p l e s m args below meth c D cA ad σ0 a1 n) : J_X8_scanRun_96 p l e s m args below meth c D cA ad σ0 a1 (n + 1) := by
  obtain ⟨hx, hb, hml, hown, hts, hK, hk, hr, hI, hN⟩ := C
  intro σ τ H locs x2 x3 x4 y5 x7 ls hR hF hP hS hc0 hl hm
  refine r_bipush hx hb dX8_scanRun_96 (by decide) (fun z1 ez1 => ?_)
  refine lv_istore (lv' := [(8, .int z1), (0, .ref (ad 1)), (1, .int a1), (2, .int x2), (3, .int x3), (4, .int x4), (5, .long y5), (7, .int x7)]) hx hb dX8_scanRun_98 hl (by decide) rfl (fun ls hl => ?_)
  refine lv_iload_n hx hb dX8_scanRun_100 rfl (lv_at hl 3 rfl) ?_
  refine r_if_ne (tgt := 116) hx hb dX8_scanRun_101 (by decide) (fun c2 => ?_) (fun c2 => ?_)
  · exact K116 σ τ H locs x2 x3 x4 y5 x7 z1 ls hR hF hP hS (by omega) (by omega) (lv_sub hl [1, 2, 3, 4, 5, 6, 7, 0] rfl) (by omega)
  · refine lv_iload_n hx hb dX8_scanRun_104 rfl (lv_at hl 4 rfl) ?_
    refine r_iconst hx hb dX8_scanRun_105 (by decide) (fun z3 ez3 => ?_)
    refine r_icmp_gt (tgt := 116) hx hb dX8_scanRun_106 (by decide) (fun c4 => ?_) (fun c4 => ?_)
    · exact K116 σ τ H locs x2 x3 x4 y5 x7 z1 ls hR hF hP hS (by omega) (by omega) (lv_sub hl [1, 2, 3, 4, 5, 6, 7, 0] rfl) (by omega)
    · refine r_bipush hx hb dX8_scanRun_109 (by decide) (fun z5 ez5 => ?_)
      refine lv_istore (lv' := [(8, .int z5), (0, .ref (ad 1)), (1, .int a1), (2, .int x2), (3, .int x3), (4, .int x4), (5, .long y5), (7, .int x7)]) hx hb dX8_scanRun_111 hl (by decide) rfl (fun ls hl => ?_)
      refine lv_goto (tgt := 135) hx hb dX8_scanRun_113 (by decide) ?_
      refine lv_aload_n hx hb dX8_scanRun_135 rfl (lv_at hl 1 rfl) ?_
      refine lv_iload hx hb dX8_scanRun_136 (lv_at hl 0 rfl) ?_
      refine lv_iload_n hx hb dX8_scanRun_138 rfl (lv_at hl 2 rfl) ?_
      refine lv_iload hx hb dX8_scanRun_139 (lv_at hl 5 rfl) ?_
      refine lv_lload hx hb dX8_scanRun_141 (lv_at hl 6 rfl) ?_
      refine r_cVv (k := 1) (As := [.int z5, .int a1, .int x4, .long y5]) (rest := []) ⟨hx, hb, hml, hown, hts⟩ hK hP hN hS (c_X8_note l D cA ad hI σ τ hR z5 a1 x4 y5 (by omega) (by omega)) (cwV 4 hts gX8_scanRun_X8_note rfl rfl rfl (by decide +kernel) ⟨by decide, by decide⟩) (rv_Tape hK hP (by decide) (by decide)) rfl hl.1 rfl (Nat.le_of_ble_eq_true rfl) dX8_scanRun_143 (Nat.zero_le _) (Nat.zero_le _) (fun u6 H6 locs6 hp6 hP hS => ?_)
      obtain ⟨σ6, τ6⟩ := u6
      obtain ⟨hR, f6⟩ : P_X8_note σ z5 a1 x4 y5 σ6 := hp6
      have hP : va_P D vwCl (gw cA ad σ6 τ6) H6 := hP
      have hF := hF.step f6 (by decide)
      refine lv_iload hx hb dX8_scanRun_146 (lv_at hl 7 rfl) ?_
      exact r_iret hx hb hr hK hP hS hk dX8_scanRun_148 (show P_X8_scanRun σ0 a1 x7 σ6 from ⟨hR, hF, by omega⟩)
set_option maxHeartbeats 4000000 in
theorem B_X8_scanRun_116 (p : Program) (l : Launch) (e : Env) (s : State) (m : MethodId) (args : Array Value) (below : List Frame) (meth : Method) (c : Code) (D : va_G) (cA : Nat → ClassId) (ad : Nat → Nat) (σ0 : Nat → Nat → Int32) (a1 : Int32) (n : Nat) (C : Cy p s m args meth c cX8_scanRun 9 wsX8_scanRun RX8 D cA ad (some .int)) (ha1 : 0 ≤ a1.toInt ∧ a1.toInt ≤ 899) (K13 : J_X8_scanRun_13 p l e s m args below meth c D cA ad σ0 a1 n) (K96 : J_X8_scanRun_96 p l e s m args below meth c D cA ad σ0 a1 n) (K116 : J_X8_scanRun_116 p l e s m args below meth c D cA ad σ0 a1 n) : J_X8_scanRun_116 p l e s m args below meth c D cA ad σ0 a1 (n + 1) := by
  obtain ⟨hx, hb, hml, hown, hts, hK, hk, hr, hI, hN⟩ := C
  intro σ τ H locs x2 x3 x4 y5 x7 x8 ls hR hF hP hS hc0 hc1 hl hm
  refine lv_iload_n hx hb dX8_scanRun_116 rfl (lv_at hl 3 rfl) ?_
  refine r_if_ne (tgt := 135) hx hb dX8_scanRun_117 (by decide) (fun c1 => ?_) (fun c1 => ?_)
  · refine lv_aload_n hx hb dX8_scanRun_135 rfl (lv_at hl 0 rfl) ?_
    refine lv_iload hx hb dX8_scanRun_136 (lv_at hl 7 rfl) ?_
    refine lv_iload_n hx hb dX8_scanRun_138 rfl (lv_at hl 1 rfl) ?_
    refine lv_iload hx hb dX8_scanRun_139 (lv_at hl 4 rfl) ?_
    refine lv_lload hx hb dX8_scanRun_141 (lv_at hl 5 rfl) ?_
    refine r_cVv (k := 1) (As := [.int x8, .int a1, .int x4, .long y5]) (rest := []) ⟨hx, hb, hml, hown, hts⟩ hK hP hN hS (c_X8_note l D cA ad hI σ τ hR x8 a1 x4 y5 (by omega) (by omega)) (cwV 4 hts gX8_scanRun_X8_note rfl rfl rfl (by decide +kernel) ⟨by decide, by decide⟩) (rv_Tape hK hP (by decide) (by decide)) rfl hl.1 rfl (Nat.le_of_ble_eq_true rfl) dX8_scanRun_143 (Nat.zero_le _) (Nat.zero_le _) (fun u2 H2 locs2 hp2 hP hS => ?_)
    obtain ⟨σ2, τ2⟩ := u2
    obtain ⟨hR, f2⟩ : P_X8_note σ x8 a1 x4 y5 σ2 := hp2
    have hP : va_P D vwCl (gw cA ad σ2 τ2) H2 := hP
    have hF := hF.step f2 (by decide)
    refine lv_iload hx hb dX8_scanRun_146 (lv_at hl 6 rfl) ?_
    exact r_iret hx hb hr hK hP hS hk dX8_scanRun_148 (show P_X8_scanRun σ0 a1 x7 σ2 from ⟨hR, hF, by omega⟩)
  · refine lv_iload_n hx hb dX8_scanRun_120 rfl (lv_at hl 2 rfl) ?_
    refine r_bipush hx hb dX8_scanRun_121 (by decide) (fun z3 ez3 => ?_)
    refine r_icmp_gt (tgt := 135) hx hb dX8_scanRun_123 (by decide) (fun c4 => ?_) (fun c4 => ?_)
    · refine lv_aload_n hx hb dX8_scanRun_135 rfl (lv_at hl 0 rfl) ?_
      refine lv_iload hx hb dX8_scanRun_136 (lv_at hl 7 rfl) ?_
      refine lv_iload_n hx hb dX8_scanRun_138 rfl (lv_at hl 1 rfl) ?_
      refine lv_iload hx hb dX8_scanRun_139 (lv_at hl 4 rfl) ?_
      refine lv_lload hx hb dX8_scanRun_141 (lv_at hl 5 rfl) ?_
      refine r_cVv (k := 1) (As := [.int x8, .int a1, .int x4, .long y5]) (rest := []) ⟨hx, hb, hml, hown, hts⟩ hK hP hN hS (c_X8_note l D cA ad hI σ τ hR x8 a1 x4 y5 (by omega) (by omega)) (cwV 4 hts gX8_scanRun_X8_note rfl rfl rfl (by decide +kernel) ⟨by decide, by decide⟩) (rv_Tape hK hP (by decide) (by decide)) rfl hl.1 rfl (Nat.le_of_ble_eq_true rfl) dX8_scanRun_143 (Nat.zero_le _) (Nat.zero_le _) (fun u5 H5 locs5 hp5 hP hS => ?_)
      obtain ⟨σ5, τ5⟩ := u5
      obtain ⟨hR, f5⟩ : P_X8_note σ x8 a1 x4 y5 σ5 := hp5
      have hP : va_P D vwCl (gw cA ad σ5 τ5) H5 := hP
      have hF := hF.step f5 (by decide)
      refine lv_iload hx hb dX8_scanRun_146 (lv_at hl 6 rfl) ?_
      exact r_iret hx hb hr hK hP hS hk dX8_scanRun_148 (show P_X8_scanRun σ0 a1 x7 σ5 from ⟨hR, hF, by omega⟩)
    · refine lv_aload_n hx hb dX8_scanRun_126 rfl (lv_at hl 0 rfl) ?_
      refine lv_iload_n hx hb dX8_scanRun_127 rfl (lv_at hl 1 rfl) ?_
      refine lv_iload hx hb dX8_scanRun_128 (lv_at hl 6 rfl) ?_
      refine r_cVi (k := 1) (As := [.int a1, .int x7]) (rest := []) ⟨hx, hb, hml, hown, hts⟩ hK hP hN hS (c_X8_wordToken l D cA ad hI σ τ hR a1 x7 (by omega) (by omega)) (cwV 2 hts gX8_scanRun_X8_wordToken rfl rfl rfl (by decide +kernel) ⟨by decide, by decide⟩) (rv_Tape hK hP (by decide) (by decide)) rfl hl.1 rfl (Nat.le_of_ble_eq_true rfl) dX8_scanRun_130 (Nat.zero_le _) (Nat.zero_le _) (fun r6 u6 H6 locs6 hp6 hP hS => ?_)
      obtain ⟨σ6, τ6⟩ := u6
      obtain ⟨hR, f6, hq6⟩ : P_X8_wordToken σ a1 x7 r6 σ6 := hp6
      have hP : va_P D vwCl (gw cA ad σ6 τ6) H6 := hP
      obtain rfl := Fr.nil f6
      refine lv_istore (lv' := [(8, .int r6), (0, .ref (ad 1)), (1, .int a1), (2, .int x2), (3, .int x3), (4, .int x4), (5, .long y5), (7, .int x7)]) hx hb dX8_scanRun_133 hl (by decide) rfl (fun ls hl => ?_)
      refine lv_aload_n hx hb dX8_scanRun_135 rfl (lv_at hl 1 rfl) ?_
      refine lv_iload hx hb dX8_scanRun_136 (lv_at hl 0 rfl) ?_
      refine lv_iload_n hx hb dX8_scanRun_138 rfl (lv_at hl 2 rfl) ?_
      refine lv_iload hx hb dX8_scanRun_139 (lv_at hl 5 rfl) ?_
      refine lv_lload hx hb dX8_scanRun_141 (lv_at hl 6 rfl) ?_
      refine r_cVv (k := 1) (As := [.int r6, .int a1, .int x4, .long y5]) (rest := []) ⟨hx, hb, hml, hown, hts⟩ hK hP hN hS (c_X8_note l D cA ad hI σ τ6 hR r6 a1 x4 y5 (by omega) (by omega)) (cwV 4 hts gX8_scanRun_X8_note rfl rfl rfl (by decide +kernel) ⟨by decide, by decide⟩) (rv_Tape hK hP (by decide) (by decide)) rfl hl.1 rfl (Nat.le_of_ble_eq_true rfl) dX8_scanRun_143 (Nat.zero_le _) (Nat.zero_le _) (fun u7 H7 locs7 hp7 hP hS => ?_)
      obtain ⟨σ7, τ7⟩ := u7
      obtain ⟨hR, f7⟩ : P_X8_note σ r6 a1 x4 y5 σ7 := hp7
      have hP : va_P D vwCl (gw cA ad σ7 τ7) H7 := hP
      have hF := hF.step f7 (by decide)
      refine lv_iload hx hb dX8_scanRun_146 (lv_at hl 7 rfl) ?_
      exact r_iret hx hb hr hK hP hS hk dX8_scanRun_148 (show P_X8_scanRun σ0 a1 x7 σ7 from ⟨hR, hF, by omega⟩)
theorem A_X8_scanRun (p : Program) (l : Launch) (e : Env) (s : State) (m : MethodId) (args : Array Value) (below : List Frame) (meth : Method) (c : Code) (D : va_G) (cA : Nat → ClassId) (ad : Nat → Nat) (σ0 : Nat → Nat → Int32) (a1 : Int32) (C : Cy p s m args meth c cX8_scanRun 9 wsX8_scanRun RX8 D cA ad (some .int)) (ha1 : 0 ≤ a1.toInt ∧ a1.toInt ≤ 899) : ∀ n : Nat, J_X8_scanRun_13 p l e s m args below meth c D cA ad σ0 a1 n ∧ J_X8_scanRun_96 p l e s m args below meth c D cA ad σ0 a1 n ∧ J_X8_scanRun_116 p l e s m args below meth c D cA ad σ0 a1 n := by
  intro n
  induction n with
  | zero =>
    exact ⟨(by intro σ τ H locs x2 x3 x4 y5 x7 ls hR hF hP hS hc0 hl hm; exfalso; omega), (by intro σ τ H locs x2 x3 x4 y5 x7 ls hR hF hP hS hc0 hl hm; exfalso; omega), (by intro σ τ H locs x2 x3 x4 y5 x7 x8 ls hR hF hP hS hc0 hc1 hl hm; exfalso; omega)⟩
  | succ n ih =>
    exact ⟨B_X8_scanRun_13 p l e s m args below meth c D cA ad σ0 a1 n C ha1 ih.1 ih.2.1 ih.2.2, B_X8_scanRun_96 p l e s m args below meth c D cA ad σ0 a1 n C ha1 ih.1 ih.2.1 ih.2.2, B_X8_scanRun_116 p l e s m args below meth c D cA ad σ0 a1 n C ha1 ih.1 ih.2.1 ih.2.2⟩
set_option maxHeartbeats 4000000 in
theorem c_X8_scanRun (l : Launch) (D : va_G) (cA : Nat → ClassId) (ad : Nat → Nat) (hI : Inj ad) (σ0 : Nat → Nat → Int32) (τ0 : Nat → Nat → Int64) (hR : Rg σ0) (a1 : Int32) (ha1 : 0 ≤ a1.toInt ∧ a1.toInt ≤ 899) : Met l yX8_scanRun wsX8_scanRun ({ frames := 7, cells := 0, slots := 0, locals := 158 } : Room) (WQc D cA ad [.ref (ad 1), .int a1] σ0 τ0) (va_Qi (fun (r : Int32) (u : SS) => P_X8_scanRun σ0 a1 r u.1) (WB D cA ad) (AA ad)) 0 0 (AA ad) := by
  refine Met.ofW (cc := cX8_scanRun) (maxL := 9) (ret := (some .int)) (by decide) rfl ?_
  intro p e s m args below meth c s₁ B hml hv
  obtain ⟨rfl, hP, hK, hN⟩ := hv
  have C : Cy p s m _ meth c cX8_scanRun 9 wsX8_scanRun RX8 D cA ad (some .int) := ⟨B.exec, B.bytes, hml, findClass_of_methodNamed B.named, atoms_spec (ws := wsX8_scanRun) B.pre, hK, B.notSynchronized, B.returns, hI, hN⟩
  have hl := lv_entry ([.ref (ad 1), .int a1]) (n := 9) (Nat.le_of_ble_eq_true rfl)
  rw [lg_entry_eq]
  generalize (lg_sl ([.ref (ad 1), .int a1]) ++ List.replicate (9 - (lg_sl ([.ref (ad 1), .int a1])).length) Slot.unset).toArray = ls at hl ⊢
  have hl : lv_has ls 9 [(0, .ref (ad 1)), (1, .int a1)] := hl
  have hS : va_S (AA ad) s.heap s.heap [] := va_S.rf
  have hF : Fr L_X8_scanRun σ0 σ0 := Fr.rf
  have hA := A_X8_scanRun p l e s m _ below meth c D cA ad σ0 a1 C ha1 7536
  have K13 := hA.1
  have K96 := hA.2.1
  have K116 := hA.2.2
  clear hA
  obtain ⟨hx, hb, _, hown, hts, _, hk, hr, _, _⟩ := C
  refine r_iconst hx hb dX8_scanRun_0 (by decide) (fun z1 ez1 => ?_)
  refine lv_istore_n (lv' := [(2, .int z1), (0, .ref (ad 1)), (1, .int a1)]) hx hb dX8_scanRun_1 rfl hl (by decide) rfl (fun ls hl => ?_)
  refine r_iconst hx hb dX8_scanRun_2 (by decide) (fun z2 ez2 => ?_)
  refine lv_istore_n (lv' := [(3, .int z2), (2, .int z1), (0, .ref (ad 1)), (1, .int a1)]) hx hb dX8_scanRun_3 rfl hl (by decide) rfl (fun ls hl => ?_)
  refine r_iconst hx hb dX8_scanRun_4 (by decide) (fun z3 ez3 => ?_)
  refine lv_istore (lv' := [(4, .int z3), (3, .int z2), (2, .int z1), (0, .ref (ad 1)), (1, .int a1)]) hx hb dX8_scanRun_5 hl (by decide) rfl (fun ls hl => ?_)
  refine lv_lconst (v := 0) hx hb dX8_scanRun_7 (by decide) ?_
  refine lv_lstore (lv' := [(5, .long (0)), (4, .int z3), (3, .int z2), (2, .int z1), (0, .ref (ad 1)), (1, .int a1)]) hx hb dX8_scanRun_8 hl (by decide) rfl (fun ls hl => ?_)
  refine lv_iload_n hx hb dX8_scanRun_10 rfl (lv_at hl 5 rfl) ?_
  refine lv_istore (lv' := [(7, .int a1), (5, .long (0)), (4, .int z3), (3, .int z2), (2, .int z1), (0, .ref (ad 1)), (1, .int a1)]) hx hb dX8_scanRun_11 hl (by decide) rfl (fun ls hl => ?_)
  exact K13 σ0 τ0 s.heap [] z1 z2 z3 (0) a1 ls hR hF hP hS (by omega) (lv_sub hl [5, 6, 4, 3, 2, 1, 0] rfl) (by omega)
abbrev L_X8_signToken : List Rc := []
def P_X8_signToken (σ0 : Nat → Nat → Int32) (a0 : Int32) (r : Int32) (σ : Nat → Nat → Int32) : Prop := Rg σ ∧ Fr L_X8_signToken σ0 σ ∧ (40 ≤ r.toInt ∧ r.toInt ≤ 49)
set_option maxHeartbeats 4000000 in
theorem c_X8_signToken (l : Launch) (D : va_G) (cA : Nat → ClassId) (ad : Nat → Nat) (hI : Inj ad) (σ0 : Nat → Nat → Int32) (τ0 : Nat → Nat → Int64) (hR : Rg σ0) (a0 : Int32) (ha0 : 0 ≤ a0.toInt ∧ a0.toInt ≤ 255) : Met l yX8_signToken wsX8_signToken ({ frames := 0, cells := 0, slots := 0, locals := 0 } : Room) (WQc D cA ad [.int a0] σ0 τ0) (va_Qi (fun (r : Int32) (u : SS) => P_X8_signToken σ0 a0 r u.1) (WB D cA ad) (AA ad)) 0 0 (AA ad) := by
  refine Met.ofW (cc := cX8_signToken) (maxL := 1) (ret := (some .int)) (by decide) rfl ?_
  intro p e s m args below meth c s₁ B hml hv
  obtain ⟨rfl, hP, hK, hN⟩ := hv
  have C : Cy p s m _ meth c cX8_signToken 1 wsX8_signToken RX8 D cA ad (some .int) := ⟨B.exec, B.bytes, hml, findClass_of_methodNamed B.named, atoms_spec (ws := wsX8_signToken) B.pre, hK, B.notSynchronized, B.returns, hI, hN⟩
  have hl := lv_entry ([.int a0]) (n := 1) (Nat.le_of_ble_eq_true rfl)
  rw [lg_entry_eq]
  generalize (lg_sl ([.int a0]) ++ List.replicate (1 - (lg_sl ([.int a0])).length) Slot.unset).toArray = ls at hl ⊢
  have hl : lv_has ls 1 [(0, .int a0)] := hl
  have hS : va_S (AA ad) s.heap s.heap [] := va_S.rf
  have hF : Fr L_X8_signToken σ0 σ0 := Fr.rf
  obtain ⟨hx, hb, _, hown, hts, _, hk, hr, _, _⟩ := C
  refine lv_iload_n hx hb dX8_signToken_0 rfl (lv_at hl 0 rfl) ?_
  by_cases c1 : a0.toInt = 40
  · refine lv_lookup (off := 71) (tgt := 72) hx hb dX8_signToken_1 (by decide) (by rw [c1]; rfl) (by decide) ?_
    refine r_bipush hx hb dX8_signToken_72 (by decide) (fun z2 ez2 => ?_)
    exact r_iret hx hb hr hK hP hS hk dX8_signToken_74 (show P_X8_signToken σ0 a0 z2 σ0 from ⟨hR, hF, by omega⟩)
  by_cases c3 : a0.toInt = 41
  · refine lv_lookup (off := 74) (tgt := 75) hx hb dX8_signToken_1 (by decide) (by rw [c3]; rfl) (by decide) ?_
    refine r_bipush hx hb dX8_signToken_75 (by decide) (fun z4 ez4 => ?_)
    exact r_iret hx hb hr hK hP hS hk dX8_signToken_77 (show P_X8_signToken σ0 a0 z4 σ0 from ⟨hR, hF, by omega⟩)
  by_cases c5 : a0.toInt = 59
  · refine lv_lookup (off := 59) (tgt := 60) hx hb dX8_signToken_1 (by decide) (by rw [c5]; rfl) (by decide) ?_
    refine r_bipush hx hb dX8_signToken_60 (by decide) (fun z6 ez6 => ?_)
    exact r_iret hx hb hr hK hP hS hk dX8_signToken_62 (show P_X8_signToken σ0 a0 z6 σ0 from ⟨hR, hF, by omega⟩)
  by_cases c7 : a0.toInt = 60
  · refine lv_lookup (off := 62) (tgt := 63) hx hb dX8_signToken_1 (by decide) (by rw [c7]; rfl) (by decide) ?_
    refine r_bipush hx hb dX8_signToken_63 (by decide) (fun z8 ez8 => ?_)
    exact r_iret hx hb hr hK hP hS hk dX8_signToken_65 (show P_X8_signToken σ0 a0 z8 σ0 from ⟨hR, hF, by omega⟩)
  by_cases c9 : a0.toInt = 61
  · refine lv_lookup (off := 65) (tgt := 66) hx hb dX8_signToken_1 (by decide) (by rw [c9]; rfl) (by decide) ?_
    refine r_bipush hx hb dX8_signToken_66 (by decide) (fun z10 ez10 => ?_)
    exact r_iret hx hb hr hK hP hS hk dX8_signToken_68 (show P_X8_signToken σ0 a0 z10 σ0 from ⟨hR, hF, by omega⟩)
  by_cases c11 : a0.toInt = 62
  · refine lv_lookup (off := 68) (tgt := 69) hx hb dX8_signToken_1 (by decide) (by rw [c11]; rfl) (by decide) ?_
    refine r_bipush hx hb dX8_signToken_69 (by decide) (fun z12 ez12 => ?_)
    exact r_iret hx hb hr hK hP hS hk dX8_signToken_71 (show P_X8_signToken σ0 a0 z12 σ0 from ⟨hR, hF, by omega⟩)
  refine lv_lookup (off := 77) (tgt := 78) hx hb dX8_signToken_1 (by decide) (by simp [Op.lookupswitch.offset, c1, Ne.symm c1, c3, Ne.symm c3, c5, Ne.symm c5, c7, Ne.symm c7, c9, Ne.symm c9, c11, Ne.symm c11]) (by decide) ?_
  refine r_bipush hx hb dX8_signToken_78 (by decide) (fun z13 ez13 => ?_)
  exact r_iret hx hb hr hK hP hS hk dX8_signToken_80 (show P_X8_signToken σ0 a0 z13 σ0 from ⟨hR, hF, by omega⟩)
theorem in_X8_scan_8 : ∀ w ∈ u_ws RX8 TX8 15, w ∈ wsX8_scan := by decide +kernel
theorem lk_X8_scan_29 : Cond.fieldLink RX8 29 "CuckooShares$Tape" "size" "I" ∈ wsX8_scan := by decide +kernel
theorem lk_X8_scan_33 : Cond.fieldLink RX8 33 "CuckooShares$Tape" "fault" "I" ∈ wsX8_scan := by decide +kernel
theorem lk_X8_scan_36 : Cond.fieldLink RX8 36 "CuckooShares$Tape" "faultPlace" "I" ∈ wsX8_scan := by decide +kernel
theorem lk_X8_scan_39 : Cond.fieldLink RX8 39 "CuckooShares$Tape" "tokensRead" "I" ∈ wsX8_scan := by decide +kernel
theorem lk_X8_scan_63 : Cond.methodLink RX8 63 Lib.Math.min.name ∈ wsX8_scan := by decide +kernel
theorem lk_X8_scan_69 : Cond.fieldLink RX8 69 "CuckooShares$Tape" "tokensTaken" "I" ∈ wsX8_scan := by decide +kernel
theorem mi_X8_scan : Cond.initialized "java/lang/Math" ∈ wsX8_scan := by decide +kernel
theorem ms_X8_scan_min : Cond.static Lib.Math.min.name ∈ wsX8_scan := by decide +kernel
theorem mc_X8_scan_min : Cond.code Lib.Math.min.name Lib.Math.min.code 2 (some .int) ∈ wsX8_scan := by decide +kernel
abbrev L_X8_scan : List Rc := [(1, 1, 13, 14), (36, 36, 0, 940), (37, 37, 0, 940), (38, 38, 0, 940), (1, 1, 6, 10)]
def P_X8_scan (σ0 : Nat → Nat → Int32) (a1 : Int32) (σ : Nat → Nat → Int32) : Prop := Rg σ ∧ Fr L_X8_scan σ0 σ
def J_X8_scan_19 (p : Program) (l : Launch) (e : Env) (s : State) (m : MethodId) (args : Array Value) (below : List Frame) (meth : Method) (c : Code) (D : va_G) (cA : Nat → ClassId) (ad : Nat → Nat) (σ0 : Nat → Nat → Int32) (a1 : Int32) (n : Nat) : Prop := ∀ (σ : Nat → Nat → Int32) (τ : Nat → Nat → Int64) (H : Heap) (locs : List Loc) (x2 : Int32) (x3 : Int32) (ls : Array Slot), Rg σ → Fr L_X8_scan σ0 σ → va_P D vwCl (gw cA ad σ τ) H → va_S (AA ad) s.heap H locs → (0 ≤ x2.toInt ∧ x2.toInt ≤ 940) → (0 ≤ x3.toInt ∧ x3.toInt ≤ 940) → lv_has ls 5 [(0, .ref (ad 1)), (1, .int a1), (2, .int x2), (3, .int x3)] → 3 * (940 - x3.toInt) + 2 < (n : Int) → W p l e ({ frames := 8, cells := 0, slots := 0, locals := 186 } : Room) s m args below meth c H locs 0 0 (MQ below (va_Qv (fun u : SS => P_X8_scan σ0 a1 u.1) (WB D cA ad) (AA ad)) args s 0 0 (AA ad)) (F0 m 19 ls [])
def J_X8_scan_92 (p : Program) (l : Launch) (e : Env) (s : State) (m : MethodId) (args : Array Value) (below : List Frame) (meth : Method) (c : Code) (D : va_G) (cA : Nat → ClassId) (ad : Nat → Nat) (σ0 : Nat → Nat → Int32) (a1 : Int32) (n : Nat) : Prop := ∀ (σ : Nat → Nat → Int32) (τ : Nat → Nat → Int64) (H : Heap) (locs : List Loc) (x2 : Int32) (x3 : Int32) (ls : Array Slot), Rg σ → Fr L_X8_scan σ0 σ → va_P D vwCl (gw cA ad σ τ) H → va_S (AA ad) s.heap H locs → (0 ≤ x2.toInt ∧ x2.toInt ≤ 940) → (0 ≤ x3.toInt ∧ x3.toInt ≤ 940) → lv_has ls 5 [(0, .ref (ad 1)), (1, .int a1), (2, .int x2), (3, .int x3)] → 1 < (n : Int) → W p l e ({ frames := 8, cells := 0, slots := 0, locals := 186 } : Room) s m args below meth c H locs 0 0 (MQ below (va_Qv (fun u : SS => P_X8_scan σ0 a1 u.1) (WB D cA ad) (AA ad)) args s 0 0 (AA ad)) (F0 m 92 ls [])
set_option maxHeartbeats 4000000 in
theorem B_X8_scan_19 (p : Program) (l : Launch) (e : Env) (s : State) (m : MethodId) (args : Array Value) (below : List Frame) (meth : Method) (c : Code) (D : va_G) (cA : Nat → ClassId) (ad : Nat → Nat) (σ0 : Nat → Nat → Int32) (a1 : Int32) (n : Nat) (C : Cy p s m args meth c cX8_scan 5 wsX8_scan RX8 D cA ad none) (ha1 : 200 ≤ a1.toInt ∧ a1.toInt ≤ 900) (K19 : J_X8_scan_19 p l e s m args below meth c D cA ad σ0 a1 n) (K92 : J_X8_scan_92 p l e s m args below meth c D cA ad σ0 a1 n) : J_X8_scan_19 p l e s m args below meth c D cA ad σ0 a1 (n + 1) := by
  obtain ⟨hx, hb, hml, hown, hts, hK, hk, hr, hI, hN⟩ := C
  intro σ τ H locs x2 x3 ls hR hF hP hS hc0 hc1 hl hm
  refine lv_iload_n hx hb dX8_scan_19 rfl (lv_at hl 3 rfl) ?_
  refine r_sipush hx hb dX8_scan_20 (by decide) (fun z1 ez1 => ?_)
  refine r_icmp_ge (tgt := 92) hx hb dX8_scan_23 (by decide) (fun c2 => ?_) (fun c2 => ?_)
  · exact K92 σ τ H locs x2 x3 ls hR hF hP hS (by omega) (by omega) (lv_sub hl [0, 1, 2, 3] rfl) (by omega)
  · refine lv_iload_n hx hb dX8_scan_26 rfl (lv_at hl 2 rfl) ?_
    refine lv_aload_n hx hb dX8_scan_27 rfl (lv_at hl 0 rfl) ?_
    refine fg_8_5 (k := 1) hx hb hts in_X8_scan_8 hown hK hP (by decide) (by decide) (hts _ lk_X8_scan_29) dX8_scan_28 ?_
    have hr3 := rg_8_5 hR (k := 1) (by decide) (by decide)
    refine r_icmp_ge (tgt := 92) hx hb dX8_scan_31 (by decide) (fun c4 => ?_) (fun c4 => ?_)
    · exact K92 σ τ H locs x2 x3 ls hR hF hP hS (by omega) (by omega) (lv_sub hl [0, 1, 2, 3] rfl) (by omega)
    · refine lv_iload_n hx hb dX8_scan_34 rfl (lv_at hl 2 rfl) ?_
      refine lv_iload_n hx hb dX8_scan_35 rfl (lv_at hl 1 rfl) ?_
      refine r_icmp_ge (tgt := 92) hx hb dX8_scan_36 (by decide) (fun c5 => ?_) (fun c5 => ?_)
      · exact K92 σ τ H locs x2 x3 ls hR hF hP hS (by omega) (by omega) (lv_sub hl [0, 1, 2, 3] rfl) (by omega)
      · refine lv_aload_n hx hb dX8_scan_39 rfl (lv_at hl 0 rfl) ?_
        refine lv_iload_n hx hb dX8_scan_40 rfl (lv_at hl 2 rfl) ?_
        refine r_cVi (k := 1) (As := [.int x2]) (rest := []) ⟨hx, hb, hml, hown, hts⟩ hK hP hN hS (c_X8_byteAt l D cA ad hI σ τ hR x2 (by omega)) (cwV 1 hts gX8_scan_X8_byteAt rfl rfl rfl (by decide +kernel) ⟨by decide, by decide⟩) (rv_Tape hK hP (by decide) (by decide)) rfl hl.1 rfl (Nat.le_of_ble_eq_true rfl) dX8_scan_41 (Nat.zero_le _) (Nat.zero_le _) (fun r6 u6 H6 locs6 hp6 hP hS => ?_)
        obtain ⟨σ6, τ6⟩ := u6
        obtain ⟨hR, f6, hq6⟩ : P_X8_byteAt σ x2 r6 σ6 := hp6
        have hP : va_P D vwCl (gw cA ad σ6 τ6) H6 := hP
        obtain rfl := Fr.nil f6
        refine lv_istore (lv' := [(4, .int r6), (0, .ref (ad 1)), (1, .int a1), (2, .int x2), (3, .int x3)]) hx hb dX8_scan_44 hl (by decide) rfl (fun ls hl => ?_)
        refine lv_iload hx hb dX8_scan_46 (lv_at hl 0 rfl) ?_
        refine r_cSi (As := [.int r6]) (rest := []) ⟨hx, hb, hml, hown, hts⟩ hK hP hN hS (c_X8_isInRun l D cA ad hI σ τ6 hR r6 (by omega)) (va_cwS 1 hts gX8_scan_X8_isInRun rfl rfl rfl (by decide +kernel) ⟨by decide, by decide⟩) rfl hl.1 rfl (Nat.le_of_ble_eq_true rfl) dX8_scan_48 (Nat.zero_le _) (Nat.zero_le _) (fun r7 u7 H7 locs7 hp7 hP hS => ?_)
        obtain ⟨σ7, τ7⟩ := u7
        obtain ⟨hR, f7, hq7⟩ : P_X8_isInRun σ r6 r7 σ7 := hp7
        have hP : va_P D vwCl (gw cA ad σ7 τ7) H7 := hP
        obtain rfl := Fr.nil f7
        refine r_if_eq (tgt := 63) hx hb dX8_scan_51 (by decide) (fun c8 => ?_) (fun c8 => ?_)
        · refine lv_iload hx hb dX8_scan_63 (lv_at hl 0 rfl) ?_
          refine r_cSi (As := [.int r6]) (rest := []) ⟨hx, hb, hml, hown, hts⟩ hK hP hN hS (c_X8_isBlank l D cA ad hI σ τ7 hR r6 (by omega)) (va_cwS 1 hts gX8_scan_X8_isBlank rfl rfl rfl (by decide +kernel) ⟨by decide, by decide⟩) rfl hl.1 rfl (Nat.le_of_ble_eq_true rfl) dX8_scan_65 (Nat.zero_le _) (Nat.zero_le _) (fun r9 u9 H9 locs9 hp9 hP hS => ?_)
          obtain ⟨σ9, τ9⟩ := u9
          obtain ⟨hR, f9, hq9⟩ : P_X8_isBlank σ r6 r9 σ9 := hp9
          have hP : va_P D vwCl (gw cA ad σ9 τ9) H9 := hP
          obtain rfl := Fr.nil f9
          refine r_if_ne (tgt := 83) hx hb dX8_scan_68 (by decide) (fun c10 => ?_) (fun c10 => ?_)
          · refine r_iinc (k := 3) (lv1 := fun z11 => [(2, .int z11), (4, .int r6), (0, .ref (ad 1)), (1, .int a1), (3, .int x3)]) hx hb dX8_scan_83 hl rfl (by decide) (fun _ => rfl) (by decide) (by omega) (fun z11 ls ez11 hl => ?_)
            refine r_iinc (k := 4) (lv1 := fun z12 => [(3, .int z12), (2, .int z11), (4, .int r6), (0, .ref (ad 1)), (1, .int a1)]) hx hb dX8_scan_86 hl rfl (by decide) (fun _ => rfl) (by decide) (by omega) (fun z12 ls ez12 hl => ?_)
            refine lv_goto (tgt := 19) hx hb dX8_scan_89 (by decide) ?_
            exact K19 σ τ9 H9 locs9 z11 z12 ls hR hF hP hS (by omega) (by omega) (lv_sub hl [3, 4, 1, 0] rfl) (by omega)
          · refine lv_aload_n hx hb dX8_scan_71 rfl (lv_at hl 1 rfl) ?_
            refine lv_iload hx hb dX8_scan_72 (lv_at hl 0 rfl) ?_
            refine r_cSi (As := [.int r6]) (rest := [.ref (ad 1)]) ⟨hx, hb, hml, hown, hts⟩ hK hP hN hS (c_X8_signToken l D cA ad hI σ τ9 hR r6 (by omega)) (va_cwS 1 hts gX8_scan_X8_signToken rfl rfl rfl (by decide +kernel) ⟨by decide, by decide⟩) rfl hl.1 rfl (Nat.le_of_ble_eq_true rfl) dX8_scan_74 (Nat.zero_le _) (Nat.zero_le _) (fun r13 u13 H13 locs13 hp13 hP hS => ?_)
            obtain ⟨σ13, τ13⟩ := u13
            obtain ⟨hR, f13, hq13⟩ : P_X8_signToken σ r6 r13 σ13 := hp13
            have hP : va_P D vwCl (gw cA ad σ13 τ13) H13 := hP
            obtain rfl := Fr.nil f13
            refine lv_iload_n hx hb dX8_scan_77 rfl (lv_at hl 3 rfl) ?_
            refine r_iconst hx hb dX8_scan_78 (by decide) (fun z14 ez14 => ?_)
            refine lv_lconst (v := 0) hx hb dX8_scan_79 (by decide) ?_
            refine r_cVv (k := 1) (As := [.int r13, .int x2, .int z14, .long (0)]) (rest := []) ⟨hx, hb, hml, hown, hts⟩ hK hP hN hS (c_X8_note l D cA ad hI σ τ13 hR r13 x2 z14 (0) (by omega) (by omega)) (cwV 4 hts gX8_scan_X8_note rfl rfl rfl (by decide +kernel) ⟨by decide, by decide⟩) (rv_Tape hK hP (by decide) (by decide)) rfl hl.1 rfl (Nat.le_of_ble_eq_true rfl) dX8_scan_80 (Nat.zero_le _) (Nat.zero_le _) (fun u15 H15 locs15 hp15 hP hS => ?_)
            obtain ⟨σ15, τ15⟩ := u15
            obtain ⟨hR, f15⟩ : P_X8_note σ r13 x2 z14 (0) σ15 := hp15
            have hP : va_P D vwCl (gw cA ad σ15 τ15) H15 := hP
            have hF := hF.step f15 (by decide)
            have t16 : (σ15 1 5).toInt = (σ 1 5).toInt := congrArg Int32.toInt (f15.at 1 5 (by decide))
            refine r_iinc (k := 3) (lv1 := fun z17 => [(2, .int z17), (4, .int r6), (0, .ref (ad 1)), (1, .int a1), (3, .int x3)]) hx hb dX8_scan_83 hl rfl (by decide) (fun _ => rfl) (by decide) (by omega) (fun z17 ls ez17 hl => ?_)
            refine r_iinc (k := 4) (lv1 := fun z18 => [(3, .int z18), (2, .int z17), (4, .int r6), (0, .ref (ad 1)), (1, .int a1)]) hx hb dX8_scan_86 hl rfl (by decide) (fun _ => rfl) (by decide) (by omega) (fun z18 ls ez18 hl => ?_)
            refine lv_goto (tgt := 19) hx hb dX8_scan_89 (by decide) ?_
            exact K19 σ15 τ15 H15 locs15 z17 z18 ls hR hF hP hS (by omega) (by omega) (lv_sub hl [3, 4, 1, 0] rfl) (by omega)
        · refine lv_aload_n hx hb dX8_scan_54 rfl (lv_at hl 1 rfl) ?_
          refine lv_iload_n hx hb dX8_scan_55 rfl (lv_at hl 3 rfl) ?_
          refine r_cVi (k := 1) (As := [.int x2]) (rest := []) ⟨hx, hb, hml, hown, hts⟩ hK hP hN hS (c_X8_scanRun l D cA ad hI σ τ7 hR x2 (by omega)) (cwV 1 hts gX8_scan_X8_scanRun rfl rfl rfl (by decide +kernel) ⟨by decide, by decide⟩) (rv_Tape hK hP (by decide) (by decide)) rfl hl.1 rfl (Nat.le_of_ble_eq_true rfl) dX8_scan_56 (Nat.zero_le _) (Nat.zero_le _) (fun r19 u19 H19 locs19 hp19 hP hS => ?_)
          obtain ⟨σ19, τ19⟩ := u19
          obtain ⟨hR, f19, hq19⟩ : P_X8_scanRun σ x2 r19 σ19 := hp19
          have hP : va_P D vwCl (gw cA ad σ19 τ19) H19 := hP
          have hF := hF.step f19 (by decide)
          have t20 : (σ19 1 5).toInt = (σ 1 5).toInt := congrArg Int32.toInt (f19.at 1 5 (by decide))
          refine lv_istore_n (lv' := [(2, .int r19), (4, .int r6), (0, .ref (ad 1)), (1, .int a1), (3, .int x3)]) hx hb dX8_scan_59 rfl hl (by decide) rfl (fun ls hl => ?_)
          refine lv_goto (tgt := 86) hx hb dX8_scan_60 (by decide) ?_
          refine r_iinc (k := 4) (lv1 := fun z21 => [(3, .int z21), (2, .int r19), (4, .int r6), (0, .ref (ad 1)), (1, .int a1)]) hx hb dX8_scan_86 hl rfl (by decide) (fun _ => rfl) (by decide) (by omega) (fun z21 ls ez21 hl => ?_)
          refine lv_goto (tgt := 19) hx hb dX8_scan_89 (by decide) ?_
          exact K19 σ19 τ19 H19 locs19 r19 z21 ls hR hF hP hS (by omega) (by omega) (lv_sub hl [3, 4, 1, 0] rfl) (by omega)
set_option maxHeartbeats 4000000 in
theorem B_X8_scan_92 (p : Program) (l : Launch) (e : Env) (s : State) (m : MethodId) (args : Array Value) (below : List Frame) (meth : Method) (c : Code) (D : va_G) (cA : Nat → ClassId) (ad : Nat → Nat) (σ0 : Nat → Nat → Int32) (a1 : Int32) (n : Nat) (C : Cy p s m args meth c cX8_scan 5 wsX8_scan RX8 D cA ad none) (ha1 : 200 ≤ a1.toInt ∧ a1.toInt ≤ 900) (K19 : J_X8_scan_19 p l e s m args below meth c D cA ad σ0 a1 n) (K92 : J_X8_scan_92 p l e s m args below meth c D cA ad σ0 a1 n) : J_X8_scan_92 p l e s m args below meth c D cA ad σ0 a1 (n + 1) := by
  obtain ⟨hx, hb, hml, hown, hts, hK, hk, hr, hI, hN⟩ := C
  intro σ τ H locs x2 x3 ls hR hF hP hS hc0 hc1 hl hm
  refine lv_aload_n hx hb dX8_scan_92 rfl (lv_at hl 0 rfl) ?_
  refine lv_aload_n hx hb dX8_scan_93 rfl (lv_at hl 0 rfl) ?_
  refine fg_8_5 (k := 1) hx hb hts in_X8_scan_8 hown hK hP (by decide) (by decide) (hts _ lk_X8_scan_29) dX8_scan_94 ?_
  have hr1 := rg_8_5 hR (k := 1) (by decide) (by decide)
  refine lv_iload_n hx hb dX8_scan_97 rfl (lv_at hl 1 rfl) ?_
  refine r_icmp_le (tgt := 106) hx hb dX8_scan_98 (by decide) (fun c2 => ?_) (fun c2 => ?_)
  · refine r_bipush hx hb dX8_scan_106 (by decide) (fun z3 ez3 => ?_)
    refine lv_aload_n hx hb dX8_scan_108 rfl (lv_at hl 0 rfl) ?_
    refine fg_8_5 (k := 1) hx hb hts in_X8_scan_8 hown hK hP (by decide) (by decide) (hts _ lk_X8_scan_29) dX8_scan_109 ?_
    refine lv_iload_n hx hb dX8_scan_112 rfl (lv_at hl 1 rfl) ?_
    refine r_mmin hx hb (by rw [hml]; exact hl.1.symm) hown (hts _ lk_X8_scan_63) (hts _ ms_X8_scan_min) (hts _ mi_X8_scan) (hts _ mc_X8_scan_min) (by decide) (Nat.le_of_ble_eq_true rfl) (Nat.zero_le _) (Nat.zero_le _) dX8_scan_113 (fun z5 ez5 => ?_)
    refine r_iconst hx hb dX8_scan_116 (by decide) (fun z6 ez6 => ?_)
    refine lv_lconst (v := 0) hx hb dX8_scan_117 (by decide) ?_
    refine r_cVv (k := 1) (As := [.int z3, .int z5, .int z6, .long (0)]) (rest := []) ⟨hx, hb, hml, hown, hts⟩ hK hP hN hS (c_X8_note l D cA ad hI σ τ hR z3 z5 z6 (0) (by omega) (by omega)) (cwV 4 hts gX8_scan_X8_note rfl rfl rfl (by decide +kernel) ⟨by decide, by decide⟩) (rv_Tape hK hP (by decide) (by decide)) rfl hl.1 rfl (Nat.le_of_ble_eq_true rfl) dX8_scan_118 (Nat.zero_le _) (Nat.zero_le _) (fun u7 H7 locs7 hp7 hP hS => ?_)
    obtain ⟨σ7, τ7⟩ := u7
    obtain ⟨hR, f7⟩ : P_X8_note σ z3 z5 z6 (0) σ7 := hp7
    have hP : va_P D vwCl (gw cA ad σ7 τ7) H7 := hP
    have hF := hF.step f7 (by decide)
    have t8 : (σ7 1 5).toInt = (σ 1 5).toInt := congrArg Int32.toInt (f7.at 1 5 (by decide))
    refine lv_aload_n hx hb dX8_scan_121 rfl (lv_at hl 0 rfl) ?_
    refine r_iconst hx hb dX8_scan_122 (by decide) (fun z9 ez9 => ?_)
    refine fp_8_7 (k := 1) hx hb hts in_X8_scan_8 hown hK hP (by decide) (by decide) (hts _ lk_X8_scan_69) hI hR hS (by omega) dX8_scan_123 (fun σ10 H10 locs10 u10 v10 hR hP hS => ?_)
    have hF := hF.puts u10 4 rfl (by decide) (by decide) (by decide) (by decide)
    have t11 : (σ10 1 5).toInt = (σ7 1 5).toInt := congrArg Int32.toInt (u10 1 5 (by omega))
    refine lv_aload_n hx hb dX8_scan_126 rfl (lv_at hl 0 rfl) ?_
    refine r_cVv (k := 1) (As := []) (rest := []) ⟨hx, hb, hml, hown, hts⟩ hK hP hN hS (c_X8_next l D cA ad hI σ10 τ7 hR) (cwV 0 hts gX8_scan_X8_next rfl rfl rfl (by decide +kernel) ⟨by decide, by decide⟩) (rv_Tape hK hP (by decide) (by decide)) rfl hl.1 rfl (Nat.le_of_ble_eq_true rfl) dX8_scan_127 (Nat.zero_le _) (Nat.zero_le _) (fun u12 H12 locs12 hp12 hP hS => ?_)
    obtain ⟨σ12, τ12⟩ := u12
    obtain ⟨hR, f12⟩ : P_X8_next σ10 σ12 := hp12
    have hP : va_P D vwCl (gw cA ad σ12 τ12) H12 := hP
    have hF := hF.step f12 (by decide)
    have t13 : (σ12 1 5).toInt = (σ10 1 5).toInt := congrArg Int32.toInt (f12.at 1 5 (by decide))
    exact r_vret hx hb hr hK hP hS hk dX8_scan_130 (show P_X8_scan σ0 a1 σ12 from ⟨hR, hF⟩)
  · refine r_bipush hx hb dX8_scan_101 (by decide) (fun z14 ez14 => ?_)
    refine lv_goto (tgt := 108) hx hb dX8_scan_103 (by decide) ?_
    refine lv_aload_n hx hb dX8_scan_108 rfl (lv_at hl 0 rfl) ?_
    refine fg_8_5 (k := 1) hx hb hts in_X8_scan_8 hown hK hP (by decide) (by decide) (hts _ lk_X8_scan_29) dX8_scan_109 ?_
    refine lv_iload_n hx hb dX8_scan_112 rfl (lv_at hl 1 rfl) ?_
    refine r_mmin hx hb (by rw [hml]; exact hl.1.symm) hown (hts _ lk_X8_scan_63) (hts _ ms_X8_scan_min) (hts _ mi_X8_scan) (hts _ mc_X8_scan_min) (by decide) (Nat.le_of_ble_eq_true rfl) (Nat.zero_le _) (Nat.zero_le _) dX8_scan_113 (fun z16 ez16 => ?_)
    refine r_iconst hx hb dX8_scan_116 (by decide) (fun z17 ez17 => ?_)
    refine lv_lconst (v := 0) hx hb dX8_scan_117 (by decide) ?_
    refine r_cVv (k := 1) (As := [.int z14, .int z16, .int z17, .long (0)]) (rest := []) ⟨hx, hb, hml, hown, hts⟩ hK hP hN hS (c_X8_note l D cA ad hI σ τ hR z14 z16 z17 (0) (by omega) (by omega)) (cwV 4 hts gX8_scan_X8_note rfl rfl rfl (by decide +kernel) ⟨by decide, by decide⟩) (rv_Tape hK hP (by decide) (by decide)) rfl hl.1 rfl (Nat.le_of_ble_eq_true rfl) dX8_scan_118 (Nat.zero_le _) (Nat.zero_le _) (fun u18 H18 locs18 hp18 hP hS => ?_)
    obtain ⟨σ18, τ18⟩ := u18
    obtain ⟨hR, f18⟩ : P_X8_note σ z14 z16 z17 (0) σ18 := hp18
    have hP : va_P D vwCl (gw cA ad σ18 τ18) H18 := hP
    have hF := hF.step f18 (by decide)
    have t19 : (σ18 1 5).toInt = (σ 1 5).toInt := congrArg Int32.toInt (f18.at 1 5 (by decide))
    refine lv_aload_n hx hb dX8_scan_121 rfl (lv_at hl 0 rfl) ?_
    refine r_iconst hx hb dX8_scan_122 (by decide) (fun z20 ez20 => ?_)
    refine fp_8_7 (k := 1) hx hb hts in_X8_scan_8 hown hK hP (by decide) (by decide) (hts _ lk_X8_scan_69) hI hR hS (by omega) dX8_scan_123 (fun σ21 H21 locs21 u21 v21 hR hP hS => ?_)
    have hF := hF.puts u21 4 rfl (by decide) (by decide) (by decide) (by decide)
    have t22 : (σ21 1 5).toInt = (σ18 1 5).toInt := congrArg Int32.toInt (u21 1 5 (by omega))
    refine lv_aload_n hx hb dX8_scan_126 rfl (lv_at hl 0 rfl) ?_
    refine r_cVv (k := 1) (As := []) (rest := []) ⟨hx, hb, hml, hown, hts⟩ hK hP hN hS (c_X8_next l D cA ad hI σ21 τ18 hR) (cwV 0 hts gX8_scan_X8_next rfl rfl rfl (by decide +kernel) ⟨by decide, by decide⟩) (rv_Tape hK hP (by decide) (by decide)) rfl hl.1 rfl (Nat.le_of_ble_eq_true rfl) dX8_scan_127 (Nat.zero_le _) (Nat.zero_le _) (fun u23 H23 locs23 hp23 hP hS => ?_)
    obtain ⟨σ23, τ23⟩ := u23
    obtain ⟨hR, f23⟩ : P_X8_next σ21 σ23 := hp23
    have hP : va_P D vwCl (gw cA ad σ23 τ23) H23 := hP
    have hF := hF.step f23 (by decide)
    have t24 : (σ23 1 5).toInt = (σ21 1 5).toInt := congrArg Int32.toInt (f23.at 1 5 (by decide))
    exact r_vret hx hb hr hK hP hS hk dX8_scan_130 (show P_X8_scan σ0 a1 σ23 from ⟨hR, hF⟩)
theorem A_X8_scan (p : Program) (l : Launch) (e : Env) (s : State) (m : MethodId) (args : Array Value) (below : List Frame) (meth : Method) (c : Code) (D : va_G) (cA : Nat → ClassId) (ad : Nat → Nat) (σ0 : Nat → Nat → Int32) (a1 : Int32) (C : Cy p s m args meth c cX8_scan 5 wsX8_scan RX8 D cA ad none) (ha1 : 200 ≤ a1.toInt ∧ a1.toInt ≤ 900) : ∀ n : Nat, J_X8_scan_19 p l e s m args below meth c D cA ad σ0 a1 n ∧ J_X8_scan_92 p l e s m args below meth c D cA ad σ0 a1 n := by
  intro n
  induction n with
  | zero =>
    exact ⟨(by intro σ τ H locs x2 x3 ls hR hF hP hS hc0 hc1 hl hm; exfalso; omega), (by intro σ τ H locs x2 x3 ls hR hF hP hS hc0 hc1 hl hm; exfalso; omega)⟩
  | succ n ih =>
    exact ⟨B_X8_scan_19 p l e s m args below meth c D cA ad σ0 a1 n C ha1 ih.1 ih.2, B_X8_scan_92 p l e s m args below meth c D cA ad σ0 a1 n C ha1 ih.1 ih.2⟩
set_option maxHeartbeats 4000000 in
theorem c_X8_scan (l : Launch) (D : va_G) (cA : Nat → ClassId) (ad : Nat → Nat) (hI : Inj ad) (σ0 : Nat → Nat → Int32) (τ0 : Nat → Nat → Int64) (hR : Rg σ0) (a1 : Int32) (ha1 : 200 ≤ a1.toInt ∧ a1.toInt ≤ 900) : Met l yX8_scan wsX8_scan ({ frames := 8, cells := 0, slots := 0, locals := 186 } : Room) (WQc D cA ad [.ref (ad 1), .int a1] σ0 τ0) (va_Qv (fun u : SS => P_X8_scan σ0 a1 u.1) (WB D cA ad) (AA ad)) 0 0 (AA ad) := by
  refine Met.ofW (cc := cX8_scan) (maxL := 5) (ret := none) (by decide) rfl ?_
  intro p e s m args below meth c s₁ B hml hv
  obtain ⟨rfl, hP, hK, hN⟩ := hv
  have C : Cy p s m _ meth c cX8_scan 5 wsX8_scan RX8 D cA ad none := ⟨B.exec, B.bytes, hml, findClass_of_methodNamed B.named, atoms_spec (ws := wsX8_scan) B.pre, hK, B.notSynchronized, B.returns, hI, hN⟩
  have hl := lv_entry ([.ref (ad 1), .int a1]) (n := 5) (Nat.le_of_ble_eq_true rfl)
  rw [lg_entry_eq]
  generalize (lg_sl ([.ref (ad 1), .int a1]) ++ List.replicate (5 - (lg_sl ([.ref (ad 1), .int a1])).length) Slot.unset).toArray = ls at hl ⊢
  have hl : lv_has ls 5 [(0, .ref (ad 1)), (1, .int a1)] := hl
  have hS : va_S (AA ad) s.heap s.heap [] := va_S.rf
  have hF : Fr L_X8_scan σ0 σ0 := Fr.rf
  have hA := A_X8_scan p l e s m _ below meth c D cA ad σ0 a1 C ha1 5653
  have K19 := hA.1
  have K92 := hA.2
  clear hA
  obtain ⟨hx, hb, _, hown, hts, _, hk, hr, _, _⟩ := C
  refine lv_aload_n hx hb dX8_scan_0 rfl (lv_at hl 0 rfl) ?_
  refine r_iconst hx hb dX8_scan_1 (by decide) (fun z1 ez1 => ?_)
  refine fp_8_13 (k := 1) hx hb hts in_X8_scan_8 hown hK hP (by decide) (by decide) (hts _ lk_X8_scan_33) hI hR hS dX8_scan_2 (fun σ2 H2 locs2 u2 v2 hR hP hS => ?_)
  have hF := hF.puts u2 0 rfl (by decide) (by decide) (by decide) (by decide)
  refine lv_aload_n hx hb dX8_scan_5 rfl (lv_at hl 0 rfl) ?_
  refine r_iconst hx hb dX8_scan_6 (by decide) (fun z3 ez3 => ?_)
  refine fp_8_14 (k := 1) hx hb hts in_X8_scan_8 hown hK hP (by decide) (by decide) (hts _ lk_X8_scan_36) hI hR hS dX8_scan_7 (fun σ4 H4 locs4 u4 v4 hR hP hS => ?_)
  have hF := hF.puts u4 0 rfl (by decide) (by decide) (by decide) (by decide)
  refine lv_aload_n hx hb dX8_scan_10 rfl (lv_at hl 0 rfl) ?_
  refine r_iconst hx hb dX8_scan_11 (by decide) (fun z5 ez5 => ?_)
  refine fp_8_6 (k := 1) hx hb hts in_X8_scan_8 hown hK hP (by decide) (by decide) (hts _ lk_X8_scan_39) hI hR hS (by omega) dX8_scan_12 (fun σ6 H6 locs6 u6 v6 hR hP hS => ?_)
  have hF := hF.puts u6 4 rfl (by decide) (by decide) (by decide) (by decide)
  refine r_iconst hx hb dX8_scan_15 (by decide) (fun z7 ez7 => ?_)
  refine lv_istore_n (lv' := [(2, .int z7), (0, .ref (ad 1)), (1, .int a1)]) hx hb dX8_scan_16 rfl hl (by decide) rfl (fun ls hl => ?_)
  refine r_iconst hx hb dX8_scan_17 (by decide) (fun z8 ez8 => ?_)
  refine lv_istore_n (lv' := [(3, .int z8), (2, .int z7), (0, .ref (ad 1)), (1, .int a1)]) hx hb dX8_scan_18 rfl hl (by decide) rfl (fun ls hl => ?_)
  exact K19 σ6 τ0 H6 locs6 z7 z8 ls hR hF hP hS (by omega) (by omega) (lv_sub hl [2, 3, 1, 0] rfl) (by omega)
theorem cn_X9_copyRows : Cond.native arraycopyName ∈ wsX9_copyRows := by decide +kernel
theorem cs_X9_copyRows : Cond.static arraycopyName ∈ wsX9_copyRows := by decide +kernel
theorem ci_X9_copyRows : Cond.initialized "java/lang/System" ∈ wsX9_copyRows := by decide +kernel
theorem lk_X9_copyRows_58 : Cond.methodLink RX9 58 arraycopyName ∈ wsX9_copyRows := by decide +kernel
theorem lk_X9_copyRows_68 : Cond.methodLink RX9 68 Lib.Math.min.name ∈ wsX9_copyRows := by decide +kernel
theorem mi_X9_copyRows : Cond.initialized "java/lang/Math" ∈ wsX9_copyRows := by decide +kernel
theorem ms_X9_copyRows_min : Cond.static Lib.Math.min.name ∈ wsX9_copyRows := by decide +kernel
theorem mc_X9_copyRows_min : Cond.code Lib.Math.min.name Lib.Math.min.code 2 (some .int) ∈ wsX9_copyRows := by decide +kernel
abbrev L_X9_copyRows_callA_callA : List Rc := [(148, 307, 0, 3)]
def P_X9_copyRows_callA_callA (σ0 : Nat → Nat → Int32) (k0 : Nat) (k1 : Nat) (a2 : Int32) (σ : Nat → Nat → Int32) : Prop := Rg σ ∧ Fr L_X9_copyRows_callA_callA σ0 σ
def J_X9_copyRows_callA_callA_2 (p : Program) (l : Launch) (e : Env) (s : State) (m : MethodId) (args : Array Value) (below : List Frame) (meth : Method) (c : Code) (D : va_G) (cA : Nat → ClassId) (ad : Nat → Nat) (σ0 : Nat → Nat → Int32) (k0 : Nat) (k1 : Nat) (a2 : Int32) (n : Nat) : Prop := ∀ (σ : Nat → Nat → Int32) (τ : Nat → Nat → Int64) (H : Heap) (locs : List Loc) (x3 : Int32) (ls : Array Slot), Rg σ → Fr L_X9_copyRows_callA_callA σ0 σ → va_P D vwCl (gw cA ad σ τ) H → va_S (AA ad) s.heap H locs → (0 ≤ x3.toInt ∧ x3.toInt ≤ 40) → lv_has ls 4 [(0, .ref (ad k0)), (1, .ref (ad k1)), (2, .int a2), (3, .int x3)] → 2 * (40 - x3.toInt) + 1 < (n : Int) → W p l e ({ frames := 1, cells := 0, slots := 0, locals := 60 } : Room) s m args below meth c H locs 0 0 (MQ below (va_Qv (fun u : SS => P_X9_copyRows_callA_callA σ0 k0 k1 a2 u.1) (WB D cA ad) (AA ad)) args s 0 0 (AA ad)) (F0 m 2 ls [])
set_option maxHeartbeats 4000000 in
theorem B_X9_copyRows_callA_callA_2 (p : Program) (l : Launch) (e : Env) (s : State) (m : MethodId) (args : Array Value) (below : List Frame) (meth : Method) (c : Code) (D : va_G) (cA : Nat → ClassId) (ad : Nat → Nat) (σ0 : Nat → Nat → Int32) (k0 : Nat) (k1 : Nat) (a2 : Int32) (n : Nat) (C : Cy p s m args meth c cX9_copyRows 4 wsX9_copyRows RX9 D cA ad none) (hk0 : 60 ≤ k0 ∧ k0 ≤ 63) (hk1 : 60 ≤ k1 ∧ k1 ≤ 63) (ha2 : 0 ≤ a2.toInt ∧ a2.toInt ≤ 40) (K2 : J_X9_copyRows_callA_callA_2 p l e s m args below meth c D cA ad σ0 k0 k1 a2 n) : J_X9_copyRows_callA_callA_2 p l e s m args below meth c D cA ad σ0 k0 k1 a2 (n + 1) := by
  obtain ⟨hx, hb, hml, hown, hts, hK, hk, hr, hI, hN⟩ := C
  intro σ τ H locs x3 ls hR hF hP hS hc0 hl hm
  refine lv_iload_n hx hb dX9_copyRows_2 rfl (lv_at hl 3 rfl) ?_
  refine lv_iload_n hx hb dX9_copyRows_3 rfl (lv_at hl 2 rfl) ?_
  refine r_icmp_ge (tgt := 47) hx hb dX9_copyRows_4 (by decide) (fun c1 => ?_) (fun c1 => ?_)
  · exact r_vret hx hb hr hK hP hS hk dX9_copyRows_47 (show P_X9_copyRows_callA_callA σ0 k0 k1 a2 σ from ⟨hR, hF⟩)
  · refine lv_iload_n hx hb dX9_copyRows_7 rfl (lv_at hl 3 rfl) ?_
    refine lv_aload_n hx hb dX9_copyRows_8 rfl (lv_at hl 0 rfl) ?_
    refine al_callA (k := k0) hx hb hK hP (by omega) (by omega) dX9_copyRows_9 (fun z2 ez2 => ?_)
    refine r_icmp_ge (tgt := 47) hx hb dX9_copyRows_10 (by decide) (fun c3 => ?_) (fun c3 => ?_)
    · exfalso; omega
    · refine lv_iload_n hx hb dX9_copyRows_13 rfl (lv_at hl 3 rfl) ?_
      refine lv_aload_n hx hb dX9_copyRows_14 rfl (lv_at hl 1 rfl) ?_
      refine al_callA (k := k1) hx hb hK hP (by omega) (by omega) dX9_copyRows_15 (fun z4 ez4 => ?_)
      refine r_icmp_ge (tgt := 47) hx hb dX9_copyRows_16 (by decide) (fun c5 => ?_) (fun c5 => ?_)
      · exfalso; omega
      · refine lv_aload_n hx hb dX9_copyRows_19 rfl (lv_at hl 0 rfl) ?_
        refine lv_iload_n hx hb dX9_copyRows_20 rfl (lv_at hl 3 rfl) ?_
        obtain ⟨j6, ej6⟩ : ∃ j : Nat, x3.toInt = (j : Int) := ⟨_, ti_nat (by omega)⟩
        refine ad_callA (k := k0) (j := j6) hx hb hK hP (by omega) (by omega) ej6 (by omega) dX9_copyRows_21 ?_
        refine r_iconst hx hb dX9_copyRows_22 (by decide) (fun z7 ez7 => ?_)
        refine lv_aload_n hx hb dX9_copyRows_23 rfl (lv_at hl 1 rfl) ?_
        refine lv_iload_n hx hb dX9_copyRows_24 rfl (lv_at hl 3 rfl) ?_
        refine ad_callA (k := k1) (j := j6) hx hb hK hP (by omega) (by omega) ej6 (by omega) dX9_copyRows_25 ?_
        refine r_iconst hx hb dX9_copyRows_26 (by decide) (fun z8 ez8 => ?_)
        refine lv_aload_n hx hb dX9_copyRows_27 rfl (lv_at hl 0 rfl) ?_
        refine lv_iload_n hx hb dX9_copyRows_28 rfl (lv_at hl 3 rfl) ?_
        refine ad_callA (k := k0) (j := j6) hx hb hK hP (by omega) (by omega) ej6 (by omega) dX9_copyRows_29 ?_
        refine al_callR (k := 40 * (k0 - 60) + 148 + j6) hx hb hK hP (by omega) (by omega) dX9_copyRows_30 (fun z9 ez9 => ?_)
        refine lv_aload_n hx hb dX9_copyRows_31 rfl (lv_at hl 1 rfl) ?_
        refine lv_iload_n hx hb dX9_copyRows_32 rfl (lv_at hl 3 rfl) ?_
        refine ad_callA (k := k1) (j := j6) hx hb hK hP (by omega) (by omega) ej6 (by omega) dX9_copyRows_33 ?_
        refine al_callR (k := 40 * (k1 - 60) + 148 + j6) hx hb hK hP (by omega) (by omega) dX9_copyRows_34 (fun z10 ez10 => ?_)
        refine r_mmin hx hb (by rw [hml]; exact hl.1.symm) hown (hts _ lk_X9_copyRows_68) (hts _ ms_X9_copyRows_min) (hts _ mi_X9_copyRows) (hts _ mc_X9_copyRows_min) (by decide) (Nat.le_of_ble_eq_true rfl) (Nat.zero_le _) (Nat.zero_le _) dX9_copyRows_35 (fun z12 ez12 => ?_)
        refine cp_callR (k := 40 * (k1 - 60) + 148 + j6) (q := 40 * (k0 - 60) + 148 + j6) hx hb (by rw [hml]; exact hl.1.symm) hown (hts _ lk_X9_copyRows_58) (hts _ cn_X9_copyRows) (hts _ cs_X9_copyRows) (hts _ ci_X9_copyRows) hK hP hI hR hS (by omega) (by omega) (by omega) (by omega) (by omega) (by omega) (by omega) (by decide) (Nat.le_of_ble_eq_true rfl) dX9_copyRows_38 (fun σ13 H13 locs13 u13 hR hP hS => ?_)
        have hF := hF.row u13 0 rfl (by omega) (by omega) (by decide) (by decide)
        refine r_iinc (k := 3) (lv1 := fun z14 => [(3, .int z14), (0, .ref (ad k0)), (1, .ref (ad k1)), (2, .int a2)]) hx hb dX9_copyRows_41 hl rfl (by decide) (fun _ => rfl) (by decide) (by omega) (fun z14 ls ez14 hl => ?_)
        refine lv_goto (tgt := 2) hx hb dX9_copyRows_44 (by decide) ?_
        exact K2 σ13 τ H13 locs13 z14 ls hR hF hP hS (by omega) (lv_sub hl [1, 2, 3, 0] rfl) (by omega)
theorem A_X9_copyRows_callA_callA (p : Program) (l : Launch) (e : Env) (s : State) (m : MethodId) (args : Array Value) (below : List Frame) (meth : Method) (c : Code) (D : va_G) (cA : Nat → ClassId) (ad : Nat → Nat) (σ0 : Nat → Nat → Int32) (k0 : Nat) (k1 : Nat) (a2 : Int32) (C : Cy p s m args meth c cX9_copyRows 4 wsX9_copyRows RX9 D cA ad none) (hk0 : 60 ≤ k0 ∧ k0 ≤ 63) (hk1 : 60 ≤ k1 ∧ k1 ≤ 63) (ha2 : 0 ≤ a2.toInt ∧ a2.toInt ≤ 40) : ∀ n : Nat, J_X9_copyRows_callA_callA_2 p l e s m args below meth c D cA ad σ0 k0 k1 a2 n := by
  intro n
  induction n with
  | zero =>
    exact (by intro σ τ H locs x3 ls hR hF hP hS hc0 hl hm; exfalso; omega)
  | succ n ih =>
    exact B_X9_copyRows_callA_callA_2 p l e s m args below meth c D cA ad σ0 k0 k1 a2 n C hk0 hk1 ha2 ih
set_option maxHeartbeats 4000000 in
theorem c_X9_copyRows_callA_callA (l : Launch) (D : va_G) (cA : Nat → ClassId) (ad : Nat → Nat) (hI : Inj ad) (σ0 : Nat → Nat → Int32) (τ0 : Nat → Nat → Int64) (hR : Rg σ0) (k0 : Nat) (k1 : Nat) (a2 : Int32) (hk0 : 60 ≤ k0 ∧ k0 ≤ 63) (hk1 : 60 ≤ k1 ∧ k1 ≤ 63) (ha2 : 0 ≤ a2.toInt ∧ a2.toInt ≤ 40) : Met l yX9_copyRows wsX9_copyRows ({ frames := 1, cells := 0, slots := 0, locals := 60 } : Room) (WQc D cA ad [.ref (ad k0), .ref (ad k1), .int a2] σ0 τ0) (va_Qv (fun u : SS => P_X9_copyRows_callA_callA σ0 k0 k1 a2 u.1) (WB D cA ad) (AA ad)) 0 0 (AA ad) := by
  refine Met.ofW (cc := cX9_copyRows) (maxL := 4) (ret := none) (by decide) rfl ?_
  intro p e s m args below meth c s₁ B hml hv
  obtain ⟨rfl, hP, hK, hN⟩ := hv
  have C : Cy p s m _ meth c cX9_copyRows 4 wsX9_copyRows RX9 D cA ad none := ⟨B.exec, B.bytes, hml, findClass_of_methodNamed B.named, atoms_spec (ws := wsX9_copyRows) B.pre, hK, B.notSynchronized, B.returns, hI, hN⟩
  have hl := lv_entry ([.ref (ad k0), .ref (ad k1), .int a2]) (n := 4) (Nat.le_of_ble_eq_true rfl)
  rw [lg_entry_eq]
  generalize (lg_sl ([.ref (ad k0), .ref (ad k1), .int a2]) ++ List.replicate (4 - (lg_sl ([.ref (ad k0), .ref (ad k1), .int a2])).length) Slot.unset).toArray = ls at hl ⊢
  have hl : lv_has ls 4 [(0, .ref (ad k0)), (1, .ref (ad k1)), (2, .int a2)] := hl
  have hS : va_S (AA ad) s.heap s.heap [] := va_S.rf
  have hF : Fr L_X9_copyRows_callA_callA σ0 σ0 := Fr.rf
  have hA := A_X9_copyRows_callA_callA p l e s m _ below meth c D cA ad σ0 k0 k1 a2 C hk0 hk1 ha2 170
  have K2 := hA
  clear hA
  obtain ⟨hx, hb, _, hown, hts, _, hk, hr, _, _⟩ := C
  refine r_iconst hx hb dX9_copyRows_0 (by decide) (fun z1 ez1 => ?_)
  refine lv_istore_n (lv' := [(3, .int z1), (0, .ref (ad k0)), (1, .ref (ad k1)), (2, .int a2)]) hx hb dX9_copyRows_1 rfl hl (by decide) rfl (fun ls hl => ?_)
  exact K2 σ0 τ0 s.heap [] z1 ls hR hF hP hS (by omega) (lv_sub hl [1, 2, 3, 0] rfl) (by omega)
abbrev L_X9_copyRows_flightA_flightA : List Rc := [(132, 147, 0, 3)]
def P_X9_copyRows_flightA_flightA (σ0 : Nat → Nat → Int32) (k0 : Nat) (k1 : Nat) (a2 : Int32) (σ : Nat → Nat → Int32) : Prop := Rg σ ∧ Fr L_X9_copyRows_flightA_flightA σ0 σ
def J_X9_copyRows_flightA_flightA_2 (p : Program) (l : Launch) (e : Env) (s : State) (m : MethodId) (args : Array Value) (below : List Frame) (meth : Method) (c : Code) (D : va_G) (cA : Nat → ClassId) (ad : Nat → Nat) (σ0 : Nat → Nat → Int32) (k0 : Nat) (k1 : Nat) (a2 : Int32) (n : Nat) : Prop := ∀ (σ : Nat → Nat → Int32) (τ : Nat → Nat → Int64) (H : Heap) (locs : List Loc) (x3 : Int32) (ls : Array Slot), Rg σ → Fr L_X9_copyRows_flightA_flightA σ0 σ → va_P D vwCl (gw cA ad σ τ) H → va_S (AA ad) s.heap H locs → (0 ≤ x3.toInt ∧ x3.toInt ≤ 4) → lv_has ls 4 [(0, .ref (ad k0)), (1, .ref (ad k1)), (2, .int a2), (3, .int x3)] → 2 * (4 - x3.toInt) + 1 < (n : Int) → W p l e ({ frames := 1, cells := 0, slots := 0, locals := 60 } : Room) s m args below meth c H locs 0 0 (MQ below (va_Qv (fun u : SS => P_X9_copyRows_flightA_flightA σ0 k0 k1 a2 u.1) (WB D cA ad) (AA ad)) args s 0 0 (AA ad)) (F0 m 2 ls [])
set_option maxHeartbeats 4000000 in
theorem B_X9_copyRows_flightA_flightA_2 (p : Program) (l : Launch) (e : Env) (s : State) (m : MethodId) (args : Array Value) (below : List Frame) (meth : Method) (c : Code) (D : va_G) (cA : Nat → ClassId) (ad : Nat → Nat) (σ0 : Nat → Nat → Int32) (k0 : Nat) (k1 : Nat) (a2 : Int32) (n : Nat) (C : Cy p s m args meth c cX9_copyRows 4 wsX9_copyRows RX9 D cA ad none) (hk0 : 56 ≤ k0 ∧ k0 ≤ 59) (hk1 : 56 ≤ k1 ∧ k1 ≤ 59) (ha2 : 0 ≤ a2.toInt ∧ a2.toInt ≤ 4) (K2 : J_X9_copyRows_flightA_flightA_2 p l e s m args below meth c D cA ad σ0 k0 k1 a2 n) : J_X9_copyRows_flightA_flightA_2 p l e s m args below meth c D cA ad σ0 k0 k1 a2 (n + 1) := by
  obtain ⟨hx, hb, hml, hown, hts, hK, hk, hr, hI, hN⟩ := C
  intro σ τ H locs x3 ls hR hF hP hS hc0 hl hm
  refine lv_iload_n hx hb dX9_copyRows_2 rfl (lv_at hl 3 rfl) ?_
  refine lv_iload_n hx hb dX9_copyRows_3 rfl (lv_at hl 2 rfl) ?_
  refine r_icmp_ge (tgt := 47) hx hb dX9_copyRows_4 (by decide) (fun c1 => ?_) (fun c1 => ?_)
  · exact r_vret hx hb hr hK hP hS hk dX9_copyRows_47 (show P_X9_copyRows_flightA_flightA σ0 k0 k1 a2 σ from ⟨hR, hF⟩)
  · refine lv_iload_n hx hb dX9_copyRows_7 rfl (lv_at hl 3 rfl) ?_
    refine lv_aload_n hx hb dX9_copyRows_8 rfl (lv_at hl 0 rfl) ?_
    refine al_flightA (k := k0) hx hb hK hP (by omega) (by omega) dX9_copyRows_9 (fun z2 ez2 => ?_)
    refine r_icmp_ge (tgt := 47) hx hb dX9_copyRows_10 (by decide) (fun c3 => ?_) (fun c3 => ?_)
    · exfalso; omega
    · refine lv_iload_n hx hb dX9_copyRows_13 rfl (lv_at hl 3 rfl) ?_
      refine lv_aload_n hx hb dX9_copyRows_14 rfl (lv_at hl 1 rfl) ?_
      refine al_flightA (k := k1) hx hb hK hP (by omega) (by omega) dX9_copyRows_15 (fun z4 ez4 => ?_)
      refine r_icmp_ge (tgt := 47) hx hb dX9_copyRows_16 (by decide) (fun c5 => ?_) (fun c5 => ?_)
      · exfalso; omega
      · refine lv_aload_n hx hb dX9_copyRows_19 rfl (lv_at hl 0 rfl) ?_
        refine lv_iload_n hx hb dX9_copyRows_20 rfl (lv_at hl 3 rfl) ?_
        obtain ⟨j6, ej6⟩ : ∃ j : Nat, x3.toInt = (j : Int) := ⟨_, ti_nat (by omega)⟩
        refine ad_flightA (k := k0) (j := j6) hx hb hK hP (by omega) (by omega) ej6 (by omega) dX9_copyRows_21 ?_
        refine r_iconst hx hb dX9_copyRows_22 (by decide) (fun z7 ez7 => ?_)
        refine lv_aload_n hx hb dX9_copyRows_23 rfl (lv_at hl 1 rfl) ?_
        refine lv_iload_n hx hb dX9_copyRows_24 rfl (lv_at hl 3 rfl) ?_
        refine ad_flightA (k := k1) (j := j6) hx hb hK hP (by omega) (by omega) ej6 (by omega) dX9_copyRows_25 ?_
        refine r_iconst hx hb dX9_copyRows_26 (by decide) (fun z8 ez8 => ?_)
        refine lv_aload_n hx hb dX9_copyRows_27 rfl (lv_at hl 0 rfl) ?_
        refine lv_iload_n hx hb dX9_copyRows_28 rfl (lv_at hl 3 rfl) ?_
        refine ad_flightA (k := k0) (j := j6) hx hb hK hP (by omega) (by omega) ej6 (by omega) dX9_copyRows_29 ?_
        refine al_flightR (k := 4 * (k0 - 56) + 132 + j6) hx hb hK hP (by omega) (by omega) dX9_copyRows_30 (fun z9 ez9 => ?_)
        refine lv_aload_n hx hb dX9_copyRows_31 rfl (lv_at hl 1 rfl) ?_
        refine lv_iload_n hx hb dX9_copyRows_32 rfl (lv_at hl 3 rfl) ?_
        refine ad_flightA (k := k1) (j := j6) hx hb hK hP (by omega) (by omega) ej6 (by omega) dX9_copyRows_33 ?_
        refine al_flightR (k := 4 * (k1 - 56) + 132 + j6) hx hb hK hP (by omega) (by omega) dX9_copyRows_34 (fun z10 ez10 => ?_)
        refine r_mmin hx hb (by rw [hml]; exact hl.1.symm) hown (hts _ lk_X9_copyRows_68) (hts _ ms_X9_copyRows_min) (hts _ mi_X9_copyRows) (hts _ mc_X9_copyRows_min) (by decide) (Nat.le_of_ble_eq_true rfl) (Nat.zero_le _) (Nat.zero_le _) dX9_copyRows_35 (fun z12 ez12 => ?_)
        refine cp_flightR (k := 4 * (k1 - 56) + 132 + j6) (q := 4 * (k0 - 56) + 132 + j6) hx hb (by rw [hml]; exact hl.1.symm) hown (hts _ lk_X9_copyRows_58) (hts _ cn_X9_copyRows) (hts _ cs_X9_copyRows) (hts _ ci_X9_copyRows) hK hP hI hR hS (by omega) (by omega) (by omega) (by omega) (by omega) (by omega) (by omega) (by decide) (Nat.le_of_ble_eq_true rfl) dX9_copyRows_38 (fun σ13 H13 locs13 u13 hR hP hS => ?_)
        have hF := hF.row u13 0 rfl (by omega) (by omega) (by decide) (by decide)
        refine r_iinc (k := 3) (lv1 := fun z14 => [(3, .int z14), (0, .ref (ad k0)), (1, .ref (ad k1)), (2, .int a2)]) hx hb dX9_copyRows_41 hl rfl (by decide) (fun _ => rfl) (by decide) (by omega) (fun z14 ls ez14 hl => ?_)
        refine lv_goto (tgt := 2) hx hb dX9_copyRows_44 (by decide) ?_
        exact K2 σ13 τ H13 locs13 z14 ls hR hF hP hS (by omega) (lv_sub hl [1, 2, 3, 0] rfl) (by omega)
theorem A_X9_copyRows_flightA_flightA (p : Program) (l : Launch) (e : Env) (s : State) (m : MethodId) (args : Array Value) (below : List Frame) (meth : Method) (c : Code) (D : va_G) (cA : Nat → ClassId) (ad : Nat → Nat) (σ0 : Nat → Nat → Int32) (k0 : Nat) (k1 : Nat) (a2 : Int32) (C : Cy p s m args meth c cX9_copyRows 4 wsX9_copyRows RX9 D cA ad none) (hk0 : 56 ≤ k0 ∧ k0 ≤ 59) (hk1 : 56 ≤ k1 ∧ k1 ≤ 59) (ha2 : 0 ≤ a2.toInt ∧ a2.toInt ≤ 4) : ∀ n : Nat, J_X9_copyRows_flightA_flightA_2 p l e s m args below meth c D cA ad σ0 k0 k1 a2 n := by
  intro n
  induction n with
  | zero =>
    exact (by intro σ τ H locs x3 ls hR hF hP hS hc0 hl hm; exfalso; omega)
  | succ n ih =>
    exact B_X9_copyRows_flightA_flightA_2 p l e s m args below meth c D cA ad σ0 k0 k1 a2 n C hk0 hk1 ha2 ih
set_option maxHeartbeats 4000000 in
theorem c_X9_copyRows_flightA_flightA (l : Launch) (D : va_G) (cA : Nat → ClassId) (ad : Nat → Nat) (hI : Inj ad) (σ0 : Nat → Nat → Int32) (τ0 : Nat → Nat → Int64) (hR : Rg σ0) (k0 : Nat) (k1 : Nat) (a2 : Int32) (hk0 : 56 ≤ k0 ∧ k0 ≤ 59) (hk1 : 56 ≤ k1 ∧ k1 ≤ 59) (ha2 : 0 ≤ a2.toInt ∧ a2.toInt ≤ 4) : Met l yX9_copyRows wsX9_copyRows ({ frames := 1, cells := 0, slots := 0, locals := 60 } : Room) (WQc D cA ad [.ref (ad k0), .ref (ad k1), .int a2] σ0 τ0) (va_Qv (fun u : SS => P_X9_copyRows_flightA_flightA σ0 k0 k1 a2 u.1) (WB D cA ad) (AA ad)) 0 0 (AA ad) := by
  refine Met.ofW (cc := cX9_copyRows) (maxL := 4) (ret := none) (by decide) rfl ?_
  intro p e s m args below meth c s₁ B hml hv
  obtain ⟨rfl, hP, hK, hN⟩ := hv
  have C : Cy p s m _ meth c cX9_copyRows 4 wsX9_copyRows RX9 D cA ad none := ⟨B.exec, B.bytes, hml, findClass_of_methodNamed B.named, atoms_spec (ws := wsX9_copyRows) B.pre, hK, B.notSynchronized, B.returns, hI, hN⟩
  have hl := lv_entry ([.ref (ad k0), .ref (ad k1), .int a2]) (n := 4) (Nat.le_of_ble_eq_true rfl)
  rw [lg_entry_eq]
  generalize (lg_sl ([.ref (ad k0), .ref (ad k1), .int a2]) ++ List.replicate (4 - (lg_sl ([.ref (ad k0), .ref (ad k1), .int a2])).length) Slot.unset).toArray = ls at hl ⊢
  have hl : lv_has ls 4 [(0, .ref (ad k0)), (1, .ref (ad k1)), (2, .int a2)] := hl
  have hS : va_S (AA ad) s.heap s.heap [] := va_S.rf
  have hF : Fr L_X9_copyRows_flightA_flightA σ0 σ0 := Fr.rf
  have hA := A_X9_copyRows_flightA_flightA p l e s m _ below meth c D cA ad σ0 k0 k1 a2 C hk0 hk1 ha2 26
  have K2 := hA
  clear hA
  obtain ⟨hx, hb, _, hown, hts, _, hk, hr, _, _⟩ := C
  refine r_iconst hx hb dX9_copyRows_0 (by decide) (fun z1 ez1 => ?_)
  refine lv_istore_n (lv' := [(3, .int z1), (0, .ref (ad k0)), (1, .ref (ad k1)), (2, .int a2)]) hx hb dX9_copyRows_1 rfl hl (by decide) rfl (fun ls hl => ?_)
  exact K2 σ0 τ0 s.heap [] z1 ls hR hF hP hS (by omega) (lv_sub hl [1, 2, 3, 0] rfl) (by omega)
abbrev L_X9_copyRows_hillA_hillA : List Rc := [(68, 99, 0, 3)]
def P_X9_copyRows_hillA_hillA (σ0 : Nat → Nat → Int32) (k0 : Nat) (k1 : Nat) (a2 : Int32) (σ : Nat → Nat → Int32) : Prop := Rg σ ∧ Fr L_X9_copyRows_hillA_hillA σ0 σ
def J_X9_copyRows_hillA_hillA_2 (p : Program) (l : Launch) (e : Env) (s : State) (m : MethodId) (args : Array Value) (below : List Frame) (meth : Method) (c : Code) (D : va_G) (cA : Nat → ClassId) (ad : Nat → Nat) (σ0 : Nat → Nat → Int32) (k0 : Nat) (k1 : Nat) (a2 : Int32) (n : Nat) : Prop := ∀ (σ : Nat → Nat → Int32) (τ : Nat → Nat → Int64) (H : Heap) (locs : List Loc) (x3 : Int32) (ls : Array Slot), Rg σ → Fr L_X9_copyRows_hillA_hillA σ0 σ → va_P D vwCl (gw cA ad σ τ) H → va_S (AA ad) s.heap H locs → (0 ≤ x3.toInt ∧ x3.toInt ≤ 8) → lv_has ls 4 [(0, .ref (ad k0)), (1, .ref (ad k1)), (2, .int a2), (3, .int x3)] → 2 * (8 - x3.toInt) + 1 < (n : Int) → W p l e ({ frames := 1, cells := 0, slots := 0, locals := 60 } : Room) s m args below meth c H locs 0 0 (MQ below (va_Qv (fun u : SS => P_X9_copyRows_hillA_hillA σ0 k0 k1 a2 u.1) (WB D cA ad) (AA ad)) args s 0 0 (AA ad)) (F0 m 2 ls [])
set_option maxHeartbeats 4000000 in
theorem B_X9_copyRows_hillA_hillA_2 (p : Program) (l : Launch) (e : Env) (s : State) (m : MethodId) (args : Array Value) (below : List Frame) (meth : Method) (c : Code) (D : va_G) (cA : Nat → ClassId) (ad : Nat → Nat) (σ0 : Nat → Nat → Int32) (k0 : Nat) (k1 : Nat) (a2 : Int32) (n : Nat) (C : Cy p s m args meth c cX9_copyRows 4 wsX9_copyRows RX9 D cA ad none) (hk0 : 48 ≤ k0 ∧ k0 ≤ 51) (hk1 : 48 ≤ k1 ∧ k1 ≤ 51) (ha2 : 0 ≤ a2.toInt ∧ a2.toInt ≤ 8) (K2 : J_X9_copyRows_hillA_hillA_2 p l e s m args below meth c D cA ad σ0 k0 k1 a2 n) : J_X9_copyRows_hillA_hillA_2 p l e s m args below meth c D cA ad σ0 k0 k1 a2 (n + 1) := by
  obtain ⟨hx, hb, hml, hown, hts, hK, hk, hr, hI, hN⟩ := C
  intro σ τ H locs x3 ls hR hF hP hS hc0 hl hm
  refine lv_iload_n hx hb dX9_copyRows_2 rfl (lv_at hl 3 rfl) ?_
  refine lv_iload_n hx hb dX9_copyRows_3 rfl (lv_at hl 2 rfl) ?_
  refine r_icmp_ge (tgt := 47) hx hb dX9_copyRows_4 (by decide) (fun c1 => ?_) (fun c1 => ?_)
  · exact r_vret hx hb hr hK hP hS hk dX9_copyRows_47 (show P_X9_copyRows_hillA_hillA σ0 k0 k1 a2 σ from ⟨hR, hF⟩)
  · refine lv_iload_n hx hb dX9_copyRows_7 rfl (lv_at hl 3 rfl) ?_
    refine lv_aload_n hx hb dX9_copyRows_8 rfl (lv_at hl 0 rfl) ?_
    refine al_hillA (k := k0) hx hb hK hP (by omega) (by omega) dX9_copyRows_9 (fun z2 ez2 => ?_)
    refine r_icmp_ge (tgt := 47) hx hb dX9_copyRows_10 (by decide) (fun c3 => ?_) (fun c3 => ?_)
    · exfalso; omega
    · refine lv_iload_n hx hb dX9_copyRows_13 rfl (lv_at hl 3 rfl) ?_
      refine lv_aload_n hx hb dX9_copyRows_14 rfl (lv_at hl 1 rfl) ?_
      refine al_hillA (k := k1) hx hb hK hP (by omega) (by omega) dX9_copyRows_15 (fun z4 ez4 => ?_)
      refine r_icmp_ge (tgt := 47) hx hb dX9_copyRows_16 (by decide) (fun c5 => ?_) (fun c5 => ?_)
      · exfalso; omega
      · refine lv_aload_n hx hb dX9_copyRows_19 rfl (lv_at hl 0 rfl) ?_
        refine lv_iload_n hx hb dX9_copyRows_20 rfl (lv_at hl 3 rfl) ?_
        obtain ⟨j6, ej6⟩ : ∃ j : Nat, x3.toInt = (j : Int) := ⟨_, ti_nat (by omega)⟩
        refine ad_hillA (k := k0) (j := j6) hx hb hK hP (by omega) (by omega) ej6 (by omega) dX9_copyRows_21 ?_
        refine r_iconst hx hb dX9_copyRows_22 (by decide) (fun z7 ez7 => ?_)
        refine lv_aload_n hx hb dX9_copyRows_23 rfl (lv_at hl 1 rfl) ?_
        refine lv_iload_n hx hb dX9_copyRows_24 rfl (lv_at hl 3 rfl) ?_
        refine ad_hillA (k := k1) (j := j6) hx hb hK hP (by omega) (by omega) ej6 (by omega) dX9_copyRows_25 ?_
        refine r_iconst hx hb dX9_copyRows_26 (by decide) (fun z8 ez8 => ?_)
        refine lv_aload_n hx hb dX9_copyRows_27 rfl (lv_at hl 0 rfl) ?_
        refine lv_iload_n hx hb dX9_copyRows_28 rfl (lv_at hl 3 rfl) ?_
        refine ad_hillA (k := k0) (j := j6) hx hb hK hP (by omega) (by omega) ej6 (by omega) dX9_copyRows_29 ?_
        refine al_hillR (k := 8 * (k0 - 48) + 68 + j6) hx hb hK hP (by omega) (by omega) dX9_copyRows_30 (fun z9 ez9 => ?_)
        refine lv_aload_n hx hb dX9_copyRows_31 rfl (lv_at hl 1 rfl) ?_
        refine lv_iload_n hx hb dX9_copyRows_32 rfl (lv_at hl 3 rfl) ?_
        refine ad_hillA (k := k1) (j := j6) hx hb hK hP (by omega) (by omega) ej6 (by omega) dX9_copyRows_33 ?_
        refine al_hillR (k := 8 * (k1 - 48) + 68 + j6) hx hb hK hP (by omega) (by omega) dX9_copyRows_34 (fun z10 ez10 => ?_)
        refine r_mmin hx hb (by rw [hml]; exact hl.1.symm) hown (hts _ lk_X9_copyRows_68) (hts _ ms_X9_copyRows_min) (hts _ mi_X9_copyRows) (hts _ mc_X9_copyRows_min) (by decide) (Nat.le_of_ble_eq_true rfl) (Nat.zero_le _) (Nat.zero_le _) dX9_copyRows_35 (fun z12 ez12 => ?_)
        refine cp_hillR (k := 8 * (k1 - 48) + 68 + j6) (q := 8 * (k0 - 48) + 68 + j6) hx hb (by rw [hml]; exact hl.1.symm) hown (hts _ lk_X9_copyRows_58) (hts _ cn_X9_copyRows) (hts _ cs_X9_copyRows) (hts _ ci_X9_copyRows) hK hP hI hR hS (by omega) (by omega) (by omega) (by omega) (by omega) (by omega) (by omega) (by decide) (Nat.le_of_ble_eq_true rfl) dX9_copyRows_38 (fun σ13 H13 locs13 u13 hR hP hS => ?_)
        have hF := hF.row u13 0 rfl (by omega) (by omega) (by decide) (by decide)
        refine r_iinc (k := 3) (lv1 := fun z14 => [(3, .int z14), (0, .ref (ad k0)), (1, .ref (ad k1)), (2, .int a2)]) hx hb dX9_copyRows_41 hl rfl (by decide) (fun _ => rfl) (by decide) (by omega) (fun z14 ls ez14 hl => ?_)
        refine lv_goto (tgt := 2) hx hb dX9_copyRows_44 (by decide) ?_
        exact K2 σ13 τ H13 locs13 z14 ls hR hF hP hS (by omega) (lv_sub hl [1, 2, 3, 0] rfl) (by omega)
theorem A_X9_copyRows_hillA_hillA (p : Program) (l : Launch) (e : Env) (s : State) (m : MethodId) (args : Array Value) (below : List Frame) (meth : Method) (c : Code) (D : va_G) (cA : Nat → ClassId) (ad : Nat → Nat) (σ0 : Nat → Nat → Int32) (k0 : Nat) (k1 : Nat) (a2 : Int32) (C : Cy p s m args meth c cX9_copyRows 4 wsX9_copyRows RX9 D cA ad none) (hk0 : 48 ≤ k0 ∧ k0 ≤ 51) (hk1 : 48 ≤ k1 ∧ k1 ≤ 51) (ha2 : 0 ≤ a2.toInt ∧ a2.toInt ≤ 8) : ∀ n : Nat, J_X9_copyRows_hillA_hillA_2 p l e s m args below meth c D cA ad σ0 k0 k1 a2 n := by
  intro n
  induction n with
  | zero =>
    exact (by intro σ τ H locs x3 ls hR hF hP hS hc0 hl hm; exfalso; omega)
  | succ n ih =>
    exact B_X9_copyRows_hillA_hillA_2 p l e s m args below meth c D cA ad σ0 k0 k1 a2 n C hk0 hk1 ha2 ih
set_option maxHeartbeats 4000000 in
theorem c_X9_copyRows_hillA_hillA (l : Launch) (D : va_G) (cA : Nat → ClassId) (ad : Nat → Nat) (hI : Inj ad) (σ0 : Nat → Nat → Int32) (τ0 : Nat → Nat → Int64) (hR : Rg σ0) (k0 : Nat) (k1 : Nat) (a2 : Int32) (hk0 : 48 ≤ k0 ∧ k0 ≤ 51) (hk1 : 48 ≤ k1 ∧ k1 ≤ 51) (ha2 : 0 ≤ a2.toInt ∧ a2.toInt ≤ 8) : Met l yX9_copyRows wsX9_copyRows ({ frames := 1, cells := 0, slots := 0, locals := 60 } : Room) (WQc D cA ad [.ref (ad k0), .ref (ad k1), .int a2] σ0 τ0) (va_Qv (fun u : SS => P_X9_copyRows_hillA_hillA σ0 k0 k1 a2 u.1) (WB D cA ad) (AA ad)) 0 0 (AA ad) := by
  refine Met.ofW (cc := cX9_copyRows) (maxL := 4) (ret := none) (by decide) rfl ?_
  intro p e s m args below meth c s₁ B hml hv
  obtain ⟨rfl, hP, hK, hN⟩ := hv
  have C : Cy p s m _ meth c cX9_copyRows 4 wsX9_copyRows RX9 D cA ad none := ⟨B.exec, B.bytes, hml, findClass_of_methodNamed B.named, atoms_spec (ws := wsX9_copyRows) B.pre, hK, B.notSynchronized, B.returns, hI, hN⟩
  have hl := lv_entry ([.ref (ad k0), .ref (ad k1), .int a2]) (n := 4) (Nat.le_of_ble_eq_true rfl)
  rw [lg_entry_eq]
  generalize (lg_sl ([.ref (ad k0), .ref (ad k1), .int a2]) ++ List.replicate (4 - (lg_sl ([.ref (ad k0), .ref (ad k1), .int a2])).length) Slot.unset).toArray = ls at hl ⊢
  have hl : lv_has ls 4 [(0, .ref (ad k0)), (1, .ref (ad k1)), (2, .int a2)] := hl
  have hS : va_S (AA ad) s.heap s.heap [] := va_S.rf
  have hF : Fr L_X9_copyRows_hillA_hillA σ0 σ0 := Fr.rf
  have hA := A_X9_copyRows_hillA_hillA p l e s m _ below meth c D cA ad σ0 k0 k1 a2 C hk0 hk1 ha2 42
  have K2 := hA
  clear hA
  obtain ⟨hx, hb, _, hown, hts, _, hk, hr, _, _⟩ := C
  refine r_iconst hx hb dX9_copyRows_0 (by decide) (fun z1 ez1 => ?_)
  refine lv_istore_n (lv' := [(3, .int z1), (0, .ref (ad k0)), (1, .ref (ad k1)), (2, .int a2)]) hx hb dX9_copyRows_1 rfl hl (by decide) rfl (fun ls hl => ?_)
  exact K2 σ0 τ0 s.heap [] z1 ls hR hF hP hS (by omega) (lv_sub hl [1, 2, 3, 0] rfl) (by omega)
abbrev L_X9_copyRows_manA_manA : List Rc := [(100, 131, 0, 6)]
def P_X9_copyRows_manA_manA (σ0 : Nat → Nat → Int32) (k0 : Nat) (k1 : Nat) (a2 : Int32) (σ : Nat → Nat → Int32) : Prop := Rg σ ∧ Fr L_X9_copyRows_manA_manA σ0 σ
def J_X9_copyRows_manA_manA_2 (p : Program) (l : Launch) (e : Env) (s : State) (m : MethodId) (args : Array Value) (below : List Frame) (meth : Method) (c : Code) (D : va_G) (cA : Nat → ClassId) (ad : Nat → Nat) (σ0 : Nat → Nat → Int32) (k0 : Nat) (k1 : Nat) (a2 : Int32) (n : Nat) : Prop := ∀ (σ : Nat → Nat → Int32) (τ : Nat → Nat → Int64) (H : Heap) (locs : List Loc) (x3 : Int32) (ls : Array Slot), Rg σ → Fr L_X9_copyRows_manA_manA σ0 σ → va_P D vwCl (gw cA ad σ τ) H → va_S (AA ad) s.heap H locs → (0 ≤ x3.toInt ∧ x3.toInt ≤ 8) → lv_has ls 4 [(0, .ref (ad k0)), (1, .ref (ad k1)), (2, .int a2), (3, .int x3)] → 2 * (8 - x3.toInt) + 1 < (n : Int) → W p l e ({ frames := 1, cells := 0, slots := 0, locals := 60 } : Room) s m args below meth c H locs 0 0 (MQ below (va_Qv (fun u : SS => P_X9_copyRows_manA_manA σ0 k0 k1 a2 u.1) (WB D cA ad) (AA ad)) args s 0 0 (AA ad)) (F0 m 2 ls [])
set_option maxHeartbeats 4000000 in
theorem B_X9_copyRows_manA_manA_2 (p : Program) (l : Launch) (e : Env) (s : State) (m : MethodId) (args : Array Value) (below : List Frame) (meth : Method) (c : Code) (D : va_G) (cA : Nat → ClassId) (ad : Nat → Nat) (σ0 : Nat → Nat → Int32) (k0 : Nat) (k1 : Nat) (a2 : Int32) (n : Nat) (C : Cy p s m args meth c cX9_copyRows 4 wsX9_copyRows RX9 D cA ad none) (hk0 : 52 ≤ k0 ∧ k0 ≤ 55) (hk1 : 52 ≤ k1 ∧ k1 ≤ 55) (ha2 : 0 ≤ a2.toInt ∧ a2.toInt ≤ 8) (K2 : J_X9_copyRows_manA_manA_2 p l e s m args below meth c D cA ad σ0 k0 k1 a2 n) : J_X9_copyRows_manA_manA_2 p l e s m args below meth c D cA ad σ0 k0 k1 a2 (n + 1) := by
  obtain ⟨hx, hb, hml, hown, hts, hK, hk, hr, hI, hN⟩ := C
  intro σ τ H locs x3 ls hR hF hP hS hc0 hl hm
  refine lv_iload_n hx hb dX9_copyRows_2 rfl (lv_at hl 3 rfl) ?_
  refine lv_iload_n hx hb dX9_copyRows_3 rfl (lv_at hl 2 rfl) ?_
  refine r_icmp_ge (tgt := 47) hx hb dX9_copyRows_4 (by decide) (fun c1 => ?_) (fun c1 => ?_)
  · exact r_vret hx hb hr hK hP hS hk dX9_copyRows_47 (show P_X9_copyRows_manA_manA σ0 k0 k1 a2 σ from ⟨hR, hF⟩)
  · refine lv_iload_n hx hb dX9_copyRows_7 rfl (lv_at hl 3 rfl) ?_
    refine lv_aload_n hx hb dX9_copyRows_8 rfl (lv_at hl 0 rfl) ?_
    refine al_manA (k := k0) hx hb hK hP (by omega) (by omega) dX9_copyRows_9 (fun z2 ez2 => ?_)
    refine r_icmp_ge (tgt := 47) hx hb dX9_copyRows_10 (by decide) (fun c3 => ?_) (fun c3 => ?_)
    · exfalso; omega
    · refine lv_iload_n hx hb dX9_copyRows_13 rfl (lv_at hl 3 rfl) ?_
      refine lv_aload_n hx hb dX9_copyRows_14 rfl (lv_at hl 1 rfl) ?_
      refine al_manA (k := k1) hx hb hK hP (by omega) (by omega) dX9_copyRows_15 (fun z4 ez4 => ?_)
      refine r_icmp_ge (tgt := 47) hx hb dX9_copyRows_16 (by decide) (fun c5 => ?_) (fun c5 => ?_)
      · exfalso; omega
      · refine lv_aload_n hx hb dX9_copyRows_19 rfl (lv_at hl 0 rfl) ?_
        refine lv_iload_n hx hb dX9_copyRows_20 rfl (lv_at hl 3 rfl) ?_
        obtain ⟨j6, ej6⟩ : ∃ j : Nat, x3.toInt = (j : Int) := ⟨_, ti_nat (by omega)⟩
        refine ad_manA (k := k0) (j := j6) hx hb hK hP (by omega) (by omega) ej6 (by omega) dX9_copyRows_21 ?_
        refine r_iconst hx hb dX9_copyRows_22 (by decide) (fun z7 ez7 => ?_)
        refine lv_aload_n hx hb dX9_copyRows_23 rfl (lv_at hl 1 rfl) ?_
        refine lv_iload_n hx hb dX9_copyRows_24 rfl (lv_at hl 3 rfl) ?_
        refine ad_manA (k := k1) (j := j6) hx hb hK hP (by omega) (by omega) ej6 (by omega) dX9_copyRows_25 ?_
        refine r_iconst hx hb dX9_copyRows_26 (by decide) (fun z8 ez8 => ?_)
        refine lv_aload_n hx hb dX9_copyRows_27 rfl (lv_at hl 0 rfl) ?_
        refine lv_iload_n hx hb dX9_copyRows_28 rfl (lv_at hl 3 rfl) ?_
        refine ad_manA (k := k0) (j := j6) hx hb hK hP (by omega) (by omega) ej6 (by omega) dX9_copyRows_29 ?_
        refine al_manR (k := 8 * (k0 - 52) + 100 + j6) hx hb hK hP (by omega) (by omega) dX9_copyRows_30 (fun z9 ez9 => ?_)
        refine lv_aload_n hx hb dX9_copyRows_31 rfl (lv_at hl 1 rfl) ?_
        refine lv_iload_n hx hb dX9_copyRows_32 rfl (lv_at hl 3 rfl) ?_
        refine ad_manA (k := k1) (j := j6) hx hb hK hP (by omega) (by omega) ej6 (by omega) dX9_copyRows_33 ?_
        refine al_manR (k := 8 * (k1 - 52) + 100 + j6) hx hb hK hP (by omega) (by omega) dX9_copyRows_34 (fun z10 ez10 => ?_)
        refine r_mmin hx hb (by rw [hml]; exact hl.1.symm) hown (hts _ lk_X9_copyRows_68) (hts _ ms_X9_copyRows_min) (hts _ mi_X9_copyRows) (hts _ mc_X9_copyRows_min) (by decide) (Nat.le_of_ble_eq_true rfl) (Nat.zero_le _) (Nat.zero_le _) dX9_copyRows_35 (fun z12 ez12 => ?_)
        refine cp_manR (k := 8 * (k1 - 52) + 100 + j6) (q := 8 * (k0 - 52) + 100 + j6) hx hb (by rw [hml]; exact hl.1.symm) hown (hts _ lk_X9_copyRows_58) (hts _ cn_X9_copyRows) (hts _ cs_X9_copyRows) (hts _ ci_X9_copyRows) hK hP hI hR hS (by omega) (by omega) (by omega) (by omega) (by omega) (by omega) (by omega) (by decide) (Nat.le_of_ble_eq_true rfl) dX9_copyRows_38 (fun σ13 H13 locs13 u13 hR hP hS => ?_)
        have hF := hF.row u13 0 rfl (by omega) (by omega) (by decide) (by decide)
        refine r_iinc (k := 3) (lv1 := fun z14 => [(3, .int z14), (0, .ref (ad k0)), (1, .ref (ad k1)), (2, .int a2)]) hx hb dX9_copyRows_41 hl rfl (by decide) (fun _ => rfl) (by decide) (by omega) (fun z14 ls ez14 hl => ?_)
        refine lv_goto (tgt := 2) hx hb dX9_copyRows_44 (by decide) ?_
        exact K2 σ13 τ H13 locs13 z14 ls hR hF hP hS (by omega) (lv_sub hl [1, 2, 3, 0] rfl) (by omega)
theorem A_X9_copyRows_manA_manA (p : Program) (l : Launch) (e : Env) (s : State) (m : MethodId) (args : Array Value) (below : List Frame) (meth : Method) (c : Code) (D : va_G) (cA : Nat → ClassId) (ad : Nat → Nat) (σ0 : Nat → Nat → Int32) (k0 : Nat) (k1 : Nat) (a2 : Int32) (C : Cy p s m args meth c cX9_copyRows 4 wsX9_copyRows RX9 D cA ad none) (hk0 : 52 ≤ k0 ∧ k0 ≤ 55) (hk1 : 52 ≤ k1 ∧ k1 ≤ 55) (ha2 : 0 ≤ a2.toInt ∧ a2.toInt ≤ 8) : ∀ n : Nat, J_X9_copyRows_manA_manA_2 p l e s m args below meth c D cA ad σ0 k0 k1 a2 n := by
  intro n
  induction n with
  | zero =>
    exact (by intro σ τ H locs x3 ls hR hF hP hS hc0 hl hm; exfalso; omega)
  | succ n ih =>
    exact B_X9_copyRows_manA_manA_2 p l e s m args below meth c D cA ad σ0 k0 k1 a2 n C hk0 hk1 ha2 ih
set_option maxHeartbeats 4000000 in
theorem c_X9_copyRows_manA_manA (l : Launch) (D : va_G) (cA : Nat → ClassId) (ad : Nat → Nat) (hI : Inj ad) (σ0 : Nat → Nat → Int32) (τ0 : Nat → Nat → Int64) (hR : Rg σ0) (k0 : Nat) (k1 : Nat) (a2 : Int32) (hk0 : 52 ≤ k0 ∧ k0 ≤ 55) (hk1 : 52 ≤ k1 ∧ k1 ≤ 55) (ha2 : 0 ≤ a2.toInt ∧ a2.toInt ≤ 8) : Met l yX9_copyRows wsX9_copyRows ({ frames := 1, cells := 0, slots := 0, locals := 60 } : Room) (WQc D cA ad [.ref (ad k0), .ref (ad k1), .int a2] σ0 τ0) (va_Qv (fun u : SS => P_X9_copyRows_manA_manA σ0 k0 k1 a2 u.1) (WB D cA ad) (AA ad)) 0 0 (AA ad) := by
  refine Met.ofW (cc := cX9_copyRows) (maxL := 4) (ret := none) (by decide) rfl ?_
  intro p e s m args below meth c s₁ B hml hv
  obtain ⟨rfl, hP, hK, hN⟩ := hv
  have C : Cy p s m _ meth c cX9_copyRows 4 wsX9_copyRows RX9 D cA ad none := ⟨B.exec, B.bytes, hml, findClass_of_methodNamed B.named, atoms_spec (ws := wsX9_copyRows) B.pre, hK, B.notSynchronized, B.returns, hI, hN⟩
  have hl := lv_entry ([.ref (ad k0), .ref (ad k1), .int a2]) (n := 4) (Nat.le_of_ble_eq_true rfl)
  rw [lg_entry_eq]
  generalize (lg_sl ([.ref (ad k0), .ref (ad k1), .int a2]) ++ List.replicate (4 - (lg_sl ([.ref (ad k0), .ref (ad k1), .int a2])).length) Slot.unset).toArray = ls at hl ⊢
  have hl : lv_has ls 4 [(0, .ref (ad k0)), (1, .ref (ad k1)), (2, .int a2)] := hl
  have hS : va_S (AA ad) s.heap s.heap [] := va_S.rf
  have hF : Fr L_X9_copyRows_manA_manA σ0 σ0 := Fr.rf
  have hA := A_X9_copyRows_manA_manA p l e s m _ below meth c D cA ad σ0 k0 k1 a2 C hk0 hk1 ha2 42
  have K2 := hA
  clear hA
  obtain ⟨hx, hb, _, hown, hts, _, hk, hr, _, _⟩ := C
  refine r_iconst hx hb dX9_copyRows_0 (by decide) (fun z1 ez1 => ?_)
  refine lv_istore_n (lv' := [(3, .int z1), (0, .ref (ad k0)), (1, .ref (ad k1)), (2, .int a2)]) hx hb dX9_copyRows_1 rfl hl (by decide) rfl (fun ls hl => ?_)
  exact K2 σ0 τ0 s.heap [] z1 ls hR hF hP hS (by omega) (lv_sub hl [1, 2, 3, 0] rfl) (by omega)
theorem cn_X9_copyFrom : Cond.native arraycopyName ∈ wsX9_copyFrom := by decide +kernel
theorem cs_X9_copyFrom : Cond.static arraycopyName ∈ wsX9_copyFrom := by decide +kernel
theorem ci_X9_copyFrom : Cond.initialized "java/lang/System" ∈ wsX9_copyFrom := by decide +kernel
theorem in_X9_copyFrom_9 : ∀ w ∈ u_ws RX9 TX9 14, w ∈ wsX9_copyFrom := by decide +kernel
theorem lk_X9_copyFrom_15 : Cond.fieldLink RX9 15 "CuckooShares$Valley" "manName" "[J" ∈ wsX9_copyFrom := by decide +kernel
theorem lk_X9_copyFrom_20 : Cond.fieldLink RX9 20 "CuckooShares$Valley" "hill" "[[I" ∈ wsX9_copyFrom := by decide +kernel
theorem lk_X9_copyFrom_23 : Cond.fieldLink RX9 23 "CuckooShares$Valley" "man" "[[I" ∈ wsX9_copyFrom := by decide +kernel
theorem lk_X9_copyFrom_26 : Cond.fieldLink RX9 26 "CuckooShares$Valley" "flight" "[[I" ∈ wsX9_copyFrom := by decide +kernel
theorem lk_X9_copyFrom_29 : Cond.fieldLink RX9 29 "CuckooShares$Valley" "call" "[[I" ∈ wsX9_copyFrom := by decide +kernel
theorem lk_X9_copyFrom_32 : Cond.fieldLink RX9 32 "CuckooShares$Valley" "echo" "[I" ∈ wsX9_copyFrom := by decide +kernel
theorem lk_X9_copyFrom_36 : Cond.fieldLink RX9 36 "CuckooShares$Valley" "ridge" "I" ∈ wsX9_copyFrom := by decide +kernel
theorem lk_X9_copyFrom_40 : Cond.fieldLink RX9 40 "CuckooShares$Valley" "wheat" "I" ∈ wsX9_copyFrom := by decide +kernel
theorem lk_X9_copyFrom_43 : Cond.fieldLink RX9 43 "CuckooShares$Valley" "windWay" "I" ∈ wsX9_copyFrom := by decide +kernel
theorem lk_X9_copyFrom_46 : Cond.fieldLink RX9 46 "CuckooShares$Valley" "windForce" "I" ∈ wsX9_copyFrom := by decide +kernel
theorem lk_X9_copyFrom_49 : Cond.fieldLink RX9 49 "CuckooShares$Valley" "hills" "I" ∈ wsX9_copyFrom := by decide +kernel
theorem lk_X9_copyFrom_52 : Cond.fieldLink RX9 52 "CuckooShares$Valley" "men" "I" ∈ wsX9_copyFrom := by decide +kernel
theorem lk_X9_copyFrom_55 : Cond.fieldLink RX9 55 "CuckooShares$Valley" "flights" "I" ∈ wsX9_copyFrom := by decide +kernel
theorem lk_X9_copyFrom_58 : Cond.methodLink RX9 58 arraycopyName ∈ wsX9_copyFrom := by decide +kernel
theorem lk_X9_copyFrom_9 : Cond.fieldLink RX9 9 "CuckooShares$Valley" "hillName" "[J" ∈ wsX9_copyFrom := by decide +kernel
abbrev L_X9_copyFrom : List Rc := [(2, 5, 0, 6), (64, 67, 0, 8), (68, 99, 0, 3), (100, 131, 0, 6), (132, 147, 0, 3), (148, 307, 0, 3)]
def P_X9_copyFrom (σ0 : Nat → Nat → Int32) (k0 : Nat) (k1 : Nat) (σ : Nat → Nat → Int32) : Prop := Rg σ ∧ Fr L_X9_copyFrom σ0 σ
set_option maxHeartbeats 4000000 in
theorem c_X9_copyFrom (l : Launch) (D : va_G) (cA : Nat → ClassId) (ad : Nat → Nat) (hI : Inj ad) (σ0 : Nat → Nat → Int32) (τ0 : Nat → Nat → Int64) (hR : Rg σ0) (k0 : Nat) (k1 : Nat) (hk0 : 2 ≤ k0 ∧ k0 ≤ 5) (hk1 : 2 ≤ k1 ∧ k1 ≤ 5) : Met l yX9_copyFrom wsX9_copyFrom ({ frames := 2, cells := 0, slots := 0, locals := 83 } : Room) (WQc D cA ad [.ref (ad k0), .ref (ad k1)] σ0 τ0) (va_Qv (fun u : SS => P_X9_copyFrom σ0 k0 k1 u.1) (WB D cA ad) (AA ad)) 0 0 (AA ad) := by
  refine Met.ofW (cc := cX9_copyFrom) (maxL := 2) (ret := none) (by decide) rfl ?_
  intro p e s m args below meth c s₁ B hml hv
  obtain ⟨rfl, hP, hK, hN⟩ := hv
  have C : Cy p s m _ meth c cX9_copyFrom 2 wsX9_copyFrom RX9 D cA ad none := ⟨B.exec, B.bytes, hml, findClass_of_methodNamed B.named, atoms_spec (ws := wsX9_copyFrom) B.pre, hK, B.notSynchronized, B.returns, hI, hN⟩
  have hl := lv_entry ([.ref (ad k0), .ref (ad k1)]) (n := 2) (Nat.le_of_ble_eq_true rfl)
  rw [lg_entry_eq]
  generalize (lg_sl ([.ref (ad k0), .ref (ad k1)]) ++ List.replicate (2 - (lg_sl ([.ref (ad k0), .ref (ad k1)])).length) Slot.unset).toArray = ls at hl ⊢
  have hl : lv_has ls 2 [(0, .ref (ad k0)), (1, .ref (ad k1))] := hl
  have hS : va_S (AA ad) s.heap s.heap [] := va_S.rf
  have hF : Fr L_X9_copyFrom σ0 σ0 := Fr.rf
  obtain ⟨hx, hb, _, hown, hts, _, hk, hr, _, _⟩ := C
  refine lv_aload_n hx hb dX9_copyFrom_0 rfl (lv_at hl 0 rfl) ?_
  refine lv_aload_n hx hb dX9_copyFrom_1 rfl (lv_at hl 1 rfl) ?_
  refine fg_9_0 (k := k1) hx hb hts in_X9_copyFrom_9 hown hK hP (by omega) (by omega) (hts _ lk_X9_copyFrom_36) dX9_copyFrom_2 ?_
  refine fp_9_0 (k := k0) hx hb hts in_X9_copyFrom_9 hown hK hP (by omega) (by omega) (hts _ lk_X9_copyFrom_36) hI hR hS dX9_copyFrom_5 (fun σ1 H1 locs1 u1 v1 hR hP hS => ?_)
  have hF := hF.puts u1 0 rfl (by omega) (by omega) (by decide) (by decide)
  refine lv_aload_n hx hb dX9_copyFrom_8 rfl (lv_at hl 0 rfl) ?_
  refine lv_aload_n hx hb dX9_copyFrom_9 rfl (lv_at hl 1 rfl) ?_
  refine fg_9_1 (k := k1) hx hb hts in_X9_copyFrom_9 hown hK hP (by omega) (by omega) (hts _ lk_X9_copyFrom_40) dX9_copyFrom_10 ?_
  refine fp_9_1 (k := k0) hx hb hts in_X9_copyFrom_9 hown hK hP (by omega) (by omega) (hts _ lk_X9_copyFrom_40) hI hR hS dX9_copyFrom_13 (fun σ2 H2 locs2 u2 v2 hR hP hS => ?_)
  have hF := hF.puts u2 0 rfl (by omega) (by omega) (by decide) (by decide)
  refine lv_aload_n hx hb dX9_copyFrom_16 rfl (lv_at hl 0 rfl) ?_
  refine lv_aload_n hx hb dX9_copyFrom_17 rfl (lv_at hl 1 rfl) ?_
  refine fg_9_2 (k := k1) hx hb hts in_X9_copyFrom_9 hown hK hP (by omega) (by omega) (hts _ lk_X9_copyFrom_43) dX9_copyFrom_18 ?_
  refine fp_9_2 (k := k0) hx hb hts in_X9_copyFrom_9 hown hK hP (by omega) (by omega) (hts _ lk_X9_copyFrom_43) hI hR hS dX9_copyFrom_21 (fun σ3 H3 locs3 u3 v3 hR hP hS => ?_)
  have hF := hF.puts u3 0 rfl (by omega) (by omega) (by decide) (by decide)
  refine lv_aload_n hx hb dX9_copyFrom_24 rfl (lv_at hl 0 rfl) ?_
  refine lv_aload_n hx hb dX9_copyFrom_25 rfl (lv_at hl 1 rfl) ?_
  refine fg_9_3 (k := k1) hx hb hts in_X9_copyFrom_9 hown hK hP (by omega) (by omega) (hts _ lk_X9_copyFrom_46) dX9_copyFrom_26 ?_
  refine fp_9_3 (k := k0) hx hb hts in_X9_copyFrom_9 hown hK hP (by omega) (by omega) (hts _ lk_X9_copyFrom_46) hI hR hS dX9_copyFrom_29 (fun σ4 H4 locs4 u4 v4 hR hP hS => ?_)
  have hF := hF.puts u4 0 rfl (by omega) (by omega) (by decide) (by decide)
  refine lv_aload_n hx hb dX9_copyFrom_32 rfl (lv_at hl 0 rfl) ?_
  refine lv_aload_n hx hb dX9_copyFrom_33 rfl (lv_at hl 1 rfl) ?_
  refine fg_9_4 (k := k1) hx hb hts in_X9_copyFrom_9 hown hK hP (by omega) (by omega) (hts _ lk_X9_copyFrom_49) dX9_copyFrom_34 ?_
  have hr5 := rg_9_4 hR (k := k1) (by omega) (by omega)
  refine fp_9_4 (k := k0) hx hb hts in_X9_copyFrom_9 hown hK hP (by omega) (by omega) (hts _ lk_X9_copyFrom_49) hI hR hS (by omega) dX9_copyFrom_37 (fun σ6 H6 locs6 u6 v6 hR hP hS => ?_)
  have hF := hF.puts u6 0 rfl (by omega) (by omega) (by decide) (by decide)
  refine lv_aload_n hx hb dX9_copyFrom_40 rfl (lv_at hl 0 rfl) ?_
  refine lv_aload_n hx hb dX9_copyFrom_41 rfl (lv_at hl 1 rfl) ?_
  refine fg_9_5 (k := k1) hx hb hts in_X9_copyFrom_9 hown hK hP (by omega) (by omega) (hts _ lk_X9_copyFrom_52) dX9_copyFrom_42 ?_
  have hr7 := rg_9_5 hR (k := k1) (by omega) (by omega)
  refine fp_9_5 (k := k0) hx hb hts in_X9_copyFrom_9 hown hK hP (by omega) (by omega) (hts _ lk_X9_copyFrom_52) hI hR hS (by omega) dX9_copyFrom_45 (fun σ8 H8 locs8 u8 v8 hR hP hS => ?_)
  have hF := hF.puts u8 0 rfl (by omega) (by omega) (by decide) (by decide)
  have t9 : (σ8 k0 4).toInt = (σ6 k0 4).toInt := congrArg Int32.toInt (u8 k0 4 (by omega))
  refine lv_aload_n hx hb dX9_copyFrom_48 rfl (lv_at hl 0 rfl) ?_
  refine lv_aload_n hx hb dX9_copyFrom_49 rfl (lv_at hl 1 rfl) ?_
  refine fg_9_6 (k := k1) hx hb hts in_X9_copyFrom_9 hown hK hP (by omega) (by omega) (hts _ lk_X9_copyFrom_55) dX9_copyFrom_50 ?_
  have hr10 := rg_9_6 hR (k := k1) (by omega) (by omega)
  refine fp_9_6 (k := k0) hx hb hts in_X9_copyFrom_9 hown hK hP (by omega) (by omega) (hts _ lk_X9_copyFrom_55) hI hR hS (by omega) dX9_copyFrom_53 (fun σ11 H11 locs11 u11 v11 hR hP hS => ?_)
  have hF := hF.puts u11 0 rfl (by omega) (by omega) (by decide) (by decide)
  have t12 : (σ11 k0 4).toInt = (σ8 k0 4).toInt := congrArg Int32.toInt (u11 k0 4 (by omega))
  have t13 : (σ11 k0 5).toInt = (σ8 k0 5).toInt := congrArg Int32.toInt (u11 k0 5 (by omega))
  refine lv_aload_n hx hb dX9_copyFrom_56 rfl (lv_at hl 1 rfl) ?_
  refine fg_9_7 (k := k1) hx hb hts in_X9_copyFrom_9 hown hK hP (by omega) (by omega) (hts _ lk_X9_copyFrom_9) dX9_copyFrom_57 ?_
  refine r_iconst hx hb dX9_copyFrom_60 (by decide) (fun z14 ez14 => ?_)
  refine lv_aload_n hx hb dX9_copyFrom_61 rfl (lv_at hl 0 rfl) ?_
  refine fg_9_7 (k := k0) hx hb hts in_X9_copyFrom_9 hown hK hP (by omega) (by omega) (hts _ lk_X9_copyFrom_9) dX9_copyFrom_62 ?_
  refine r_iconst hx hb dX9_copyFrom_65 (by decide) (fun z15 ez15 => ?_)
  refine r_bipush hx hb dX9_copyFrom_66 (by decide) (fun z16 ez16 => ?_)
  refine cp_vnames (k := k0 + 38) (q := k1 + 38) hx hb (by rw [hml]; exact hl.1.symm) hown (hts _ lk_X9_copyFrom_58) (hts _ cn_X9_copyFrom) (hts _ cs_X9_copyFrom) (hts _ ci_X9_copyFrom) hK hP hI hS (by omega) (by omega) (by omega) (by omega) (by omega) (by omega) (by omega) (by decide) (Nat.le_of_ble_eq_true rfl) dX9_copyFrom_68 (fun τ17 H17 locs17 hP hS => ?_)
  refine lv_aload_n hx hb dX9_copyFrom_71 rfl (lv_at hl 1 rfl) ?_
  refine fg_9_8 (k := k1) hx hb hts in_X9_copyFrom_9 hown hK hP (by omega) (by omega) (hts _ lk_X9_copyFrom_15) dX9_copyFrom_72 ?_
  refine r_iconst hx hb dX9_copyFrom_75 (by decide) (fun z18 ez18 => ?_)
  refine lv_aload_n hx hb dX9_copyFrom_76 rfl (lv_at hl 0 rfl) ?_
  refine fg_9_8 (k := k0) hx hb hts in_X9_copyFrom_9 hown hK hP (by omega) (by omega) (hts _ lk_X9_copyFrom_15) dX9_copyFrom_77 ?_
  refine r_iconst hx hb dX9_copyFrom_80 (by decide) (fun z19 ez19 => ?_)
  refine r_bipush hx hb dX9_copyFrom_81 (by decide) (fun z20 ez20 => ?_)
  refine cp_vnames (k := k0 + 42) (q := k1 + 42) hx hb (by rw [hml]; exact hl.1.symm) hown (hts _ lk_X9_copyFrom_58) (hts _ cn_X9_copyFrom) (hts _ cs_X9_copyFrom) (hts _ ci_X9_copyFrom) hK hP hI hS (by omega) (by omega) (by omega) (by omega) (by omega) (by omega) (by omega) (by decide) (Nat.le_of_ble_eq_true rfl) dX9_copyFrom_83 (fun τ21 H21 locs21 hP hS => ?_)
  refine lv_aload_n hx hb dX9_copyFrom_86 rfl (lv_at hl 1 rfl) ?_
  refine fg_9_13 (k := k1) hx hb hts in_X9_copyFrom_9 hown hK hP (by omega) (by omega) (hts _ lk_X9_copyFrom_32) dX9_copyFrom_87 ?_
  refine r_iconst hx hb dX9_copyFrom_90 (by decide) (fun z22 ez22 => ?_)
  refine lv_aload_n hx hb dX9_copyFrom_91 rfl (lv_at hl 0 rfl) ?_
  refine fg_9_13 (k := k0) hx hb hts in_X9_copyFrom_9 hown hK hP (by omega) (by omega) (hts _ lk_X9_copyFrom_32) dX9_copyFrom_92 ?_
  refine r_iconst hx hb dX9_copyFrom_95 (by decide) (fun z23 ez23 => ?_)
  refine r_bipush hx hb dX9_copyFrom_96 (by decide) (fun z24 ez24 => ?_)
  refine cp_echo (k := k0 + 62) (q := k1 + 62) hx hb (by rw [hml]; exact hl.1.symm) hown (hts _ lk_X9_copyFrom_58) (hts _ cn_X9_copyFrom) (hts _ cs_X9_copyFrom) (hts _ ci_X9_copyFrom) hK hP hI hR hS (by omega) (by omega) (by omega) (by omega) (by omega) (by omega) (by omega) (by decide) (Nat.le_of_ble_eq_true rfl) dX9_copyFrom_98 (fun σ25 H25 locs25 u25 hR hP hS => ?_)
  have hF := hF.row u25 1 rfl (by omega) (by omega) (by decide) (by decide)
  have t26 : (σ25 k0 4).toInt = (σ11 k0 4).toInt := congrArg Int32.toInt (u25 k0 4 (by omega))
  have t27 : (σ25 k0 5).toInt = (σ11 k0 5).toInt := congrArg Int32.toInt (u25 k0 5 (by omega))
  have t28 : (σ25 k0 6).toInt = (σ11 k0 6).toInt := congrArg Int32.toInt (u25 k0 6 (by omega))
  refine lv_aload_n hx hb dX9_copyFrom_101 rfl (lv_at hl 1 rfl) ?_
  refine fg_9_9 (k := k1) hx hb hts in_X9_copyFrom_9 hown hK hP (by omega) (by omega) (hts _ lk_X9_copyFrom_20) dX9_copyFrom_102 ?_
  refine lv_aload_n hx hb dX9_copyFrom_105 rfl (lv_at hl 0 rfl) ?_
  refine fg_9_9 (k := k0) hx hb hts in_X9_copyFrom_9 hown hK hP (by omega) (by omega) (hts _ lk_X9_copyFrom_20) dX9_copyFrom_106 ?_
  refine lv_aload_n hx hb dX9_copyFrom_109 rfl (lv_at hl 0 rfl) ?_
  refine fg_9_4 (k := k0) hx hb hts in_X9_copyFrom_9 hown hK hP (by omega) (by omega) (hts _ lk_X9_copyFrom_49) dX9_copyFrom_110 ?_
  refine r_cSv (As := [.ref (ad (k1 + 46)), .ref (ad (k0 + 46)), .int (σ25 k0 4)]) (rest := []) ⟨hx, hb, hml, hown, hts⟩ hK hP hN hS (c_X9_copyRows_hillA_hillA l D cA ad hI σ25 τ21 hR (k1 + 46) (k0 + 46) (σ25 k0 4) ⟨by omega, by omega⟩ ⟨by omega, by omega⟩ (by omega)) (va_cwS 3 hts gX9_copyFrom_X9_copyRows rfl rfl rfl (by decide +kernel) ⟨by decide, by decide⟩) rfl hl.1 rfl (Nat.le_of_ble_eq_true rfl) dX9_copyFrom_113 (Nat.zero_le _) (Nat.zero_le _) (fun u29 H29 locs29 hp29 hP hS => ?_)
  obtain ⟨σ29, τ29⟩ := u29
  obtain ⟨hR, f29⟩ : P_X9_copyRows_hillA_hillA σ25 (k1 + 46) (k0 + 46) (σ25 k0 4) σ29 := hp29
  have hP : va_P D vwCl (gw cA ad σ29 τ29) H29 := hP
  have hF := hF.step f29 (by decide)
  have t30 : (σ29 k0 4).toInt = (σ25 k0 4).toInt := congrArg Int32.toInt (f29.atV k0 4 (by intro q hq; simp only [L_X9_copyRows_hillA_hillA, List.mem_cons, List.not_mem_nil, or_false] at hq; rcases hq with rfl <;> dsimp only <;> omega))
  have t31 : (σ29 k0 5).toInt = (σ25 k0 5).toInt := congrArg Int32.toInt (f29.atV k0 5 (by intro q hq; simp only [L_X9_copyRows_hillA_hillA, List.mem_cons, List.not_mem_nil, or_false] at hq; rcases hq with rfl <;> dsimp only <;> omega))
  have t32 : (σ29 k0 6).toInt = (σ25 k0 6).toInt := congrArg Int32.toInt (f29.atV k0 6 (by intro q hq; simp only [L_X9_copyRows_hillA_hillA, List.mem_cons, List.not_mem_nil, or_false] at hq; rcases hq with rfl <;> dsimp only <;> omega))
  refine lv_aload_n hx hb dX9_copyFrom_116 rfl (lv_at hl 1 rfl) ?_
  refine fg_9_10 (k := k1) hx hb hts in_X9_copyFrom_9 hown hK hP (by omega) (by omega) (hts _ lk_X9_copyFrom_23) dX9_copyFrom_117 ?_
  refine lv_aload_n hx hb dX9_copyFrom_120 rfl (lv_at hl 0 rfl) ?_
  refine fg_9_10 (k := k0) hx hb hts in_X9_copyFrom_9 hown hK hP (by omega) (by omega) (hts _ lk_X9_copyFrom_23) dX9_copyFrom_121 ?_
  refine lv_aload_n hx hb dX9_copyFrom_124 rfl (lv_at hl 0 rfl) ?_
  refine fg_9_5 (k := k0) hx hb hts in_X9_copyFrom_9 hown hK hP (by omega) (by omega) (hts _ lk_X9_copyFrom_52) dX9_copyFrom_125 ?_
  refine r_cSv (As := [.ref (ad (k1 + 50)), .ref (ad (k0 + 50)), .int (σ29 k0 5)]) (rest := []) ⟨hx, hb, hml, hown, hts⟩ hK hP hN hS (c_X9_copyRows_manA_manA l D cA ad hI σ29 τ29 hR (k1 + 50) (k0 + 50) (σ29 k0 5) ⟨by omega, by omega⟩ ⟨by omega, by omega⟩ (by omega)) (va_cwS 3 hts gX9_copyFrom_X9_copyRows rfl rfl rfl (by decide +kernel) ⟨by decide, by decide⟩) rfl hl.1 rfl (Nat.le_of_ble_eq_true rfl) dX9_copyFrom_128 (Nat.zero_le _) (Nat.zero_le _) (fun u33 H33 locs33 hp33 hP hS => ?_)
  obtain ⟨σ33, τ33⟩ := u33
  obtain ⟨hR, f33⟩ : P_X9_copyRows_manA_manA σ29 (k1 + 50) (k0 + 50) (σ29 k0 5) σ33 := hp33
  have hP : va_P D vwCl (gw cA ad σ33 τ33) H33 := hP
  have hF := hF.step f33 (by decide)
  have t34 : (σ33 k0 4).toInt = (σ29 k0 4).toInt := congrArg Int32.toInt (f33.atV k0 4 (by intro q hq; simp only [L_X9_copyRows_manA_manA, List.mem_cons, List.not_mem_nil, or_false] at hq; rcases hq with rfl <;> dsimp only <;> omega))
  have t35 : (σ33 k0 5).toInt = (σ29 k0 5).toInt := congrArg Int32.toInt (f33.atV k0 5 (by intro q hq; simp only [L_X9_copyRows_manA_manA, List.mem_cons, List.not_mem_nil, or_false] at hq; rcases hq with rfl <;> dsimp only <;> omega))
  have t36 : (σ33 k0 6).toInt = (σ29 k0 6).toInt := congrArg Int32.toInt (f33.atV k0 6 (by intro q hq; simp only [L_X9_copyRows_manA_manA, List.mem_cons, List.not_mem_nil, or_false] at hq; rcases hq with rfl <;> dsimp only <;> omega))
  refine lv_aload_n hx hb dX9_copyFrom_131 rfl (lv_at hl 1 rfl) ?_
  refine fg_9_11 (k := k1) hx hb hts in_X9_copyFrom_9 hown hK hP (by omega) (by omega) (hts _ lk_X9_copyFrom_26) dX9_copyFrom_132 ?_
  refine lv_aload_n hx hb dX9_copyFrom_135 rfl (lv_at hl 0 rfl) ?_
  refine fg_9_11 (k := k0) hx hb hts in_X9_copyFrom_9 hown hK hP (by omega) (by omega) (hts _ lk_X9_copyFrom_26) dX9_copyFrom_136 ?_
  refine lv_aload_n hx hb dX9_copyFrom_139 rfl (lv_at hl 0 rfl) ?_
  refine fg_9_6 (k := k0) hx hb hts in_X9_copyFrom_9 hown hK hP (by omega) (by omega) (hts _ lk_X9_copyFrom_55) dX9_copyFrom_140 ?_
  refine r_cSv (As := [.ref (ad (k1 + 54)), .ref (ad (k0 + 54)), .int (σ33 k0 6)]) (rest := []) ⟨hx, hb, hml, hown, hts⟩ hK hP hN hS (c_X9_copyRows_flightA_flightA l D cA ad hI σ33 τ33 hR (k1 + 54) (k0 + 54) (σ33 k0 6) ⟨by omega, by omega⟩ ⟨by omega, by omega⟩ (by omega)) (va_cwS 3 hts gX9_copyFrom_X9_copyRows rfl rfl rfl (by decide +kernel) ⟨by decide, by decide⟩) rfl hl.1 rfl (Nat.le_of_ble_eq_true rfl) dX9_copyFrom_143 (Nat.zero_le _) (Nat.zero_le _) (fun u37 H37 locs37 hp37 hP hS => ?_)
  obtain ⟨σ37, τ37⟩ := u37
  obtain ⟨hR, f37⟩ : P_X9_copyRows_flightA_flightA σ33 (k1 + 54) (k0 + 54) (σ33 k0 6) σ37 := hp37
  have hP : va_P D vwCl (gw cA ad σ37 τ37) H37 := hP
  have hF := hF.step f37 (by decide)
  have t38 : (σ37 k0 4).toInt = (σ33 k0 4).toInt := congrArg Int32.toInt (f37.atV k0 4 (by intro q hq; simp only [L_X9_copyRows_flightA_flightA, List.mem_cons, List.not_mem_nil, or_false] at hq; rcases hq with rfl <;> dsimp only <;> omega))
  have t39 : (σ37 k0 5).toInt = (σ33 k0 5).toInt := congrArg Int32.toInt (f37.atV k0 5 (by intro q hq; simp only [L_X9_copyRows_flightA_flightA, List.mem_cons, List.not_mem_nil, or_false] at hq; rcases hq with rfl <;> dsimp only <;> omega))
  have t40 : (σ37 k0 6).toInt = (σ33 k0 6).toInt := congrArg Int32.toInt (f37.atV k0 6 (by intro q hq; simp only [L_X9_copyRows_flightA_flightA, List.mem_cons, List.not_mem_nil, or_false] at hq; rcases hq with rfl <;> dsimp only <;> omega))
  refine lv_aload_n hx hb dX9_copyFrom_146 rfl (lv_at hl 1 rfl) ?_
  refine fg_9_12 (k := k1) hx hb hts in_X9_copyFrom_9 hown hK hP (by omega) (by omega) (hts _ lk_X9_copyFrom_29) dX9_copyFrom_147 ?_
  refine lv_aload_n hx hb dX9_copyFrom_150 rfl (lv_at hl 0 rfl) ?_
  refine fg_9_12 (k := k0) hx hb hts in_X9_copyFrom_9 hown hK hP (by omega) (by omega) (hts _ lk_X9_copyFrom_29) dX9_copyFrom_151 ?_
  refine lv_aload_n hx hb dX9_copyFrom_154 rfl (lv_at hl 0 rfl) ?_
  refine fg_9_6 (k := k0) hx hb hts in_X9_copyFrom_9 hown hK hP (by omega) (by omega) (hts _ lk_X9_copyFrom_55) dX9_copyFrom_155 ?_
  refine r_bipush hx hb dX9_copyFrom_158 (by decide) (fun z41 ez41 => ?_)
  refine r_imulR (n := 10) hx hb dX9_copyFrom_160 (by omega) (by omega) (fun z42 ez42 => ?_)
  refine r_cSv (As := [.ref (ad (k1 + 58)), .ref (ad (k0 + 58)), .int z42]) (rest := []) ⟨hx, hb, hml, hown, hts⟩ hK hP hN hS (c_X9_copyRows_callA_callA l D cA ad hI σ37 τ37 hR (k1 + 58) (k0 + 58) z42 ⟨by omega, by omega⟩ ⟨by omega, by omega⟩ (by omega)) (va_cwS 3 hts gX9_copyFrom_X9_copyRows rfl rfl rfl (by decide +kernel) ⟨by decide, by decide⟩) rfl hl.1 rfl (Nat.le_of_ble_eq_true rfl) dX9_copyFrom_161 (Nat.zero_le _) (Nat.zero_le _) (fun u43 H43 locs43 hp43 hP hS => ?_)
  obtain ⟨σ43, τ43⟩ := u43
  obtain ⟨hR, f43⟩ : P_X9_copyRows_callA_callA σ37 (k1 + 58) (k0 + 58) z42 σ43 := hp43
  have hP : va_P D vwCl (gw cA ad σ43 τ43) H43 := hP
  have hF := hF.step f43 (by decide)
  have t44 : (σ43 k0 4).toInt = (σ37 k0 4).toInt := congrArg Int32.toInt (f43.atV k0 4 (by intro q hq; simp only [L_X9_copyRows_callA_callA, List.mem_cons, List.not_mem_nil, or_false] at hq; rcases hq with rfl <;> dsimp only <;> omega))
  have t45 : (σ43 k0 5).toInt = (σ37 k0 5).toInt := congrArg Int32.toInt (f43.atV k0 5 (by intro q hq; simp only [L_X9_copyRows_callA_callA, List.mem_cons, List.not_mem_nil, or_false] at hq; rcases hq with rfl <;> dsimp only <;> omega))
  have t46 : (σ43 k0 6).toInt = (σ37 k0 6).toInt := congrArg Int32.toInt (f43.atV k0 6 (by intro q hq; simp only [L_X9_copyRows_callA_callA, List.mem_cons, List.not_mem_nil, or_false] at hq; rcases hq with rfl <;> dsimp only <;> omega))
  exact r_vret hx hb hr hK hP hS hk dX9_copyFrom_164 (show P_X9_copyFrom σ0 k0 k1 σ43 from ⟨hR, hF⟩)
theorem in_X2_menOn_2 : ∀ w ∈ u_ws RX2 TX2 7, w ∈ wsX2_menOn := by decide +kernel
theorem lk_X2_menOn_9 : Cond.fieldLink RX2 9 "CuckooShares$Days" "hill" "[I" ∈ wsX2_menOn := by decide +kernel
abbrev L_X2_menOn : List Rc := []
def P_X2_menOn (σ0 : Nat → Nat → Int32) (a1 : Int32) (a2 : Int32) (r : Int32) (σ : Nat → Nat → Int32) : Prop := Rg σ ∧ Fr L_X2_menOn σ0 σ
def J_X2_menOn_5 (p : Program) (l : Launch) (e : Env) (s : State) (m : MethodId) (args : Array Value) (below : List Frame) (meth : Method) (c : Code) (D : va_G) (cA : Nat → ClassId) (ad : Nat → Nat) (σ0 : Nat → Nat → Int32) (a1 : Int32) (a2 : Int32) (n : Nat) : Prop := ∀ (σ : Nat → Nat → Int32) (τ : Nat → Nat → Int64) (H : Heap) (locs : List Loc) (x3 : Int32) (x4 : Int32) (ls : Array Slot), Rg σ → Fr L_X2_menOn σ0 σ → va_P D vwCl (gw cA ad σ τ) H → va_S (AA ad) s.heap H locs → (0 ≤ x4.toInt ∧ x4.toInt ≤ 8) → lv_has ls 5 [(0, .ref (ad 7)), (1, .int a1), (2, .int a2), (3, .int x3), (4, .int x4)] → 2 * (8 - x4.toInt) + 1 < (n : Int) → W p l e ({ frames := 0, cells := 0, slots := 0, locals := 0 } : Room) s m args below meth c H locs 0 0 (MQ below (va_Qi (fun (r : Int32) (u : SS) => P_X2_menOn σ0 a1 a2 r u.1) (WB D cA ad) (AA ad)) args s 0 0 (AA ad)) (F0 m 5 ls [])
set_option maxHeartbeats 4000000 in
theorem B_X2_menOn_5 (p : Program) (l : Launch) (e : Env) (s : State) (m : MethodId) (args : Array Value) (below : List Frame) (meth : Method) (c : Code) (D : va_G) (cA : Nat → ClassId) (ad : Nat → Nat) (σ0 : Nat → Nat → Int32) (a1 : Int32) (a2 : Int32) (n : Nat) (C : Cy p s m args meth c cX2_menOn 5 wsX2_menOn RX2 D cA ad (some .int)) (ha2 : 0 ≤ a2.toInt ∧ a2.toInt ≤ 8) (K5 : J_X2_menOn_5 p l e s m args below meth c D cA ad σ0 a1 a2 n) : J_X2_menOn_5 p l e s m args below meth c D cA ad σ0 a1 a2 (n + 1) := by
  obtain ⟨hx, hb, hml, hown, hts, hK, hk, hr, hI, hN⟩ := C
  intro σ τ H locs x3 x4 ls hR hF hP hS hc0 hl hm
  obtain rfl := Fr.nil hF
  refine lv_iload hx hb dX2_menOn_5 (lv_at hl 4 rfl) ?_
  refine lv_iload_n hx hb dX2_menOn_7 rfl (lv_at hl 2 rfl) ?_
  refine r_icmp_ge (tgt := 35) hx hb dX2_menOn_8 (by decide) (fun c1 => ?_) (fun c1 => ?_)
  · refine lv_iload_n hx hb dX2_menOn_35 rfl (lv_at hl 3 rfl) ?_
    exact r_iret hx hb hr hK hP hS hk dX2_menOn_36 (show P_X2_menOn σ0 a1 a2 x3 σ0 from ⟨hR, hF⟩)
  · refine lv_aload_n hx hb dX2_menOn_11 rfl (lv_at hl 0 rfl) ?_
    refine fg_2_3 (k := 7) hx hb hts in_X2_menOn_2 hown hK hP (by decide) (by decide) (hts _ lk_X2_menOn_9) dX2_menOn_12 ?_
    refine lv_iload hx hb dX2_menOn_15 (lv_at hl 4 rfl) ?_
    obtain ⟨j2, ej2⟩ : ∃ j : Nat, x4.toInt = (j : Int) := ⟨_, ti_nat (by omega)⟩
    refine ad_days8 (k := 308) (j := j2) hx hb hK hP (by decide) (by decide) ej2 (by omega) dX2_menOn_17 ?_
    refine lv_iload_n hx hb dX2_menOn_18 rfl (lv_at hl 1 rfl) ?_
    refine r_icmp_ne (tgt := 29) hx hb dX2_menOn_19 (by decide) (fun c3 => ?_) (fun c3 => ?_)
    · refine r_iinc (k := 4) (lv1 := fun z4 => [(4, .int z4), (0, .ref (ad 7)), (1, .int a1), (2, .int a2), (3, .int x3)]) hx hb dX2_menOn_29 hl rfl (by decide) (fun _ => rfl) (by decide) (by omega) (fun z4 ls ez4 hl => ?_)
      refine lv_goto (tgt := 5) hx hb dX2_menOn_32 (by decide) ?_
      exact K5 σ0 τ H locs x3 z4 ls hR hF hP hS (by omega) (lv_sub hl [1, 2, 3, 4, 0] rfl) (by omega)
    · refine lv_iload_n hx hb dX2_menOn_22 rfl (lv_at hl 3 rfl) ?_
      refine r_iconst hx hb dX2_menOn_23 (by decide) (fun z5 ez5 => ?_)
      refine lv_iload hx hb dX2_menOn_24 (lv_at hl 4 rfl) ?_
      refine r_ishlU hx hb dX2_menOn_26 (fun z6 => ?_)
      refine r_iorU hx hb dX2_menOn_27 (fun z7 => ?_)
      refine lv_istore_n (lv' := [(3, .int z7), (0, .ref (ad 7)), (1, .int a1), (2, .int a2), (4, .int x4)]) hx hb dX2_menOn_28 rfl hl (by decide) rfl (fun ls hl => ?_)
      refine r_iinc (k := 4) (lv1 := fun z8 => [(4, .int z8), (3, .int z7), (0, .ref (ad 7)), (1, .int a1), (2, .int a2)]) hx hb dX2_menOn_29 hl rfl (by decide) (fun _ => rfl) (by decide) (by omega) (fun z8 ls ez8 hl => ?_)
      refine lv_goto (tgt := 5) hx hb dX2_menOn_32 (by decide) ?_
      exact K5 σ0 τ H locs z7 z8 ls hR hF hP hS (by omega) (lv_sub hl [2, 3, 4, 1, 0] rfl) (by omega)
theorem A_X2_menOn (p : Program) (l : Launch) (e : Env) (s : State) (m : MethodId) (args : Array Value) (below : List Frame) (meth : Method) (c : Code) (D : va_G) (cA : Nat → ClassId) (ad : Nat → Nat) (σ0 : Nat → Nat → Int32) (a1 : Int32) (a2 : Int32) (C : Cy p s m args meth c cX2_menOn 5 wsX2_menOn RX2 D cA ad (some .int)) (ha2 : 0 ≤ a2.toInt ∧ a2.toInt ≤ 8) : ∀ n : Nat, J_X2_menOn_5 p l e s m args below meth c D cA ad σ0 a1 a2 n := by
  intro n
  induction n with
  | zero =>
    exact (by intro σ τ H locs x3 x4 ls hR hF hP hS hc0 hl hm; exfalso; omega)
  | succ n ih =>
    exact B_X2_menOn_5 p l e s m args below meth c D cA ad σ0 a1 a2 n C ha2 ih
set_option maxHeartbeats 4000000 in
theorem c_X2_menOn (l : Launch) (D : va_G) (cA : Nat → ClassId) (ad : Nat → Nat) (hI : Inj ad) (σ0 : Nat → Nat → Int32) (τ0 : Nat → Nat → Int64) (hR : Rg σ0) (a1 : Int32) (a2 : Int32) (ha2 : 0 ≤ a2.toInt ∧ a2.toInt ≤ 8) : Met l yX2_menOn wsX2_menOn ({ frames := 0, cells := 0, slots := 0, locals := 0 } : Room) (WQc D cA ad [.ref (ad 7), .int a1, .int a2] σ0 τ0) (va_Qi (fun (r : Int32) (u : SS) => P_X2_menOn σ0 a1 a2 r u.1) (WB D cA ad) (AA ad)) 0 0 (AA ad) := by
  refine Met.ofW (cc := cX2_menOn) (maxL := 5) (ret := (some .int)) (by decide) rfl ?_
  intro p e s m args below meth c s₁ B hml hv
  obtain ⟨rfl, hP, hK, hN⟩ := hv
  have C : Cy p s m _ meth c cX2_menOn 5 wsX2_menOn RX2 D cA ad (some .int) := ⟨B.exec, B.bytes, hml, findClass_of_methodNamed B.named, atoms_spec (ws := wsX2_menOn) B.pre, hK, B.notSynchronized, B.returns, hI, hN⟩
  have hl := lv_entry ([.ref (ad 7), .int a1, .int a2]) (n := 5) (Nat.le_of_ble_eq_true rfl)
  rw [lg_entry_eq]
  generalize (lg_sl ([.ref (ad 7), .int a1, .int a2]) ++ List.replicate (5 - (lg_sl ([.ref (ad 7), .int a1, .int a2])).length) Slot.unset).toArray = ls at hl ⊢
  have hl : lv_has ls 5 [(0, .ref (ad 7)), (1, .int a1), (2, .int a2)] := hl
  have hS : va_S (AA ad) s.heap s.heap [] := va_S.rf
  have hF : Fr L_X2_menOn σ0 σ0 := Fr.rf
  have hA := A_X2_menOn p l e s m _ below meth c D cA ad σ0 a1 a2 C ha2 42
  have K5 := hA
  clear hA
  obtain ⟨hx, hb, _, hown, hts, _, hk, hr, _, _⟩ := C
  refine r_iconst hx hb dX2_menOn_0 (by decide) (fun z1 ez1 => ?_)
  refine lv_istore_n (lv' := [(3, .int z1), (0, .ref (ad 7)), (1, .int a1), (2, .int a2)]) hx hb dX2_menOn_1 rfl hl (by decide) rfl (fun ls hl => ?_)
  refine r_iconst hx hb dX2_menOn_2 (by decide) (fun z2 ez2 => ?_)
  refine lv_istore (lv' := [(4, .int z2), (3, .int z1), (0, .ref (ad 7)), (1, .int a1), (2, .int a2)]) hx hb dX2_menOn_3 hl (by decide) rfl (fun ls hl => ?_)
  exact K5 σ0 τ0 s.heap [] z1 z2 ls hR hF hP hS (by omega) (lv_sub hl [2, 3, 4, 1, 0] rfl) (by omega)
theorem in_X9_hasHill_9 : ∀ w ∈ u_ws RX9 TX9 14, w ∈ wsX9_hasHill := by decide +kernel
theorem lk_X9_hasHill_49 : Cond.fieldLink RX9 49 "CuckooShares$Valley" "hills" "I" ∈ wsX9_hasHill := by decide +kernel
abbrev L_X9_hasHill : List Rc := []
def P_X9_hasHill (σ0 : Nat → Nat → Int32) (k0 : Nat) (a1 : Int32) (r : Int32) (σ : Nat → Nat → Int32) : Prop := Rg σ ∧ Fr L_X9_hasHill σ0 σ ∧ (0 ≤ r.toInt ∧ r.toInt ≤ 1) ∧ (r.toInt = 0 ∨ (r.toInt = 1 ∧ 0 ≤ a1.toInt ∧ a1.toInt < (σ0 k0 4).toInt ∧ a1.toInt ≤ 7))
set_option maxHeartbeats 4000000 in
theorem c_X9_hasHill (l : Launch) (D : va_G) (cA : Nat → ClassId) (ad : Nat → Nat) (hI : Inj ad) (σ0 : Nat → Nat → Int32) (τ0 : Nat → Nat → Int64) (hR : Rg σ0) (k0 : Nat) (a1 : Int32) (hk0 : 2 ≤ k0 ∧ k0 ≤ 5) : Met l yX9_hasHill wsX9_hasHill ({ frames := 0, cells := 0, slots := 0, locals := 0 } : Room) (WQc D cA ad [.ref (ad k0), .int a1] σ0 τ0) (va_Qi (fun (r : Int32) (u : SS) => P_X9_hasHill σ0 k0 a1 r u.1) (WB D cA ad) (AA ad)) 0 0 (AA ad) := by
  refine Met.ofW (cc := cX9_hasHill) (maxL := 2) (ret := (some .boolean)) (by decide) rfl ?_
  intro p e s m args below meth c s₁ B hml hv
  obtain ⟨rfl, hP, hK, hN⟩ := hv
  have C : Cy p s m _ meth c cX9_hasHill 2 wsX9_hasHill RX9 D cA ad (some .boolean) := ⟨B.exec, B.bytes, hml, findClass_of_methodNamed B.named, atoms_spec (ws := wsX9_hasHill) B.pre, hK, B.notSynchronized, B.returns, hI, hN⟩
  have hl := lv_entry ([.ref (ad k0), .int a1]) (n := 2) (Nat.le_of_ble_eq_true rfl)
  rw [lg_entry_eq]
  generalize (lg_sl ([.ref (ad k0), .int a1]) ++ List.replicate (2 - (lg_sl ([.ref (ad k0), .int a1])).length) Slot.unset).toArray = ls at hl ⊢
  have hl : lv_has ls 2 [(0, .ref (ad k0)), (1, .int a1)] := hl
  have hS : va_S (AA ad) s.heap s.heap [] := va_S.rf
  have hF : Fr L_X9_hasHill σ0 σ0 := Fr.rf
  obtain ⟨hx, hb, _, hown, hts, _, hk, hr, _, _⟩ := C
  refine lv_iload_n hx hb dX9_hasHill_0 rfl (lv_at hl 1 rfl) ?_
  refine r_if_lt (tgt := 16) hx hb dX9_hasHill_1 (by decide) (fun c1 => ?_) (fun c1 => ?_)
  · refine r_iconst hx hb dX9_hasHill_16 (by decide) (fun z2 ez2 => ?_)
    exact r_zret hx hb hr hK hP hS hk (by omega) dX9_hasHill_17 (show P_X9_hasHill σ0 k0 a1 z2 σ0 from ⟨hR, hF, by omega, by omega⟩)
  · refine lv_iload_n hx hb dX9_hasHill_4 rfl (lv_at hl 1 rfl) ?_
    refine lv_aload_n hx hb dX9_hasHill_5 rfl (lv_at hl 0 rfl) ?_
    refine fg_9_4 (k := k0) hx hb hts in_X9_hasHill_9 hown hK hP (by omega) (by omega) (hts _ lk_X9_hasHill_49) dX9_hasHill_6 ?_
    have hr3 := rg_9_4 hR (k := k0) (by omega) (by omega)
    refine r_icmp_ge (tgt := 16) hx hb dX9_hasHill_9 (by decide) (fun c4 => ?_) (fun c4 => ?_)
    · refine r_iconst hx hb dX9_hasHill_16 (by decide) (fun z5 ez5 => ?_)
      exact r_zret hx hb hr hK hP hS hk (by omega) dX9_hasHill_17 (show P_X9_hasHill σ0 k0 a1 z5 σ0 from ⟨hR, hF, by omega, by omega⟩)
    · refine r_iconst hx hb dX9_hasHill_12 (by decide) (fun z6 ez6 => ?_)
      refine lv_goto (tgt := 17) hx hb dX9_hasHill_13 (by decide) ?_
      exact r_zret hx hb hr hK hP hS hk (by omega) dX9_hasHill_17 (show P_X9_hasHill σ0 k0 a1 z6 σ0 from ⟨hR, hF, by omega, by omega⟩)
theorem in_X9_side_9 : ∀ w ∈ u_ws RX9 TX9 14, w ∈ wsX9_side := by decide +kernel
theorem lk_X9_side_36 : Cond.fieldLink RX9 36 "CuckooShares$Valley" "ridge" "I" ∈ wsX9_side := by decide +kernel
abbrev L_X9_side : List Rc := []
def P_X9_side (σ0 : Nat → Nat → Int32) (a1 : Int32) (r : Int32) (σ : Nat → Nat → Int32) : Prop := Rg σ ∧ Fr L_X9_side σ0 σ ∧ (0 ≤ r.toInt ∧ r.toInt ≤ 1)
set_option maxHeartbeats 4000000 in
theorem c_X9_side (l : Launch) (D : va_G) (cA : Nat → ClassId) (ad : Nat → Nat) (hI : Inj ad) (σ0 : Nat → Nat → Int32) (τ0 : Nat → Nat → Int64) (hR : Rg σ0) (a1 : Int32)  : Met l yX9_side wsX9_side ({ frames := 0, cells := 0, slots := 0, locals := 0 } : Room) (WQc D cA ad [.ref (ad 2), .int a1] σ0 τ0) (va_Qi (fun (r : Int32) (u : SS) => P_X9_side σ0 a1 r u.1) (WB D cA ad) (AA ad)) 0 0 (AA ad) := by
  refine Met.ofW (cc := cX9_side) (maxL := 2) (ret := (some .int)) (by decide) rfl ?_
  intro p e s m args below meth c s₁ B hml hv
  obtain ⟨rfl, hP, hK, hN⟩ := hv
  have C : Cy p s m _ meth c cX9_side 2 wsX9_side RX9 D cA ad (some .int) := ⟨B.exec, B.bytes, hml, findClass_of_methodNamed B.named, atoms_spec (ws := wsX9_side) B.pre, hK, B.notSynchronized, B.returns, hI, hN⟩
  have hl := lv_entry ([.ref (ad 2), .int a1]) (n := 2) (Nat.le_of_ble_eq_true rfl)
  rw [lg_entry_eq]
  generalize (lg_sl ([.ref (ad 2), .int a1]) ++ List.replicate (2 - (lg_sl ([.ref (ad 2), .int a1])).length) Slot.unset).toArray = ls at hl ⊢
  have hl : lv_has ls 2 [(0, .ref (ad 2)), (1, .int a1)] := hl
  have hS : va_S (AA ad) s.heap s.heap [] := va_S.rf
  have hF : Fr L_X9_side σ0 σ0 := Fr.rf
  obtain ⟨hx, hb, _, hown, hts, _, hk, hr, _, _⟩ := C
  refine lv_iload_n hx hb dX9_side_0 rfl (lv_at hl 1 rfl) ?_
  refine lv_aload_n hx hb dX9_side_1 rfl (lv_at hl 0 rfl) ?_
  refine fg_9_0 (k := 2) hx hb hts in_X9_side_9 hown hK hP (by decide) (by decide) (hts _ lk_X9_side_36) dX9_side_2 ?_
  refine r_icmp_le (tgt := 12) hx hb dX9_side_5 (by decide) (fun c1 => ?_) (fun c1 => ?_)
  · refine r_iconst hx hb dX9_side_12 (by decide) (fun z2 ez2 => ?_)
    exact r_iret hx hb hr hK hP hS hk dX9_side_13 (show P_X9_side σ0 a1 z2 σ0 from ⟨hR, hF, by omega⟩)
  · refine r_iconst hx hb dX9_side_8 (by decide) (fun z3 ez3 => ?_)
    refine lv_goto (tgt := 13) hx hb dX9_side_9 (by decide) ?_
    exact r_iret hx hb hr hK hP hS hk dX9_side_13 (show P_X9_side σ0 a1 z3 σ0 from ⟨hR, hF, by omega⟩)
theorem in_X9_hasFlight_9 : ∀ w ∈ u_ws RX9 TX9 14, w ∈ wsX9_hasFlight := by decide +kernel
theorem lk_X9_hasFlight_55 : Cond.fieldLink RX9 55 "CuckooShares$Valley" "flights" "I" ∈ wsX9_hasFlight := by decide +kernel
abbrev L_X9_hasFlight : List Rc := []
def P_X9_hasFlight (σ0 : Nat → Nat → Int32) (k0 : Nat) (a1 : Int32) (r : Int32) (σ : Nat → Nat → Int32) : Prop := Rg σ ∧ Fr L_X9_hasFlight σ0 σ ∧ (0 ≤ r.toInt ∧ r.toInt ≤ 1) ∧ (r.toInt = 0 ∨ (r.toInt = 1 ∧ 0 ≤ a1.toInt ∧ a1.toInt < (σ0 k0 6).toInt ∧ a1.toInt ≤ 3))
set_option maxHeartbeats 4000000 in
theorem c_X9_hasFlight (l : Launch) (D : va_G) (cA : Nat → ClassId) (ad : Nat → Nat) (hI : Inj ad) (σ0 : Nat → Nat → Int32) (τ0 : Nat → Nat → Int64) (hR : Rg σ0) (k0 : Nat) (a1 : Int32) (hk0 : 2 ≤ k0 ∧ k0 ≤ 5) : Met l yX9_hasFlight wsX9_hasFlight ({ frames := 0, cells := 0, slots := 0, locals := 0 } : Room) (WQc D cA ad [.ref (ad k0), .int a1] σ0 τ0) (va_Qi (fun (r : Int32) (u : SS) => P_X9_hasFlight σ0 k0 a1 r u.1) (WB D cA ad) (AA ad)) 0 0 (AA ad) := by
  refine Met.ofW (cc := cX9_hasFlight) (maxL := 2) (ret := (some .boolean)) (by decide) rfl ?_
  intro p e s m args below meth c s₁ B hml hv
  obtain ⟨rfl, hP, hK, hN⟩ := hv
  have C : Cy p s m _ meth c cX9_hasFlight 2 wsX9_hasFlight RX9 D cA ad (some .boolean) := ⟨B.exec, B.bytes, hml, findClass_of_methodNamed B.named, atoms_spec (ws := wsX9_hasFlight) B.pre, hK, B.notSynchronized, B.returns, hI, hN⟩
  have hl := lv_entry ([.ref (ad k0), .int a1]) (n := 2) (Nat.le_of_ble_eq_true rfl)
  rw [lg_entry_eq]
  generalize (lg_sl ([.ref (ad k0), .int a1]) ++ List.replicate (2 - (lg_sl ([.ref (ad k0), .int a1])).length) Slot.unset).toArray = ls at hl ⊢
  have hl : lv_has ls 2 [(0, .ref (ad k0)), (1, .int a1)] := hl
  have hS : va_S (AA ad) s.heap s.heap [] := va_S.rf
  have hF : Fr L_X9_hasFlight σ0 σ0 := Fr.rf
  obtain ⟨hx, hb, _, hown, hts, _, hk, hr, _, _⟩ := C
  refine lv_iload_n hx hb dX9_hasFlight_0 rfl (lv_at hl 1 rfl) ?_
  refine r_if_lt (tgt := 16) hx hb dX9_hasFlight_1 (by decide) (fun c1 => ?_) (fun c1 => ?_)
  · refine r_iconst hx hb dX9_hasFlight_16 (by decide) (fun z2 ez2 => ?_)
    exact r_zret hx hb hr hK hP hS hk (by omega) dX9_hasFlight_17 (show P_X9_hasFlight σ0 k0 a1 z2 σ0 from ⟨hR, hF, by omega, by omega⟩)
  · refine lv_iload_n hx hb dX9_hasFlight_4 rfl (lv_at hl 1 rfl) ?_
    refine lv_aload_n hx hb dX9_hasFlight_5 rfl (lv_at hl 0 rfl) ?_
    refine fg_9_6 (k := k0) hx hb hts in_X9_hasFlight_9 hown hK hP (by omega) (by omega) (hts _ lk_X9_hasFlight_55) dX9_hasFlight_6 ?_
    have hr3 := rg_9_6 hR (k := k0) (by omega) (by omega)
    refine r_icmp_ge (tgt := 16) hx hb dX9_hasFlight_9 (by decide) (fun c4 => ?_) (fun c4 => ?_)
    · refine r_iconst hx hb dX9_hasFlight_16 (by decide) (fun z5 ez5 => ?_)
      exact r_zret hx hb hr hK hP hS hk (by omega) dX9_hasFlight_17 (show P_X9_hasFlight σ0 k0 a1 z5 σ0 from ⟨hR, hF, by omega, by omega⟩)
    · refine r_iconst hx hb dX9_hasFlight_12 (by decide) (fun z6 ez6 => ?_)
      refine lv_goto (tgt := 17) hx hb dX9_hasFlight_13 (by decide) ?_
      exact r_zret hx hb hr hK hP hS hk (by omega) dX9_hasFlight_17 (show P_X9_hasFlight σ0 k0 a1 z6 σ0 from ⟨hR, hF, by omega, by omega⟩)
theorem in_X9_hasCall_9 : ∀ w ∈ u_ws RX9 TX9 14, w ∈ wsX9_hasCall := by decide +kernel
theorem lk_X9_hasCall_26 : Cond.fieldLink RX9 26 "CuckooShares$Valley" "flight" "[[I" ∈ wsX9_hasCall := by decide +kernel
abbrev L_X9_hasCall : List Rc := []
def P_X9_hasCall (σ0 : Nat → Nat → Int32) (k0 : Nat) (a1 : Int32) (a2 : Int32) (r : Int32) (σ : Nat → Nat → Int32) : Prop := Rg σ ∧ Fr L_X9_hasCall σ0 σ ∧ (0 ≤ r.toInt ∧ r.toInt ≤ 1) ∧ (r.toInt = 0 ∨ (r.toInt = 1 ∧ 0 ≤ a1.toInt ∧ a1.toInt ≤ 3 ∧ 0 ≤ a2.toInt ∧ a2.toInt ≤ 9))
set_option maxHeartbeats 4000000 in
theorem c_X9_hasCall (l : Launch) (D : va_G) (cA : Nat → ClassId) (ad : Nat → Nat) (hI : Inj ad) (σ0 : Nat → Nat → Int32) (τ0 : Nat → Nat → Int64) (hR : Rg σ0) (k0 : Nat) (a1 : Int32) (a2 : Int32) (hk0 : 2 ≤ k0 ∧ k0 ≤ 5) : Met l yX9_hasCall wsX9_hasCall ({ frames := 1, cells := 0, slots := 0, locals := 21 } : Room) (WQc D cA ad [.ref (ad k0), .int a1, .int a2] σ0 τ0) (va_Qi (fun (r : Int32) (u : SS) => P_X9_hasCall σ0 k0 a1 a2 r u.1) (WB D cA ad) (AA ad)) 0 0 (AA ad) := by
  refine Met.ofW (cc := cX9_hasCall) (maxL := 3) (ret := (some .boolean)) (by decide) rfl ?_
  intro p e s m args below meth c s₁ B hml hv
  obtain ⟨rfl, hP, hK, hN⟩ := hv
  have C : Cy p s m _ meth c cX9_hasCall 3 wsX9_hasCall RX9 D cA ad (some .boolean) := ⟨B.exec, B.bytes, hml, findClass_of_methodNamed B.named, atoms_spec (ws := wsX9_hasCall) B.pre, hK, B.notSynchronized, B.returns, hI, hN⟩
  have hl := lv_entry ([.ref (ad k0), .int a1, .int a2]) (n := 3) (Nat.le_of_ble_eq_true rfl)
  rw [lg_entry_eq]
  generalize (lg_sl ([.ref (ad k0), .int a1, .int a2]) ++ List.replicate (3 - (lg_sl ([.ref (ad k0), .int a1, .int a2])).length) Slot.unset).toArray = ls at hl ⊢
  have hl : lv_has ls 3 [(0, .ref (ad k0)), (1, .int a1), (2, .int a2)] := hl
  have hS : va_S (AA ad) s.heap s.heap [] := va_S.rf
  have hF : Fr L_X9_hasCall σ0 σ0 := Fr.rf
  obtain ⟨hx, hb, _, hown, hts, _, hk, hr, _, _⟩ := C
  refine lv_aload_n hx hb dX9_hasCall_0 rfl (lv_at hl 0 rfl) ?_
  refine lv_iload_n hx hb dX9_hasCall_1 rfl (lv_at hl 1 rfl) ?_
  refine r_cVi (k := k0) (As := [.int a1]) (rest := []) ⟨hx, hb, hml, hown, hts⟩ hK hP hN hS (c_X9_hasFlight l D cA ad hI σ0 τ0 hR k0 a1 ⟨by omega, by omega⟩) (cwV 1 hts gX9_hasCall_X9_hasFlight rfl rfl rfl (by decide +kernel) ⟨by decide, by decide⟩) (rv_Valley hK hP (by omega) (by omega)) rfl hl.1 rfl (Nat.le_of_ble_eq_true rfl) dX9_hasCall_2 (Nat.zero_le _) (Nat.zero_le _) (fun r1 u1 H1 locs1 hp1 hP hS => ?_)
  obtain ⟨σ1, τ1⟩ := u1
  obtain ⟨hR, f1, hq1, hp1_0⟩ : P_X9_hasFlight σ0 k0 a1 r1 σ1 := hp1
  have hP : va_P D vwCl (gw cA ad σ1 τ1) H1 := hP
  obtain rfl := Fr.nil f1
  refine r_if_eq (tgt := 28) hx hb dX9_hasCall_5 (by decide) (fun c2 => ?_) (fun c2 => ?_)
  · refine r_iconst hx hb dX9_hasCall_28 (by decide) (fun z3 ez3 => ?_)
    exact r_zret hx hb hr hK hP hS hk (by omega) dX9_hasCall_29 (show P_X9_hasCall σ0 k0 a1 a2 z3 σ0 from ⟨hR, hF, by omega, by omega⟩)
  · refine lv_iload_n hx hb dX9_hasCall_8 rfl (lv_at hl 2 rfl) ?_
    refine r_if_lt (tgt := 28) hx hb dX9_hasCall_9 (by decide) (fun c4 => ?_) (fun c4 => ?_)
    · refine r_iconst hx hb dX9_hasCall_28 (by decide) (fun z5 ez5 => ?_)
      exact r_zret hx hb hr hK hP hS hk (by omega) dX9_hasCall_29 (show P_X9_hasCall σ0 k0 a1 a2 z5 σ0 from ⟨hR, hF, by omega, by omega⟩)
    · refine lv_iload_n hx hb dX9_hasCall_12 rfl (lv_at hl 2 rfl) ?_
      refine lv_aload_n hx hb dX9_hasCall_13 rfl (lv_at hl 0 rfl) ?_
      refine fg_9_11 (k := k0) hx hb hts in_X9_hasCall_9 hown hK hP (by omega) (by omega) (hts _ lk_X9_hasCall_26) dX9_hasCall_14 ?_
      refine lv_iload_n hx hb dX9_hasCall_17 rfl (lv_at hl 1 rfl) ?_
      obtain ⟨j6, ej6⟩ : ∃ j : Nat, a1.toInt = (j : Int) := ⟨_, ti_nat (by omega)⟩
      refine ad_flightA (k := k0 + 54) (j := j6) hx hb hK hP (by omega) (by omega) ej6 (by omega) dX9_hasCall_18 ?_
      refine r_iconst hx hb dX9_hasCall_19 (by decide) (fun z7 ez7 => ?_)
      refine ad_flightR (k := 4 * ((k0 + 54) - 56) + 132 + j6) (j := 2) hx hb hK hP (by omega) (by omega) (by omega) (by omega) dX9_hasCall_20 ?_
      have hr8 := ra_flightR_0 hR (k := 4 * ((k0 + 54) - 56) + 132 + j6) (j := 2) (by omega) (by omega) (by decide) (by decide)
      refine r_icmp_ge (tgt := 28) hx hb dX9_hasCall_21 (by decide) (fun c9 => ?_) (fun c9 => ?_)
      · refine r_iconst hx hb dX9_hasCall_28 (by decide) (fun z10 ez10 => ?_)
        exact r_zret hx hb hr hK hP hS hk (by omega) dX9_hasCall_29 (show P_X9_hasCall σ0 k0 a1 a2 z10 σ0 from ⟨hR, hF, by omega, by omega⟩)
      · refine r_iconst hx hb dX9_hasCall_24 (by decide) (fun z11 ez11 => ?_)
        refine lv_goto (tgt := 29) hx hb dX9_hasCall_25 (by decide) ?_
        exact r_zret hx hb hr hK hP hS hk (by omega) dX9_hasCall_29 (show P_X9_hasCall σ0 k0 a1 a2 z11 σ0 from ⟨hR, hF, by omega, by omega⟩)
theorem in_X0_past_0 : ∀ w ∈ u_ws RX0 TX0 3, w ∈ wsX0_past := by decide +kernel
theorem in_X0_past_2 : ∀ w ∈ u_ws RX2 TX2 7, w ∈ wsX0_past := by decide +kernel
theorem in_X0_past_9 : ∀ w ∈ u_ws RX9 TX9 14, w ∈ wsX0_past := by decide +kernel
theorem lk_X0_past_9 : Cond.fieldLink RX0 9 "CuckooShares$Acts" "valley" "LCuckooShares$Valley;" ∈ wsX0_past := by decide +kernel
abbrev L_X0_past : List Rc := []
def P_X0_past (σ0 : Nat → Nat → Int32) (k1 : Nat) (r : Int32) (σ : Nat → Nat → Int32) : Prop := Rg σ ∧ Fr L_X0_past σ0 σ ∧ (0 ≤ r.toInt ∧ r.toInt ≤ 10) ∧ (r.toInt = 0 ∨ (0 ≤ (σ0 k1 1).toInt ∧ (σ0 k1 1).toInt ≤ 3))
def J_X0_past_20 (p : Program) (l : Launch) (e : Env) (s : State) (m : MethodId) (args : Array Value) (below : List Frame) (meth : Method) (c : Code) (D : va_G) (cA : Nat → ClassId) (ad : Nat → Nat) (σ0 : Nat → Nat → Int32) (k1 : Nat) (n : Nat) : Prop := ∀ (σ : Nat → Nat → Int32) (τ : Nat → Nat → Int64) (H : Heap) (locs : List Loc) (x2 : Int32) (x3 : Int32) (ls : Array Slot), Rg σ → Fr L_X0_past σ0 σ → va_P D vwCl (gw cA ad σ τ) H → va_S (AA ad) s.heap H locs → (0 ≤ x2.toInt ∧ x2.toInt ≤ 3) → (0 ≤ x3.toInt ∧ x3.toInt ≤ 10) → (0 ≤ (σ k1 1).toInt ∧ (σ k1 1).toInt ≤ 3) → lv_has ls 4 [(0, .ref (ad 22)), (1, .ref (ad k1)), (2, .int x2), (3, .int x3)] → 2 * (10 - x3.toInt) + 1 < (n : Int) → W p l e ({ frames := 1, cells := 0, slots := 0, locals := 22 } : Room) s m args below meth c H locs 0 0 (MQ below (va_Qi (fun (r : Int32) (u : SS) => P_X0_past σ0 k1 r u.1) (WB D cA ad) (AA ad)) args s 0 0 (AA ad)) (F0 m 20 ls [])
set_option maxHeartbeats 4000000 in
theorem B_X0_past_20 (p : Program) (l : Launch) (e : Env) (s : State) (m : MethodId) (args : Array Value) (below : List Frame) (meth : Method) (c : Code) (D : va_G) (cA : Nat → ClassId) (ad : Nat → Nat) (σ0 : Nat → Nat → Int32) (k1 : Nat) (n : Nat) (C : Cy p s m args meth c cX0_past 4 wsX0_past RX0 D cA ad (some .int)) (hk1 : 7 ≤ k1 ∧ k1 ≤ 9) (K20 : J_X0_past_20 p l e s m args below meth c D cA ad σ0 k1 n) : J_X0_past_20 p l e s m args below meth c D cA ad σ0 k1 (n + 1) := by
  obtain ⟨hx, hb, hml, hown, hts, hK, hk, hr, hI, hN⟩ := C
  intro σ τ H locs x2 x3 ls hR hF hP hS hc0 hc1 hc2 hl hm
  obtain rfl := Fr.nil hF
  refine lv_iload_n hx hb dX0_past_20 rfl (lv_at hl 3 rfl) ?_
  refine lv_aload_n hx hb dX0_past_21 rfl (lv_at hl 0 rfl) ?_
  refine fg_0_0 (k := 22) hx hb hts in_X0_past_0 hown hK hP (by decide) (by decide) (hts _ lk_X0_past_9) dX0_past_22 ?_
  refine fgN_9_11 (k := 2) hx hb hts in_X0_past_9 hown hK hP (by decide) (by decide) (hN.use nw_0_31) dX0_past_25 ?_
  refine lv_iload_n hx hb dX0_past_28 rfl (lv_at hl 2 rfl) ?_
  obtain ⟨j1, ej1⟩ : ∃ j : Nat, x2.toInt = (j : Int) := ⟨_, ti_nat (by omega)⟩
  refine ad_flightA (k := 56) (j := j1) hx hb hK hP (by decide) (by decide) ej1 (by omega) dX0_past_29 ?_
  refine r_iconst hx hb dX0_past_30 (by decide) (fun z2 ez2 => ?_)
  refine ad_flightR (k := 132 + j1) (j := 2) hx hb hK hP (by omega) (by omega) (by omega) (by omega) dX0_past_31 ?_
  have hr3 := ra_flightR_0 hR (k := 132 + j1) (j := 2) (by omega) (by omega) (by decide) (by decide)
  refine r_icmp_ge (tgt := 59) hx hb dX0_past_32 (by decide) (fun c4 => ?_) (fun c4 => ?_)
  · refine lv_iload_n hx hb dX0_past_59 rfl (lv_at hl 3 rfl) ?_
    exact r_iret hx hb hr hK hP hS hk dX0_past_60 (show P_X0_past σ0 k1 x3 σ0 from ⟨hR, hF, by omega, by omega⟩)
  · refine lv_aload_n hx hb dX0_past_35 rfl (lv_at hl 0 rfl) ?_
    refine fg_0_0 (k := 22) hx hb hts in_X0_past_0 hown hK hP (by decide) (by decide) (hts _ lk_X0_past_9) dX0_past_36 ?_
    refine lv_iload_n hx hb dX0_past_39 rfl (lv_at hl 2 rfl) ?_
    refine lv_iload_n hx hb dX0_past_40 rfl (lv_at hl 3 rfl) ?_
    refine r_cVr (k := 2) (As := [.int x2, .int x3]) (rest := []) ⟨hx, hb, hml, hown, hts⟩ hK hP hN hS (c_X9_callRow l D cA ad hI σ0 τ hR 2 x2 x3 ⟨by omega, by omega⟩ (by omega) (by omega)) (cwV 2 hts gX0_past_X9_callRow rfl rfl rfl (by decide +kernel) ⟨by decide, by decide⟩) (rv_Valley hK hP (by decide) (by decide)) rfl hl.1 rfl (Nat.le_of_ble_eq_true rfl) dX0_past_41 (Nat.zero_le _) (Nat.zero_le _) (fun r5 u5 H5 locs5 hp5 hP hS => ?_)
    obtain ⟨σ5, τ5⟩ := u5
    obtain ⟨hR, f5, hq5⟩ : P_X9_callRow ad σ0 2 x2 x3 r5 σ5 := hp5
    have hP : va_P D vwCl (gw cA ad σ5 τ5) H5 := hP
    obtain rfl := Fr.nil f5
    obtain ⟨q5, rfl, hq5a, hq5b⟩ := hq5
    refine r_iconst hx hb dX0_past_44 (by decide) (fun z6 ez6 => ?_)
    refine ad_callR (k := q5) (j := 0) hx hb hK hP (by omega) (by omega) (by omega) (by omega) dX0_past_45 ?_
    refine lv_aload_n hx hb dX0_past_46 rfl (lv_at hl 1 rfl) ?_
    refine fgN_2_2 (k := k1) hx hb hts in_X0_past_2 hown hK hP (by omega) (by omega) (hN.use nw_0_38) dX0_past_47 ?_
    refine r_icmp_gt (tgt := 59) hx hb dX0_past_50 (by decide) (fun c7 => ?_) (fun c7 => ?_)
    · refine lv_iload_n hx hb dX0_past_59 rfl (lv_at hl 3 rfl) ?_
      exact r_iret hx hb hr hK hP hS hk dX0_past_60 (show P_X0_past σ0 k1 x3 σ0 from ⟨hR, hF, by omega, by omega⟩)
    · refine r_iinc (k := 3) (lv1 := fun z8 => [(3, .int z8), (0, .ref (ad 22)), (1, .ref (ad k1)), (2, .int x2)]) hx hb dX0_past_53 hl rfl (by decide) (fun _ => rfl) (by decide) (by omega) (fun z8 ls ez8 hl => ?_)
      refine lv_goto (tgt := 20) hx hb dX0_past_56 (by decide) ?_
      exact K20 σ0 τ5 H5 locs5 x2 z8 ls hR hF hP hS (by omega) (by omega) (by omega) (lv_sub hl [1, 2, 3, 0] rfl) (by omega)
theorem A_X0_past (p : Program) (l : Launch) (e : Env) (s : State) (m : MethodId) (args : Array Value) (below : List Frame) (meth : Method) (c : Code) (D : va_G) (cA : Nat → ClassId) (ad : Nat → Nat) (σ0 : Nat → Nat → Int32) (k1 : Nat) (C : Cy p s m args meth c cX0_past 4 wsX0_past RX0 D cA ad (some .int)) (hk1 : 7 ≤ k1 ∧ k1 ≤ 9) : ∀ n : Nat, J_X0_past_20 p l e s m args below meth c D cA ad σ0 k1 n := by
  intro n
  induction n with
  | zero =>
    exact (by intro σ τ H locs x2 x3 ls hR hF hP hS hc0 hc1 hc2 hl hm; exfalso; omega)
  | succ n ih =>
    exact B_X0_past_20 p l e s m args below meth c D cA ad σ0 k1 n C hk1 ih
set_option maxHeartbeats 4000000 in
theorem c_X0_past (l : Launch) (D : va_G) (cA : Nat → ClassId) (ad : Nat → Nat) (hI : Inj ad) (σ0 : Nat → Nat → Int32) (τ0 : Nat → Nat → Int64) (hR : Rg σ0) (k1 : Nat) (hk1 : 7 ≤ k1 ∧ k1 ≤ 9) : Met l yX0_past wsX0_past ({ frames := 1, cells := 0, slots := 0, locals := 22 } : Room) (WQc D cA ad [.ref (ad 22), .ref (ad k1)] σ0 τ0) (va_Qi (fun (r : Int32) (u : SS) => P_X0_past σ0 k1 r u.1) (WB D cA ad) (AA ad)) 0 0 (AA ad) := by
  refine Met.ofW (cc := cX0_past) (maxL := 4) (ret := (some .int)) (by decide) rfl ?_
  intro p e s m args below meth c s₁ B hml hv
  obtain ⟨rfl, hP, hK, hN⟩ := hv
  have C : Cy p s m _ meth c cX0_past 4 wsX0_past RX0 D cA ad (some .int) := ⟨B.exec, B.bytes, hml, findClass_of_methodNamed B.named, atoms_spec (ws := wsX0_past) B.pre, hK, B.notSynchronized, B.returns, hI, hN⟩
  have hl := lv_entry ([.ref (ad 22), .ref (ad k1)]) (n := 4) (Nat.le_of_ble_eq_true rfl)
  rw [lg_entry_eq]
  generalize (lg_sl ([.ref (ad 22), .ref (ad k1)]) ++ List.replicate (4 - (lg_sl ([.ref (ad 22), .ref (ad k1)])).length) Slot.unset).toArray = ls at hl ⊢
  have hl : lv_has ls 4 [(0, .ref (ad 22)), (1, .ref (ad k1))] := hl
  have hS : va_S (AA ad) s.heap s.heap [] := va_S.rf
  have hF : Fr L_X0_past σ0 σ0 := Fr.rf
  have hA := A_X0_past p l e s m _ below meth c D cA ad σ0 k1 C hk1 50
  have K20 := hA
  clear hA
  obtain ⟨hx, hb, _, hown, hts, _, hk, hr, _, _⟩ := C
  refine lv_aload_n hx hb dX0_past_0 rfl (lv_at hl 1 rfl) ?_
  refine fgN_2_1 (k := k1) hx hb hts in_X0_past_2 hown hK hP (by omega) (by omega) (hN.use nw_0_19) dX0_past_1 ?_
  refine lv_istore_n (lv' := [(2, .int (σ0 k1 1)), (0, .ref (ad 22)), (1, .ref (ad k1))]) hx hb dX0_past_4 rfl hl (by decide) rfl (fun ls hl => ?_)
  refine lv_aload_n hx hb dX0_past_5 rfl (lv_at hl 1 rfl) ?_
  refine fg_0_0 (k := 22) hx hb hts in_X0_past_0 hown hK hP (by decide) (by decide) (hts _ lk_X0_past_9) dX0_past_6 ?_
  refine lv_iload_n hx hb dX0_past_9 rfl (lv_at hl 0 rfl) ?_
  refine r_cVi (k := 2) (As := [.int (σ0 k1 1)]) (rest := []) ⟨hx, hb, hml, hown, hts⟩ hK hP hN hS (c_X9_hasFlight l D cA ad hI σ0 τ0 hR 2 (σ0 k1 1) ⟨by omega, by omega⟩) (cwV 1 hts gX0_past_X9_hasFlight rfl rfl rfl (by decide +kernel) ⟨by decide, by decide⟩) (rv_Valley hK hP (by decide) (by decide)) rfl hl.1 rfl (Nat.le_of_ble_eq_true rfl) dX0_past_10 (Nat.zero_le _) (Nat.zero_le _) (fun r1 u1 H1 locs1 hp1 hP hS => ?_)
  obtain ⟨σ1, τ1⟩ := u1
  obtain ⟨hR, f1, hq1, hp1_0⟩ : P_X9_hasFlight σ0 2 (σ0 k1 1) r1 σ1 := hp1
  have hP : va_P D vwCl (gw cA ad σ1 τ1) H1 := hP
  obtain rfl := Fr.nil f1
  refine r_if_ne (tgt := 18) hx hb dX0_past_13 (by decide) (fun c2 => ?_) (fun c2 => ?_)
  · refine r_iconst hx hb dX0_past_18 (by decide) (fun z3 ez3 => ?_)
    refine lv_istore_n (lv' := [(3, .int z3), (2, .int (σ0 k1 1)), (0, .ref (ad 22)), (1, .ref (ad k1))]) hx hb dX0_past_19 rfl hl (by decide) rfl (fun ls hl => ?_)
    exact K20 σ0 τ1 H1 locs1 (σ0 k1 1) z3 ls hR hF hP hS (by omega) (by omega) (by omega) (lv_sub hl [2, 3, 1, 0] rfl) (by omega)
  · refine r_iconst hx hb dX0_past_16 (by decide) (fun z4 ez4 => ?_)
    exact r_iret hx hb hr hK hP hS hk dX0_past_17 (show P_X0_past σ0 k1 z4 σ0 from ⟨hR, hF, by omega, by omega⟩)
theorem in_X2_allCoins_2 : ∀ w ∈ u_ws RX2 TX2 7, w ∈ wsX2_allCoins := by decide +kernel
theorem lk_X2_allCoins_15 : Cond.fieldLink RX2 15 "CuckooShares$Days" "coins" "[I" ∈ wsX2_allCoins := by decide +kernel
abbrev L_X2_allCoins : List Rc := []
def P_X2_allCoins (σ0 : Nat → Nat → Int32) (a1 : Int32) (r : Int32) (σ : Nat → Nat → Int32) : Prop := Rg σ ∧ Fr L_X2_allCoins σ0 σ
def J_X2_allCoins_4 (p : Program) (l : Launch) (e : Env) (s : State) (m : MethodId) (args : Array Value) (below : List Frame) (meth : Method) (c : Code) (D : va_G) (cA : Nat → ClassId) (ad : Nat → Nat) (σ0 : Nat → Nat → Int32) (a1 : Int32) (n : Nat) : Prop := ∀ (σ : Nat → Nat → Int32) (τ : Nat → Nat → Int64) (H : Heap) (locs : List Loc) (x2 : Int32) (x3 : Int32) (ls : Array Slot), Rg σ → Fr L_X2_allCoins σ0 σ → va_P D vwCl (gw cA ad σ τ) H → va_S (AA ad) s.heap H locs → (0 ≤ x3.toInt ∧ x3.toInt ≤ 8) → lv_has ls 4 [(0, .ref (ad 7)), (1, .int a1), (2, .int x2), (3, .int x3)] → 2 * (8 - x3.toInt) + 1 < (n : Int) → W p l e ({ frames := 0, cells := 0, slots := 0, locals := 0 } : Room) s m args below meth c H locs 0 0 (MQ below (va_Qi (fun (r : Int32) (u : SS) => P_X2_allCoins σ0 a1 r u.1) (WB D cA ad) (AA ad)) args s 0 0 (AA ad)) (F0 m 4 ls [])
set_option maxHeartbeats 4000000 in
theorem B_X2_allCoins_4 (p : Program) (l : Launch) (e : Env) (s : State) (m : MethodId) (args : Array Value) (below : List Frame) (meth : Method) (c : Code) (D : va_G) (cA : Nat → ClassId) (ad : Nat → Nat) (σ0 : Nat → Nat → Int32) (a1 : Int32) (n : Nat) (C : Cy p s m args meth c cX2_allCoins 4 wsX2_allCoins RX2 D cA ad (some .int)) (ha1 : 0 ≤ a1.toInt ∧ a1.toInt ≤ 8) (K4 : J_X2_allCoins_4 p l e s m args below meth c D cA ad σ0 a1 n) : J_X2_allCoins_4 p l e s m args below meth c D cA ad σ0 a1 (n + 1) := by
  obtain ⟨hx, hb, hml, hown, hts, hK, hk, hr, hI, hN⟩ := C
  intro σ τ H locs x2 x3 ls hR hF hP hS hc0 hl hm
  obtain rfl := Fr.nil hF
  refine lv_iload_n hx hb dX2_allCoins_4 rfl (lv_at hl 3 rfl) ?_
  refine lv_iload_n hx hb dX2_allCoins_5 rfl (lv_at hl 1 rfl) ?_
  refine r_icmp_ge (tgt := 24) hx hb dX2_allCoins_6 (by decide) (fun c1 => ?_) (fun c1 => ?_)
  · refine lv_iload_n hx hb dX2_allCoins_24 rfl (lv_at hl 2 rfl) ?_
    exact r_iret hx hb hr hK hP hS hk dX2_allCoins_25 (show P_X2_allCoins σ0 a1 x2 σ0 from ⟨hR, hF⟩)
  · refine lv_iload_n hx hb dX2_allCoins_9 rfl (lv_at hl 2 rfl) ?_
    refine lv_aload_n hx hb dX2_allCoins_10 rfl (lv_at hl 0 rfl) ?_
    refine fg_2_4 (k := 7) hx hb hts in_X2_allCoins_2 hown hK hP (by decide) (by decide) (hts _ lk_X2_allCoins_15) dX2_allCoins_11 ?_
    refine lv_iload_n hx hb dX2_allCoins_14 rfl (lv_at hl 3 rfl) ?_
    obtain ⟨j2, ej2⟩ : ∃ j : Nat, x3.toInt = (j : Int) := ⟨_, ti_nat (by omega)⟩
    refine ad_days8 (k := 321) (j := j2) hx hb hK hP (by decide) (by decide) ej2 (by omega) dX2_allCoins_15 ?_
    refine r_iaddU hx hb dX2_allCoins_16 (fun z3 => ?_)
    refine lv_istore_n (lv' := [(2, .int z3), (0, .ref (ad 7)), (1, .int a1), (3, .int x3)]) hx hb dX2_allCoins_17 rfl hl (by decide) rfl (fun ls hl => ?_)
    refine r_iinc (k := 3) (lv1 := fun z4 => [(3, .int z4), (2, .int z3), (0, .ref (ad 7)), (1, .int a1)]) hx hb dX2_allCoins_18 hl rfl (by decide) (fun _ => rfl) (by decide) (by omega) (fun z4 ls ez4 hl => ?_)
    refine lv_goto (tgt := 4) hx hb dX2_allCoins_21 (by decide) ?_
    exact K4 σ0 τ H locs z3 z4 ls hR hF hP hS (by omega) (lv_sub hl [2, 3, 1, 0] rfl) (by omega)
theorem A_X2_allCoins (p : Program) (l : Launch) (e : Env) (s : State) (m : MethodId) (args : Array Value) (below : List Frame) (meth : Method) (c : Code) (D : va_G) (cA : Nat → ClassId) (ad : Nat → Nat) (σ0 : Nat → Nat → Int32) (a1 : Int32) (C : Cy p s m args meth c cX2_allCoins 4 wsX2_allCoins RX2 D cA ad (some .int)) (ha1 : 0 ≤ a1.toInt ∧ a1.toInt ≤ 8) : ∀ n : Nat, J_X2_allCoins_4 p l e s m args below meth c D cA ad σ0 a1 n := by
  intro n
  induction n with
  | zero =>
    exact (by intro σ τ H locs x2 x3 ls hR hF hP hS hc0 hl hm; exfalso; omega)
  | succ n ih =>
    exact B_X2_allCoins_4 p l e s m args below meth c D cA ad σ0 a1 n C ha1 ih
set_option maxHeartbeats 4000000 in
theorem c_X2_allCoins (l : Launch) (D : va_G) (cA : Nat → ClassId) (ad : Nat → Nat) (hI : Inj ad) (σ0 : Nat → Nat → Int32) (τ0 : Nat → Nat → Int64) (hR : Rg σ0) (a1 : Int32) (ha1 : 0 ≤ a1.toInt ∧ a1.toInt ≤ 8) : Met l yX2_allCoins wsX2_allCoins ({ frames := 0, cells := 0, slots := 0, locals := 0 } : Room) (WQc D cA ad [.ref (ad 7), .int a1] σ0 τ0) (va_Qi (fun (r : Int32) (u : SS) => P_X2_allCoins σ0 a1 r u.1) (WB D cA ad) (AA ad)) 0 0 (AA ad) := by
  refine Met.ofW (cc := cX2_allCoins) (maxL := 4) (ret := (some .int)) (by decide) rfl ?_
  intro p e s m args below meth c s₁ B hml hv
  obtain ⟨rfl, hP, hK, hN⟩ := hv
  have C : Cy p s m _ meth c cX2_allCoins 4 wsX2_allCoins RX2 D cA ad (some .int) := ⟨B.exec, B.bytes, hml, findClass_of_methodNamed B.named, atoms_spec (ws := wsX2_allCoins) B.pre, hK, B.notSynchronized, B.returns, hI, hN⟩
  have hl := lv_entry ([.ref (ad 7), .int a1]) (n := 4) (Nat.le_of_ble_eq_true rfl)
  rw [lg_entry_eq]
  generalize (lg_sl ([.ref (ad 7), .int a1]) ++ List.replicate (4 - (lg_sl ([.ref (ad 7), .int a1])).length) Slot.unset).toArray = ls at hl ⊢
  have hl : lv_has ls 4 [(0, .ref (ad 7)), (1, .int a1)] := hl
  have hS : va_S (AA ad) s.heap s.heap [] := va_S.rf
  have hF : Fr L_X2_allCoins σ0 σ0 := Fr.rf
  have hA := A_X2_allCoins p l e s m _ below meth c D cA ad σ0 a1 C ha1 42
  have K4 := hA
  clear hA
  obtain ⟨hx, hb, _, hown, hts, _, hk, hr, _, _⟩ := C
  refine r_iconst hx hb dX2_allCoins_0 (by decide) (fun z1 ez1 => ?_)
  refine lv_istore_n (lv' := [(2, .int z1), (0, .ref (ad 7)), (1, .int a1)]) hx hb dX2_allCoins_1 rfl hl (by decide) rfl (fun ls hl => ?_)
  refine r_iconst hx hb dX2_allCoins_2 (by decide) (fun z2 ez2 => ?_)
  refine lv_istore_n (lv' := [(3, .int z2), (2, .int z1), (0, .ref (ad 7)), (1, .int a1)]) hx hb dX2_allCoins_3 rfl hl (by decide) rfl (fun ls hl => ?_)
  exact K4 σ0 τ0 s.heap [] z1 z2 ls hR hF hP hS (by omega) (lv_sub hl [2, 3, 1, 0] rfl) (by omega)
theorem in_X2_allStores_2 : ∀ w ∈ u_ws RX2 TX2 7, w ∈ wsX2_allStores := by decide +kernel
theorem lk_X2_allStores_21 : Cond.fieldLink RX2 21 "CuckooShares$Days" "store" "[I" ∈ wsX2_allStores := by decide +kernel
abbrev L_X2_allStores : List Rc := []
def P_X2_allStores (σ0 : Nat → Nat → Int32) (k0 : Nat) (a1 : Int32) (r : Int32) (σ : Nat → Nat → Int32) : Prop := Rg σ ∧ Fr L_X2_allStores σ0 σ
def J_X2_allStores_4 (p : Program) (l : Launch) (e : Env) (s : State) (m : MethodId) (args : Array Value) (below : List Frame) (meth : Method) (c : Code) (D : va_G) (cA : Nat → ClassId) (ad : Nat → Nat) (σ0 : Nat → Nat → Int32) (k0 : Nat) (a1 : Int32) (n : Nat) : Prop := ∀ (σ : Nat → Nat → Int32) (τ : Nat → Nat → Int64) (H : Heap) (locs : List Loc) (x2 : Int32) (x3 : Int32) (ls : Array Slot), Rg σ → Fr L_X2_allStores σ0 σ → va_P D vwCl (gw cA ad σ τ) H → va_S (AA ad) s.heap H locs → (0 ≤ x3.toInt ∧ x3.toInt ≤ 8) → lv_has ls 4 [(0, .ref (ad k0)), (1, .int a1), (2, .int x2), (3, .int x3)] → 2 * (8 - x3.toInt) + 1 < (n : Int) → W p l e ({ frames := 0, cells := 0, slots := 0, locals := 0 } : Room) s m args below meth c H locs 0 0 (MQ below (va_Qi (fun (r : Int32) (u : SS) => P_X2_allStores σ0 k0 a1 r u.1) (WB D cA ad) (AA ad)) args s 0 0 (AA ad)) (F0 m 4 ls [])
set_option maxHeartbeats 4000000 in
theorem B_X2_allStores_4 (p : Program) (l : Launch) (e : Env) (s : State) (m : MethodId) (args : Array Value) (below : List Frame) (meth : Method) (c : Code) (D : va_G) (cA : Nat → ClassId) (ad : Nat → Nat) (σ0 : Nat → Nat → Int32) (k0 : Nat) (a1 : Int32) (n : Nat) (C : Cy p s m args meth c cX2_allStores 4 wsX2_allStores RX2 D cA ad (some .int)) (hk0 : 7 ≤ k0 ∧ k0 ≤ 9) (ha1 : 0 ≤ a1.toInt ∧ a1.toInt ≤ 8) (K4 : J_X2_allStores_4 p l e s m args below meth c D cA ad σ0 k0 a1 n) : J_X2_allStores_4 p l e s m args below meth c D cA ad σ0 k0 a1 (n + 1) := by
  obtain ⟨hx, hb, hml, hown, hts, hK, hk, hr, hI, hN⟩ := C
  intro σ τ H locs x2 x3 ls hR hF hP hS hc0 hl hm
  obtain rfl := Fr.nil hF
  refine lv_iload_n hx hb dX2_allStores_4 rfl (lv_at hl 3 rfl) ?_
  refine lv_iload_n hx hb dX2_allStores_5 rfl (lv_at hl 1 rfl) ?_
  refine r_icmp_ge (tgt := 24) hx hb dX2_allStores_6 (by decide) (fun c1 => ?_) (fun c1 => ?_)
  · refine lv_iload_n hx hb dX2_allStores_24 rfl (lv_at hl 2 rfl) ?_
    exact r_iret hx hb hr hK hP hS hk dX2_allStores_25 (show P_X2_allStores σ0 k0 a1 x2 σ0 from ⟨hR, hF⟩)
  · refine lv_iload_n hx hb dX2_allStores_9 rfl (lv_at hl 2 rfl) ?_
    refine lv_aload_n hx hb dX2_allStores_10 rfl (lv_at hl 0 rfl) ?_
    refine fg_2_6 (k := k0) hx hb hts in_X2_allStores_2 hown hK hP (by omega) (by omega) (hts _ lk_X2_allStores_21) dX2_allStores_11 ?_
    refine lv_iload_n hx hb dX2_allStores_14 rfl (lv_at hl 3 rfl) ?_
    obtain ⟨j2, ej2⟩ : ∃ j : Nat, x3.toInt = (j : Int) := ⟨_, ti_nat (by omega)⟩
    refine ad_days8 (k := k0 + 340) (j := j2) hx hb hK hP (by omega) (by omega) ej2 (by omega) dX2_allStores_15 ?_
    refine r_iaddU hx hb dX2_allStores_16 (fun z3 => ?_)
    refine lv_istore_n (lv' := [(2, .int z3), (0, .ref (ad k0)), (1, .int a1), (3, .int x3)]) hx hb dX2_allStores_17 rfl hl (by decide) rfl (fun ls hl => ?_)
    refine r_iinc (k := 3) (lv1 := fun z4 => [(3, .int z4), (2, .int z3), (0, .ref (ad k0)), (1, .int a1)]) hx hb dX2_allStores_18 hl rfl (by decide) (fun _ => rfl) (by decide) (by omega) (fun z4 ls ez4 hl => ?_)
    refine lv_goto (tgt := 4) hx hb dX2_allStores_21 (by decide) ?_
    exact K4 σ0 τ H locs z3 z4 ls hR hF hP hS (by omega) (lv_sub hl [2, 3, 1, 0] rfl) (by omega)
theorem A_X2_allStores (p : Program) (l : Launch) (e : Env) (s : State) (m : MethodId) (args : Array Value) (below : List Frame) (meth : Method) (c : Code) (D : va_G) (cA : Nat → ClassId) (ad : Nat → Nat) (σ0 : Nat → Nat → Int32) (k0 : Nat) (a1 : Int32) (C : Cy p s m args meth c cX2_allStores 4 wsX2_allStores RX2 D cA ad (some .int)) (hk0 : 7 ≤ k0 ∧ k0 ≤ 9) (ha1 : 0 ≤ a1.toInt ∧ a1.toInt ≤ 8) : ∀ n : Nat, J_X2_allStores_4 p l e s m args below meth c D cA ad σ0 k0 a1 n := by
  intro n
  induction n with
  | zero =>
    exact (by intro σ τ H locs x2 x3 ls hR hF hP hS hc0 hl hm; exfalso; omega)
  | succ n ih =>
    exact B_X2_allStores_4 p l e s m args below meth c D cA ad σ0 k0 a1 n C hk0 ha1 ih
set_option maxHeartbeats 4000000 in
theorem c_X2_allStores (l : Launch) (D : va_G) (cA : Nat → ClassId) (ad : Nat → Nat) (hI : Inj ad) (σ0 : Nat → Nat → Int32) (τ0 : Nat → Nat → Int64) (hR : Rg σ0) (k0 : Nat) (a1 : Int32) (hk0 : 7 ≤ k0 ∧ k0 ≤ 9) (ha1 : 0 ≤ a1.toInt ∧ a1.toInt ≤ 8) : Met l yX2_allStores wsX2_allStores ({ frames := 0, cells := 0, slots := 0, locals := 0 } : Room) (WQc D cA ad [.ref (ad k0), .int a1] σ0 τ0) (va_Qi (fun (r : Int32) (u : SS) => P_X2_allStores σ0 k0 a1 r u.1) (WB D cA ad) (AA ad)) 0 0 (AA ad) := by
  refine Met.ofW (cc := cX2_allStores) (maxL := 4) (ret := (some .int)) (by decide) rfl ?_
  intro p e s m args below meth c s₁ B hml hv
  obtain ⟨rfl, hP, hK, hN⟩ := hv
  have C : Cy p s m _ meth c cX2_allStores 4 wsX2_allStores RX2 D cA ad (some .int) := ⟨B.exec, B.bytes, hml, findClass_of_methodNamed B.named, atoms_spec (ws := wsX2_allStores) B.pre, hK, B.notSynchronized, B.returns, hI, hN⟩
  have hl := lv_entry ([.ref (ad k0), .int a1]) (n := 4) (Nat.le_of_ble_eq_true rfl)
  rw [lg_entry_eq]
  generalize (lg_sl ([.ref (ad k0), .int a1]) ++ List.replicate (4 - (lg_sl ([.ref (ad k0), .int a1])).length) Slot.unset).toArray = ls at hl ⊢
  have hl : lv_has ls 4 [(0, .ref (ad k0)), (1, .int a1)] := hl
  have hS : va_S (AA ad) s.heap s.heap [] := va_S.rf
  have hF : Fr L_X2_allStores σ0 σ0 := Fr.rf
  have hA := A_X2_allStores p l e s m _ below meth c D cA ad σ0 k0 a1 C hk0 ha1 42
  have K4 := hA
  clear hA
  obtain ⟨hx, hb, _, hown, hts, _, hk, hr, _, _⟩ := C
  refine r_iconst hx hb dX2_allStores_0 (by decide) (fun z1 ez1 => ?_)
  refine lv_istore_n (lv' := [(2, .int z1), (0, .ref (ad k0)), (1, .int a1)]) hx hb dX2_allStores_1 rfl hl (by decide) rfl (fun ls hl => ?_)
  refine r_iconst hx hb dX2_allStores_2 (by decide) (fun z2 ez2 => ?_)
  refine lv_istore_n (lv' := [(3, .int z2), (2, .int z1), (0, .ref (ad k0)), (1, .int a1)]) hx hb dX2_allStores_3 rfl hl (by decide) rfl (fun ls hl => ?_)
  exact K4 σ0 τ0 s.heap [] z1 z2 ls hR hF hP hS (by omega) (lv_sub hl [2, 3, 1, 0] rfl) (by omega)
