theorem dfX0 : ∀ j, j < 3 → defaultValue (tyX0 j) = vp_V [.null, .null, .int 0] j := by intro j hj; rcases (show j = 0 ∨ j = 1 ∨ j = 2 by omega) with rfl | rfl | rfl <;> rfl
theorem dfX1 : ∀ j, j < 9 → defaultValue (tyX1 j) = vp_V [.null, .null, .null, .null, .null, .null, .null, .null, .null] j := by intro j hj; rcases (show j = 0 ∨ j = 1 ∨ j = 2 ∨ j = 3 ∨ j = 4 ∨ j = 5 ∨ j = 6 ∨ j = 7 ∨ j = 8 by omega) with rfl | rfl | rfl | rfl | rfl | rfl | rfl | rfl | rfl <;> rfl
theorem dfX2 : ∀ j, j < 7 → defaultValue (tyX2 j) = vp_V [.int 0, .int 0, .int 0, .null, .null, .null, .null] j := by intro j hj; rcases (show j = 0 ∨ j = 1 ∨ j = 2 ∨ j = 3 ∨ j = 4 ∨ j = 5 ∨ j = 6 by omega) with rfl | rfl | rfl | rfl | rfl | rfl | rfl <;> rfl
theorem dfX3 : ∀ j, j < 3 → defaultValue (tyX3 j) = vp_V [.null, .int 0, .int 0] j := by intro j hj; rcases (show j = 0 ∨ j = 1 ∨ j = 2 by omega) with rfl | rfl | rfl <;> rfl
theorem dfX4 : ∀ j, j < 4 → defaultValue (tyX4 j) = vp_V [.null, .null, .null, .int 0] j := by intro j hj; rcases (show j = 0 ∨ j = 1 ∨ j = 2 ∨ j = 3 by omega) with rfl | rfl | rfl | rfl <;> rfl
theorem dfX5 : ∀ j, j < 8 → defaultValue (tyX5 j) = vp_V [.null, .null, .null, .null, .null, .null, .int 0, .int 0] j := by intro j hj; rcases (show j = 0 ∨ j = 1 ∨ j = 2 ∨ j = 3 ∨ j = 4 ∨ j = 5 ∨ j = 6 ∨ j = 7 by omega) with rfl | rfl | rfl | rfl | rfl | rfl | rfl | rfl <;> rfl
theorem dfX6 : ∀ j, j < 7 → defaultValue (tyX6 j) = vp_V [.int 0, .int 0, .int 0, .null, .null, .null, .null] j := by intro j hj; rcases (show j = 0 ∨ j = 1 ∨ j = 2 ∨ j = 3 ∨ j = 4 ∨ j = 5 ∨ j = 6 by omega) with rfl | rfl | rfl | rfl | rfl | rfl | rfl <;> rfl
theorem dfX7 : ∀ j, j < 3 → defaultValue (tyX7 j) = vp_V [.null, .null, .null] j := by intro j hj; rcases (show j = 0 ∨ j = 1 ∨ j = 2 by omega) with rfl | rfl | rfl <;> rfl
theorem dfX8 : ∀ j, j < 15 → defaultValue (tyX8 j) = vp_V [.null, .null, .null, .null, .null, .int 0, .int 0, .int 0, .int 0, .int 0, .int 0, .long 0, .int 0, .int 0, .int 0] j := by intro j hj; rcases (show j = 0 ∨ j = 1 ∨ j = 2 ∨ j = 3 ∨ j = 4 ∨ j = 5 ∨ j = 6 ∨ j = 7 ∨ j = 8 ∨ j = 9 ∨ j = 10 ∨ j = 11 ∨ j = 12 ∨ j = 13 ∨ j = 14 by omega) with rfl | rfl | rfl | rfl | rfl | rfl | rfl | rfl | rfl | rfl | rfl | rfl | rfl | rfl | rfl <;> rfl
theorem dfX9 : ∀ j, j < 14 → defaultValue (tyX9 j) = vp_V [.int 0, .int 0, .int 0, .int 0, .int 0, .int 0, .int 0, .null, .null, .null, .null, .null, .null, .null] j := by intro j hj; rcases (show j = 0 ∨ j = 1 ∨ j = 2 ∨ j = 3 ∨ j = 4 ∨ j = 5 ∨ j = 6 ∨ j = 7 ∨ j = 8 ∨ j = 9 ∨ j = 10 ∨ j = 11 ∨ j = 12 ∨ j = 13 by omega) with rfl | rfl | rfl | rfl | rfl | rfl | rfl | rfl | rfl | rfl | rfl | rfl | rfl | rfl <;> rfl
theorem dfX10 : ∀ j, j < 5 → defaultValue (tyX10 j) = vp_V [.null, .null, .int 0, .int 0, .int 0] j := by intro j hj; rcases (show j = 0 ∨ j = 1 ∨ j = 2 ∨ j = 3 ∨ j = 4 by omega) with rfl | rfl | rfl | rfl | rfl <;> rfl
theorem dfX11 : ∀ j, j < 19 → defaultValue (tyX11 j) = vp_V [.null, .null, .null, .null, .null, .null, .null, .null, .null, .null, .null, .null, .null, .null, .null, .null, .null, .int 0, .int 0] j := by intro j hj; rcases (show j = 0 ∨ j = 1 ∨ j = 2 ∨ j = 3 ∨ j = 4 ∨ j = 5 ∨ j = 6 ∨ j = 7 ∨ j = 8 ∨ j = 9 ∨ j = 10 ∨ j = 11 ∨ j = 12 ∨ j = 13 ∨ j = 14 ∨ j = 15 ∨ j = 16 ∨ j = 17 ∨ j = 18 by omega) with rfl | rfl | rfl | rfl | rfl | rfl | rfl | rfl | rfl | rfl | rfl | rfl | rfl | rfl | rfl | rfl | rfl | rfl | rfl <;> rfl
theorem dfX12 : ∀ j, j < 47 → defaultValue (tyX12 j) = vp_V [.int 0, .null, .int 0, .int 0, .int 0, .int 0, .null, .null, .null, .null, .null, .int 0, .int 0, .int 0, .int 0, .int 0, .int 0, .long 0, .int 0, .int 0, .int 0, .int 0, .null, .null, .null, .null, .int 0, .null, .null, .int 0, .int 0, .int 0, .int 0, .int 0, .int 0, .null, .int 0, .null, .int 0, .int 0, .int 0, .int 0, .int 0, .null, .null, .null, .null] j := by intro j hj; rcases (show j = 0 ∨ j = 1 ∨ j = 2 ∨ j = 3 ∨ j = 4 ∨ j = 5 ∨ j = 6 ∨ j = 7 ∨ j = 8 ∨ j = 9 ∨ j = 10 ∨ j = 11 ∨ j = 12 ∨ j = 13 ∨ j = 14 ∨ j = 15 ∨ j = 16 ∨ j = 17 ∨ j = 18 ∨ j = 19 ∨ j = 20 ∨ j = 21 ∨ j = 22 ∨ j = 23 ∨ j = 24 ∨ j = 25 ∨ j = 26 ∨ j = 27 ∨ j = 28 ∨ j = 29 ∨ j = 30 ∨ j = 31 ∨ j = 32 ∨ j = 33 ∨ j = 34 ∨ j = 35 ∨ j = 36 ∨ j = 37 ∨ j = 38 ∨ j = 39 ∨ j = 40 ∨ j = 41 ∨ j = 42 ∨ j = 43 ∨ j = 44 ∨ j = 45 ∨ j = 46 by omega) with rfl | rfl | rfl | rfl | rfl | rfl | rfl | rfl | rfl | rfl | rfl | rfl | rfl | rfl | rfl | rfl | rfl | rfl | rfl | rfl | rfl | rfl | rfl | rfl | rfl | rfl | rfl | rfl | rfl | rfl | rfl | rfl | rfl | rfl | rfl | rfl | rfl | rfl | rfl | rfl | rfl | rfl | rfl | rfl | rfl | rfl | rfl <;> rfl
theorem icX8_init_8 : ∀ w ∈ u_ws RX8 TX8 15, w ∈ wsX8_init := by decide +kernel
def GX8_1 (cA : Nat → ClassId) (g : Nat → va_E) (b n k0 : Nat) : Nat → va_E := upE g (n) (.inl (cA 1, 940, .inl (fun _ => 0)))
def GX8_2 (cA : Nat → ClassId) (g : Nat → va_E) (b n k0 : Nat) : Nat → va_E := upE (GX8_1 cA g b n k0) k0 (.inr (8, [.ref (b + n), .null, .null, .null, .null, .int 0, .int 0, .int 0, .int 0, .int 0, .int 0, .long 0, .int 0, .int 0, .int 0]))
def GX8_3 (cA : Nat → ClassId) (g : Nat → va_E) (b n k0 : Nat) : Nat → va_E := upE (GX8_2 cA g b n k0) (n + 1) (.inl (cA 0, 941, .inl (fun _ => 0)))
def GX8_4 (cA : Nat → ClassId) (g : Nat → va_E) (b n k0 : Nat) : Nat → va_E := upE (GX8_3 cA g b n k0) k0 (.inr (8, [.ref (b + n), .ref (b + (n + 1)), .null, .null, .null, .int 0, .int 0, .int 0, .int 0, .int 0, .int 0, .long 0, .int 0, .int 0, .int 0]))
def GX8_5 (cA : Nat → ClassId) (g : Nat → va_E) (b n k0 : Nat) : Nat → va_E := upE (GX8_4 cA g b n k0) (n + 2) (.inl (cA 0, 941, .inl (fun _ => 0)))
def GX8_6 (cA : Nat → ClassId) (g : Nat → va_E) (b n k0 : Nat) : Nat → va_E := upE (GX8_5 cA g b n k0) k0 (.inr (8, [.ref (b + n), .ref (b + (n + 1)), .ref (b + (n + 2)), .null, .null, .int 0, .int 0, .int 0, .int 0, .int 0, .int 0, .long 0, .int 0, .int 0, .int 0]))
def GX8_7 (cA : Nat → ClassId) (g : Nat → va_E) (b n k0 : Nat) : Nat → va_E := upE (GX8_6 cA g b n k0) (n + 3) (.inl (cA 0, 941, .inl (fun _ => 0)))
def GX8_8 (cA : Nat → ClassId) (g : Nat → va_E) (b n k0 : Nat) : Nat → va_E := upE (GX8_7 cA g b n k0) k0 (.inr (8, [.ref (b + n), .ref (b + (n + 1)), .ref (b + (n + 2)), .ref (b + (n + 3)), .null, .int 0, .int 0, .int 0, .int 0, .int 0, .int 0, .long 0, .int 0, .int 0, .int 0]))
def GX8_9 (cA : Nat → ClassId) (g : Nat → va_E) (b n k0 : Nat) : Nat → va_E := upE (GX8_8 cA g b n k0) (n + 4) (.inl (cA 3, 941, .inr (.inl (fun _ => 0))))
def GX8_10 (cA : Nat → ClassId) (g : Nat → va_E) (b n k0 : Nat) : Nat → va_E := upE (GX8_9 cA g b n k0) k0 (.inr (8, [.ref (b + n), .ref (b + (n + 1)), .ref (b + (n + 2)), .ref (b + (n + 3)), .ref (b + (n + 4)), .int 0, .int 0, .int 0, .int 0, .int 0, .int 0, .long 0, .int 0, .int 0, .int 0]))
def GX8 (cA : Nat → ClassId) (g : Nat → va_E) (b n k0 : Nat) : Nat → va_E := (GX8_10 cA g b n k0)
set_option maxRecDepth 4000 in
theorem GX8_self {cA : Nat → ClassId} {g : Nat → va_E} {b n k0 : Nat} (hk0 : k0 < n) : GX8 cA g b n k0 k0 = .inr (8, [.ref (b + n), .ref (b + (n + 1)), .ref (b + (n + 2)), .ref (b + (n + 3)), .ref (b + (n + 4)), .int 0, .int 0, .int 0, .int 0, .int 0, .int 0, .long 0, .int 0, .int 0, .int 0]) := upE_at
set_option maxRecDepth 4000 in
theorem GX8_old {cA : Nat → ClassId} {g : Nat → va_E} {b n k0 : Nat} {q : Nat} (hq : q < n) (hne : q ≠ k0) : GX8 cA g b n k0 q = g q := (upE_ne (by omega)).trans ((upE_ne (by omega)).trans ((upE_ne (by omega)).trans ((upE_ne (by omega)).trans ((upE_ne (by omega)).trans ((upE_ne (by omega)).trans ((upE_ne (by omega)).trans ((upE_ne (by omega)).trans ((upE_ne (by omega)).trans ((upE_ne (by omega)).trans (rfl))))))))))
set_option maxHeartbeats 4000000 in
set_option maxRecDepth 8000 in
theorem c_X8_init (l : Launch) (D : va_G) (cA : Nat → ClassId) (g : Nat → va_E) (b n k0 : Nat) (hk0 : k0 < n) (hek0 : g k0 = .inr (8, [.null, .null, .null, .null, .null, .int 0, .int 0, .int 0, .int 0, .int 0, .int 0, .long 0, .int 0, .int 0, .int 0])) : Met l yX8_init wsX8_init ({ frames := 1, cells := 5, slots := 4704, locals := 12 } : Room) (BkP D cA g b n [.ref (b + k0)]) (BkQ D (GX8 cA g b n k0) b (n + 5)) 5 4704 (Ab b) := by
  refine Met.ofW (cc := cX8_init) (maxL := 1) (ret := none) (by decide) rfl ?_
  intro p e s m args below meth c s₁ B hml hv
  obtain ⟨rfl, hB, hK, hE⟩ := hv
  have hx := B.exec
  have hb := B.bytes
  have hr := B.returns
  have hts := atoms_spec (ws := wsX8_init) B.pre
  have hown : s.vm.findClass RX8 = some m.cls := findClass_of_methodNamed B.named
  have hlocks := B.notSynchronized
  have hin : meth.name = "<init>" := (name_of_methodNamed B.named B.method).1
  have hS : va_S (Ab b) s.heap s.heap [] := va_S.rf
  have hl := lv_entry ([.ref (b + k0)]) (n := 1) (Nat.le_of_ble_eq_true rfl)
  rw [lg_entry_eq]
  generalize (lg_sl ([.ref (b + k0)]) ++ List.replicate (1 - (lg_sl ([.ref (b + k0)])).length) Slot.unset).toArray = ls at hl ⊢
  have hl : lv_has ls 1 [(0, .ref (b + k0))] := hl
  refine lv_aload_n hx hb dX8_init_0 rfl (lv_at hl 0 rfl) ?_
  refine W.objInit hx hb hown (hts (.methodLink RX8 3 objectInit) (by decide +kernel)) (hts (.instanceMethod objectInit) (by decide +kernel)) (hts (.code objectInit ⟨#[0xb1]⟩ 1 none) (by decide +kernel)) rfl (by rw [hml]; exact hl.1) rfl dX8_init_1 (Nat.le_of_ble_eq_true rfl) (Nat.le_of_ble_eq_true rfl) ?_
  refine W.eq (g2 := F0 m 4 ls []) rfl ?_
  refine lv_aload_n hx hb dX8_init_4 rfl (lv_at hl 0 rfl) ?_
  refine lv_sipush (v := 940) hx hb dX8_init_5 (by decide) ?_
  refine bk_newa (atype := .byte) (ty := .byte) (cR := cA 1) (x := 940) (N' := 940) (a0 := (940, .inl (fun _ => 0))) hx hb (hts (.arrayClass .byte) (by decide +kernel)) rfl hK 1 rfl (fun h => h) hB hS (fun _ => rfl) (by decide) (by decide) (by decide) (Nat.le_of_ble_eq_true rfl) (Nat.le_of_ble_eq_true rfl) dX8_init_8 (fun H hB hS => ?_)
  have hB : Bk D (GX8_1 cA g b n k0) b (n + 1) H := hB
  have hek0 : (GX8_1 cA g b n k0) (k0) = .inr (8, [.null, .null, .null, .null, .null, .int 0, .int 0, .int 0, .int 0, .int 0, .int 0, .long 0, .int 0, .int 0, .int 0]) := (upE_ne (by omega)).trans hek0
  refine W.widen (k := 1) (n := 940) (by omega) (by omega) ?_
  refine bk_putF (ci := 8) (v := .ref (b + n)) (ty := (.array .byte)) (C := RX8) (T := TX8) (N := 15) hx hb hts icX8_init_8 tyX8 tyX8_ok nmX8 hown hK hB hS (by omega) hek0 rfl 0 (by decide) (hts (.fieldLink RX8 9 "CuckooShares$Tape" "bytes" "[B") (by decide +kernel)) hin rfl (by decide +kernel) rfl rfl (Nat.le_of_ble_eq_true rfl) dX8_init_10 (fun H locs hB hS => ?_)
  have hB : Bk D (GX8_2 cA g b n k0) b (n + 1) H := hB
  have hek0 : (GX8_2 cA g b n k0) (k0) = .inr (8, [.ref (b + n), .null, .null, .null, .null, .int 0, .int 0, .int 0, .int 0, .int 0, .int 0, .long 0, .int 0, .int 0, .int 0]) := upE_at
  refine lv_aload_n hx hb dX8_init_13 rfl (lv_at hl 0 rfl) ?_
  refine lv_sipush (v := 941) hx hb dX8_init_14 (by decide) ?_
  refine bk_newa (atype := .int) (ty := .int) (cR := cA 0) (x := 941) (N' := 941) (a0 := (941, .inl (fun _ => 0))) hx hb (hts (.arrayClass .int) (by decide +kernel)) rfl hK 0 rfl (fun h => h) hB hS (fun _ => rfl) (by decide) (by decide) (by decide) (Nat.le_of_ble_eq_true rfl) (Nat.le_of_ble_eq_true rfl) dX8_init_17 (fun H hB hS => ?_)
  have hB : Bk D (GX8_3 cA g b n k0) b (n + 2) H := hB
  have hek0 : (GX8_3 cA g b n k0) (k0) = .inr (8, [.ref (b + n), .null, .null, .null, .null, .int 0, .int 0, .int 0, .int 0, .int 0, .int 0, .long 0, .int 0, .int 0, .int 0]) := (upE_ne (by omega)).trans hek0
  refine W.widen (k := 2) (n := 1881) (by omega) (by omega) ?_
  refine bk_putF (ci := 8) (v := .ref (b + (n + 1))) (ty := (.array .int)) (C := RX8) (T := TX8) (N := 15) hx hb hts icX8_init_8 tyX8 tyX8_ok nmX8 hown hK hB hS (by omega) hek0 rfl 1 (by decide) (hts (.fieldLink RX8 15 "CuckooShares$Tape" "tokens" "[I") (by decide +kernel)) hin rfl (by decide +kernel) rfl rfl (Nat.le_of_ble_eq_true rfl) dX8_init_19 (fun H locs hB hS => ?_)
  have hB : Bk D (GX8_4 cA g b n k0) b (n + 2) H := hB
  have hek0 : (GX8_4 cA g b n k0) (k0) = .inr (8, [.ref (b + n), .ref (b + (n + 1)), .null, .null, .null, .int 0, .int 0, .int 0, .int 0, .int 0, .int 0, .long 0, .int 0, .int 0, .int 0]) := upE_at
  refine lv_aload_n hx hb dX8_init_22 rfl (lv_at hl 0 rfl) ?_
  refine lv_sipush (v := 941) hx hb dX8_init_23 (by decide) ?_
  refine bk_newa (atype := .int) (ty := .int) (cR := cA 0) (x := 941) (N' := 941) (a0 := (941, .inl (fun _ => 0))) hx hb (hts (.arrayClass .int) (by decide +kernel)) rfl hK 0 rfl (fun h => h) hB hS (fun _ => rfl) (by decide) (by decide) (by decide) (Nat.le_of_ble_eq_true rfl) (Nat.le_of_ble_eq_true rfl) dX8_init_26 (fun H hB hS => ?_)
  have hB : Bk D (GX8_5 cA g b n k0) b (n + 3) H := hB
  have hek0 : (GX8_5 cA g b n k0) (k0) = .inr (8, [.ref (b + n), .ref (b + (n + 1)), .null, .null, .null, .int 0, .int 0, .int 0, .int 0, .int 0, .int 0, .long 0, .int 0, .int 0, .int 0]) := (upE_ne (by omega)).trans hek0
  refine W.widen (k := 3) (n := 2822) (by omega) (by omega) ?_
  refine bk_putF (ci := 8) (v := .ref (b + (n + 2))) (ty := (.array .int)) (C := RX8) (T := TX8) (N := 15) hx hb hts icX8_init_8 tyX8 tyX8_ok nmX8 hown hK hB hS (by omega) hek0 rfl 2 (by decide) (hts (.fieldLink RX8 19 "CuckooShares$Tape" "places" "[I") (by decide +kernel)) hin rfl (by decide +kernel) rfl rfl (Nat.le_of_ble_eq_true rfl) dX8_init_28 (fun H locs hB hS => ?_)
  have hB : Bk D (GX8_6 cA g b n k0) b (n + 3) H := hB
  have hek0 : (GX8_6 cA g b n k0) (k0) = .inr (8, [.ref (b + n), .ref (b + (n + 1)), .ref (b + (n + 2)), .null, .null, .int 0, .int 0, .int 0, .int 0, .int 0, .int 0, .long 0, .int 0, .int 0, .int 0]) := upE_at
  refine lv_aload_n hx hb dX8_init_31 rfl (lv_at hl 0 rfl) ?_
  refine lv_sipush (v := 941) hx hb dX8_init_32 (by decide) ?_
  refine bk_newa (atype := .int) (ty := .int) (cR := cA 0) (x := 941) (N' := 941) (a0 := (941, .inl (fun _ => 0))) hx hb (hts (.arrayClass .int) (by decide +kernel)) rfl hK 0 rfl (fun h => h) hB hS (fun _ => rfl) (by decide) (by decide) (by decide) (Nat.le_of_ble_eq_true rfl) (Nat.le_of_ble_eq_true rfl) dX8_init_35 (fun H hB hS => ?_)
  have hB : Bk D (GX8_7 cA g b n k0) b (n + 4) H := hB
  have hek0 : (GX8_7 cA g b n k0) (k0) = .inr (8, [.ref (b + n), .ref (b + (n + 1)), .ref (b + (n + 2)), .null, .null, .int 0, .int 0, .int 0, .int 0, .int 0, .int 0, .long 0, .int 0, .int 0, .int 0]) := (upE_ne (by omega)).trans hek0
  refine W.widen (k := 4) (n := 3763) (by omega) (by omega) ?_
  refine bk_putF (ci := 8) (v := .ref (b + (n + 3))) (ty := (.array .int)) (C := RX8) (T := TX8) (N := 15) hx hb hts icX8_init_8 tyX8 tyX8_ok nmX8 hown hK hB hS (by omega) hek0 rfl 3 (by decide) (hts (.fieldLink RX8 22 "CuckooShares$Tape" "numbers" "[I") (by decide +kernel)) hin rfl (by decide +kernel) rfl rfl (Nat.le_of_ble_eq_true rfl) dX8_init_37 (fun H locs hB hS => ?_)
  have hB : Bk D (GX8_8 cA g b n k0) b (n + 4) H := hB
  have hek0 : (GX8_8 cA g b n k0) (k0) = .inr (8, [.ref (b + n), .ref (b + (n + 1)), .ref (b + (n + 2)), .ref (b + (n + 3)), .null, .int 0, .int 0, .int 0, .int 0, .int 0, .int 0, .long 0, .int 0, .int 0, .int 0]) := upE_at
  refine lv_aload_n hx hb dX8_init_40 rfl (lv_at hl 0 rfl) ?_
  refine lv_sipush (v := 941) hx hb dX8_init_41 (by decide) ?_
  refine bk_newa (atype := .long) (ty := .long) (cR := cA 3) (x := 941) (N' := 941) (a0 := (941, .inr (.inl (fun _ => 0)))) hx hb (hts (.arrayClass .long) (by decide +kernel)) rfl hK 3 rfl (fun h => h) hB hS (fun _ => rfl) (by decide) (by decide) (by decide) (Nat.le_of_ble_eq_true rfl) (Nat.le_of_ble_eq_true rfl) dX8_init_44 (fun H hB hS => ?_)
  have hB : Bk D (GX8_9 cA g b n k0) b (n + 5) H := hB
  have hek0 : (GX8_9 cA g b n k0) (k0) = .inr (8, [.ref (b + n), .ref (b + (n + 1)), .ref (b + (n + 2)), .ref (b + (n + 3)), .null, .int 0, .int 0, .int 0, .int 0, .int 0, .int 0, .long 0, .int 0, .int 0, .int 0]) := (upE_ne (by omega)).trans hek0
  refine W.widen (k := 5) (n := 4704) (by omega) (by omega) ?_
  refine bk_putF (ci := 8) (v := .ref (b + (n + 4))) (ty := (.array .long)) (C := RX8) (T := TX8) (N := 15) hx hb hts icX8_init_8 tyX8 tyX8_ok nmX8 hown hK hB hS (by omega) hek0 rfl 4 (by decide) (hts (.fieldLink RX8 25 "CuckooShares$Tape" "names" "[J") (by decide +kernel)) hin rfl (by decide +kernel) rfl rfl (Nat.le_of_ble_eq_true rfl) dX8_init_46 (fun H locs hB hS => ?_)
  have hB : Bk D (GX8_10 cA g b n k0) b (n + 5) H := hB
  have hek0 : (GX8_10 cA g b n k0) (k0) = .inr (8, [.ref (b + n), .ref (b + (n + 1)), .ref (b + (n + 2)), .ref (b + (n + 3)), .ref (b + (n + 4)), .int 0, .int 0, .int 0, .int 0, .int 0, .int 0, .long 0, .int 0, .int 0, .int 0]) := upE_at
  exact bk_ret hx hb hr hB hS hlocks dX8_init_49
theorem icX9_init_9 : ∀ w ∈ u_ws RX9 TX9 14, w ∈ wsX9_init := by decide +kernel
def GX9_1 (cA : Nat → ClassId) (g : Nat → va_E) (b n k0 : Nat) : Nat → va_E := upE g (n) (.inl (cA 3, 8, .inr (.inl (fun _ => 0))))
def GX9_2 (cA : Nat → ClassId) (g : Nat → va_E) (b n k0 : Nat) : Nat → va_E := upE (GX9_1 cA g b n k0) k0 (.inr (9, [.int 0, .int 0, .int 0, .int 0, .int 0, .int 0, .int 0, .ref (b + n), .null, .null, .null, .null, .null, .null]))
def GX9_3 (cA : Nat → ClassId) (g : Nat → va_E) (b n k0 : Nat) : Nat → va_E := upE (GX9_2 cA g b n k0) (n + 1) (.inl (cA 3, 8, .inr (.inl (fun _ => 0))))
def GX9_4 (cA : Nat → ClassId) (g : Nat → va_E) (b n k0 : Nat) : Nat → va_E := upE (GX9_3 cA g b n k0) k0 (.inr (9, [.int 0, .int 0, .int 0, .int 0, .int 0, .int 0, .int 0, .ref (b + n), .ref (b + (n + 1)), .null, .null, .null, .null, .null]))
def GX9_5 (cA : Nat → ClassId) (g : Nat → va_E) (b n k0 : Nat) : Nat → va_E := mnE (GX9_4 cA g b n k0) (n + 2) 8 (.inl (cA 4, 8, .inr (.inr (.inr (.inr (fun i => if i < 8 then some (b + (n + 2 + 1 + i)) else none)))))) (.inl (cA 0, 3, .inl (fun _ => 0)))
def GX9_6 (cA : Nat → ClassId) (g : Nat → va_E) (b n k0 : Nat) : Nat → va_E := upE (GX9_5 cA g b n k0) k0 (.inr (9, [.int 0, .int 0, .int 0, .int 0, .int 0, .int 0, .int 0, .ref (b + n), .ref (b + (n + 1)), .ref (b + (n + 2)), .null, .null, .null, .null]))
def GX9_7 (cA : Nat → ClassId) (g : Nat → va_E) (b n k0 : Nat) : Nat → va_E := mnE (GX9_6 cA g b n k0) (n + 11) 8 (.inl (cA 4, 8, .inr (.inr (.inr (.inr (fun i => if i < 8 then some (b + (n + 11 + 1 + i)) else none)))))) (.inl (cA 0, 6, .inl (fun _ => 0)))
def GX9_8 (cA : Nat → ClassId) (g : Nat → va_E) (b n k0 : Nat) : Nat → va_E := upE (GX9_7 cA g b n k0) k0 (.inr (9, [.int 0, .int 0, .int 0, .int 0, .int 0, .int 0, .int 0, .ref (b + n), .ref (b + (n + 1)), .ref (b + (n + 2)), .ref (b + (n + 11)), .null, .null, .null]))
def GX9_9 (cA : Nat → ClassId) (g : Nat → va_E) (b n k0 : Nat) : Nat → va_E := mnE (GX9_8 cA g b n k0) (n + 20) 4 (.inl (cA 4, 4, .inr (.inr (.inr (.inr (fun i => if i < 4 then some (b + (n + 20 + 1 + i)) else none)))))) (.inl (cA 0, 3, .inl (fun _ => 0)))
def GX9_10 (cA : Nat → ClassId) (g : Nat → va_E) (b n k0 : Nat) : Nat → va_E := upE (GX9_9 cA g b n k0) k0 (.inr (9, [.int 0, .int 0, .int 0, .int 0, .int 0, .int 0, .int 0, .ref (b + n), .ref (b + (n + 1)), .ref (b + (n + 2)), .ref (b + (n + 11)), .ref (b + (n + 20)), .null, .null]))
def GX9_11 (cA : Nat → ClassId) (g : Nat → va_E) (b n k0 : Nat) : Nat → va_E := mnE (GX9_10 cA g b n k0) (n + 25) 40 (.inl (cA 4, 40, .inr (.inr (.inr (.inr (fun i => if i < 40 then some (b + (n + 25 + 1 + i)) else none)))))) (.inl (cA 0, 3, .inl (fun _ => 0)))
def GX9_12 (cA : Nat → ClassId) (g : Nat → va_E) (b n k0 : Nat) : Nat → va_E := upE (GX9_11 cA g b n k0) k0 (.inr (9, [.int 0, .int 0, .int 0, .int 0, .int 0, .int 0, .int 0, .ref (b + n), .ref (b + (n + 1)), .ref (b + (n + 2)), .ref (b + (n + 11)), .ref (b + (n + 20)), .ref (b + (n + 25)), .null]))
def GX9_13 (cA : Nat → ClassId) (g : Nat → va_E) (b n k0 : Nat) : Nat → va_E := upE (GX9_12 cA g b n k0) (n + 66) (.inl (cA 0, 8, .inl (fun _ => 0)))
def GX9_14 (cA : Nat → ClassId) (g : Nat → va_E) (b n k0 : Nat) : Nat → va_E := upE (GX9_13 cA g b n k0) k0 (.inr (9, [.int 0, .int 0, .int 0, .int 0, .int 0, .int 0, .int 0, .ref (b + n), .ref (b + (n + 1)), .ref (b + (n + 2)), .ref (b + (n + 11)), .ref (b + (n + 20)), .ref (b + (n + 25)), .ref (b + (n + 66))]))
def GX9_15 (cA : Nat → ClassId) (g : Nat → va_E) (b n k0 : Nat) : Nat → va_E := upE (GX9_14 cA g b n k0) k0 (.inr (9, [.int 20, .int 0, .int 0, .int 0, .int 0, .int 0, .int 0, .ref (b + n), .ref (b + (n + 1)), .ref (b + (n + 2)), .ref (b + (n + 11)), .ref (b + (n + 20)), .ref (b + (n + 25)), .ref (b + (n + 66))]))
def GX9_16 (cA : Nat → ClassId) (g : Nat → va_E) (b n k0 : Nat) : Nat → va_E := upE (GX9_15 cA g b n k0) k0 (.inr (9, [.int 20, .int 99, .int 0, .int 0, .int 0, .int 0, .int 0, .ref (b + n), .ref (b + (n + 1)), .ref (b + (n + 2)), .ref (b + (n + 11)), .ref (b + (n + 20)), .ref (b + (n + 25)), .ref (b + (n + 66))]))
def GX9_17 (cA : Nat → ClassId) (g : Nat → va_E) (b n k0 : Nat) : Nat → va_E := upE (GX9_16 cA g b n k0) k0 (.inr (9, [.int 20, .int 99, .int (-1), .int 0, .int 0, .int 0, .int 0, .ref (b + n), .ref (b + (n + 1)), .ref (b + (n + 2)), .ref (b + (n + 11)), .ref (b + (n + 20)), .ref (b + (n + 25)), .ref (b + (n + 66))]))
def GX9 (cA : Nat → ClassId) (g : Nat → va_E) (b n k0 : Nat) : Nat → va_E := (GX9_17 cA g b n k0)
set_option maxRecDepth 4000 in
theorem GX9_self {cA : Nat → ClassId} {g : Nat → va_E} {b n k0 : Nat} (hk0 : k0 < n) : GX9 cA g b n k0 k0 = .inr (9, [.int 20, .int 99, .int (-1), .int 0, .int 0, .int 0, .int 0, .ref (b + n), .ref (b + (n + 1)), .ref (b + (n + 2)), .ref (b + (n + 11)), .ref (b + (n + 20)), .ref (b + (n + 25)), .ref (b + (n + 66))]) := upE_at
set_option maxRecDepth 4000 in
theorem GX9_old {cA : Nat → ClassId} {g : Nat → va_E} {b n k0 : Nat} {q : Nat} (hq : q < n) (hne : q ≠ k0) : GX9 cA g b n k0 q = g q := (upE_ne (by omega)).trans ((upE_ne (by omega)).trans ((upE_ne (by omega)).trans ((upE_ne (by omega)).trans ((upE_ne (by omega)).trans ((upE_ne (by omega)).trans ((mnE_old (by omega)).trans ((upE_ne (by omega)).trans ((mnE_old (by omega)).trans ((upE_ne (by omega)).trans ((mnE_old (by omega)).trans ((upE_ne (by omega)).trans ((mnE_old (by omega)).trans ((upE_ne (by omega)).trans ((upE_ne (by omega)).trans ((upE_ne (by omega)).trans ((upE_ne (by omega)).trans (rfl)))))))))))))))))
set_option maxHeartbeats 4000000 in
set_option maxRecDepth 8000 in
theorem c_X9_init (l : Launch) (D : va_G) (cA : Nat → ClassId) (g : Nat → va_E) (b n k0 : Nat) (hk0 : k0 < n) (hek0 : g k0 = .inr (9, [.int 0, .int 0, .int 0, .int 0, .int 0, .int 0, .int 0, .null, .null, .null, .null, .null, .null, .null])) : Met l yX9_init wsX9_init ({ frames := 1, cells := 67, slots := 288, locals := 12 } : Room) (BkP D cA g b n [.ref (b + k0)]) (BkQ D (GX9 cA g b n k0) b (n + 67)) 67 288 (Ab b) := by
  refine Met.ofW (cc := cX9_init) (maxL := 1) (ret := none) (by decide) rfl ?_
  intro p e s m args below meth c s₁ B hml hv
  obtain ⟨rfl, hB, hK, hE⟩ := hv
  have hx := B.exec
  have hb := B.bytes
  have hr := B.returns
  have hts := atoms_spec (ws := wsX9_init) B.pre
  have hown : s.vm.findClass RX9 = some m.cls := findClass_of_methodNamed B.named
  have hlocks := B.notSynchronized
  have hin : meth.name = "<init>" := (name_of_methodNamed B.named B.method).1
  have hS : va_S (Ab b) s.heap s.heap [] := va_S.rf
  have hl := lv_entry ([.ref (b + k0)]) (n := 1) (Nat.le_of_ble_eq_true rfl)
  rw [lg_entry_eq]
  generalize (lg_sl ([.ref (b + k0)]) ++ List.replicate (1 - (lg_sl ([.ref (b + k0)])).length) Slot.unset).toArray = ls at hl ⊢
  have hl : lv_has ls 1 [(0, .ref (b + k0))] := hl
  refine lv_aload_n hx hb dX9_init_0 rfl (lv_at hl 0 rfl) ?_
  refine W.objInit hx hb hown (hts (.methodLink RX9 3 objectInit) (by decide +kernel)) (hts (.instanceMethod objectInit) (by decide +kernel)) (hts (.code objectInit ⟨#[0xb1]⟩ 1 none) (by decide +kernel)) rfl (by rw [hml]; exact hl.1) rfl dX9_init_1 (Nat.le_of_ble_eq_true rfl) (Nat.le_of_ble_eq_true rfl) ?_
  refine W.eq (g2 := F0 m 4 ls []) rfl ?_
  refine lv_aload_n hx hb dX9_init_4 rfl (lv_at hl 0 rfl) ?_
  refine lv_bipush (v := 8) hx hb dX9_init_5 (by decide) ?_
  refine bk_newa (atype := .long) (ty := .long) (cR := cA 3) (x := 8) (N' := 8) (a0 := (8, .inr (.inl (fun _ => 0)))) hx hb (hts (.arrayClass .long) (by decide +kernel)) rfl hK 3 rfl (fun h => h) hB hS (fun _ => rfl) (by decide) (by decide) (by decide) (Nat.le_of_ble_eq_true rfl) (Nat.le_of_ble_eq_true rfl) dX9_init_7 (fun H hB hS => ?_)
  have hB : Bk D (GX9_1 cA g b n k0) b (n + 1) H := hB
  have hek0 : (GX9_1 cA g b n k0) (k0) = .inr (9, [.int 0, .int 0, .int 0, .int 0, .int 0, .int 0, .int 0, .null, .null, .null, .null, .null, .null, .null]) := (upE_ne (by omega)).trans hek0
  refine W.widen (k := 1) (n := 8) (by omega) (by omega) ?_
  refine bk_putF (ci := 9) (v := .ref (b + n)) (ty := (.array .long)) (C := RX9) (T := TX9) (N := 14) hx hb hts icX9_init_9 tyX9 tyX9_ok nmX9 hown hK hB hS (by omega) hek0 rfl 7 (by decide) (hts (.fieldLink RX9 9 "CuckooShares$Valley" "hillName" "[J") (by decide +kernel)) hin rfl (by decide +kernel) rfl rfl (Nat.le_of_ble_eq_true rfl) dX9_init_9 (fun H locs hB hS => ?_)
  have hB : Bk D (GX9_2 cA g b n k0) b (n + 1) H := hB
  have hek0 : (GX9_2 cA g b n k0) (k0) = .inr (9, [.int 0, .int 0, .int 0, .int 0, .int 0, .int 0, .int 0, .ref (b + n), .null, .null, .null, .null, .null, .null]) := upE_at
  refine lv_aload_n hx hb dX9_init_12 rfl (lv_at hl 0 rfl) ?_
  refine lv_bipush (v := 8) hx hb dX9_init_13 (by decide) ?_
  refine bk_newa (atype := .long) (ty := .long) (cR := cA 3) (x := 8) (N' := 8) (a0 := (8, .inr (.inl (fun _ => 0)))) hx hb (hts (.arrayClass .long) (by decide +kernel)) rfl hK 3 rfl (fun h => h) hB hS (fun _ => rfl) (by decide) (by decide) (by decide) (Nat.le_of_ble_eq_true rfl) (Nat.le_of_ble_eq_true rfl) dX9_init_15 (fun H hB hS => ?_)
  have hB : Bk D (GX9_3 cA g b n k0) b (n + 2) H := hB
  have hek0 : (GX9_3 cA g b n k0) (k0) = .inr (9, [.int 0, .int 0, .int 0, .int 0, .int 0, .int 0, .int 0, .ref (b + n), .null, .null, .null, .null, .null, .null]) := (upE_ne (by omega)).trans hek0
  refine W.widen (k := 2) (n := 16) (by omega) (by omega) ?_
  refine bk_putF (ci := 9) (v := .ref (b + (n + 1))) (ty := (.array .long)) (C := RX9) (T := TX9) (N := 14) hx hb hts icX9_init_9 tyX9 tyX9_ok nmX9 hown hK hB hS (by omega) hek0 rfl 8 (by decide) (hts (.fieldLink RX9 15 "CuckooShares$Valley" "manName" "[J") (by decide +kernel)) hin rfl (by decide +kernel) rfl rfl (Nat.le_of_ble_eq_true rfl) dX9_init_17 (fun H locs hB hS => ?_)
  have hB : Bk D (GX9_4 cA g b n k0) b (n + 2) H := hB
  have hek0 : (GX9_4 cA g b n k0) (k0) = .inr (9, [.int 0, .int 0, .int 0, .int 0, .int 0, .int 0, .int 0, .ref (b + n), .ref (b + (n + 1)), .null, .null, .null, .null, .null]) := upE_at
  refine lv_aload_n hx hb dX9_init_20 rfl (lv_at hl 0 rfl) ?_
  refine lv_bipush (v := 8) hx hb dX9_init_21 (by decide) ?_
  refine lv_iconst (v := 3) hx hb dX9_init_23 (by decide) ?_
  refine bk_mna (x := 8) (k := 3) (N' := 8) (K' := 3) hx hb hown (hts (.classLink RX9 18 "[[I") (by decide +kernel)) hE.2.2.1 (hts (.arrayClass .int) (by decide +kernel)) hK hB hS (by decide) (by decide) (by decide) (by decide) (by decide) (by decide) (Nat.le_of_ble_eq_true rfl) (Nat.le_of_ble_eq_true rfl) dX9_init_24 (fun H hB hS => ?_)
  have hB : Bk D (GX9_5 cA g b n k0) b (n + 11) H := hB
  have hek0 : (GX9_5 cA g b n k0) (k0) = .inr (9, [.int 0, .int 0, .int 0, .int 0, .int 0, .int 0, .int 0, .ref (b + n), .ref (b + (n + 1)), .null, .null, .null, .null, .null]) := (mnE_old (by omega)).trans hek0
  refine W.widen (k := 11) (n := 48) (by omega) (by omega) ?_
  refine bk_putF (ci := 9) (v := .ref (b + (n + 2))) (ty := (.array (.array .int))) (C := RX9) (T := TX9) (N := 14) hx hb hts icX9_init_9 tyX9 tyX9_ok nmX9 hown hK hB hS (by omega) hek0 rfl 9 (by decide) (hts (.fieldLink RX9 20 "CuckooShares$Valley" "hill" "[[I") (by decide +kernel)) hin rfl (by decide +kernel) rfl rfl (Nat.le_of_ble_eq_true rfl) dX9_init_28 (fun H locs hB hS => ?_)
  have hB : Bk D (GX9_6 cA g b n k0) b (n + 11) H := hB
  have hek0 : (GX9_6 cA g b n k0) (k0) = .inr (9, [.int 0, .int 0, .int 0, .int 0, .int 0, .int 0, .int 0, .ref (b + n), .ref (b + (n + 1)), .ref (b + (n + 2)), .null, .null, .null, .null]) := upE_at
  refine lv_aload_n hx hb dX9_init_31 rfl (lv_at hl 0 rfl) ?_
  refine lv_bipush (v := 8) hx hb dX9_init_32 (by decide) ?_
  refine lv_bipush (v := 6) hx hb dX9_init_34 (by decide) ?_
  refine bk_mna (x := 8) (k := 6) (N' := 8) (K' := 6) hx hb hown (hts (.classLink RX9 18 "[[I") (by decide +kernel)) hE.2.2.1 (hts (.arrayClass .int) (by decide +kernel)) hK hB hS (by decide) (by decide) (by decide) (by decide) (by decide) (by decide) (Nat.le_of_ble_eq_true rfl) (Nat.le_of_ble_eq_true rfl) dX9_init_36 (fun H hB hS => ?_)
  have hB : Bk D (GX9_7 cA g b n k0) b (n + 20) H := hB
  have hek0 : (GX9_7 cA g b n k0) (k0) = .inr (9, [.int 0, .int 0, .int 0, .int 0, .int 0, .int 0, .int 0, .ref (b + n), .ref (b + (n + 1)), .ref (b + (n + 2)), .null, .null, .null, .null]) := (mnE_old (by omega)).trans hek0
  refine W.widen (k := 20) (n := 104) (by omega) (by omega) ?_
  refine bk_putF (ci := 9) (v := .ref (b + (n + 11))) (ty := (.array (.array .int))) (C := RX9) (T := TX9) (N := 14) hx hb hts icX9_init_9 tyX9 tyX9_ok nmX9 hown hK hB hS (by omega) hek0 rfl 10 (by decide) (hts (.fieldLink RX9 23 "CuckooShares$Valley" "man" "[[I") (by decide +kernel)) hin rfl (by decide +kernel) rfl rfl (Nat.le_of_ble_eq_true rfl) dX9_init_40 (fun H locs hB hS => ?_)
  have hB : Bk D (GX9_8 cA g b n k0) b (n + 20) H := hB
  have hek0 : (GX9_8 cA g b n k0) (k0) = .inr (9, [.int 0, .int 0, .int 0, .int 0, .int 0, .int 0, .int 0, .ref (b + n), .ref (b + (n + 1)), .ref (b + (n + 2)), .ref (b + (n + 11)), .null, .null, .null]) := upE_at
  refine lv_aload_n hx hb dX9_init_43 rfl (lv_at hl 0 rfl) ?_
  refine lv_iconst (v := 4) hx hb dX9_init_44 (by decide) ?_
  refine lv_iconst (v := 3) hx hb dX9_init_45 (by decide) ?_
  refine bk_mna (x := 4) (k := 3) (N' := 4) (K' := 3) hx hb hown (hts (.classLink RX9 18 "[[I") (by decide +kernel)) hE.2.2.1 (hts (.arrayClass .int) (by decide +kernel)) hK hB hS (by decide) (by decide) (by decide) (by decide) (by decide) (by decide) (Nat.le_of_ble_eq_true rfl) (Nat.le_of_ble_eq_true rfl) dX9_init_46 (fun H hB hS => ?_)
  have hB : Bk D (GX9_9 cA g b n k0) b (n + 25) H := hB
  have hek0 : (GX9_9 cA g b n k0) (k0) = .inr (9, [.int 0, .int 0, .int 0, .int 0, .int 0, .int 0, .int 0, .ref (b + n), .ref (b + (n + 1)), .ref (b + (n + 2)), .ref (b + (n + 11)), .null, .null, .null]) := (mnE_old (by omega)).trans hek0
  refine W.widen (k := 25) (n := 120) (by omega) (by omega) ?_
  refine bk_putF (ci := 9) (v := .ref (b + (n + 20))) (ty := (.array (.array .int))) (C := RX9) (T := TX9) (N := 14) hx hb hts icX9_init_9 tyX9 tyX9_ok nmX9 hown hK hB hS (by omega) hek0 rfl 11 (by decide) (hts (.fieldLink RX9 26 "CuckooShares$Valley" "flight" "[[I") (by decide +kernel)) hin rfl (by decide +kernel) rfl rfl (Nat.le_of_ble_eq_true rfl) dX9_init_50 (fun H locs hB hS => ?_)
  have hB : Bk D (GX9_10 cA g b n k0) b (n + 25) H := hB
  have hek0 : (GX9_10 cA g b n k0) (k0) = .inr (9, [.int 0, .int 0, .int 0, .int 0, .int 0, .int 0, .int 0, .ref (b + n), .ref (b + (n + 1)), .ref (b + (n + 2)), .ref (b + (n + 11)), .ref (b + (n + 20)), .null, .null]) := upE_at
  refine lv_aload_n hx hb dX9_init_53 rfl (lv_at hl 0 rfl) ?_
  refine lv_bipush (v := 40) hx hb dX9_init_54 (by decide) ?_
  refine lv_iconst (v := 3) hx hb dX9_init_56 (by decide) ?_
  refine bk_mna (x := 40) (k := 3) (N' := 40) (K' := 3) hx hb hown (hts (.classLink RX9 18 "[[I") (by decide +kernel)) hE.2.2.1 (hts (.arrayClass .int) (by decide +kernel)) hK hB hS (by decide) (by decide) (by decide) (by decide) (by decide) (by decide) (Nat.le_of_ble_eq_true rfl) (Nat.le_of_ble_eq_true rfl) dX9_init_57 (fun H hB hS => ?_)
  have hB : Bk D (GX9_11 cA g b n k0) b (n + 66) H := hB
  have hek0 : (GX9_11 cA g b n k0) (k0) = .inr (9, [.int 0, .int 0, .int 0, .int 0, .int 0, .int 0, .int 0, .ref (b + n), .ref (b + (n + 1)), .ref (b + (n + 2)), .ref (b + (n + 11)), .ref (b + (n + 20)), .null, .null]) := (mnE_old (by omega)).trans hek0
  refine W.widen (k := 66) (n := 280) (by omega) (by omega) ?_
  refine bk_putF (ci := 9) (v := .ref (b + (n + 25))) (ty := (.array (.array .int))) (C := RX9) (T := TX9) (N := 14) hx hb hts icX9_init_9 tyX9 tyX9_ok nmX9 hown hK hB hS (by omega) hek0 rfl 12 (by decide) (hts (.fieldLink RX9 29 "CuckooShares$Valley" "call" "[[I") (by decide +kernel)) hin rfl (by decide +kernel) rfl rfl (Nat.le_of_ble_eq_true rfl) dX9_init_61 (fun H locs hB hS => ?_)
  have hB : Bk D (GX9_12 cA g b n k0) b (n + 66) H := hB
  have hek0 : (GX9_12 cA g b n k0) (k0) = .inr (9, [.int 0, .int 0, .int 0, .int 0, .int 0, .int 0, .int 0, .ref (b + n), .ref (b + (n + 1)), .ref (b + (n + 2)), .ref (b + (n + 11)), .ref (b + (n + 20)), .ref (b + (n + 25)), .null]) := upE_at
  refine lv_aload_n hx hb dX9_init_64 rfl (lv_at hl 0 rfl) ?_
  refine lv_bipush (v := 8) hx hb dX9_init_65 (by decide) ?_
  refine bk_newa (atype := .int) (ty := .int) (cR := cA 0) (x := 8) (N' := 8) (a0 := (8, .inl (fun _ => 0))) hx hb (hts (.arrayClass .int) (by decide +kernel)) rfl hK 0 rfl (fun h => h) hB hS (fun _ => rfl) (by decide) (by decide) (by decide) (Nat.le_of_ble_eq_true rfl) (Nat.le_of_ble_eq_true rfl) dX9_init_67 (fun H hB hS => ?_)
  have hB : Bk D (GX9_13 cA g b n k0) b (n + 67) H := hB
  have hek0 : (GX9_13 cA g b n k0) (k0) = .inr (9, [.int 0, .int 0, .int 0, .int 0, .int 0, .int 0, .int 0, .ref (b + n), .ref (b + (n + 1)), .ref (b + (n + 2)), .ref (b + (n + 11)), .ref (b + (n + 20)), .ref (b + (n + 25)), .null]) := (upE_ne (by omega)).trans hek0
  refine W.widen (k := 67) (n := 288) (by omega) (by omega) ?_
  refine bk_putF (ci := 9) (v := .ref (b + (n + 66))) (ty := (.array .int)) (C := RX9) (T := TX9) (N := 14) hx hb hts icX9_init_9 tyX9 tyX9_ok nmX9 hown hK hB hS (by omega) hek0 rfl 13 (by decide) (hts (.fieldLink RX9 32 "CuckooShares$Valley" "echo" "[I") (by decide +kernel)) hin rfl (by decide +kernel) rfl rfl (Nat.le_of_ble_eq_true rfl) dX9_init_69 (fun H locs hB hS => ?_)
  have hB : Bk D (GX9_14 cA g b n k0) b (n + 67) H := hB
  have hek0 : (GX9_14 cA g b n k0) (k0) = .inr (9, [.int 0, .int 0, .int 0, .int 0, .int 0, .int 0, .int 0, .ref (b + n), .ref (b + (n + 1)), .ref (b + (n + 2)), .ref (b + (n + 11)), .ref (b + (n + 20)), .ref (b + (n + 25)), .ref (b + (n + 66))]) := upE_at
  refine lv_aload_n hx hb dX9_init_72 rfl (lv_at hl 0 rfl) ?_
  refine lv_bipush (v := 20) hx hb dX9_init_73 (by decide) ?_
  refine bk_putF (ci := 9) (v := .int 20) (ty := .int) (C := RX9) (T := TX9) (N := 14) hx hb hts icX9_init_9 tyX9 tyX9_ok nmX9 hown hK hB hS (by omega) hek0 rfl 0 (by decide) (hts (.fieldLink RX9 36 "CuckooShares$Valley" "ridge" "I") (by decide +kernel)) hin rfl (by decide +kernel) rfl rfl (Nat.le_of_ble_eq_true rfl) dX9_init_75 (fun H locs hB hS => ?_)
  have hB : Bk D (GX9_15 cA g b n k0) b (n + 67) H := hB
  have hek0 : (GX9_15 cA g b n k0) (k0) = .inr (9, [.int 20, .int 0, .int 0, .int 0, .int 0, .int 0, .int 0, .ref (b + n), .ref (b + (n + 1)), .ref (b + (n + 2)), .ref (b + (n + 11)), .ref (b + (n + 20)), .ref (b + (n + 25)), .ref (b + (n + 66))]) := upE_at
  refine lv_aload_n hx hb dX9_init_78 rfl (lv_at hl 0 rfl) ?_
  refine lv_bipush (v := 99) hx hb dX9_init_79 (by decide) ?_
  refine bk_putF (ci := 9) (v := .int 99) (ty := .int) (C := RX9) (T := TX9) (N := 14) hx hb hts icX9_init_9 tyX9 tyX9_ok nmX9 hown hK hB hS (by omega) hek0 rfl 1 (by decide) (hts (.fieldLink RX9 40 "CuckooShares$Valley" "wheat" "I") (by decide +kernel)) hin rfl (by decide +kernel) rfl rfl (Nat.le_of_ble_eq_true rfl) dX9_init_81 (fun H locs hB hS => ?_)
  have hB : Bk D (GX9_16 cA g b n k0) b (n + 67) H := hB
  have hek0 : (GX9_16 cA g b n k0) (k0) = .inr (9, [.int 20, .int 99, .int 0, .int 0, .int 0, .int 0, .int 0, .ref (b + n), .ref (b + (n + 1)), .ref (b + (n + 2)), .ref (b + (n + 11)), .ref (b + (n + 20)), .ref (b + (n + 25)), .ref (b + (n + 66))]) := upE_at
  refine lv_aload_n hx hb dX9_init_84 rfl (lv_at hl 0 rfl) ?_
  refine lv_iconst (v := -1) hx hb dX9_init_85 (by decide) ?_
  refine bk_putF (ci := 9) (v := .int (-1)) (ty := .int) (C := RX9) (T := TX9) (N := 14) hx hb hts icX9_init_9 tyX9 tyX9_ok nmX9 hown hK hB hS (by omega) hek0 rfl 2 (by decide) (hts (.fieldLink RX9 43 "CuckooShares$Valley" "windWay" "I") (by decide +kernel)) hin rfl (by decide +kernel) rfl rfl (Nat.le_of_ble_eq_true rfl) dX9_init_86 (fun H locs hB hS => ?_)
  have hB : Bk D (GX9_17 cA g b n k0) b (n + 67) H := hB
  have hek0 : (GX9_17 cA g b n k0) (k0) = .inr (9, [.int 20, .int 99, .int (-1), .int 0, .int 0, .int 0, .int 0, .ref (b + n), .ref (b + (n + 1)), .ref (b + (n + 2)), .ref (b + (n + 11)), .ref (b + (n + 20)), .ref (b + (n + 25)), .ref (b + (n + 66))]) := upE_at
  exact bk_ret hx hb hr hB hS hlocks dX9_init_89
theorem icX10_init_10 : ∀ w ∈ u_ws RX10 TX10 5, w ∈ wsX10_init := by decide +kernel
def GX10_1 (cA : Nat → ClassId) (g : Nat → va_E) (b n k0 : Nat) (r1 : Nat) (r2 : Nat) : Nat → va_E := upE g k0 (.inr (10, [.ref r1, .null, .int 0, .int 0, .int 0]))
def GX10_2 (cA : Nat → ClassId) (g : Nat → va_E) (b n k0 : Nat) (r1 : Nat) (r2 : Nat) : Nat → va_E := upE (GX10_1 cA g b n k0 r1 r2) k0 (.inr (10, [.ref r1, .ref r2, .int 0, .int 0, .int 0]))
def GX10 (cA : Nat → ClassId) (g : Nat → va_E) (b n k0 : Nat) (r1 : Nat) (r2 : Nat) : Nat → va_E := (GX10_2 cA g b n k0 r1 r2)
set_option maxRecDepth 4000 in
theorem GX10_self {cA : Nat → ClassId} {g : Nat → va_E} {b n k0 : Nat} {r1 : Nat} {r2 : Nat} (hk0 : k0 < n) : GX10 cA g b n k0 r1 r2 k0 = .inr (10, [.ref r1, .ref r2, .int 0, .int 0, .int 0]) := upE_at
set_option maxRecDepth 4000 in
theorem GX10_old {cA : Nat → ClassId} {g : Nat → va_E} {b n k0 : Nat} {r1 : Nat} {r2 : Nat} {q : Nat} (hq : q < n) (hne : q ≠ k0) : GX10 cA g b n k0 r1 r2 q = g q := (upE_ne (by omega)).trans ((upE_ne (by omega)).trans (rfl))
set_option maxHeartbeats 4000000 in
set_option maxRecDepth 8000 in
theorem c_X10_init (l : Launch) (D : va_G) (cA : Nat → ClassId) (g : Nat → va_E) (b n k0 : Nat) (r1 : Nat) (r2 : Nat) (hk0 : k0 < n) (hek0 : g k0 = .inr (10, [.null, .null, .int 0, .int 0, .int 0])) : Met l yX10_init wsX10_init ({ frames := 1, cells := 0, slots := 0, locals := 12 } : Room) (BkP D cA g b n [.ref (b + k0), .ref r1, .ref r2]) (BkQ D (GX10 cA g b n k0 r1 r2) b (n + 0)) 0 0 (Ab b) := by
  refine Met.ofW (cc := cX10_init) (maxL := 3) (ret := none) (by decide) rfl ?_
  intro p e s m args below meth c s₁ B hml hv
  obtain ⟨rfl, hB, hK, hE⟩ := hv
  have hx := B.exec
  have hb := B.bytes
  have hr := B.returns
  have hts := atoms_spec (ws := wsX10_init) B.pre
  have hown : s.vm.findClass RX10 = some m.cls := findClass_of_methodNamed B.named
  have hlocks := B.notSynchronized
  have hin : meth.name = "<init>" := (name_of_methodNamed B.named B.method).1
  have hS : va_S (Ab b) s.heap s.heap [] := va_S.rf
  have hl := lv_entry ([.ref (b + k0), .ref r1, .ref r2]) (n := 3) (Nat.le_of_ble_eq_true rfl)
  rw [lg_entry_eq]
  generalize (lg_sl ([.ref (b + k0), .ref r1, .ref r2]) ++ List.replicate (3 - (lg_sl ([.ref (b + k0), .ref r1, .ref r2])).length) Slot.unset).toArray = ls at hl ⊢
  have hl : lv_has ls 3 [(0, .ref (b + k0)), (1, .ref r1), (2, .ref r2)] := hl
  refine lv_aload_n hx hb dX10_init_0 rfl (lv_at hl 0 rfl) ?_
  refine W.objInit hx hb hown (hts (.methodLink RX10 3 objectInit) (by decide +kernel)) (hts (.instanceMethod objectInit) (by decide +kernel)) (hts (.code objectInit ⟨#[0xb1]⟩ 1 none) (by decide +kernel)) rfl (by rw [hml]; exact hl.1) rfl dX10_init_1 (Nat.le_of_ble_eq_true rfl) (Nat.le_of_ble_eq_true rfl) ?_
  refine W.eq (g2 := F0 m 4 ls []) rfl ?_
  refine lv_aload_n hx hb dX10_init_4 rfl (lv_at hl 0 rfl) ?_
  refine lv_aload_n hx hb dX10_init_5 rfl (lv_at hl 1 rfl) ?_
  refine bk_putF (ci := 10) (v := .ref r1) (ty := (.object "CuckooShares$Tape")) (C := RX10) (T := TX10) (N := 5) hx hb hts icX10_init_10 tyX10 tyX10_ok nmX10 hown hK hB hS (by omega) hek0 rfl 0 (by decide) (hts (.fieldLink RX10 9 "CuckooShares$ValleyText" "tape" "LCuckooShares$Tape;") (by decide +kernel)) hin rfl (by decide +kernel) rfl rfl (Nat.le_of_ble_eq_true rfl) dX10_init_6 (fun H locs hB hS => ?_)
  have hB : Bk D (GX10_1 cA g b n k0 r1 r2) b (n) H := hB
  have hek0 : (GX10_1 cA g b n k0 r1 r2) (k0) = .inr (10, [.ref r1, .null, .int 0, .int 0, .int 0]) := upE_at
  refine lv_aload_n hx hb dX10_init_9 rfl (lv_at hl 0 rfl) ?_
  refine lv_aload_n hx hb dX10_init_10 rfl (lv_at hl 2 rfl) ?_
  refine bk_putF (ci := 10) (v := .ref r2) (ty := (.object "CuckooShares$Valley")) (C := RX10) (T := TX10) (N := 5) hx hb hts icX10_init_10 tyX10 tyX10_ok nmX10 hown hK hB hS (by omega) hek0 rfl 1 (by decide) (hts (.fieldLink RX10 15 "CuckooShares$ValleyText" "into" "LCuckooShares$Valley;") (by decide +kernel)) hin rfl (by decide +kernel) rfl rfl (Nat.le_of_ble_eq_true rfl) dX10_init_11 (fun H locs hB hS => ?_)
  have hB : Bk D (GX10_2 cA g b n k0 r1 r2) b (n) H := hB
  have hek0 : (GX10_2 cA g b n k0 r1 r2) (k0) = .inr (10, [.ref r1, .ref r2, .int 0, .int 0, .int 0]) := upE_at
  exact bk_ret hx hb hr hB hS hlocks dX10_init_14
theorem icX2_init_2 : ∀ w ∈ u_ws RX2 TX2 7, w ∈ wsX2_init := by decide +kernel
def GX2_1 (cA : Nat → ClassId) (g : Nat → va_E) (b n k0 : Nat) : Nat → va_E := upE g (n) (.inl (cA 0, 8, .inl (fun _ => 0)))
def GX2_2 (cA : Nat → ClassId) (g : Nat → va_E) (b n k0 : Nat) : Nat → va_E := upE (GX2_1 cA g b n k0) k0 (.inr (2, [.int 0, .int 0, .int 0, .ref (b + n), .null, .null, .null]))
def GX2_3 (cA : Nat → ClassId) (g : Nat → va_E) (b n k0 : Nat) : Nat → va_E := upE (GX2_2 cA g b n k0) (n + 1) (.inl (cA 0, 8, .inl (fun _ => 0)))
def GX2_4 (cA : Nat → ClassId) (g : Nat → va_E) (b n k0 : Nat) : Nat → va_E := upE (GX2_3 cA g b n k0) k0 (.inr (2, [.int 0, .int 0, .int 0, .ref (b + n), .ref (b + (n + 1)), .null, .null]))
def GX2_5 (cA : Nat → ClassId) (g : Nat → va_E) (b n k0 : Nat) : Nat → va_E := upE (GX2_4 cA g b n k0) (n + 2) (.inl (cA 0, 8, .inl (fun _ => 0)))
def GX2_6 (cA : Nat → ClassId) (g : Nat → va_E) (b n k0 : Nat) : Nat → va_E := upE (GX2_5 cA g b n k0) k0 (.inr (2, [.int 0, .int 0, .int 0, .ref (b + n), .ref (b + (n + 1)), .ref (b + (n + 2)), .null]))
def GX2_7 (cA : Nat → ClassId) (g : Nat → va_E) (b n k0 : Nat) : Nat → va_E := upE (GX2_6 cA g b n k0) (n + 3) (.inl (cA 0, 8, .inl (fun _ => 0)))
def GX2_8 (cA : Nat → ClassId) (g : Nat → va_E) (b n k0 : Nat) : Nat → va_E := upE (GX2_7 cA g b n k0) k0 (.inr (2, [.int 0, .int 0, .int 0, .ref (b + n), .ref (b + (n + 1)), .ref (b + (n + 2)), .ref (b + (n + 3))]))
def GX2_9 (cA : Nat → ClassId) (g : Nat → va_E) (b n k0 : Nat) : Nat → va_E := upE (GX2_8 cA g b n k0) k0 (.inr (2, [.int 0, .int (-1), .int 0, .ref (b + n), .ref (b + (n + 1)), .ref (b + (n + 2)), .ref (b + (n + 3))]))
def GX2 (cA : Nat → ClassId) (g : Nat → va_E) (b n k0 : Nat) : Nat → va_E := (GX2_9 cA g b n k0)
set_option maxRecDepth 4000 in
theorem GX2_self {cA : Nat → ClassId} {g : Nat → va_E} {b n k0 : Nat} (hk0 : k0 < n) : GX2 cA g b n k0 k0 = .inr (2, [.int 0, .int (-1), .int 0, .ref (b + n), .ref (b + (n + 1)), .ref (b + (n + 2)), .ref (b + (n + 3))]) := upE_at
set_option maxRecDepth 4000 in
theorem GX2_old {cA : Nat → ClassId} {g : Nat → va_E} {b n k0 : Nat} {q : Nat} (hq : q < n) (hne : q ≠ k0) : GX2 cA g b n k0 q = g q := (upE_ne (by omega)).trans ((upE_ne (by omega)).trans ((upE_ne (by omega)).trans ((upE_ne (by omega)).trans ((upE_ne (by omega)).trans ((upE_ne (by omega)).trans ((upE_ne (by omega)).trans ((upE_ne (by omega)).trans ((upE_ne (by omega)).trans (rfl)))))))))
set_option maxHeartbeats 4000000 in
set_option maxRecDepth 8000 in
theorem c_X2_init (l : Launch) (D : va_G) (cA : Nat → ClassId) (g : Nat → va_E) (b n k0 : Nat) (hk0 : k0 < n) (hek0 : g k0 = .inr (2, [.int 0, .int 0, .int 0, .null, .null, .null, .null])) : Met l yX2_init wsX2_init ({ frames := 1, cells := 4, slots := 32, locals := 12 } : Room) (BkP D cA g b n [.ref (b + k0)]) (BkQ D (GX2 cA g b n k0) b (n + 4)) 4 32 (Ab b) := by
  refine Met.ofW (cc := cX2_init) (maxL := 1) (ret := none) (by decide) rfl ?_
  intro p e s m args below meth c s₁ B hml hv
  obtain ⟨rfl, hB, hK, hE⟩ := hv
  have hx := B.exec
  have hb := B.bytes
  have hr := B.returns
  have hts := atoms_spec (ws := wsX2_init) B.pre
  have hown : s.vm.findClass RX2 = some m.cls := findClass_of_methodNamed B.named
  have hlocks := B.notSynchronized
  have hin : meth.name = "<init>" := (name_of_methodNamed B.named B.method).1
  have hS : va_S (Ab b) s.heap s.heap [] := va_S.rf
  have hl := lv_entry ([.ref (b + k0)]) (n := 1) (Nat.le_of_ble_eq_true rfl)
  rw [lg_entry_eq]
  generalize (lg_sl ([.ref (b + k0)]) ++ List.replicate (1 - (lg_sl ([.ref (b + k0)])).length) Slot.unset).toArray = ls at hl ⊢
  have hl : lv_has ls 1 [(0, .ref (b + k0))] := hl
  refine lv_aload_n hx hb dX2_init_0 rfl (lv_at hl 0 rfl) ?_
  refine W.objInit hx hb hown (hts (.methodLink RX2 3 objectInit) (by decide +kernel)) (hts (.instanceMethod objectInit) (by decide +kernel)) (hts (.code objectInit ⟨#[0xb1]⟩ 1 none) (by decide +kernel)) rfl (by rw [hml]; exact hl.1) rfl dX2_init_1 (Nat.le_of_ble_eq_true rfl) (Nat.le_of_ble_eq_true rfl) ?_
  refine W.eq (g2 := F0 m 4 ls []) rfl ?_
  refine lv_aload_n hx hb dX2_init_4 rfl (lv_at hl 0 rfl) ?_
  refine lv_bipush (v := 8) hx hb dX2_init_5 (by decide) ?_
  refine bk_newa (atype := .int) (ty := .int) (cR := cA 0) (x := 8) (N' := 8) (a0 := (8, .inl (fun _ => 0))) hx hb (hts (.arrayClass .int) (by decide +kernel)) rfl hK 0 rfl (fun h => h) hB hS (fun _ => rfl) (by decide) (by decide) (by decide) (Nat.le_of_ble_eq_true rfl) (Nat.le_of_ble_eq_true rfl) dX2_init_7 (fun H hB hS => ?_)
  have hB : Bk D (GX2_1 cA g b n k0) b (n + 1) H := hB
  have hek0 : (GX2_1 cA g b n k0) (k0) = .inr (2, [.int 0, .int 0, .int 0, .null, .null, .null, .null]) := (upE_ne (by omega)).trans hek0
  refine W.widen (k := 1) (n := 8) (by omega) (by omega) ?_
  refine bk_putF (ci := 2) (v := .ref (b + n)) (ty := (.array .int)) (C := RX2) (T := TX2) (N := 7) hx hb hts icX2_init_2 tyX2 tyX2_ok nmX2 hown hK hB hS (by omega) hek0 rfl 3 (by decide) (hts (.fieldLink RX2 9 "CuckooShares$Days" "hill" "[I") (by decide +kernel)) hin rfl (by decide +kernel) rfl rfl (Nat.le_of_ble_eq_true rfl) dX2_init_9 (fun H locs hB hS => ?_)
  have hB : Bk D (GX2_2 cA g b n k0) b (n + 1) H := hB
  have hek0 : (GX2_2 cA g b n k0) (k0) = .inr (2, [.int 0, .int 0, .int 0, .ref (b + n), .null, .null, .null]) := upE_at
  refine lv_aload_n hx hb dX2_init_12 rfl (lv_at hl 0 rfl) ?_
  refine lv_bipush (v := 8) hx hb dX2_init_13 (by decide) ?_
  refine bk_newa (atype := .int) (ty := .int) (cR := cA 0) (x := 8) (N' := 8) (a0 := (8, .inl (fun _ => 0))) hx hb (hts (.arrayClass .int) (by decide +kernel)) rfl hK 0 rfl (fun h => h) hB hS (fun _ => rfl) (by decide) (by decide) (by decide) (Nat.le_of_ble_eq_true rfl) (Nat.le_of_ble_eq_true rfl) dX2_init_15 (fun H hB hS => ?_)
  have hB : Bk D (GX2_3 cA g b n k0) b (n + 2) H := hB
  have hek0 : (GX2_3 cA g b n k0) (k0) = .inr (2, [.int 0, .int 0, .int 0, .ref (b + n), .null, .null, .null]) := (upE_ne (by omega)).trans hek0
  refine W.widen (k := 2) (n := 16) (by omega) (by omega) ?_
  refine bk_putF (ci := 2) (v := .ref (b + (n + 1))) (ty := (.array .int)) (C := RX2) (T := TX2) (N := 7) hx hb hts icX2_init_2 tyX2 tyX2_ok nmX2 hown hK hB hS (by omega) hek0 rfl 4 (by decide) (hts (.fieldLink RX2 15 "CuckooShares$Days" "coins" "[I") (by decide +kernel)) hin rfl (by decide +kernel) rfl rfl (Nat.le_of_ble_eq_true rfl) dX2_init_17 (fun H locs hB hS => ?_)
  have hB : Bk D (GX2_4 cA g b n k0) b (n + 2) H := hB
  have hek0 : (GX2_4 cA g b n k0) (k0) = .inr (2, [.int 0, .int 0, .int 0, .ref (b + n), .ref (b + (n + 1)), .null, .null]) := upE_at
  refine lv_aload_n hx hb dX2_init_20 rfl (lv_at hl 0 rfl) ?_
  refine lv_bipush (v := 8) hx hb dX2_init_21 (by decide) ?_
  refine bk_newa (atype := .int) (ty := .int) (cR := cA 0) (x := 8) (N' := 8) (a0 := (8, .inl (fun _ => 0))) hx hb (hts (.arrayClass .int) (by decide +kernel)) rfl hK 0 rfl (fun h => h) hB hS (fun _ => rfl) (by decide) (by decide) (by decide) (Nat.le_of_ble_eq_true rfl) (Nat.le_of_ble_eq_true rfl) dX2_init_23 (fun H hB hS => ?_)
  have hB : Bk D (GX2_5 cA g b n k0) b (n + 3) H := hB
  have hek0 : (GX2_5 cA g b n k0) (k0) = .inr (2, [.int 0, .int 0, .int 0, .ref (b + n), .ref (b + (n + 1)), .null, .null]) := (upE_ne (by omega)).trans hek0
  refine W.widen (k := 3) (n := 24) (by omega) (by omega) ?_
  refine bk_putF (ci := 2) (v := .ref (b + (n + 2))) (ty := (.array .int)) (C := RX2) (T := TX2) (N := 7) hx hb hts icX2_init_2 tyX2 tyX2_ok nmX2 hown hK hB hS (by omega) hek0 rfl 5 (by decide) (hts (.fieldLink RX2 18 "CuckooShares$Days" "sworn" "[I") (by decide +kernel)) hin rfl (by decide +kernel) rfl rfl (Nat.le_of_ble_eq_true rfl) dX2_init_25 (fun H locs hB hS => ?_)
  have hB : Bk D (GX2_6 cA g b n k0) b (n + 3) H := hB
  have hek0 : (GX2_6 cA g b n k0) (k0) = .inr (2, [.int 0, .int 0, .int 0, .ref (b + n), .ref (b + (n + 1)), .ref (b + (n + 2)), .null]) := upE_at
  refine lv_aload_n hx hb dX2_init_28 rfl (lv_at hl 0 rfl) ?_
  refine lv_bipush (v := 8) hx hb dX2_init_29 (by decide) ?_
  refine bk_newa (atype := .int) (ty := .int) (cR := cA 0) (x := 8) (N' := 8) (a0 := (8, .inl (fun _ => 0))) hx hb (hts (.arrayClass .int) (by decide +kernel)) rfl hK 0 rfl (fun h => h) hB hS (fun _ => rfl) (by decide) (by decide) (by decide) (Nat.le_of_ble_eq_true rfl) (Nat.le_of_ble_eq_true rfl) dX2_init_31 (fun H hB hS => ?_)
  have hB : Bk D (GX2_7 cA g b n k0) b (n + 4) H := hB
  have hek0 : (GX2_7 cA g b n k0) (k0) = .inr (2, [.int 0, .int 0, .int 0, .ref (b + n), .ref (b + (n + 1)), .ref (b + (n + 2)), .null]) := (upE_ne (by omega)).trans hek0
  refine W.widen (k := 4) (n := 32) (by omega) (by omega) ?_
  refine bk_putF (ci := 2) (v := .ref (b + (n + 3))) (ty := (.array .int)) (C := RX2) (T := TX2) (N := 7) hx hb hts icX2_init_2 tyX2 tyX2_ok nmX2 hown hK hB hS (by omega) hek0 rfl 6 (by decide) (hts (.fieldLink RX2 21 "CuckooShares$Days" "store" "[I") (by decide +kernel)) hin rfl (by decide +kernel) rfl rfl (Nat.le_of_ble_eq_true rfl) dX2_init_33 (fun H locs hB hS => ?_)
  have hB : Bk D (GX2_8 cA g b n k0) b (n + 4) H := hB
  have hek0 : (GX2_8 cA g b n k0) (k0) = .inr (2, [.int 0, .int 0, .int 0, .ref (b + n), .ref (b + (n + 1)), .ref (b + (n + 2)), .ref (b + (n + 3))]) := upE_at
  refine lv_aload_n hx hb dX2_init_36 rfl (lv_at hl 0 rfl) ?_
  refine lv_iconst (v := -1) hx hb dX2_init_37 (by decide) ?_
  refine bk_putF (ci := 2) (v := .int (-1)) (ty := .int) (C := RX2) (T := TX2) (N := 7) hx hb hts icX2_init_2 tyX2 tyX2_ok nmX2 hown hK hB hS (by omega) hek0 rfl 1 (by decide) (hts (.fieldLink RX2 24 "CuckooShares$Days" "flight" "I") (by decide +kernel)) hin rfl (by decide +kernel) rfl rfl (Nat.le_of_ble_eq_true rfl) dX2_init_38 (fun H locs hB hS => ?_)
  have hB : Bk D (GX2_9 cA g b n k0) b (n + 4) H := hB
  have hek0 : (GX2_9 cA g b n k0) (k0) = .inr (2, [.int 0, .int (-1), .int 0, .ref (b + n), .ref (b + (n + 1)), .ref (b + (n + 2)), .ref (b + (n + 3))]) := upE_at
  exact bk_ret hx hb hr hB hS hlocks dX2_init_41
theorem icX3_init_2 : ∀ w ∈ u_ws RX2 TX2 7, w ∈ wsX3_init := by decide +kernel
theorem icX3_init_3 : ∀ w ∈ u_ws RX3 TX3 3, w ∈ wsX3_init := by decide +kernel
def GX3_1 (cA : Nat → ClassId) (g : Nat → va_E) (b n k0 : Nat) : Nat → va_E := upE g (n) (.inl (cA 5, 8, .inr (.inr (.inr (.inr (fun _ => none))))))
def GX3_2 (cA : Nat → ClassId) (g : Nat → va_E) (b n k0 : Nat) : Nat → va_E := upE (GX3_1 cA g b n k0) k0 (.inr (3, [.ref (b + n), .int 0, .int 0]))
def GX3_3 (cA : Nat → ClassId) (g : Nat → va_E) (b n k0 : Nat) : Nat → va_E := upE (GX3_2 cA g b n k0) (n + 1) (.inr (2, [.int 0, .int 0, .int 0, .null, .null, .null, .null]))
def GX3_4 (cA : Nat → ClassId) (g : Nat → va_E) (b n k0 : Nat) : Nat → va_E := GX2 cA (GX3_3 cA g b n k0) b (n + 2) (n + 1) 
def GX3_5 (cA : Nat → ClassId) (g : Nat → va_E) (b n k0 : Nat) : Nat → va_E := upE (GX3_4 cA g b n k0) (n) (.inl (cA 5, 8, .inr (.inr (.inr (.inr (va_up (fun _ => none) 0 (some (b + (n + 1)))))))))
def GX3_6 (cA : Nat → ClassId) (g : Nat → va_E) (b n k0 : Nat) : Nat → va_E := upE (GX3_5 cA g b n k0) (n + 6) (.inr (2, [.int 0, .int 0, .int 0, .null, .null, .null, .null]))
def GX3_7 (cA : Nat → ClassId) (g : Nat → va_E) (b n k0 : Nat) : Nat → va_E := GX2 cA (GX3_6 cA g b n k0) b (n + 7) (n + 6) 
def GX3_8 (cA : Nat → ClassId) (g : Nat → va_E) (b n k0 : Nat) : Nat → va_E := upE (GX3_7 cA g b n k0) (n) (.inl (cA 5, 8, .inr (.inr (.inr (.inr (va_up (va_up (fun _ => none) 0 (some (b + (n + 1)))) 1 (some (b + (n + 6)))))))))
def GX3_9 (cA : Nat → ClassId) (g : Nat → va_E) (b n k0 : Nat) : Nat → va_E := upE (GX3_8 cA g b n k0) (n + 11) (.inr (2, [.int 0, .int 0, .int 0, .null, .null, .null, .null]))
def GX3_10 (cA : Nat → ClassId) (g : Nat → va_E) (b n k0 : Nat) : Nat → va_E := GX2 cA (GX3_9 cA g b n k0) b (n + 12) (n + 11) 
def GX3_11 (cA : Nat → ClassId) (g : Nat → va_E) (b n k0 : Nat) : Nat → va_E := upE (GX3_10 cA g b n k0) (n) (.inl (cA 5, 8, .inr (.inr (.inr (.inr (va_up (va_up (va_up (fun _ => none) 0 (some (b + (n + 1)))) 1 (some (b + (n + 6)))) 2 (some (b + (n + 11)))))))))
def GX3_12 (cA : Nat → ClassId) (g : Nat → va_E) (b n k0 : Nat) : Nat → va_E := upE (GX3_11 cA g b n k0) (n + 16) (.inr (2, [.int 0, .int 0, .int 0, .null, .null, .null, .null]))
def GX3_13 (cA : Nat → ClassId) (g : Nat → va_E) (b n k0 : Nat) : Nat → va_E := GX2 cA (GX3_12 cA g b n k0) b (n + 17) (n + 16) 
def GX3_14 (cA : Nat → ClassId) (g : Nat → va_E) (b n k0 : Nat) : Nat → va_E := upE (GX3_13 cA g b n k0) (n) (.inl (cA 5, 8, .inr (.inr (.inr (.inr (va_up (va_up (va_up (va_up (fun _ => none) 0 (some (b + (n + 1)))) 1 (some (b + (n + 6)))) 2 (some (b + (n + 11)))) 3 (some (b + (n + 16)))))))))
def GX3_15 (cA : Nat → ClassId) (g : Nat → va_E) (b n k0 : Nat) : Nat → va_E := upE (GX3_14 cA g b n k0) (n + 21) (.inr (2, [.int 0, .int 0, .int 0, .null, .null, .null, .null]))
def GX3_16 (cA : Nat → ClassId) (g : Nat → va_E) (b n k0 : Nat) : Nat → va_E := GX2 cA (GX3_15 cA g b n k0) b (n + 22) (n + 21) 
def GX3_17 (cA : Nat → ClassId) (g : Nat → va_E) (b n k0 : Nat) : Nat → va_E := upE (GX3_16 cA g b n k0) (n) (.inl (cA 5, 8, .inr (.inr (.inr (.inr (va_up (va_up (va_up (va_up (va_up (fun _ => none) 0 (some (b + (n + 1)))) 1 (some (b + (n + 6)))) 2 (some (b + (n + 11)))) 3 (some (b + (n + 16)))) 4 (some (b + (n + 21)))))))))
def GX3_18 (cA : Nat → ClassId) (g : Nat → va_E) (b n k0 : Nat) : Nat → va_E := upE (GX3_17 cA g b n k0) (n + 26) (.inr (2, [.int 0, .int 0, .int 0, .null, .null, .null, .null]))
def GX3_19 (cA : Nat → ClassId) (g : Nat → va_E) (b n k0 : Nat) : Nat → va_E := GX2 cA (GX3_18 cA g b n k0) b (n + 27) (n + 26) 
def GX3_20 (cA : Nat → ClassId) (g : Nat → va_E) (b n k0 : Nat) : Nat → va_E := upE (GX3_19 cA g b n k0) (n) (.inl (cA 5, 8, .inr (.inr (.inr (.inr (va_up (va_up (va_up (va_up (va_up (va_up (fun _ => none) 0 (some (b + (n + 1)))) 1 (some (b + (n + 6)))) 2 (some (b + (n + 11)))) 3 (some (b + (n + 16)))) 4 (some (b + (n + 21)))) 5 (some (b + (n + 26)))))))))
def GX3_21 (cA : Nat → ClassId) (g : Nat → va_E) (b n k0 : Nat) : Nat → va_E := upE (GX3_20 cA g b n k0) (n + 31) (.inr (2, [.int 0, .int 0, .int 0, .null, .null, .null, .null]))
def GX3_22 (cA : Nat → ClassId) (g : Nat → va_E) (b n k0 : Nat) : Nat → va_E := GX2 cA (GX3_21 cA g b n k0) b (n + 32) (n + 31) 
def GX3_23 (cA : Nat → ClassId) (g : Nat → va_E) (b n k0 : Nat) : Nat → va_E := upE (GX3_22 cA g b n k0) (n) (.inl (cA 5, 8, .inr (.inr (.inr (.inr (va_up (va_up (va_up (va_up (va_up (va_up (va_up (fun _ => none) 0 (some (b + (n + 1)))) 1 (some (b + (n + 6)))) 2 (some (b + (n + 11)))) 3 (some (b + (n + 16)))) 4 (some (b + (n + 21)))) 5 (some (b + (n + 26)))) 6 (some (b + (n + 31)))))))))
def GX3_24 (cA : Nat → ClassId) (g : Nat → va_E) (b n k0 : Nat) : Nat → va_E := upE (GX3_23 cA g b n k0) (n + 36) (.inr (2, [.int 0, .int 0, .int 0, .null, .null, .null, .null]))
def GX3_25 (cA : Nat → ClassId) (g : Nat → va_E) (b n k0 : Nat) : Nat → va_E := GX2 cA (GX3_24 cA g b n k0) b (n + 37) (n + 36) 
def GX3_26 (cA : Nat → ClassId) (g : Nat → va_E) (b n k0 : Nat) : Nat → va_E := upE (GX3_25 cA g b n k0) (n) (.inl (cA 5, 8, .inr (.inr (.inr (.inr (va_up (va_up (va_up (va_up (va_up (va_up (va_up (va_up (fun _ => none) 0 (some (b + (n + 1)))) 1 (some (b + (n + 6)))) 2 (some (b + (n + 11)))) 3 (some (b + (n + 16)))) 4 (some (b + (n + 21)))) 5 (some (b + (n + 26)))) 6 (some (b + (n + 31)))) 7 (some (b + (n + 36)))))))))
def GX3 (cA : Nat → ClassId) (g : Nat → va_E) (b n k0 : Nat) : Nat → va_E := (GX3_26 cA g b n k0)
set_option maxRecDepth 4000 in
theorem GX3_self {cA : Nat → ClassId} {g : Nat → va_E} {b n k0 : Nat} (hk0 : k0 < n) : GX3 cA g b n k0 k0 = .inr (3, [.ref (b + n), .int 0, .int 0]) := (upE_ne (by omega)).trans ((GX2_old (by omega) (by omega)).trans ((upE_ne (by omega)).trans ((upE_ne (by omega)).trans ((GX2_old (by omega) (by omega)).trans ((upE_ne (by omega)).trans ((upE_ne (by omega)).trans ((GX2_old (by omega) (by omega)).trans ((upE_ne (by omega)).trans ((upE_ne (by omega)).trans ((GX2_old (by omega) (by omega)).trans ((upE_ne (by omega)).trans ((upE_ne (by omega)).trans ((GX2_old (by omega) (by omega)).trans ((upE_ne (by omega)).trans ((upE_ne (by omega)).trans ((GX2_old (by omega) (by omega)).trans ((upE_ne (by omega)).trans ((upE_ne (by omega)).trans ((GX2_old (by omega) (by omega)).trans ((upE_ne (by omega)).trans ((upE_ne (by omega)).trans ((GX2_old (by omega) (by omega)).trans ((upE_ne (by omega)).trans (upE_at))))))))))))))))))))))))
set_option maxRecDepth 4000 in
theorem GX3_old {cA : Nat → ClassId} {g : Nat → va_E} {b n k0 : Nat} {q : Nat} (hq : q < n) (hne : q ≠ k0) : GX3 cA g b n k0 q = g q := (upE_ne (by omega)).trans ((GX2_old (by omega) (by omega)).trans ((upE_ne (by omega)).trans ((upE_ne (by omega)).trans ((GX2_old (by omega) (by omega)).trans ((upE_ne (by omega)).trans ((upE_ne (by omega)).trans ((GX2_old (by omega) (by omega)).trans ((upE_ne (by omega)).trans ((upE_ne (by omega)).trans ((GX2_old (by omega) (by omega)).trans ((upE_ne (by omega)).trans ((upE_ne (by omega)).trans ((GX2_old (by omega) (by omega)).trans ((upE_ne (by omega)).trans ((upE_ne (by omega)).trans ((GX2_old (by omega) (by omega)).trans ((upE_ne (by omega)).trans ((upE_ne (by omega)).trans ((GX2_old (by omega) (by omega)).trans ((upE_ne (by omega)).trans ((upE_ne (by omega)).trans ((GX2_old (by omega) (by omega)).trans ((upE_ne (by omega)).trans ((upE_ne (by omega)).trans ((upE_ne (by omega)).trans (rfl))))))))))))))))))))))))))
set_option maxHeartbeats 4000000 in
set_option maxRecDepth 8000 in
theorem c_X3_init (l : Launch) (D : va_G) (cA : Nat → ClassId) (g : Nat → va_E) (b n k0 : Nat) (hk0 : k0 < n) (hek0 : g k0 = .inr (3, [.null, .int 0, .int 0])) : Met l yX3_init wsX3_init ({ frames := 2, cells := 41, slots := 320, locals := 32 } : Room) (BkP D cA g b n [.ref (b + k0)]) (BkQ D (GX3 cA g b n k0) b (n + 41)) 41 320 (Ab b) := by
  refine Met.ofW (cc := cX3_init) (maxL := 2) (ret := none) (by decide) rfl ?_
  intro p e s m args below meth c s₁ B hml hv
  obtain ⟨rfl, hB, hK, hE⟩ := hv
  have hx := B.exec
  have hb := B.bytes
  have hr := B.returns
  have hts := atoms_spec (ws := wsX3_init) B.pre
  have hown : s.vm.findClass RX3 = some m.cls := findClass_of_methodNamed B.named
  have hlocks := B.notSynchronized
  have hin : meth.name = "<init>" := (name_of_methodNamed B.named B.method).1
  have hS : va_S (Ab b) s.heap s.heap [] := va_S.rf
  have hl := lv_entry ([.ref (b + k0)]) (n := 2) (Nat.le_of_ble_eq_true rfl)
  rw [lg_entry_eq]
  generalize (lg_sl ([.ref (b + k0)]) ++ List.replicate (2 - (lg_sl ([.ref (b + k0)])).length) Slot.unset).toArray = ls at hl ⊢
  have hl : lv_has ls 2 [(0, .ref (b + k0))] := hl
  refine lv_aload_n hx hb dX3_init_0 rfl (lv_at hl 0 rfl) ?_
  refine W.objInit hx hb hown (hts (.methodLink RX3 3 objectInit) (by decide +kernel)) (hts (.instanceMethod objectInit) (by decide +kernel)) (hts (.code objectInit ⟨#[0xb1]⟩ 1 none) (by decide +kernel)) rfl (by rw [hml]; exact hl.1) rfl dX3_init_1 (Nat.le_of_ble_eq_true rfl) (Nat.le_of_ble_eq_true rfl) ?_
  refine W.eq (g2 := F0 m 4 ls []) rfl ?_
  refine lv_aload_n hx hb dX3_init_4 rfl (lv_at hl 0 rfl) ?_
  refine lv_bipush (v := 8) hx hb dX3_init_5 (by decide) ?_
  refine bk_newq (C := RX2) (cR := cA 5) (x := 8) (N' := 8) hx hb hown (hts (.classLink RX3 9 RX2) (by decide +kernel)) hE.1 hK 5 rfl hB hS (by decide) (by decide) (by decide) (Nat.le_of_ble_eq_true rfl) (Nat.le_of_ble_eq_true rfl) dX3_init_7 (fun H hB hS => ?_)
  have hB : Bk D (GX3_1 cA g b n k0) b (n + 1) H := hB
  have hek0 : (GX3_1 cA g b n k0) (k0) = .inr (3, [.null, .int 0, .int 0]) := (upE_ne (by omega)).trans hek0
  refine W.widen (k := 1) (n := 8) (by omega) (by omega) ?_
  have hen : (GX3_1 cA g b n k0) (n) = .inl (cA 5, 8, .inr (.inr (.inr (.inr (fun _ => none))))) := upE_at
  refine bk_putF (ci := 3) (v := .ref (b + n)) (ty := (.array (.object "CuckooShares$Days"))) (C := RX3) (T := TX3) (N := 3) hx hb hts icX3_init_3 tyX3 tyX3_ok nmX3 hown hK hB hS (by omega) hek0 rfl 0 (by decide) (hts (.fieldLink RX3 11 "CuckooShares$History" "kept" "[LCuckooShares$Days;") (by decide +kernel)) hin rfl (by decide +kernel) rfl rfl (Nat.le_of_ble_eq_true rfl) dX3_init_10 (fun H locs hB hS => ?_)
  have hB : Bk D (GX3_2 cA g b n k0) b (n + 1) H := hB
  have hek0 : (GX3_2 cA g b n k0) (k0) = .inr (3, [.ref (b + n), .int 0, .int 0]) := upE_at
  have hen : (GX3_2 cA g b n k0) (n) = .inl (cA 5, 8, .inr (.inr (.inr (.inr (fun _ => none))))) := (upE_ne (by omega)).trans hen
  refine lv_iconst (v := 0) hx hb dX3_init_13 (by decide) ?_
  refine lv_istore_n (lv' := [(1, .int 0), (0, .ref (b + k0))]) hx hb dX3_init_14 rfl hl (by decide) rfl (fun ls hl => ?_)
  refine lv_iload_n hx hb dX3_init_15 rfl (lv_at hl 0 rfl) ?_
  refine lv_bipush (v := 8) hx hb dX3_init_16 (by decide) ?_
  refine r_icmp_ge (tgt := 40) hx hb dX3_init_18 (by decide) (fun cq => ?_) (fun cq => ?_)
  · exact absurd cq (by decide)
  refine lv_aload_n hx hb dX3_init_21 rfl (lv_at hl 1 rfl) ?_
  refine bk_get (ci := 3) (v := .ref (b + n)) (C := RX3) (T := TX3) (N := 3) hx hb hts icX3_init_3 hown hK hB (by omega) hek0 rfl 0 (by decide) (hts (.fieldLink RX3 11 "CuckooShares$History" "kept" "[LCuckooShares$Days;") (by decide +kernel)) rfl dX3_init_22 ?_
  refine lv_iload_n hx hb dX3_init_25 rfl (lv_at hl 0 rfl) ?_
  refine bk_new (ci := 2) (fs := [.int 0, .int 0, .int 0, .null, .null, .null, .null]) (C := RX2) (T := TX2) (N := 7) hx hb hts icX3_init_2 tyX2 tyX2_ok hown (hts (.classLink RX3 9 RX2) (by decide +kernel)) (hts (.instantiable RX2 7) (by decide +kernel)) (hts (.initialized RX2) (by decide +kernel)) hK hB hS rfl dfX2 (Nat.le_of_ble_eq_true rfl) (Nat.le_of_ble_eq_true rfl) dX3_init_26 (fun H hB hS => ?_)
  have hB : Bk D (GX3_3 cA g b n k0) b (n + 2) H := hB
  have hek0 : (GX3_3 cA g b n k0) (k0) = .inr (3, [.ref (b + n), .int 0, .int 0]) := (upE_ne (by omega)).trans hek0
  have hen : (GX3_3 cA g b n k0) (n) = .inl (cA 5, 8, .inr (.inr (.inr (.inr (fun _ => none))))) := (upE_ne (by omega)).trans hen
  refine W.widen (k := 2) (n := 15) (by omega) (by omega) ?_
  have hen_1 : (GX3_3 cA g b n k0) (n + 1) = .inr (2, [.int 0, .int 0, .int 0, .null, .null, .null, .null]) := upE_at
  refine lv_dup hx hb dX3_init_29 rfl ?_
  refine bk_call (As := []) (rest := [.ref (b + (n + 1)), .int 0, .ref (b + n)]) (k0 := n + 1) ⟨hx, hb, hml, hown, hts⟩ hK hE hB hS (c_X2_init l D cA (GX3_3 cA g b n k0) b (n + 2) (n + 1)  (by omega) hen_1) (cwI 0 hts gX3_init_X2_init rfl rfl rfl (hts (.initialized RX2) (by decide +kernel)) (hts (.methodLink RX3 17 yX2_init) (by decide +kernel)) (hts (.instanceMethod yX2_init) (by decide +kernel)) rfl (by decide +kernel) ⟨by decide, by decide⟩) rfl hl.1 rfl (Nat.le_of_ble_eq_true rfl) dX3_init_30 (Nat.le_of_ble_eq_true rfl) (Nat.le_of_ble_eq_true rfl) (fun H locs hB hS => ?_)
  have hB : Bk D (GX3_4 cA g b n k0) b (n + 6) H := hB
  have hek0 : (GX3_4 cA g b n k0) (k0) = .inr (3, [.ref (b + n), .int 0, .int 0]) := (GX2_old (by omega) (by omega)).trans hek0
  have hen : (GX3_4 cA g b n k0) (n) = .inl (cA 5, 8, .inr (.inr (.inr (.inr (fun _ => none))))) := (GX2_old (by omega) (by omega)).trans hen
  have hen_1 : (GX3_4 cA g b n k0) (n + 1) = .inr (2, [.int 0, .int (-1), .int 0, .ref (b + (n + 2)), .ref (b + (n + 3)), .ref (b + (n + 4)), .ref (b + (n + 5))]) := GX2_self (by omega)
  refine W.widen (k := 6) (n := 47) (by omega) (by omega) ?_
  refine bk_aast (cR := cA 5) (r := (RX2, TX2, 7)) hx hb hK hB hS (n) 5 (n + 1) 2 (by omega) (by omega) hen rfl hen_1 rfl (j := 0) (by decide) (by decide) dX3_init_33 (fun H locs hB hS => ?_)
  have hB : Bk D (GX3_5 cA g b n k0) b (n + 6) H := hB
  have hek0 : (GX3_5 cA g b n k0) (k0) = .inr (3, [.ref (b + n), .int 0, .int 0]) := (upE_ne (by omega)).trans hek0
  have hen : (GX3_5 cA g b n k0) (n) = .inl (cA 5, 8, .inr (.inr (.inr (.inr (va_up (fun _ => none) 0 (some (b + (n + 1)))))))) := upE_at
  refine r_iinc (k := 0) (lv1 := fun z => [(1, .int z), (0, .ref (b + k0))]) hx hb dX3_init_34 hl rfl (by decide) (fun _ => rfl) (by decide) (by decide) (fun z ls ez hl => ?_)
  obtain rfl : z = 1 := Int32.toInt_inj.mp (by rw [ez]; rfl)
  refine lv_goto (tgt := 15) hx hb dX3_init_37 (by decide) ?_
  refine lv_iload_n hx hb dX3_init_15 rfl (lv_at hl 0 rfl) ?_
  refine lv_bipush (v := 8) hx hb dX3_init_16 (by decide) ?_
  refine r_icmp_ge (tgt := 40) hx hb dX3_init_18 (by decide) (fun cq => ?_) (fun cq => ?_)
  · exact absurd cq (by decide)
  refine lv_aload_n hx hb dX3_init_21 rfl (lv_at hl 1 rfl) ?_
  refine bk_get (ci := 3) (v := .ref (b + n)) (C := RX3) (T := TX3) (N := 3) hx hb hts icX3_init_3 hown hK hB (by omega) hek0 rfl 0 (by decide) (hts (.fieldLink RX3 11 "CuckooShares$History" "kept" "[LCuckooShares$Days;") (by decide +kernel)) rfl dX3_init_22 ?_
  refine lv_iload_n hx hb dX3_init_25 rfl (lv_at hl 0 rfl) ?_
  refine bk_new (ci := 2) (fs := [.int 0, .int 0, .int 0, .null, .null, .null, .null]) (C := RX2) (T := TX2) (N := 7) hx hb hts icX3_init_2 tyX2 tyX2_ok hown (hts (.classLink RX3 9 RX2) (by decide +kernel)) (hts (.instantiable RX2 7) (by decide +kernel)) (hts (.initialized RX2) (by decide +kernel)) hK hB hS rfl dfX2 (Nat.le_of_ble_eq_true rfl) (Nat.le_of_ble_eq_true rfl) dX3_init_26 (fun H hB hS => ?_)
  have hB : Bk D (GX3_6 cA g b n k0) b (n + 7) H := hB
  have hek0 : (GX3_6 cA g b n k0) (k0) = .inr (3, [.ref (b + n), .int 0, .int 0]) := (upE_ne (by omega)).trans hek0
  have hen : (GX3_6 cA g b n k0) (n) = .inl (cA 5, 8, .inr (.inr (.inr (.inr (va_up (fun _ => none) 0 (some (b + (n + 1)))))))) := (upE_ne (by omega)).trans hen
  refine W.widen (k := 7) (n := 54) (by omega) (by omega) ?_
  have hen_6 : (GX3_6 cA g b n k0) (n + 6) = .inr (2, [.int 0, .int 0, .int 0, .null, .null, .null, .null]) := upE_at
  refine lv_dup hx hb dX3_init_29 rfl ?_
  refine bk_call (As := []) (rest := [.ref (b + (n + 6)), .int 1, .ref (b + n)]) (k0 := n + 6) ⟨hx, hb, hml, hown, hts⟩ hK hE hB hS (c_X2_init l D cA (GX3_6 cA g b n k0) b (n + 7) (n + 6)  (by omega) hen_6) (cwI 0 hts gX3_init_X2_init rfl rfl rfl (hts (.initialized RX2) (by decide +kernel)) (hts (.methodLink RX3 17 yX2_init) (by decide +kernel)) (hts (.instanceMethod yX2_init) (by decide +kernel)) rfl (by decide +kernel) ⟨by decide, by decide⟩) rfl hl.1 rfl (Nat.le_of_ble_eq_true rfl) dX3_init_30 (Nat.le_of_ble_eq_true rfl) (Nat.le_of_ble_eq_true rfl) (fun H locs hB hS => ?_)
  have hB : Bk D (GX3_7 cA g b n k0) b (n + 11) H := hB
  have hek0 : (GX3_7 cA g b n k0) (k0) = .inr (3, [.ref (b + n), .int 0, .int 0]) := (GX2_old (by omega) (by omega)).trans hek0
  have hen : (GX3_7 cA g b n k0) (n) = .inl (cA 5, 8, .inr (.inr (.inr (.inr (va_up (fun _ => none) 0 (some (b + (n + 1)))))))) := (GX2_old (by omega) (by omega)).trans hen
  have hen_6 : (GX3_7 cA g b n k0) (n + 6) = .inr (2, [.int 0, .int (-1), .int 0, .ref (b + (n + 7)), .ref (b + (n + 8)), .ref (b + (n + 9)), .ref (b + (n + 10))]) := GX2_self (by omega)
  refine W.widen (k := 11) (n := 86) (by omega) (by omega) ?_
  refine bk_aast (cR := cA 5) (r := (RX2, TX2, 7)) hx hb hK hB hS (n) 5 (n + 6) 2 (by omega) (by omega) hen rfl hen_6 rfl (j := 1) (by decide) (by decide) dX3_init_33 (fun H locs hB hS => ?_)
  have hB : Bk D (GX3_8 cA g b n k0) b (n + 11) H := hB
  have hek0 : (GX3_8 cA g b n k0) (k0) = .inr (3, [.ref (b + n), .int 0, .int 0]) := (upE_ne (by omega)).trans hek0
  have hen : (GX3_8 cA g b n k0) (n) = .inl (cA 5, 8, .inr (.inr (.inr (.inr (va_up (va_up (fun _ => none) 0 (some (b + (n + 1)))) 1 (some (b + (n + 6)))))))) := upE_at
  refine r_iinc (k := 0) (lv1 := fun z => [(1, .int z), (0, .ref (b + k0))]) hx hb dX3_init_34 hl rfl (by decide) (fun _ => rfl) (by decide) (by decide) (fun z ls ez hl => ?_)
  obtain rfl : z = 2 := Int32.toInt_inj.mp (by rw [ez]; rfl)
  refine lv_goto (tgt := 15) hx hb dX3_init_37 (by decide) ?_
  refine lv_iload_n hx hb dX3_init_15 rfl (lv_at hl 0 rfl) ?_
  refine lv_bipush (v := 8) hx hb dX3_init_16 (by decide) ?_
  refine r_icmp_ge (tgt := 40) hx hb dX3_init_18 (by decide) (fun cq => ?_) (fun cq => ?_)
  · exact absurd cq (by decide)
  refine lv_aload_n hx hb dX3_init_21 rfl (lv_at hl 1 rfl) ?_
  refine bk_get (ci := 3) (v := .ref (b + n)) (C := RX3) (T := TX3) (N := 3) hx hb hts icX3_init_3 hown hK hB (by omega) hek0 rfl 0 (by decide) (hts (.fieldLink RX3 11 "CuckooShares$History" "kept" "[LCuckooShares$Days;") (by decide +kernel)) rfl dX3_init_22 ?_
  refine lv_iload_n hx hb dX3_init_25 rfl (lv_at hl 0 rfl) ?_
  refine bk_new (ci := 2) (fs := [.int 0, .int 0, .int 0, .null, .null, .null, .null]) (C := RX2) (T := TX2) (N := 7) hx hb hts icX3_init_2 tyX2 tyX2_ok hown (hts (.classLink RX3 9 RX2) (by decide +kernel)) (hts (.instantiable RX2 7) (by decide +kernel)) (hts (.initialized RX2) (by decide +kernel)) hK hB hS rfl dfX2 (Nat.le_of_ble_eq_true rfl) (Nat.le_of_ble_eq_true rfl) dX3_init_26 (fun H hB hS => ?_)
  have hB : Bk D (GX3_9 cA g b n k0) b (n + 12) H := hB
  have hek0 : (GX3_9 cA g b n k0) (k0) = .inr (3, [.ref (b + n), .int 0, .int 0]) := (upE_ne (by omega)).trans hek0
  have hen : (GX3_9 cA g b n k0) (n) = .inl (cA 5, 8, .inr (.inr (.inr (.inr (va_up (va_up (fun _ => none) 0 (some (b + (n + 1)))) 1 (some (b + (n + 6)))))))) := (upE_ne (by omega)).trans hen
  refine W.widen (k := 12) (n := 93) (by omega) (by omega) ?_
  have hen_11 : (GX3_9 cA g b n k0) (n + 11) = .inr (2, [.int 0, .int 0, .int 0, .null, .null, .null, .null]) := upE_at
  refine lv_dup hx hb dX3_init_29 rfl ?_
  refine bk_call (As := []) (rest := [.ref (b + (n + 11)), .int 2, .ref (b + n)]) (k0 := n + 11) ⟨hx, hb, hml, hown, hts⟩ hK hE hB hS (c_X2_init l D cA (GX3_9 cA g b n k0) b (n + 12) (n + 11)  (by omega) hen_11) (cwI 0 hts gX3_init_X2_init rfl rfl rfl (hts (.initialized RX2) (by decide +kernel)) (hts (.methodLink RX3 17 yX2_init) (by decide +kernel)) (hts (.instanceMethod yX2_init) (by decide +kernel)) rfl (by decide +kernel) ⟨by decide, by decide⟩) rfl hl.1 rfl (Nat.le_of_ble_eq_true rfl) dX3_init_30 (Nat.le_of_ble_eq_true rfl) (Nat.le_of_ble_eq_true rfl) (fun H locs hB hS => ?_)
  have hB : Bk D (GX3_10 cA g b n k0) b (n + 16) H := hB
  have hek0 : (GX3_10 cA g b n k0) (k0) = .inr (3, [.ref (b + n), .int 0, .int 0]) := (GX2_old (by omega) (by omega)).trans hek0
  have hen : (GX3_10 cA g b n k0) (n) = .inl (cA 5, 8, .inr (.inr (.inr (.inr (va_up (va_up (fun _ => none) 0 (some (b + (n + 1)))) 1 (some (b + (n + 6)))))))) := (GX2_old (by omega) (by omega)).trans hen
  have hen_11 : (GX3_10 cA g b n k0) (n + 11) = .inr (2, [.int 0, .int (-1), .int 0, .ref (b + (n + 12)), .ref (b + (n + 13)), .ref (b + (n + 14)), .ref (b + (n + 15))]) := GX2_self (by omega)
  refine W.widen (k := 16) (n := 125) (by omega) (by omega) ?_
  refine bk_aast (cR := cA 5) (r := (RX2, TX2, 7)) hx hb hK hB hS (n) 5 (n + 11) 2 (by omega) (by omega) hen rfl hen_11 rfl (j := 2) (by decide) (by decide) dX3_init_33 (fun H locs hB hS => ?_)
  have hB : Bk D (GX3_11 cA g b n k0) b (n + 16) H := hB
  have hek0 : (GX3_11 cA g b n k0) (k0) = .inr (3, [.ref (b + n), .int 0, .int 0]) := (upE_ne (by omega)).trans hek0
  have hen : (GX3_11 cA g b n k0) (n) = .inl (cA 5, 8, .inr (.inr (.inr (.inr (va_up (va_up (va_up (fun _ => none) 0 (some (b + (n + 1)))) 1 (some (b + (n + 6)))) 2 (some (b + (n + 11)))))))) := upE_at
  refine r_iinc (k := 0) (lv1 := fun z => [(1, .int z), (0, .ref (b + k0))]) hx hb dX3_init_34 hl rfl (by decide) (fun _ => rfl) (by decide) (by decide) (fun z ls ez hl => ?_)
  obtain rfl : z = 3 := Int32.toInt_inj.mp (by rw [ez]; rfl)
  refine lv_goto (tgt := 15) hx hb dX3_init_37 (by decide) ?_
  refine lv_iload_n hx hb dX3_init_15 rfl (lv_at hl 0 rfl) ?_
  refine lv_bipush (v := 8) hx hb dX3_init_16 (by decide) ?_
  refine r_icmp_ge (tgt := 40) hx hb dX3_init_18 (by decide) (fun cq => ?_) (fun cq => ?_)
  · exact absurd cq (by decide)
  refine lv_aload_n hx hb dX3_init_21 rfl (lv_at hl 1 rfl) ?_
  refine bk_get (ci := 3) (v := .ref (b + n)) (C := RX3) (T := TX3) (N := 3) hx hb hts icX3_init_3 hown hK hB (by omega) hek0 rfl 0 (by decide) (hts (.fieldLink RX3 11 "CuckooShares$History" "kept" "[LCuckooShares$Days;") (by decide +kernel)) rfl dX3_init_22 ?_
  refine lv_iload_n hx hb dX3_init_25 rfl (lv_at hl 0 rfl) ?_
  refine bk_new (ci := 2) (fs := [.int 0, .int 0, .int 0, .null, .null, .null, .null]) (C := RX2) (T := TX2) (N := 7) hx hb hts icX3_init_2 tyX2 tyX2_ok hown (hts (.classLink RX3 9 RX2) (by decide +kernel)) (hts (.instantiable RX2 7) (by decide +kernel)) (hts (.initialized RX2) (by decide +kernel)) hK hB hS rfl dfX2 (Nat.le_of_ble_eq_true rfl) (Nat.le_of_ble_eq_true rfl) dX3_init_26 (fun H hB hS => ?_)
  have hB : Bk D (GX3_12 cA g b n k0) b (n + 17) H := hB
  have hek0 : (GX3_12 cA g b n k0) (k0) = .inr (3, [.ref (b + n), .int 0, .int 0]) := (upE_ne (by omega)).trans hek0
  have hen : (GX3_12 cA g b n k0) (n) = .inl (cA 5, 8, .inr (.inr (.inr (.inr (va_up (va_up (va_up (fun _ => none) 0 (some (b + (n + 1)))) 1 (some (b + (n + 6)))) 2 (some (b + (n + 11)))))))) := (upE_ne (by omega)).trans hen
  refine W.widen (k := 17) (n := 132) (by omega) (by omega) ?_
  have hen_16 : (GX3_12 cA g b n k0) (n + 16) = .inr (2, [.int 0, .int 0, .int 0, .null, .null, .null, .null]) := upE_at
  refine lv_dup hx hb dX3_init_29 rfl ?_
  refine bk_call (As := []) (rest := [.ref (b + (n + 16)), .int 3, .ref (b + n)]) (k0 := n + 16) ⟨hx, hb, hml, hown, hts⟩ hK hE hB hS (c_X2_init l D cA (GX3_12 cA g b n k0) b (n + 17) (n + 16)  (by omega) hen_16) (cwI 0 hts gX3_init_X2_init rfl rfl rfl (hts (.initialized RX2) (by decide +kernel)) (hts (.methodLink RX3 17 yX2_init) (by decide +kernel)) (hts (.instanceMethod yX2_init) (by decide +kernel)) rfl (by decide +kernel) ⟨by decide, by decide⟩) rfl hl.1 rfl (Nat.le_of_ble_eq_true rfl) dX3_init_30 (Nat.le_of_ble_eq_true rfl) (Nat.le_of_ble_eq_true rfl) (fun H locs hB hS => ?_)
  have hB : Bk D (GX3_13 cA g b n k0) b (n + 21) H := hB
  have hek0 : (GX3_13 cA g b n k0) (k0) = .inr (3, [.ref (b + n), .int 0, .int 0]) := (GX2_old (by omega) (by omega)).trans hek0
  have hen : (GX3_13 cA g b n k0) (n) = .inl (cA 5, 8, .inr (.inr (.inr (.inr (va_up (va_up (va_up (fun _ => none) 0 (some (b + (n + 1)))) 1 (some (b + (n + 6)))) 2 (some (b + (n + 11)))))))) := (GX2_old (by omega) (by omega)).trans hen
  have hen_16 : (GX3_13 cA g b n k0) (n + 16) = .inr (2, [.int 0, .int (-1), .int 0, .ref (b + (n + 17)), .ref (b + (n + 18)), .ref (b + (n + 19)), .ref (b + (n + 20))]) := GX2_self (by omega)
  refine W.widen (k := 21) (n := 164) (by omega) (by omega) ?_
  refine bk_aast (cR := cA 5) (r := (RX2, TX2, 7)) hx hb hK hB hS (n) 5 (n + 16) 2 (by omega) (by omega) hen rfl hen_16 rfl (j := 3) (by decide) (by decide) dX3_init_33 (fun H locs hB hS => ?_)
  have hB : Bk D (GX3_14 cA g b n k0) b (n + 21) H := hB
  have hek0 : (GX3_14 cA g b n k0) (k0) = .inr (3, [.ref (b + n), .int 0, .int 0]) := (upE_ne (by omega)).trans hek0
  have hen : (GX3_14 cA g b n k0) (n) = .inl (cA 5, 8, .inr (.inr (.inr (.inr (va_up (va_up (va_up (va_up (fun _ => none) 0 (some (b + (n + 1)))) 1 (some (b + (n + 6)))) 2 (some (b + (n + 11)))) 3 (some (b + (n + 16)))))))) := upE_at
  refine r_iinc (k := 0) (lv1 := fun z => [(1, .int z), (0, .ref (b + k0))]) hx hb dX3_init_34 hl rfl (by decide) (fun _ => rfl) (by decide) (by decide) (fun z ls ez hl => ?_)
  obtain rfl : z = 4 := Int32.toInt_inj.mp (by rw [ez]; rfl)
  refine lv_goto (tgt := 15) hx hb dX3_init_37 (by decide) ?_
  refine lv_iload_n hx hb dX3_init_15 rfl (lv_at hl 0 rfl) ?_
  refine lv_bipush (v := 8) hx hb dX3_init_16 (by decide) ?_
  refine r_icmp_ge (tgt := 40) hx hb dX3_init_18 (by decide) (fun cq => ?_) (fun cq => ?_)
  · exact absurd cq (by decide)
  refine lv_aload_n hx hb dX3_init_21 rfl (lv_at hl 1 rfl) ?_
  refine bk_get (ci := 3) (v := .ref (b + n)) (C := RX3) (T := TX3) (N := 3) hx hb hts icX3_init_3 hown hK hB (by omega) hek0 rfl 0 (by decide) (hts (.fieldLink RX3 11 "CuckooShares$History" "kept" "[LCuckooShares$Days;") (by decide +kernel)) rfl dX3_init_22 ?_
  refine lv_iload_n hx hb dX3_init_25 rfl (lv_at hl 0 rfl) ?_
  refine bk_new (ci := 2) (fs := [.int 0, .int 0, .int 0, .null, .null, .null, .null]) (C := RX2) (T := TX2) (N := 7) hx hb hts icX3_init_2 tyX2 tyX2_ok hown (hts (.classLink RX3 9 RX2) (by decide +kernel)) (hts (.instantiable RX2 7) (by decide +kernel)) (hts (.initialized RX2) (by decide +kernel)) hK hB hS rfl dfX2 (Nat.le_of_ble_eq_true rfl) (Nat.le_of_ble_eq_true rfl) dX3_init_26 (fun H hB hS => ?_)
  have hB : Bk D (GX3_15 cA g b n k0) b (n + 22) H := hB
  have hek0 : (GX3_15 cA g b n k0) (k0) = .inr (3, [.ref (b + n), .int 0, .int 0]) := (upE_ne (by omega)).trans hek0
  have hen : (GX3_15 cA g b n k0) (n) = .inl (cA 5, 8, .inr (.inr (.inr (.inr (va_up (va_up (va_up (va_up (fun _ => none) 0 (some (b + (n + 1)))) 1 (some (b + (n + 6)))) 2 (some (b + (n + 11)))) 3 (some (b + (n + 16)))))))) := (upE_ne (by omega)).trans hen
  refine W.widen (k := 22) (n := 171) (by omega) (by omega) ?_
  have hen_21 : (GX3_15 cA g b n k0) (n + 21) = .inr (2, [.int 0, .int 0, .int 0, .null, .null, .null, .null]) := upE_at
  refine lv_dup hx hb dX3_init_29 rfl ?_
  refine bk_call (As := []) (rest := [.ref (b + (n + 21)), .int 4, .ref (b + n)]) (k0 := n + 21) ⟨hx, hb, hml, hown, hts⟩ hK hE hB hS (c_X2_init l D cA (GX3_15 cA g b n k0) b (n + 22) (n + 21)  (by omega) hen_21) (cwI 0 hts gX3_init_X2_init rfl rfl rfl (hts (.initialized RX2) (by decide +kernel)) (hts (.methodLink RX3 17 yX2_init) (by decide +kernel)) (hts (.instanceMethod yX2_init) (by decide +kernel)) rfl (by decide +kernel) ⟨by decide, by decide⟩) rfl hl.1 rfl (Nat.le_of_ble_eq_true rfl) dX3_init_30 (Nat.le_of_ble_eq_true rfl) (Nat.le_of_ble_eq_true rfl) (fun H locs hB hS => ?_)
  have hB : Bk D (GX3_16 cA g b n k0) b (n + 26) H := hB
  have hek0 : (GX3_16 cA g b n k0) (k0) = .inr (3, [.ref (b + n), .int 0, .int 0]) := (GX2_old (by omega) (by omega)).trans hek0
  have hen : (GX3_16 cA g b n k0) (n) = .inl (cA 5, 8, .inr (.inr (.inr (.inr (va_up (va_up (va_up (va_up (fun _ => none) 0 (some (b + (n + 1)))) 1 (some (b + (n + 6)))) 2 (some (b + (n + 11)))) 3 (some (b + (n + 16)))))))) := (GX2_old (by omega) (by omega)).trans hen
  have hen_21 : (GX3_16 cA g b n k0) (n + 21) = .inr (2, [.int 0, .int (-1), .int 0, .ref (b + (n + 22)), .ref (b + (n + 23)), .ref (b + (n + 24)), .ref (b + (n + 25))]) := GX2_self (by omega)
  refine W.widen (k := 26) (n := 203) (by omega) (by omega) ?_
  refine bk_aast (cR := cA 5) (r := (RX2, TX2, 7)) hx hb hK hB hS (n) 5 (n + 21) 2 (by omega) (by omega) hen rfl hen_21 rfl (j := 4) (by decide) (by decide) dX3_init_33 (fun H locs hB hS => ?_)
  have hB : Bk D (GX3_17 cA g b n k0) b (n + 26) H := hB
  have hek0 : (GX3_17 cA g b n k0) (k0) = .inr (3, [.ref (b + n), .int 0, .int 0]) := (upE_ne (by omega)).trans hek0
  have hen : (GX3_17 cA g b n k0) (n) = .inl (cA 5, 8, .inr (.inr (.inr (.inr (va_up (va_up (va_up (va_up (va_up (fun _ => none) 0 (some (b + (n + 1)))) 1 (some (b + (n + 6)))) 2 (some (b + (n + 11)))) 3 (some (b + (n + 16)))) 4 (some (b + (n + 21)))))))) := upE_at
  refine r_iinc (k := 0) (lv1 := fun z => [(1, .int z), (0, .ref (b + k0))]) hx hb dX3_init_34 hl rfl (by decide) (fun _ => rfl) (by decide) (by decide) (fun z ls ez hl => ?_)
  obtain rfl : z = 5 := Int32.toInt_inj.mp (by rw [ez]; rfl)
  refine lv_goto (tgt := 15) hx hb dX3_init_37 (by decide) ?_
  refine lv_iload_n hx hb dX3_init_15 rfl (lv_at hl 0 rfl) ?_
  refine lv_bipush (v := 8) hx hb dX3_init_16 (by decide) ?_
  refine r_icmp_ge (tgt := 40) hx hb dX3_init_18 (by decide) (fun cq => ?_) (fun cq => ?_)
  · exact absurd cq (by decide)
  refine lv_aload_n hx hb dX3_init_21 rfl (lv_at hl 1 rfl) ?_
  refine bk_get (ci := 3) (v := .ref (b + n)) (C := RX3) (T := TX3) (N := 3) hx hb hts icX3_init_3 hown hK hB (by omega) hek0 rfl 0 (by decide) (hts (.fieldLink RX3 11 "CuckooShares$History" "kept" "[LCuckooShares$Days;") (by decide +kernel)) rfl dX3_init_22 ?_
  refine lv_iload_n hx hb dX3_init_25 rfl (lv_at hl 0 rfl) ?_
  refine bk_new (ci := 2) (fs := [.int 0, .int 0, .int 0, .null, .null, .null, .null]) (C := RX2) (T := TX2) (N := 7) hx hb hts icX3_init_2 tyX2 tyX2_ok hown (hts (.classLink RX3 9 RX2) (by decide +kernel)) (hts (.instantiable RX2 7) (by decide +kernel)) (hts (.initialized RX2) (by decide +kernel)) hK hB hS rfl dfX2 (Nat.le_of_ble_eq_true rfl) (Nat.le_of_ble_eq_true rfl) dX3_init_26 (fun H hB hS => ?_)
  have hB : Bk D (GX3_18 cA g b n k0) b (n + 27) H := hB
  have hek0 : (GX3_18 cA g b n k0) (k0) = .inr (3, [.ref (b + n), .int 0, .int 0]) := (upE_ne (by omega)).trans hek0
  have hen : (GX3_18 cA g b n k0) (n) = .inl (cA 5, 8, .inr (.inr (.inr (.inr (va_up (va_up (va_up (va_up (va_up (fun _ => none) 0 (some (b + (n + 1)))) 1 (some (b + (n + 6)))) 2 (some (b + (n + 11)))) 3 (some (b + (n + 16)))) 4 (some (b + (n + 21)))))))) := (upE_ne (by omega)).trans hen
  refine W.widen (k := 27) (n := 210) (by omega) (by omega) ?_
  have hen_26 : (GX3_18 cA g b n k0) (n + 26) = .inr (2, [.int 0, .int 0, .int 0, .null, .null, .null, .null]) := upE_at
  refine lv_dup hx hb dX3_init_29 rfl ?_
  refine bk_call (As := []) (rest := [.ref (b + (n + 26)), .int 5, .ref (b + n)]) (k0 := n + 26) ⟨hx, hb, hml, hown, hts⟩ hK hE hB hS (c_X2_init l D cA (GX3_18 cA g b n k0) b (n + 27) (n + 26)  (by omega) hen_26) (cwI 0 hts gX3_init_X2_init rfl rfl rfl (hts (.initialized RX2) (by decide +kernel)) (hts (.methodLink RX3 17 yX2_init) (by decide +kernel)) (hts (.instanceMethod yX2_init) (by decide +kernel)) rfl (by decide +kernel) ⟨by decide, by decide⟩) rfl hl.1 rfl (Nat.le_of_ble_eq_true rfl) dX3_init_30 (Nat.le_of_ble_eq_true rfl) (Nat.le_of_ble_eq_true rfl) (fun H locs hB hS => ?_)
  have hB : Bk D (GX3_19 cA g b n k0) b (n + 31) H := hB
  have hek0 : (GX3_19 cA g b n k0) (k0) = .inr (3, [.ref (b + n), .int 0, .int 0]) := (GX2_old (by omega) (by omega)).trans hek0
  have hen : (GX3_19 cA g b n k0) (n) = .inl (cA 5, 8, .inr (.inr (.inr (.inr (va_up (va_up (va_up (va_up (va_up (fun _ => none) 0 (some (b + (n + 1)))) 1 (some (b + (n + 6)))) 2 (some (b + (n + 11)))) 3 (some (b + (n + 16)))) 4 (some (b + (n + 21)))))))) := (GX2_old (by omega) (by omega)).trans hen
  have hen_26 : (GX3_19 cA g b n k0) (n + 26) = .inr (2, [.int 0, .int (-1), .int 0, .ref (b + (n + 27)), .ref (b + (n + 28)), .ref (b + (n + 29)), .ref (b + (n + 30))]) := GX2_self (by omega)
  refine W.widen (k := 31) (n := 242) (by omega) (by omega) ?_
  refine bk_aast (cR := cA 5) (r := (RX2, TX2, 7)) hx hb hK hB hS (n) 5 (n + 26) 2 (by omega) (by omega) hen rfl hen_26 rfl (j := 5) (by decide) (by decide) dX3_init_33 (fun H locs hB hS => ?_)
  have hB : Bk D (GX3_20 cA g b n k0) b (n + 31) H := hB
  have hek0 : (GX3_20 cA g b n k0) (k0) = .inr (3, [.ref (b + n), .int 0, .int 0]) := (upE_ne (by omega)).trans hek0
  have hen : (GX3_20 cA g b n k0) (n) = .inl (cA 5, 8, .inr (.inr (.inr (.inr (va_up (va_up (va_up (va_up (va_up (va_up (fun _ => none) 0 (some (b + (n + 1)))) 1 (some (b + (n + 6)))) 2 (some (b + (n + 11)))) 3 (some (b + (n + 16)))) 4 (some (b + (n + 21)))) 5 (some (b + (n + 26)))))))) := upE_at
  refine r_iinc (k := 0) (lv1 := fun z => [(1, .int z), (0, .ref (b + k0))]) hx hb dX3_init_34 hl rfl (by decide) (fun _ => rfl) (by decide) (by decide) (fun z ls ez hl => ?_)
  obtain rfl : z = 6 := Int32.toInt_inj.mp (by rw [ez]; rfl)
  refine lv_goto (tgt := 15) hx hb dX3_init_37 (by decide) ?_
  refine lv_iload_n hx hb dX3_init_15 rfl (lv_at hl 0 rfl) ?_
  refine lv_bipush (v := 8) hx hb dX3_init_16 (by decide) ?_
  refine r_icmp_ge (tgt := 40) hx hb dX3_init_18 (by decide) (fun cq => ?_) (fun cq => ?_)
  · exact absurd cq (by decide)
  refine lv_aload_n hx hb dX3_init_21 rfl (lv_at hl 1 rfl) ?_
  refine bk_get (ci := 3) (v := .ref (b + n)) (C := RX3) (T := TX3) (N := 3) hx hb hts icX3_init_3 hown hK hB (by omega) hek0 rfl 0 (by decide) (hts (.fieldLink RX3 11 "CuckooShares$History" "kept" "[LCuckooShares$Days;") (by decide +kernel)) rfl dX3_init_22 ?_
  refine lv_iload_n hx hb dX3_init_25 rfl (lv_at hl 0 rfl) ?_
  refine bk_new (ci := 2) (fs := [.int 0, .int 0, .int 0, .null, .null, .null, .null]) (C := RX2) (T := TX2) (N := 7) hx hb hts icX3_init_2 tyX2 tyX2_ok hown (hts (.classLink RX3 9 RX2) (by decide +kernel)) (hts (.instantiable RX2 7) (by decide +kernel)) (hts (.initialized RX2) (by decide +kernel)) hK hB hS rfl dfX2 (Nat.le_of_ble_eq_true rfl) (Nat.le_of_ble_eq_true rfl) dX3_init_26 (fun H hB hS => ?_)
  have hB : Bk D (GX3_21 cA g b n k0) b (n + 32) H := hB
  have hek0 : (GX3_21 cA g b n k0) (k0) = .inr (3, [.ref (b + n), .int 0, .int 0]) := (upE_ne (by omega)).trans hek0
  have hen : (GX3_21 cA g b n k0) (n) = .inl (cA 5, 8, .inr (.inr (.inr (.inr (va_up (va_up (va_up (va_up (va_up (va_up (fun _ => none) 0 (some (b + (n + 1)))) 1 (some (b + (n + 6)))) 2 (some (b + (n + 11)))) 3 (some (b + (n + 16)))) 4 (some (b + (n + 21)))) 5 (some (b + (n + 26)))))))) := (upE_ne (by omega)).trans hen
  refine W.widen (k := 32) (n := 249) (by omega) (by omega) ?_
  have hen_31 : (GX3_21 cA g b n k0) (n + 31) = .inr (2, [.int 0, .int 0, .int 0, .null, .null, .null, .null]) := upE_at
  refine lv_dup hx hb dX3_init_29 rfl ?_
  refine bk_call (As := []) (rest := [.ref (b + (n + 31)), .int 6, .ref (b + n)]) (k0 := n + 31) ⟨hx, hb, hml, hown, hts⟩ hK hE hB hS (c_X2_init l D cA (GX3_21 cA g b n k0) b (n + 32) (n + 31)  (by omega) hen_31) (cwI 0 hts gX3_init_X2_init rfl rfl rfl (hts (.initialized RX2) (by decide +kernel)) (hts (.methodLink RX3 17 yX2_init) (by decide +kernel)) (hts (.instanceMethod yX2_init) (by decide +kernel)) rfl (by decide +kernel) ⟨by decide, by decide⟩) rfl hl.1 rfl (Nat.le_of_ble_eq_true rfl) dX3_init_30 (Nat.le_of_ble_eq_true rfl) (Nat.le_of_ble_eq_true rfl) (fun H locs hB hS => ?_)
  have hB : Bk D (GX3_22 cA g b n k0) b (n + 36) H := hB
  have hek0 : (GX3_22 cA g b n k0) (k0) = .inr (3, [.ref (b + n), .int 0, .int 0]) := (GX2_old (by omega) (by omega)).trans hek0
  have hen : (GX3_22 cA g b n k0) (n) = .inl (cA 5, 8, .inr (.inr (.inr (.inr (va_up (va_up (va_up (va_up (va_up (va_up (fun _ => none) 0 (some (b + (n + 1)))) 1 (some (b + (n + 6)))) 2 (some (b + (n + 11)))) 3 (some (b + (n + 16)))) 4 (some (b + (n + 21)))) 5 (some (b + (n + 26)))))))) := (GX2_old (by omega) (by omega)).trans hen
  have hen_31 : (GX3_22 cA g b n k0) (n + 31) = .inr (2, [.int 0, .int (-1), .int 0, .ref (b + (n + 32)), .ref (b + (n + 33)), .ref (b + (n + 34)), .ref (b + (n + 35))]) := GX2_self (by omega)
  refine W.widen (k := 36) (n := 281) (by omega) (by omega) ?_
  refine bk_aast (cR := cA 5) (r := (RX2, TX2, 7)) hx hb hK hB hS (n) 5 (n + 31) 2 (by omega) (by omega) hen rfl hen_31 rfl (j := 6) (by decide) (by decide) dX3_init_33 (fun H locs hB hS => ?_)
  have hB : Bk D (GX3_23 cA g b n k0) b (n + 36) H := hB
  have hek0 : (GX3_23 cA g b n k0) (k0) = .inr (3, [.ref (b + n), .int 0, .int 0]) := (upE_ne (by omega)).trans hek0
  have hen : (GX3_23 cA g b n k0) (n) = .inl (cA 5, 8, .inr (.inr (.inr (.inr (va_up (va_up (va_up (va_up (va_up (va_up (va_up (fun _ => none) 0 (some (b + (n + 1)))) 1 (some (b + (n + 6)))) 2 (some (b + (n + 11)))) 3 (some (b + (n + 16)))) 4 (some (b + (n + 21)))) 5 (some (b + (n + 26)))) 6 (some (b + (n + 31)))))))) := upE_at
  refine r_iinc (k := 0) (lv1 := fun z => [(1, .int z), (0, .ref (b + k0))]) hx hb dX3_init_34 hl rfl (by decide) (fun _ => rfl) (by decide) (by decide) (fun z ls ez hl => ?_)
  obtain rfl : z = 7 := Int32.toInt_inj.mp (by rw [ez]; rfl)
  refine lv_goto (tgt := 15) hx hb dX3_init_37 (by decide) ?_
  refine lv_iload_n hx hb dX3_init_15 rfl (lv_at hl 0 rfl) ?_
  refine lv_bipush (v := 8) hx hb dX3_init_16 (by decide) ?_
  refine r_icmp_ge (tgt := 40) hx hb dX3_init_18 (by decide) (fun cq => ?_) (fun cq => ?_)
  · exact absurd cq (by decide)
  refine lv_aload_n hx hb dX3_init_21 rfl (lv_at hl 1 rfl) ?_
  refine bk_get (ci := 3) (v := .ref (b + n)) (C := RX3) (T := TX3) (N := 3) hx hb hts icX3_init_3 hown hK hB (by omega) hek0 rfl 0 (by decide) (hts (.fieldLink RX3 11 "CuckooShares$History" "kept" "[LCuckooShares$Days;") (by decide +kernel)) rfl dX3_init_22 ?_
  refine lv_iload_n hx hb dX3_init_25 rfl (lv_at hl 0 rfl) ?_
  refine bk_new (ci := 2) (fs := [.int 0, .int 0, .int 0, .null, .null, .null, .null]) (C := RX2) (T := TX2) (N := 7) hx hb hts icX3_init_2 tyX2 tyX2_ok hown (hts (.classLink RX3 9 RX2) (by decide +kernel)) (hts (.instantiable RX2 7) (by decide +kernel)) (hts (.initialized RX2) (by decide +kernel)) hK hB hS rfl dfX2 (Nat.le_of_ble_eq_true rfl) (Nat.le_of_ble_eq_true rfl) dX3_init_26 (fun H hB hS => ?_)
  have hB : Bk D (GX3_24 cA g b n k0) b (n + 37) H := hB
  have hek0 : (GX3_24 cA g b n k0) (k0) = .inr (3, [.ref (b + n), .int 0, .int 0]) := (upE_ne (by omega)).trans hek0
  have hen : (GX3_24 cA g b n k0) (n) = .inl (cA 5, 8, .inr (.inr (.inr (.inr (va_up (va_up (va_up (va_up (va_up (va_up (va_up (fun _ => none) 0 (some (b + (n + 1)))) 1 (some (b + (n + 6)))) 2 (some (b + (n + 11)))) 3 (some (b + (n + 16)))) 4 (some (b + (n + 21)))) 5 (some (b + (n + 26)))) 6 (some (b + (n + 31)))))))) := (upE_ne (by omega)).trans hen
  refine W.widen (k := 37) (n := 288) (by omega) (by omega) ?_
  have hen_36 : (GX3_24 cA g b n k0) (n + 36) = .inr (2, [.int 0, .int 0, .int 0, .null, .null, .null, .null]) := upE_at
  refine lv_dup hx hb dX3_init_29 rfl ?_
  refine bk_call (As := []) (rest := [.ref (b + (n + 36)), .int 7, .ref (b + n)]) (k0 := n + 36) ⟨hx, hb, hml, hown, hts⟩ hK hE hB hS (c_X2_init l D cA (GX3_24 cA g b n k0) b (n + 37) (n + 36)  (by omega) hen_36) (cwI 0 hts gX3_init_X2_init rfl rfl rfl (hts (.initialized RX2) (by decide +kernel)) (hts (.methodLink RX3 17 yX2_init) (by decide +kernel)) (hts (.instanceMethod yX2_init) (by decide +kernel)) rfl (by decide +kernel) ⟨by decide, by decide⟩) rfl hl.1 rfl (Nat.le_of_ble_eq_true rfl) dX3_init_30 (Nat.le_of_ble_eq_true rfl) (Nat.le_of_ble_eq_true rfl) (fun H locs hB hS => ?_)
  have hB : Bk D (GX3_25 cA g b n k0) b (n + 41) H := hB
  have hek0 : (GX3_25 cA g b n k0) (k0) = .inr (3, [.ref (b + n), .int 0, .int 0]) := (GX2_old (by omega) (by omega)).trans hek0
  have hen : (GX3_25 cA g b n k0) (n) = .inl (cA 5, 8, .inr (.inr (.inr (.inr (va_up (va_up (va_up (va_up (va_up (va_up (va_up (fun _ => none) 0 (some (b + (n + 1)))) 1 (some (b + (n + 6)))) 2 (some (b + (n + 11)))) 3 (some (b + (n + 16)))) 4 (some (b + (n + 21)))) 5 (some (b + (n + 26)))) 6 (some (b + (n + 31)))))))) := (GX2_old (by omega) (by omega)).trans hen
  have hen_36 : (GX3_25 cA g b n k0) (n + 36) = .inr (2, [.int 0, .int (-1), .int 0, .ref (b + (n + 37)), .ref (b + (n + 38)), .ref (b + (n + 39)), .ref (b + (n + 40))]) := GX2_self (by omega)
  refine W.widen (k := 41) (n := 320) (by omega) (by omega) ?_
  refine bk_aast (cR := cA 5) (r := (RX2, TX2, 7)) hx hb hK hB hS (n) 5 (n + 36) 2 (by omega) (by omega) hen rfl hen_36 rfl (j := 7) (by decide) (by decide) dX3_init_33 (fun H locs hB hS => ?_)
  have hB : Bk D (GX3_26 cA g b n k0) b (n + 41) H := hB
  have hek0 : (GX3_26 cA g b n k0) (k0) = .inr (3, [.ref (b + n), .int 0, .int 0]) := (upE_ne (by omega)).trans hek0
  have hen : (GX3_26 cA g b n k0) (n) = .inl (cA 5, 8, .inr (.inr (.inr (.inr (va_up (va_up (va_up (va_up (va_up (va_up (va_up (va_up (fun _ => none) 0 (some (b + (n + 1)))) 1 (some (b + (n + 6)))) 2 (some (b + (n + 11)))) 3 (some (b + (n + 16)))) 4 (some (b + (n + 21)))) 5 (some (b + (n + 26)))) 6 (some (b + (n + 31)))) 7 (some (b + (n + 36)))))))) := upE_at
  refine r_iinc (k := 0) (lv1 := fun z => [(1, .int z), (0, .ref (b + k0))]) hx hb dX3_init_34 hl rfl (by decide) (fun _ => rfl) (by decide) (by decide) (fun z ls ez hl => ?_)
  obtain rfl : z = 8 := Int32.toInt_inj.mp (by rw [ez]; rfl)
  refine lv_goto (tgt := 15) hx hb dX3_init_37 (by decide) ?_
  refine lv_iload_n hx hb dX3_init_15 rfl (lv_at hl 0 rfl) ?_
  refine lv_bipush (v := 8) hx hb dX3_init_16 (by decide) ?_
  refine r_icmp_ge (tgt := 40) hx hb dX3_init_18 (by decide) (fun cq => ?_) (fun cq => ?_)
  rotate_left
  · exact absurd cq (by decide)
  exact bk_ret hx hb hr hB hS hlocks dX3_init_40
theorem icX1_init_1 : ∀ w ∈ u_ws RX1 TX1 9, w ∈ wsX1_init := by decide +kernel
def GX1_1 (cA : Nat → ClassId) (g : Nat → va_E) (b n k0 : Nat) (r1 : Nat) : Nat → va_E := upE g (n) (.inl (cA 0, 8, .inl (fun _ => 0)))
def GX1_2 (cA : Nat → ClassId) (g : Nat → va_E) (b n k0 : Nat) (r1 : Nat) : Nat → va_E := upE (GX1_1 cA g b n k0 r1) k0 (.inr (1, [.null, .ref (b + n), .null, .null, .null, .null, .null, .null, .null]))
def GX1_3 (cA : Nat → ClassId) (g : Nat → va_E) (b n k0 : Nat) (r1 : Nat) : Nat → va_E := upE (GX1_2 cA g b n k0 r1) (n + 1) (.inl (cA 0, 8, .inl (fun _ => 0)))
def GX1_4 (cA : Nat → ClassId) (g : Nat → va_E) (b n k0 : Nat) (r1 : Nat) : Nat → va_E := upE (GX1_3 cA g b n k0 r1) k0 (.inr (1, [.null, .ref (b + n), .ref (b + (n + 1)), .null, .null, .null, .null, .null, .null]))
def GX1_5 (cA : Nat → ClassId) (g : Nat → va_E) (b n k0 : Nat) (r1 : Nat) : Nat → va_E := upE (GX1_4 cA g b n k0 r1) (n + 2) (.inl (cA 0, 8, .inl (fun _ => 0)))
def GX1_6 (cA : Nat → ClassId) (g : Nat → va_E) (b n k0 : Nat) (r1 : Nat) : Nat → va_E := upE (GX1_5 cA g b n k0 r1) k0 (.inr (1, [.null, .ref (b + n), .ref (b + (n + 1)), .ref (b + (n + 2)), .null, .null, .null, .null, .null]))
def GX1_7 (cA : Nat → ClassId) (g : Nat → va_E) (b n k0 : Nat) (r1 : Nat) : Nat → va_E := upE (GX1_6 cA g b n k0 r1) (n + 3) (.inl (cA 0, 40, .inl (fun _ => 0)))
def GX1_8 (cA : Nat → ClassId) (g : Nat → va_E) (b n k0 : Nat) (r1 : Nat) : Nat → va_E := upE (GX1_7 cA g b n k0 r1) k0 (.inr (1, [.null, .ref (b + n), .ref (b + (n + 1)), .ref (b + (n + 2)), .ref (b + (n + 3)), .null, .null, .null, .null]))
def GX1_9 (cA : Nat → ClassId) (g : Nat → va_E) (b n k0 : Nat) (r1 : Nat) : Nat → va_E := upE (GX1_8 cA g b n k0 r1) (n + 4) (.inl (cA 0, 8, .inl (fun _ => 0)))
def GX1_10 (cA : Nat → ClassId) (g : Nat → va_E) (b n k0 : Nat) (r1 : Nat) : Nat → va_E := upE (GX1_9 cA g b n k0 r1) k0 (.inr (1, [.null, .ref (b + n), .ref (b + (n + 1)), .ref (b + (n + 2)), .ref (b + (n + 3)), .ref (b + (n + 4)), .null, .null, .null]))
def GX1_11 (cA : Nat → ClassId) (g : Nat → va_E) (b n k0 : Nat) (r1 : Nat) : Nat → va_E := upE (GX1_10 cA g b n k0 r1) (n + 5) (.inl (cA 0, 2, .inl (fun _ => 0)))
def GX1_12 (cA : Nat → ClassId) (g : Nat → va_E) (b n k0 : Nat) (r1 : Nat) : Nat → va_E := upE (GX1_11 cA g b n k0 r1) k0 (.inr (1, [.null, .ref (b + n), .ref (b + (n + 1)), .ref (b + (n + 2)), .ref (b + (n + 3)), .ref (b + (n + 4)), .ref (b + (n + 5)), .null, .null]))
def GX1_13 (cA : Nat → ClassId) (g : Nat → va_E) (b n k0 : Nat) (r1 : Nat) : Nat → va_E := upE (GX1_12 cA g b n k0 r1) (n + 6) (.inl (cA 0, 2, .inl (fun _ => 0)))
def GX1_14 (cA : Nat → ClassId) (g : Nat → va_E) (b n k0 : Nat) (r1 : Nat) : Nat → va_E := upE (GX1_13 cA g b n k0 r1) k0 (.inr (1, [.null, .ref (b + n), .ref (b + (n + 1)), .ref (b + (n + 2)), .ref (b + (n + 3)), .ref (b + (n + 4)), .ref (b + (n + 5)), .ref (b + (n + 6)), .null]))
def GX1_15 (cA : Nat → ClassId) (g : Nat → va_E) (b n k0 : Nat) (r1 : Nat) : Nat → va_E := upE (GX1_14 cA g b n k0 r1) (n + 7) (.inl (cA 0, 2, .inl (fun _ => 0)))
def GX1_16 (cA : Nat → ClassId) (g : Nat → va_E) (b n k0 : Nat) (r1 : Nat) : Nat → va_E := upE (GX1_15 cA g b n k0 r1) k0 (.inr (1, [.null, .ref (b + n), .ref (b + (n + 1)), .ref (b + (n + 2)), .ref (b + (n + 3)), .ref (b + (n + 4)), .ref (b + (n + 5)), .ref (b + (n + 6)), .ref (b + (n + 7))]))
def GX1_17 (cA : Nat → ClassId) (g : Nat → va_E) (b n k0 : Nat) (r1 : Nat) : Nat → va_E := upE (GX1_16 cA g b n k0 r1) k0 (.inr (1, [.ref r1, .ref (b + n), .ref (b + (n + 1)), .ref (b + (n + 2)), .ref (b + (n + 3)), .ref (b + (n + 4)), .ref (b + (n + 5)), .ref (b + (n + 6)), .ref (b + (n + 7))]))
def GX1 (cA : Nat → ClassId) (g : Nat → va_E) (b n k0 : Nat) (r1 : Nat) : Nat → va_E := (GX1_17 cA g b n k0 r1)
set_option maxRecDepth 4000 in
theorem GX1_self {cA : Nat → ClassId} {g : Nat → va_E} {b n k0 : Nat} {r1 : Nat} (hk0 : k0 < n) : GX1 cA g b n k0 r1 k0 = .inr (1, [.ref r1, .ref (b + n), .ref (b + (n + 1)), .ref (b + (n + 2)), .ref (b + (n + 3)), .ref (b + (n + 4)), .ref (b + (n + 5)), .ref (b + (n + 6)), .ref (b + (n + 7))]) := upE_at
set_option maxRecDepth 4000 in
theorem GX1_old {cA : Nat → ClassId} {g : Nat → va_E} {b n k0 : Nat} {r1 : Nat} {q : Nat} (hq : q < n) (hne : q ≠ k0) : GX1 cA g b n k0 r1 q = g q := (upE_ne (by omega)).trans ((upE_ne (by omega)).trans ((upE_ne (by omega)).trans ((upE_ne (by omega)).trans ((upE_ne (by omega)).trans ((upE_ne (by omega)).trans ((upE_ne (by omega)).trans ((upE_ne (by omega)).trans ((upE_ne (by omega)).trans ((upE_ne (by omega)).trans ((upE_ne (by omega)).trans ((upE_ne (by omega)).trans ((upE_ne (by omega)).trans ((upE_ne (by omega)).trans ((upE_ne (by omega)).trans ((upE_ne (by omega)).trans ((upE_ne (by omega)).trans (rfl)))))))))))))))))
set_option maxHeartbeats 4000000 in
set_option maxRecDepth 8000 in
theorem c_X1_init (l : Launch) (D : va_G) (cA : Nat → ClassId) (g : Nat → va_E) (b n k0 : Nat) (r1 : Nat) (hk0 : k0 < n) (hek0 : g k0 = .inr (1, [.null, .null, .null, .null, .null, .null, .null, .null, .null])) : Met l yX1_init wsX1_init ({ frames := 1, cells := 8, slots := 78, locals := 12 } : Room) (BkP D cA g b n [.ref (b + k0), .ref r1]) (BkQ D (GX1 cA g b n k0 r1) b (n + 8)) 8 78 (Ab b) := by
  refine Met.ofW (cc := cX1_init) (maxL := 2) (ret := none) (by decide) rfl ?_
  intro p e s m args below meth c s₁ B hml hv
  obtain ⟨rfl, hB, hK, hE⟩ := hv
  have hx := B.exec
  have hb := B.bytes
  have hr := B.returns
  have hts := atoms_spec (ws := wsX1_init) B.pre
  have hown : s.vm.findClass RX1 = some m.cls := findClass_of_methodNamed B.named
  have hlocks := B.notSynchronized
  have hin : meth.name = "<init>" := (name_of_methodNamed B.named B.method).1
  have hS : va_S (Ab b) s.heap s.heap [] := va_S.rf
  have hl := lv_entry ([.ref (b + k0), .ref r1]) (n := 2) (Nat.le_of_ble_eq_true rfl)
  rw [lg_entry_eq]
  generalize (lg_sl ([.ref (b + k0), .ref r1]) ++ List.replicate (2 - (lg_sl ([.ref (b + k0), .ref r1])).length) Slot.unset).toArray = ls at hl ⊢
  have hl : lv_has ls 2 [(0, .ref (b + k0)), (1, .ref r1)] := hl
  refine lv_aload_n hx hb dX1_init_0 rfl (lv_at hl 0 rfl) ?_
  refine W.objInit hx hb hown (hts (.methodLink RX1 3 objectInit) (by decide +kernel)) (hts (.instanceMethod objectInit) (by decide +kernel)) (hts (.code objectInit ⟨#[0xb1]⟩ 1 none) (by decide +kernel)) rfl (by rw [hml]; exact hl.1) rfl dX1_init_1 (Nat.le_of_ble_eq_true rfl) (Nat.le_of_ble_eq_true rfl) ?_
  refine W.eq (g2 := F0 m 4 ls []) rfl ?_
  refine lv_aload_n hx hb dX1_init_4 rfl (lv_at hl 0 rfl) ?_
  refine lv_bipush (v := 8) hx hb dX1_init_5 (by decide) ?_
  refine bk_newa (atype := .int) (ty := .int) (cR := cA 0) (x := 8) (N' := 8) (a0 := (8, .inl (fun _ => 0))) hx hb (hts (.arrayClass .int) (by decide +kernel)) rfl hK 0 rfl (fun h => h) hB hS (fun _ => rfl) (by decide) (by decide) (by decide) (Nat.le_of_ble_eq_true rfl) (Nat.le_of_ble_eq_true rfl) dX1_init_7 (fun H hB hS => ?_)
  have hB : Bk D (GX1_1 cA g b n k0 r1) b (n + 1) H := hB
  have hek0 : (GX1_1 cA g b n k0 r1) (k0) = .inr (1, [.null, .null, .null, .null, .null, .null, .null, .null, .null]) := (upE_ne (by omega)).trans hek0
  refine W.widen (k := 1) (n := 8) (by omega) (by omega) ?_
  refine bk_putF (ci := 1) (v := .ref (b + n)) (ty := (.array .int)) (C := RX1) (T := TX1) (N := 9) hx hb hts icX1_init_1 tyX1 tyX1_ok nmX1 hown hK hB hS (by omega) hek0 rfl 1 (by decide) (hts (.fieldLink RX1 9 "CuckooShares$Camp" "x" "[I") (by decide +kernel)) hin rfl (by decide +kernel) rfl rfl (Nat.le_of_ble_eq_true rfl) dX1_init_9 (fun H locs hB hS => ?_)
  have hB : Bk D (GX1_2 cA g b n k0 r1) b (n + 1) H := hB
  have hek0 : (GX1_2 cA g b n k0 r1) (k0) = .inr (1, [.null, .ref (b + n), .null, .null, .null, .null, .null, .null, .null]) := upE_at
  refine lv_aload_n hx hb dX1_init_12 rfl (lv_at hl 0 rfl) ?_
  refine lv_bipush (v := 8) hx hb dX1_init_13 (by decide) ?_
  refine bk_newa (atype := .int) (ty := .int) (cR := cA 0) (x := 8) (N' := 8) (a0 := (8, .inl (fun _ => 0))) hx hb (hts (.arrayClass .int) (by decide +kernel)) rfl hK 0 rfl (fun h => h) hB hS (fun _ => rfl) (by decide) (by decide) (by decide) (Nat.le_of_ble_eq_true rfl) (Nat.le_of_ble_eq_true rfl) dX1_init_15 (fun H hB hS => ?_)
  have hB : Bk D (GX1_3 cA g b n k0 r1) b (n + 2) H := hB
  have hek0 : (GX1_3 cA g b n k0 r1) (k0) = .inr (1, [.null, .ref (b + n), .null, .null, .null, .null, .null, .null, .null]) := (upE_ne (by omega)).trans hek0
  refine W.widen (k := 2) (n := 16) (by omega) (by omega) ?_
  refine bk_putF (ci := 1) (v := .ref (b + (n + 1))) (ty := (.array .int)) (C := RX1) (T := TX1) (N := 9) hx hb hts icX1_init_1 tyX1 tyX1_ok nmX1 hown hK hB hS (by omega) hek0 rfl 2 (by decide) (hts (.fieldLink RX1 15 "CuckooShares$Camp" "y" "[I") (by decide +kernel)) hin rfl (by decide +kernel) rfl rfl (Nat.le_of_ble_eq_true rfl) dX1_init_17 (fun H locs hB hS => ?_)
  have hB : Bk D (GX1_4 cA g b n k0 r1) b (n + 2) H := hB
  have hek0 : (GX1_4 cA g b n k0 r1) (k0) = .inr (1, [.null, .ref (b + n), .ref (b + (n + 1)), .null, .null, .null, .null, .null, .null]) := upE_at
  refine lv_aload_n hx hb dX1_init_20 rfl (lv_at hl 0 rfl) ?_
  refine lv_bipush (v := 8) hx hb dX1_init_21 (by decide) ?_
  refine bk_newa (atype := .int) (ty := .int) (cR := cA 0) (x := 8) (N' := 8) (a0 := (8, .inl (fun _ => 0))) hx hb (hts (.arrayClass .int) (by decide +kernel)) rfl hK 0 rfl (fun h => h) hB hS (fun _ => rfl) (by decide) (by decide) (by decide) (Nat.le_of_ble_eq_true rfl) (Nat.le_of_ble_eq_true rfl) dX1_init_23 (fun H hB hS => ?_)
  have hB : Bk D (GX1_5 cA g b n k0 r1) b (n + 3) H := hB
  have hek0 : (GX1_5 cA g b n k0 r1) (k0) = .inr (1, [.null, .ref (b + n), .ref (b + (n + 1)), .null, .null, .null, .null, .null, .null]) := (upE_ne (by omega)).trans hek0
  refine W.widen (k := 3) (n := 24) (by omega) (by omega) ?_
  refine bk_putF (ci := 1) (v := .ref (b + (n + 2))) (ty := (.array .int)) (C := RX1) (T := TX1) (N := 9) hx hb hts icX1_init_1 tyX1 tyX1_ok nmX1 hown hK hB hS (by omega) hek0 rfl 3 (by decide) (hts (.fieldLink RX1 18 "CuckooShares$Camp" "fall" "[I") (by decide +kernel)) hin rfl (by decide +kernel) rfl rfl (Nat.le_of_ble_eq_true rfl) dX1_init_25 (fun H locs hB hS => ?_)
  have hB : Bk D (GX1_6 cA g b n k0 r1) b (n + 3) H := hB
  have hek0 : (GX1_6 cA g b n k0 r1) (k0) = .inr (1, [.null, .ref (b + n), .ref (b + (n + 1)), .ref (b + (n + 2)), .null, .null, .null, .null, .null]) := upE_at
  refine lv_aload_n hx hb dX1_init_28 rfl (lv_at hl 0 rfl) ?_
  refine lv_bipush (v := 40) hx hb dX1_init_29 (by decide) ?_
  refine bk_newa (atype := .int) (ty := .int) (cR := cA 0) (x := 40) (N' := 40) (a0 := (40, .inl (fun _ => 0))) hx hb (hts (.arrayClass .int) (by decide +kernel)) rfl hK 0 rfl (fun h => h) hB hS (fun _ => rfl) (by decide) (by decide) (by decide) (Nat.le_of_ble_eq_true rfl) (Nat.le_of_ble_eq_true rfl) dX1_init_31 (fun H hB hS => ?_)
  have hB : Bk D (GX1_7 cA g b n k0 r1) b (n + 4) H := hB
  have hek0 : (GX1_7 cA g b n k0 r1) (k0) = .inr (1, [.null, .ref (b + n), .ref (b + (n + 1)), .ref (b + (n + 2)), .null, .null, .null, .null, .null]) := (upE_ne (by omega)).trans hek0
  refine W.widen (k := 4) (n := 64) (by omega) (by omega) ?_
  refine bk_putF (ci := 1) (v := .ref (b + (n + 3))) (ty := (.array .int)) (C := RX1) (T := TX1) (N := 9) hx hb hts icX1_init_1 tyX1 tyX1_ok nmX1 hown hK hB hS (by omega) hek0 rfl 4 (by decide) (hts (.fieldLink RX1 21 "CuckooShares$Camp" "heard" "[I") (by decide +kernel)) hin rfl (by decide +kernel) rfl rfl (Nat.le_of_ble_eq_true rfl) dX1_init_33 (fun H locs hB hS => ?_)
  have hB : Bk D (GX1_8 cA g b n k0 r1) b (n + 4) H := hB
  have hek0 : (GX1_8 cA g b n k0 r1) (k0) = .inr (1, [.null, .ref (b + n), .ref (b + (n + 1)), .ref (b + (n + 2)), .ref (b + (n + 3)), .null, .null, .null, .null]) := upE_at
  refine lv_aload_n hx hb dX1_init_36 rfl (lv_at hl 0 rfl) ?_
  refine lv_bipush (v := 8) hx hb dX1_init_37 (by decide) ?_
  refine bk_newa (atype := .int) (ty := .int) (cR := cA 0) (x := 8) (N' := 8) (a0 := (8, .inl (fun _ => 0))) hx hb (hts (.arrayClass .int) (by decide +kernel)) rfl hK 0 rfl (fun h => h) hB hS (fun _ => rfl) (by decide) (by decide) (by decide) (Nat.le_of_ble_eq_true rfl) (Nat.le_of_ble_eq_true rfl) dX1_init_39 (fun H hB hS => ?_)
  have hB : Bk D (GX1_9 cA g b n k0 r1) b (n + 5) H := hB
  have hek0 : (GX1_9 cA g b n k0 r1) (k0) = .inr (1, [.null, .ref (b + n), .ref (b + (n + 1)), .ref (b + (n + 2)), .ref (b + (n + 3)), .null, .null, .null, .null]) := (upE_ne (by omega)).trans hek0
  refine W.widen (k := 5) (n := 72) (by omega) (by omega) ?_
  refine bk_putF (ci := 1) (v := .ref (b + (n + 4))) (ty := (.array .int)) (C := RX1) (T := TX1) (N := 9) hx hb hts icX1_init_1 tyX1 tyX1_ok nmX1 hown hK hB hS (by omega) hek0 rfl 5 (by decide) (hts (.fieldLink RX1 24 "CuckooShares$Camp" "noted" "[I") (by decide +kernel)) hin rfl (by decide +kernel) rfl rfl (Nat.le_of_ble_eq_true rfl) dX1_init_41 (fun H locs hB hS => ?_)
  have hB : Bk D (GX1_10 cA g b n k0 r1) b (n + 5) H := hB
  have hek0 : (GX1_10 cA g b n k0 r1) (k0) = .inr (1, [.null, .ref (b + n), .ref (b + (n + 1)), .ref (b + (n + 2)), .ref (b + (n + 3)), .ref (b + (n + 4)), .null, .null, .null]) := upE_at
  refine lv_aload_n hx hb dX1_init_44 rfl (lv_at hl 0 rfl) ?_
  refine lv_iconst (v := 2) hx hb dX1_init_45 (by decide) ?_
  refine bk_newa (atype := .int) (ty := .int) (cR := cA 0) (x := 2) (N' := 2) (a0 := (2, .inl (fun _ => 0))) hx hb (hts (.arrayClass .int) (by decide +kernel)) rfl hK 0 rfl (fun h => h) hB hS (fun _ => rfl) (by decide) (by decide) (by decide) (Nat.le_of_ble_eq_true rfl) (Nat.le_of_ble_eq_true rfl) dX1_init_46 (fun H hB hS => ?_)
  have hB : Bk D (GX1_11 cA g b n k0 r1) b (n + 6) H := hB
  have hek0 : (GX1_11 cA g b n k0 r1) (k0) = .inr (1, [.null, .ref (b + n), .ref (b + (n + 1)), .ref (b + (n + 2)), .ref (b + (n + 3)), .ref (b + (n + 4)), .null, .null, .null]) := (upE_ne (by omega)).trans hek0
  refine W.widen (k := 6) (n := 74) (by omega) (by omega) ?_
  refine bk_putF (ci := 1) (v := .ref (b + (n + 5))) (ty := (.array .int)) (C := RX1) (T := TX1) (N := 9) hx hb hts icX1_init_1 tyX1 tyX1_ok nmX1 hown hK hB hS (by omega) hek0 rfl 6 (by decide) (hts (.fieldLink RX1 27 "CuckooShares$Camp" "shareCall" "[I") (by decide +kernel)) hin rfl (by decide +kernel) rfl rfl (Nat.le_of_ble_eq_true rfl) dX1_init_48 (fun H locs hB hS => ?_)
  have hB : Bk D (GX1_12 cA g b n k0 r1) b (n + 6) H := hB
  have hek0 : (GX1_12 cA g b n k0 r1) (k0) = .inr (1, [.null, .ref (b + n), .ref (b + (n + 1)), .ref (b + (n + 2)), .ref (b + (n + 3)), .ref (b + (n + 4)), .ref (b + (n + 5)), .null, .null]) := upE_at
  refine lv_aload_n hx hb dX1_init_51 rfl (lv_at hl 0 rfl) ?_
  refine lv_iconst (v := 2) hx hb dX1_init_52 (by decide) ?_
  refine bk_newa (atype := .int) (ty := .int) (cR := cA 0) (x := 2) (N' := 2) (a0 := (2, .inl (fun _ => 0))) hx hb (hts (.arrayClass .int) (by decide +kernel)) rfl hK 0 rfl (fun h => h) hB hS (fun _ => rfl) (by decide) (by decide) (by decide) (Nat.le_of_ble_eq_true rfl) (Nat.le_of_ble_eq_true rfl) dX1_init_53 (fun H hB hS => ?_)
  have hB : Bk D (GX1_13 cA g b n k0 r1) b (n + 7) H := hB
  have hek0 : (GX1_13 cA g b n k0 r1) (k0) = .inr (1, [.null, .ref (b + n), .ref (b + (n + 1)), .ref (b + (n + 2)), .ref (b + (n + 3)), .ref (b + (n + 4)), .ref (b + (n + 5)), .null, .null]) := (upE_ne (by omega)).trans hek0
  refine W.widen (k := 7) (n := 76) (by omega) (by omega) ?_
  refine bk_putF (ci := 1) (v := .ref (b + (n + 6))) (ty := (.array .int)) (C := RX1) (T := TX1) (N := 9) hx hb hts icX1_init_1 tyX1 tyX1_ok nmX1 hown hK hB hS (by omega) hek0 rfl 7 (by decide) (hts (.fieldLink RX1 30 "CuckooShares$Camp" "sharers" "[I") (by decide +kernel)) hin rfl (by decide +kernel) rfl rfl (Nat.le_of_ble_eq_true rfl) dX1_init_55 (fun H locs hB hS => ?_)
  have hB : Bk D (GX1_14 cA g b n k0 r1) b (n + 7) H := hB
  have hek0 : (GX1_14 cA g b n k0 r1) (k0) = .inr (1, [.null, .ref (b + n), .ref (b + (n + 1)), .ref (b + (n + 2)), .ref (b + (n + 3)), .ref (b + (n + 4)), .ref (b + (n + 5)), .ref (b + (n + 6)), .null]) := upE_at
  refine lv_aload_n hx hb dX1_init_58 rfl (lv_at hl 0 rfl) ?_
  refine lv_iconst (v := 2) hx hb dX1_init_59 (by decide) ?_
  refine bk_newa (atype := .int) (ty := .int) (cR := cA 0) (x := 2) (N' := 2) (a0 := (2, .inl (fun _ => 0))) hx hb (hts (.arrayClass .int) (by decide +kernel)) rfl hK 0 rfl (fun h => h) hB hS (fun _ => rfl) (by decide) (by decide) (by decide) (Nat.le_of_ble_eq_true rfl) (Nat.le_of_ble_eq_true rfl) dX1_init_60 (fun H hB hS => ?_)
  have hB : Bk D (GX1_15 cA g b n k0 r1) b (n + 8) H := hB
  have hek0 : (GX1_15 cA g b n k0 r1) (k0) = .inr (1, [.null, .ref (b + n), .ref (b + (n + 1)), .ref (b + (n + 2)), .ref (b + (n + 3)), .ref (b + (n + 4)), .ref (b + (n + 5)), .ref (b + (n + 6)), .null]) := (upE_ne (by omega)).trans hek0
  refine W.widen (k := 8) (n := 78) (by omega) (by omega) ?_
  refine bk_putF (ci := 1) (v := .ref (b + (n + 7))) (ty := (.array .int)) (C := RX1) (T := TX1) (N := 9) hx hb hts icX1_init_1 tyX1 tyX1_ok nmX1 hown hK hB hS (by omega) hek0 rfl 8 (by decide) (hts (.fieldLink RX1 33 "CuckooShares$Camp" "weights" "[I") (by decide +kernel)) hin rfl (by decide +kernel) rfl rfl (Nat.le_of_ble_eq_true rfl) dX1_init_62 (fun H locs hB hS => ?_)
  have hB : Bk D (GX1_16 cA g b n k0 r1) b (n + 8) H := hB
  have hek0 : (GX1_16 cA g b n k0 r1) (k0) = .inr (1, [.null, .ref (b + n), .ref (b + (n + 1)), .ref (b + (n + 2)), .ref (b + (n + 3)), .ref (b + (n + 4)), .ref (b + (n + 5)), .ref (b + (n + 6)), .ref (b + (n + 7))]) := upE_at
  refine lv_aload_n hx hb dX1_init_65 rfl (lv_at hl 0 rfl) ?_
  refine lv_aload_n hx hb dX1_init_66 rfl (lv_at hl 1 rfl) ?_
  refine bk_putF (ci := 1) (v := .ref r1) (ty := (.object "CuckooShares$Valley")) (C := RX1) (T := TX1) (N := 9) hx hb hts icX1_init_1 tyX1 tyX1_ok nmX1 hown hK hB hS (by omega) hek0 rfl 0 (by decide) (hts (.fieldLink RX1 36 "CuckooShares$Camp" "valley" "LCuckooShares$Valley;") (by decide +kernel)) hin rfl (by decide +kernel) rfl rfl (Nat.le_of_ble_eq_true rfl) dX1_init_67 (fun H locs hB hS => ?_)
  have hB : Bk D (GX1_17 cA g b n k0 r1) b (n + 8) H := hB
  have hek0 : (GX1_17 cA g b n k0 r1) (k0) = .inr (1, [.ref r1, .ref (b + n), .ref (b + (n + 1)), .ref (b + (n + 2)), .ref (b + (n + 3)), .ref (b + (n + 4)), .ref (b + (n + 5)), .ref (b + (n + 6)), .ref (b + (n + 7))]) := upE_at
  exact bk_ret hx hb hr hB hS hlocks dX1_init_70
theorem icX0_init_0 : ∀ w ∈ u_ws RX0 TX0 3, w ∈ wsX0_init := by decide +kernel
def GX0_1 (cA : Nat → ClassId) (g : Nat → va_E) (b n k0 : Nat) (r1 : Nat) (r2 : Nat) : Nat → va_E := upE g k0 (.inr (0, [.ref r1, .null, .int 0]))
def GX0_2 (cA : Nat → ClassId) (g : Nat → va_E) (b n k0 : Nat) (r1 : Nat) (r2 : Nat) : Nat → va_E := upE (GX0_1 cA g b n k0 r1 r2) k0 (.inr (0, [.ref r1, .ref r2, .int 0]))
def GX0 (cA : Nat → ClassId) (g : Nat → va_E) (b n k0 : Nat) (r1 : Nat) (r2 : Nat) : Nat → va_E := (GX0_2 cA g b n k0 r1 r2)
set_option maxRecDepth 4000 in
theorem GX0_self {cA : Nat → ClassId} {g : Nat → va_E} {b n k0 : Nat} {r1 : Nat} {r2 : Nat} (hk0 : k0 < n) : GX0 cA g b n k0 r1 r2 k0 = .inr (0, [.ref r1, .ref r2, .int 0]) := upE_at
set_option maxRecDepth 4000 in
theorem GX0_old {cA : Nat → ClassId} {g : Nat → va_E} {b n k0 : Nat} {r1 : Nat} {r2 : Nat} {q : Nat} (hq : q < n) (hne : q ≠ k0) : GX0 cA g b n k0 r1 r2 q = g q := (upE_ne (by omega)).trans ((upE_ne (by omega)).trans (rfl))
set_option maxHeartbeats 4000000 in
set_option maxRecDepth 8000 in
theorem c_X0_init (l : Launch) (D : va_G) (cA : Nat → ClassId) (g : Nat → va_E) (b n k0 : Nat) (r1 : Nat) (r2 : Nat) (hk0 : k0 < n) (hek0 : g k0 = .inr (0, [.null, .null, .int 0])) : Met l yX0_init wsX0_init ({ frames := 1, cells := 0, slots := 0, locals := 12 } : Room) (BkP D cA g b n [.ref (b + k0), .ref r1, .ref r2]) (BkQ D (GX0 cA g b n k0 r1 r2) b (n + 0)) 0 0 (Ab b) := by
  refine Met.ofW (cc := cX0_init) (maxL := 3) (ret := none) (by decide) rfl ?_
  intro p e s m args below meth c s₁ B hml hv
  obtain ⟨rfl, hB, hK, hE⟩ := hv
  have hx := B.exec
  have hb := B.bytes
  have hr := B.returns
  have hts := atoms_spec (ws := wsX0_init) B.pre
  have hown : s.vm.findClass RX0 = some m.cls := findClass_of_methodNamed B.named
  have hlocks := B.notSynchronized
  have hin : meth.name = "<init>" := (name_of_methodNamed B.named B.method).1
  have hS : va_S (Ab b) s.heap s.heap [] := va_S.rf
  have hl := lv_entry ([.ref (b + k0), .ref r1, .ref r2]) (n := 3) (Nat.le_of_ble_eq_true rfl)
  rw [lg_entry_eq]
  generalize (lg_sl ([.ref (b + k0), .ref r1, .ref r2]) ++ List.replicate (3 - (lg_sl ([.ref (b + k0), .ref r1, .ref r2])).length) Slot.unset).toArray = ls at hl ⊢
  have hl : lv_has ls 3 [(0, .ref (b + k0)), (1, .ref r1), (2, .ref r2)] := hl
  refine lv_aload_n hx hb dX0_init_0 rfl (lv_at hl 0 rfl) ?_
  refine W.objInit hx hb hown (hts (.methodLink RX0 3 objectInit) (by decide +kernel)) (hts (.instanceMethod objectInit) (by decide +kernel)) (hts (.code objectInit ⟨#[0xb1]⟩ 1 none) (by decide +kernel)) rfl (by rw [hml]; exact hl.1) rfl dX0_init_1 (Nat.le_of_ble_eq_true rfl) (Nat.le_of_ble_eq_true rfl) ?_
  refine W.eq (g2 := F0 m 4 ls []) rfl ?_
  refine lv_aload_n hx hb dX0_init_4 rfl (lv_at hl 0 rfl) ?_
  refine lv_aload_n hx hb dX0_init_5 rfl (lv_at hl 1 rfl) ?_
  refine bk_putF (ci := 0) (v := .ref r1) (ty := (.object "CuckooShares$Valley")) (C := RX0) (T := TX0) (N := 3) hx hb hts icX0_init_0 tyX0 tyX0_ok nmX0 hown hK hB hS (by omega) hek0 rfl 0 (by decide) (hts (.fieldLink RX0 9 "CuckooShares$Acts" "valley" "LCuckooShares$Valley;") (by decide +kernel)) hin rfl (by decide +kernel) rfl rfl (Nat.le_of_ble_eq_true rfl) dX0_init_6 (fun H locs hB hS => ?_)
  have hB : Bk D (GX0_1 cA g b n k0 r1 r2) b (n) H := hB
  have hek0 : (GX0_1 cA g b n k0 r1 r2) (k0) = .inr (0, [.ref r1, .null, .int 0]) := upE_at
  refine lv_aload_n hx hb dX0_init_9 rfl (lv_at hl 0 rfl) ?_
  refine lv_aload_n hx hb dX0_init_10 rfl (lv_at hl 2 rfl) ?_
  refine bk_putF (ci := 0) (v := .ref r2) (ty := (.object "CuckooShares$Camp")) (C := RX0) (T := TX0) (N := 3) hx hb hts icX0_init_0 tyX0 tyX0_ok nmX0 hown hK hB hS (by omega) hek0 rfl 1 (by decide) (hts (.fieldLink RX0 15 "CuckooShares$Acts" "camp" "LCuckooShares$Camp;") (by decide +kernel)) hin rfl (by decide +kernel) rfl rfl (Nat.le_of_ble_eq_true rfl) dX0_init_11 (fun H locs hB hS => ?_)
  have hB : Bk D (GX0_2 cA g b n k0 r1 r2) b (n) H := hB
  have hek0 : (GX0_2 cA g b n k0 r1 r2) (k0) = .inr (0, [.ref r1, .ref r2, .int 0]) := upE_at
  exact bk_ret hx hb hr hB hS hlocks dX0_init_14
theorem icX6_init_6 : ∀ w ∈ u_ws RX6 TX6 7, w ∈ wsX6_init := by decide +kernel
def GX6_1 (cA : Nat → ClassId) (g : Nat → va_E) (b n k0 : Nat) : Nat → va_E := upE g (n) (.inl (cA 0, 40, .inl (fun _ => 0)))
def GX6_2 (cA : Nat → ClassId) (g : Nat → va_E) (b n k0 : Nat) : Nat → va_E := upE (GX6_1 cA g b n k0) k0 (.inr (6, [.int 0, .int 0, .int 0, .ref (b + n), .null, .null, .null]))
def GX6_3 (cA : Nat → ClassId) (g : Nat → va_E) (b n k0 : Nat) : Nat → va_E := upE (GX6_2 cA g b n k0) (n + 1) (.inl (cA 0, 40, .inl (fun _ => 0)))
def GX6_4 (cA : Nat → ClassId) (g : Nat → va_E) (b n k0 : Nat) : Nat → va_E := upE (GX6_3 cA g b n k0) k0 (.inr (6, [.int 0, .int 0, .int 0, .ref (b + n), .ref (b + (n + 1)), .null, .null]))
def GX6_5 (cA : Nat → ClassId) (g : Nat → va_E) (b n k0 : Nat) : Nat → va_E := upE (GX6_4 cA g b n k0) (n + 2) (.inl (cA 0, 40, .inl (fun _ => 0)))
def GX6_6 (cA : Nat → ClassId) (g : Nat → va_E) (b n k0 : Nat) : Nat → va_E := upE (GX6_5 cA g b n k0) k0 (.inr (6, [.int 0, .int 0, .int 0, .ref (b + n), .ref (b + (n + 1)), .ref (b + (n + 2)), .null]))
def GX6_7 (cA : Nat → ClassId) (g : Nat → va_E) (b n k0 : Nat) : Nat → va_E := upE (GX6_6 cA g b n k0) (n + 3) (.inl (cA 0, 40, .inl (fun _ => 0)))
def GX6_8 (cA : Nat → ClassId) (g : Nat → va_E) (b n k0 : Nat) : Nat → va_E := upE (GX6_7 cA g b n k0) k0 (.inr (6, [.int 0, .int 0, .int 0, .ref (b + n), .ref (b + (n + 1)), .ref (b + (n + 2)), .ref (b + (n + 3))]))
def GX6 (cA : Nat → ClassId) (g : Nat → va_E) (b n k0 : Nat) : Nat → va_E := (GX6_8 cA g b n k0)
set_option maxRecDepth 4000 in
theorem GX6_self {cA : Nat → ClassId} {g : Nat → va_E} {b n k0 : Nat} (hk0 : k0 < n) : GX6 cA g b n k0 k0 = .inr (6, [.int 0, .int 0, .int 0, .ref (b + n), .ref (b + (n + 1)), .ref (b + (n + 2)), .ref (b + (n + 3))]) := upE_at
set_option maxRecDepth 4000 in
theorem GX6_old {cA : Nat → ClassId} {g : Nat → va_E} {b n k0 : Nat} {q : Nat} (hq : q < n) (hne : q ≠ k0) : GX6 cA g b n k0 q = g q := (upE_ne (by omega)).trans ((upE_ne (by omega)).trans ((upE_ne (by omega)).trans ((upE_ne (by omega)).trans ((upE_ne (by omega)).trans ((upE_ne (by omega)).trans ((upE_ne (by omega)).trans ((upE_ne (by omega)).trans (rfl))))))))
set_option maxHeartbeats 4000000 in
set_option maxRecDepth 8000 in
theorem c_X6_init (l : Launch) (D : va_G) (cA : Nat → ClassId) (g : Nat → va_E) (b n k0 : Nat) (hk0 : k0 < n) (hek0 : g k0 = .inr (6, [.int 0, .int 0, .int 0, .null, .null, .null, .null])) : Met l yX6_init wsX6_init ({ frames := 1, cells := 4, slots := 160, locals := 12 } : Room) (BkP D cA g b n [.ref (b + k0)]) (BkQ D (GX6 cA g b n k0) b (n + 4)) 4 160 (Ab b) := by
  refine Met.ofW (cc := cX6_init) (maxL := 1) (ret := none) (by decide) rfl ?_
  intro p e s m args below meth c s₁ B hml hv
  obtain ⟨rfl, hB, hK, hE⟩ := hv
  have hx := B.exec
  have hb := B.bytes
  have hr := B.returns
  have hts := atoms_spec (ws := wsX6_init) B.pre
  have hown : s.vm.findClass RX6 = some m.cls := findClass_of_methodNamed B.named
  have hlocks := B.notSynchronized
  have hin : meth.name = "<init>" := (name_of_methodNamed B.named B.method).1
  have hS : va_S (Ab b) s.heap s.heap [] := va_S.rf
  have hl := lv_entry ([.ref (b + k0)]) (n := 1) (Nat.le_of_ble_eq_true rfl)
  rw [lg_entry_eq]
  generalize (lg_sl ([.ref (b + k0)]) ++ List.replicate (1 - (lg_sl ([.ref (b + k0)])).length) Slot.unset).toArray = ls at hl ⊢
  have hl : lv_has ls 1 [(0, .ref (b + k0))] := hl
  refine lv_aload_n hx hb dX6_init_0 rfl (lv_at hl 0 rfl) ?_
  refine W.objInit hx hb hown (hts (.methodLink RX6 3 objectInit) (by decide +kernel)) (hts (.instanceMethod objectInit) (by decide +kernel)) (hts (.code objectInit ⟨#[0xb1]⟩ 1 none) (by decide +kernel)) rfl (by rw [hml]; exact hl.1) rfl dX6_init_1 (Nat.le_of_ble_eq_true rfl) (Nat.le_of_ble_eq_true rfl) ?_
  refine W.eq (g2 := F0 m 4 ls []) rfl ?_
  refine lv_aload_n hx hb dX6_init_4 rfl (lv_at hl 0 rfl) ?_
  refine lv_bipush (v := 40) hx hb dX6_init_5 (by decide) ?_
  refine bk_newa (atype := .int) (ty := .int) (cR := cA 0) (x := 40) (N' := 40) (a0 := (40, .inl (fun _ => 0))) hx hb (hts (.arrayClass .int) (by decide +kernel)) rfl hK 0 rfl (fun h => h) hB hS (fun _ => rfl) (by decide) (by decide) (by decide) (Nat.le_of_ble_eq_true rfl) (Nat.le_of_ble_eq_true rfl) dX6_init_7 (fun H hB hS => ?_)
  have hB : Bk D (GX6_1 cA g b n k0) b (n + 1) H := hB
  have hek0 : (GX6_1 cA g b n k0) (k0) = .inr (6, [.int 0, .int 0, .int 0, .null, .null, .null, .null]) := (upE_ne (by omega)).trans hek0
  refine W.widen (k := 1) (n := 40) (by omega) (by omega) ?_
  refine bk_putF (ci := 6) (v := .ref (b + n)) (ty := (.array .int)) (C := RX6) (T := TX6) (N := 7) hx hb hts icX6_init_6 tyX6 tyX6_ok nmX6 hown hK hB hS (by omega) hek0 rfl 3 (by decide) (hts (.fieldLink RX6 9 "CuckooShares$Sentence" "word" "[I") (by decide +kernel)) hin rfl (by decide +kernel) rfl rfl (Nat.le_of_ble_eq_true rfl) dX6_init_9 (fun H locs hB hS => ?_)
  have hB : Bk D (GX6_2 cA g b n k0) b (n + 1) H := hB
  have hek0 : (GX6_2 cA g b n k0) (k0) = .inr (6, [.int 0, .int 0, .int 0, .ref (b + n), .null, .null, .null]) := upE_at
  refine lv_aload_n hx hb dX6_init_12 rfl (lv_at hl 0 rfl) ?_
  refine lv_bipush (v := 40) hx hb dX6_init_13 (by decide) ?_
  refine bk_newa (atype := .int) (ty := .int) (cR := cA 0) (x := 40) (N' := 40) (a0 := (40, .inl (fun _ => 0))) hx hb (hts (.arrayClass .int) (by decide +kernel)) rfl hK 0 rfl (fun h => h) hB hS (fun _ => rfl) (by decide) (by decide) (by decide) (Nat.le_of_ble_eq_true rfl) (Nat.le_of_ble_eq_true rfl) dX6_init_15 (fun H hB hS => ?_)
  have hB : Bk D (GX6_3 cA g b n k0) b (n + 2) H := hB
  have hek0 : (GX6_3 cA g b n k0) (k0) = .inr (6, [.int 0, .int 0, .int 0, .ref (b + n), .null, .null, .null]) := (upE_ne (by omega)).trans hek0
  refine W.widen (k := 2) (n := 80) (by omega) (by omega) ?_
  refine bk_putF (ci := 6) (v := .ref (b + (n + 1))) (ty := (.array .int)) (C := RX6) (T := TX6) (N := 7) hx hb hts icX6_init_6 tyX6 tyX6_ok nmX6 hown hK hB hS (by omega) hek0 rfl 4 (by decide) (hts (.fieldLink RX6 15 "CuckooShares$Sentence" "sign" "[I") (by decide +kernel)) hin rfl (by decide +kernel) rfl rfl (Nat.le_of_ble_eq_true rfl) dX6_init_17 (fun H locs hB hS => ?_)
  have hB : Bk D (GX6_4 cA g b n k0) b (n + 2) H := hB
  have hek0 : (GX6_4 cA g b n k0) (k0) = .inr (6, [.int 0, .int 0, .int 0, .ref (b + n), .ref (b + (n + 1)), .null, .null]) := upE_at
  refine lv_aload_n hx hb dX6_init_20 rfl (lv_at hl 0 rfl) ?_
  refine lv_bipush (v := 40) hx hb dX6_init_21 (by decide) ?_
  refine bk_newa (atype := .int) (ty := .int) (cR := cA 0) (x := 40) (N' := 40) (a0 := (40, .inl (fun _ => 0))) hx hb (hts (.arrayClass .int) (by decide +kernel)) rfl hK 0 rfl (fun h => h) hB hS (fun _ => rfl) (by decide) (by decide) (by decide) (Nat.le_of_ble_eq_true rfl) (Nat.le_of_ble_eq_true rfl) dX6_init_23 (fun H hB hS => ?_)
  have hB : Bk D (GX6_5 cA g b n k0) b (n + 3) H := hB
  have hek0 : (GX6_5 cA g b n k0) (k0) = .inr (6, [.int 0, .int 0, .int 0, .ref (b + n), .ref (b + (n + 1)), .null, .null]) := (upE_ne (by omega)).trans hek0
  refine W.widen (k := 3) (n := 120) (by omega) (by omega) ?_
  refine bk_putF (ci := 6) (v := .ref (b + (n + 2))) (ty := (.array .int)) (C := RX6) (T := TX6) (N := 7) hx hb hts icX6_init_6 tyX6 tyX6_ok nmX6 hown hK hB hS (by omega) hek0 rfl 5 (by decide) (hts (.fieldLink RX6 18 "CuckooShares$Sentence" "value" "[I") (by decide +kernel)) hin rfl (by decide +kernel) rfl rfl (Nat.le_of_ble_eq_true rfl) dX6_init_25 (fun H locs hB hS => ?_)
  have hB : Bk D (GX6_6 cA g b n k0) b (n + 3) H := hB
  have hek0 : (GX6_6 cA g b n k0) (k0) = .inr (6, [.int 0, .int 0, .int 0, .ref (b + n), .ref (b + (n + 1)), .ref (b + (n + 2)), .null]) := upE_at
  refine lv_aload_n hx hb dX6_init_28 rfl (lv_at hl 0 rfl) ?_
  refine lv_bipush (v := 40) hx hb dX6_init_29 (by decide) ?_
  refine bk_newa (atype := .int) (ty := .int) (cR := cA 0) (x := 40) (N' := 40) (a0 := (40, .inl (fun _ => 0))) hx hb (hts (.arrayClass .int) (by decide +kernel)) rfl hK 0 rfl (fun h => h) hB hS (fun _ => rfl) (by decide) (by decide) (by decide) (Nat.le_of_ble_eq_true rfl) (Nat.le_of_ble_eq_true rfl) dX6_init_31 (fun H hB hS => ?_)
  have hB : Bk D (GX6_7 cA g b n k0) b (n + 4) H := hB
  have hek0 : (GX6_7 cA g b n k0) (k0) = .inr (6, [.int 0, .int 0, .int 0, .ref (b + n), .ref (b + (n + 1)), .ref (b + (n + 2)), .null]) := (upE_ne (by omega)).trans hek0
  refine W.widen (k := 4) (n := 160) (by omega) (by omega) ?_
  refine bk_putF (ci := 6) (v := .ref (b + (n + 3))) (ty := (.array .int)) (C := RX6) (T := TX6) (N := 7) hx hb hts icX6_init_6 tyX6 tyX6_ok nmX6 hown hK hB hS (by omega) hek0 rfl 6 (by decide) (hts (.fieldLink RX6 21 "CuckooShares$Sentence" "stack" "[I") (by decide +kernel)) hin rfl (by decide +kernel) rfl rfl (Nat.le_of_ble_eq_true rfl) dX6_init_33 (fun H locs hB hS => ?_)
  have hB : Bk D (GX6_8 cA g b n k0) b (n + 4) H := hB
  have hek0 : (GX6_8 cA g b n k0) (k0) = .inr (6, [.int 0, .int 0, .int 0, .ref (b + n), .ref (b + (n + 1)), .ref (b + (n + 2)), .ref (b + (n + 3))]) := upE_at
  exact bk_ret hx hb hr hB hS hlocks dX6_init_36
theorem icX7_init_7 : ∀ w ∈ u_ws RX7 TX7 3, w ∈ wsX7_init := by decide +kernel
def GX7_1 (cA : Nat → ClassId) (g : Nat → va_E) (b n k0 : Nat) (r1 : Nat) (r2 : Nat) (r3 : Nat) : Nat → va_E := upE g k0 (.inr (7, [.ref r1, .null, .null]))
def GX7_2 (cA : Nat → ClassId) (g : Nat → va_E) (b n k0 : Nat) (r1 : Nat) (r2 : Nat) (r3 : Nat) : Nat → va_E := upE (GX7_1 cA g b n k0 r1 r2 r3) k0 (.inr (7, [.ref r1, .ref r2, .null]))
def GX7_3 (cA : Nat → ClassId) (g : Nat → va_E) (b n k0 : Nat) (r1 : Nat) (r2 : Nat) (r3 : Nat) : Nat → va_E := upE (GX7_2 cA g b n k0 r1 r2 r3) k0 (.inr (7, [.ref r1, .ref r2, .ref r3]))
def GX7 (cA : Nat → ClassId) (g : Nat → va_E) (b n k0 : Nat) (r1 : Nat) (r2 : Nat) (r3 : Nat) : Nat → va_E := (GX7_3 cA g b n k0 r1 r2 r3)
set_option maxRecDepth 4000 in
theorem GX7_self {cA : Nat → ClassId} {g : Nat → va_E} {b n k0 : Nat} {r1 : Nat} {r2 : Nat} {r3 : Nat} (hk0 : k0 < n) : GX7 cA g b n k0 r1 r2 r3 k0 = .inr (7, [.ref r1, .ref r2, .ref r3]) := upE_at
set_option maxRecDepth 4000 in
theorem GX7_old {cA : Nat → ClassId} {g : Nat → va_E} {b n k0 : Nat} {r1 : Nat} {r2 : Nat} {r3 : Nat} {q : Nat} (hq : q < n) (hne : q ≠ k0) : GX7 cA g b n k0 r1 r2 r3 q = g q := (upE_ne (by omega)).trans ((upE_ne (by omega)).trans ((upE_ne (by omega)).trans (rfl)))
set_option maxHeartbeats 4000000 in
set_option maxRecDepth 8000 in
theorem c_X7_init (l : Launch) (D : va_G) (cA : Nat → ClassId) (g : Nat → va_E) (b n k0 : Nat) (r1 : Nat) (r2 : Nat) (r3 : Nat) (hk0 : k0 < n) (hek0 : g k0 = .inr (7, [.null, .null, .null])) : Met l yX7_init wsX7_init ({ frames := 1, cells := 0, slots := 0, locals := 12 } : Room) (BkP D cA g b n [.ref (b + k0), .ref r1, .ref r2, .ref r3]) (BkQ D (GX7 cA g b n k0 r1 r2 r3) b (n + 0)) 0 0 (Ab b) := by
  refine Met.ofW (cc := cX7_init) (maxL := 4) (ret := none) (by decide) rfl ?_
  intro p e s m args below meth c s₁ B hml hv
  obtain ⟨rfl, hB, hK, hE⟩ := hv
  have hx := B.exec
  have hb := B.bytes
  have hr := B.returns
  have hts := atoms_spec (ws := wsX7_init) B.pre
  have hown : s.vm.findClass RX7 = some m.cls := findClass_of_methodNamed B.named
  have hlocks := B.notSynchronized
  have hin : meth.name = "<init>" := (name_of_methodNamed B.named B.method).1
  have hS : va_S (Ab b) s.heap s.heap [] := va_S.rf
  have hl := lv_entry ([.ref (b + k0), .ref r1, .ref r2, .ref r3]) (n := 4) (Nat.le_of_ble_eq_true rfl)
  rw [lg_entry_eq]
  generalize (lg_sl ([.ref (b + k0), .ref r1, .ref r2, .ref r3]) ++ List.replicate (4 - (lg_sl ([.ref (b + k0), .ref r1, .ref r2, .ref r3])).length) Slot.unset).toArray = ls at hl ⊢
  have hl : lv_has ls 4 [(0, .ref (b + k0)), (1, .ref r1), (2, .ref r2), (3, .ref r3)] := hl
  refine lv_aload_n hx hb dX7_init_0 rfl (lv_at hl 0 rfl) ?_
  refine W.objInit hx hb hown (hts (.methodLink RX7 3 objectInit) (by decide +kernel)) (hts (.instanceMethod objectInit) (by decide +kernel)) (hts (.code objectInit ⟨#[0xb1]⟩ 1 none) (by decide +kernel)) rfl (by rw [hml]; exact hl.1) rfl dX7_init_1 (Nat.le_of_ble_eq_true rfl) (Nat.le_of_ble_eq_true rfl) ?_
  refine W.eq (g2 := F0 m 4 ls []) rfl ?_
  refine lv_aload_n hx hb dX7_init_4 rfl (lv_at hl 0 rfl) ?_
  refine lv_aload_n hx hb dX7_init_5 rfl (lv_at hl 1 rfl) ?_
  refine bk_putF (ci := 7) (v := .ref r1) (ty := (.object "CuckooShares$Tape")) (C := RX7) (T := TX7) (N := 3) hx hb hts icX7_init_7 tyX7 tyX7_ok nmX7 hown hK hB hS (by omega) hek0 rfl 0 (by decide) (hts (.fieldLink RX7 9 "CuckooShares$SentenceText" "tape" "LCuckooShares$Tape;") (by decide +kernel)) hin rfl (by decide +kernel) rfl rfl (Nat.le_of_ble_eq_true rfl) dX7_init_6 (fun H locs hB hS => ?_)
  have hB : Bk D (GX7_1 cA g b n k0 r1 r2 r3) b (n) H := hB
  have hek0 : (GX7_1 cA g b n k0 r1 r2 r3) (k0) = .inr (7, [.ref r1, .null, .null]) := upE_at
  refine lv_aload_n hx hb dX7_init_9 rfl (lv_at hl 0 rfl) ?_
  refine lv_aload_n hx hb dX7_init_10 rfl (lv_at hl 2 rfl) ?_
  refine bk_putF (ci := 7) (v := .ref r2) (ty := (.object "CuckooShares$Valley")) (C := RX7) (T := TX7) (N := 3) hx hb hts icX7_init_7 tyX7 tyX7_ok nmX7 hown hK hB hS (by omega) hek0 rfl 1 (by decide) (hts (.fieldLink RX7 15 "CuckooShares$SentenceText" "valley" "LCuckooShares$Valley;") (by decide +kernel)) hin rfl (by decide +kernel) rfl rfl (Nat.le_of_ble_eq_true rfl) dX7_init_11 (fun H locs hB hS => ?_)
  have hB : Bk D (GX7_2 cA g b n k0 r1 r2 r3) b (n) H := hB
  have hek0 : (GX7_2 cA g b n k0 r1 r2 r3) (k0) = .inr (7, [.ref r1, .ref r2, .null]) := upE_at
  refine lv_aload_n hx hb dX7_init_14 rfl (lv_at hl 0 rfl) ?_
  refine lv_aload_n hx hb dX7_init_15 rfl (lv_at hl 3 rfl) ?_
  refine bk_putF (ci := 7) (v := .ref r3) (ty := (.object "CuckooShares$Sentence")) (C := RX7) (T := TX7) (N := 3) hx hb hts icX7_init_7 tyX7 tyX7_ok nmX7 hown hK hB hS (by omega) hek0 rfl 2 (by decide) (hts (.fieldLink RX7 19 "CuckooShares$SentenceText" "into" "LCuckooShares$Sentence;") (by decide +kernel)) hin rfl (by decide +kernel) rfl rfl (Nat.le_of_ble_eq_true rfl) dX7_init_16 (fun H locs hB hS => ?_)
  have hB : Bk D (GX7_3 cA g b n k0 r1 r2 r3) b (n) H := hB
  have hek0 : (GX7_3 cA g b n k0 r1 r2 r3) (k0) = .inr (7, [.ref r1, .ref r2, .ref r3]) := upE_at
  exact bk_ret hx hb hr hB hS hlocks dX7_init_19
theorem icX5_init_5 : ∀ w ∈ u_ws RX5 TX5 8, w ∈ wsX5_init := by decide +kernel
def GX5_1 (cA : Nat → ClassId) (g : Nat → va_E) (b n k0 : Nat) (r1 : Nat) (r2 : Nat) (r3 : Nat) : Nat → va_E := upE g (n) (.inl (cA 0, 40, .inl (fun _ => 0)))
def GX5_2 (cA : Nat → ClassId) (g : Nat → va_E) (b n k0 : Nat) (r1 : Nat) (r2 : Nat) (r3 : Nat) : Nat → va_E := upE (GX5_1 cA g b n k0 r1 r2 r3) k0 (.inr (5, [.null, .null, .null, .ref (b + n), .null, .null, .int 0, .int 0]))
def GX5_3 (cA : Nat → ClassId) (g : Nat → va_E) (b n k0 : Nat) (r1 : Nat) (r2 : Nat) (r3 : Nat) : Nat → va_E := upE (GX5_2 cA g b n k0 r1 r2 r3) (n + 1) (.inl (cA 0, 40, .inl (fun _ => 0)))
def GX5_4 (cA : Nat → ClassId) (g : Nat → va_E) (b n k0 : Nat) (r1 : Nat) (r2 : Nat) (r3 : Nat) : Nat → va_E := upE (GX5_3 cA g b n k0 r1 r2 r3) k0 (.inr (5, [.null, .null, .null, .ref (b + n), .ref (b + (n + 1)), .null, .int 0, .int 0]))
def GX5_5 (cA : Nat → ClassId) (g : Nat → va_E) (b n k0 : Nat) (r1 : Nat) (r2 : Nat) (r3 : Nat) : Nat → va_E := upE (GX5_4 cA g b n k0 r1 r2 r3) (n + 2) (.inl (cA 0, 40, .inl (fun _ => 0)))
def GX5_6 (cA : Nat → ClassId) (g : Nat → va_E) (b n k0 : Nat) (r1 : Nat) (r2 : Nat) (r3 : Nat) : Nat → va_E := upE (GX5_5 cA g b n k0 r1 r2 r3) k0 (.inr (5, [.null, .null, .null, .ref (b + n), .ref (b + (n + 1)), .ref (b + (n + 2)), .int 0, .int 0]))
def GX5_7 (cA : Nat → ClassId) (g : Nat → va_E) (b n k0 : Nat) (r1 : Nat) (r2 : Nat) (r3 : Nat) : Nat → va_E := upE (GX5_6 cA g b n k0 r1 r2 r3) k0 (.inr (5, [.ref r1, .null, .null, .ref (b + n), .ref (b + (n + 1)), .ref (b + (n + 2)), .int 0, .int 0]))
def GX5_8 (cA : Nat → ClassId) (g : Nat → va_E) (b n k0 : Nat) (r1 : Nat) (r2 : Nat) (r3 : Nat) : Nat → va_E := upE (GX5_7 cA g b n k0 r1 r2 r3) k0 (.inr (5, [.ref r1, .ref r2, .null, .ref (b + n), .ref (b + (n + 1)), .ref (b + (n + 2)), .int 0, .int 0]))
def GX5_9 (cA : Nat → ClassId) (g : Nat → va_E) (b n k0 : Nat) (r1 : Nat) (r2 : Nat) (r3 : Nat) : Nat → va_E := upE (GX5_8 cA g b n k0 r1 r2 r3) k0 (.inr (5, [.ref r1, .ref r2, .ref r3, .ref (b + n), .ref (b + (n + 1)), .ref (b + (n + 2)), .int 0, .int 0]))
def GX5 (cA : Nat → ClassId) (g : Nat → va_E) (b n k0 : Nat) (r1 : Nat) (r2 : Nat) (r3 : Nat) : Nat → va_E := (GX5_9 cA g b n k0 r1 r2 r3)
set_option maxRecDepth 4000 in
theorem GX5_self {cA : Nat → ClassId} {g : Nat → va_E} {b n k0 : Nat} {r1 : Nat} {r2 : Nat} {r3 : Nat} (hk0 : k0 < n) : GX5 cA g b n k0 r1 r2 r3 k0 = .inr (5, [.ref r1, .ref r2, .ref r3, .ref (b + n), .ref (b + (n + 1)), .ref (b + (n + 2)), .int 0, .int 0]) := upE_at
set_option maxRecDepth 4000 in
theorem GX5_old {cA : Nat → ClassId} {g : Nat → va_E} {b n k0 : Nat} {r1 : Nat} {r2 : Nat} {r3 : Nat} {q : Nat} (hq : q < n) (hne : q ≠ k0) : GX5 cA g b n k0 r1 r2 r3 q = g q := (upE_ne (by omega)).trans ((upE_ne (by omega)).trans ((upE_ne (by omega)).trans ((upE_ne (by omega)).trans ((upE_ne (by omega)).trans ((upE_ne (by omega)).trans ((upE_ne (by omega)).trans ((upE_ne (by omega)).trans ((upE_ne (by omega)).trans (rfl)))))))))
set_option maxHeartbeats 4000000 in
set_option maxRecDepth 8000 in
theorem c_X5_init (l : Launch) (D : va_G) (cA : Nat → ClassId) (g : Nat → va_E) (b n k0 : Nat) (r1 : Nat) (r2 : Nat) (r3 : Nat) (hk0 : k0 < n) (hek0 : g k0 = .inr (5, [.null, .null, .null, .null, .null, .null, .int 0, .int 0])) : Met l yX5_init wsX5_init ({ frames := 1, cells := 3, slots := 120, locals := 12 } : Room) (BkP D cA g b n [.ref (b + k0), .ref r1, .ref r2, .ref r3]) (BkQ D (GX5 cA g b n k0 r1 r2 r3) b (n + 3)) 3 120 (Ab b) := by
  refine Met.ofW (cc := cX5_init) (maxL := 4) (ret := none) (by decide) rfl ?_
  intro p e s m args below meth c s₁ B hml hv
  obtain ⟨rfl, hB, hK, hE⟩ := hv
  have hx := B.exec
  have hb := B.bytes
  have hr := B.returns
  have hts := atoms_spec (ws := wsX5_init) B.pre
  have hown : s.vm.findClass RX5 = some m.cls := findClass_of_methodNamed B.named
  have hlocks := B.notSynchronized
  have hin : meth.name = "<init>" := (name_of_methodNamed B.named B.method).1
  have hS : va_S (Ab b) s.heap s.heap [] := va_S.rf
  have hl := lv_entry ([.ref (b + k0), .ref r1, .ref r2, .ref r3]) (n := 4) (Nat.le_of_ble_eq_true rfl)
  rw [lg_entry_eq]
  generalize (lg_sl ([.ref (b + k0), .ref r1, .ref r2, .ref r3]) ++ List.replicate (4 - (lg_sl ([.ref (b + k0), .ref r1, .ref r2, .ref r3])).length) Slot.unset).toArray = ls at hl ⊢
  have hl : lv_has ls 4 [(0, .ref (b + k0)), (1, .ref r1), (2, .ref r2), (3, .ref r3)] := hl
  refine lv_aload_n hx hb dX5_init_0 rfl (lv_at hl 0 rfl) ?_
  refine W.objInit hx hb hown (hts (.methodLink RX5 3 objectInit) (by decide +kernel)) (hts (.instanceMethod objectInit) (by decide +kernel)) (hts (.code objectInit ⟨#[0xb1]⟩ 1 none) (by decide +kernel)) rfl (by rw [hml]; exact hl.1) rfl dX5_init_1 (Nat.le_of_ble_eq_true rfl) (Nat.le_of_ble_eq_true rfl) ?_
  refine W.eq (g2 := F0 m 4 ls []) rfl ?_
  refine lv_aload_n hx hb dX5_init_4 rfl (lv_at hl 0 rfl) ?_
  refine lv_bipush (v := 40) hx hb dX5_init_5 (by decide) ?_
  refine bk_newa (atype := .int) (ty := .int) (cR := cA 0) (x := 40) (N' := 40) (a0 := (40, .inl (fun _ => 0))) hx hb (hts (.arrayClass .int) (by decide +kernel)) rfl hK 0 rfl (fun h => h) hB hS (fun _ => rfl) (by decide) (by decide) (by decide) (Nat.le_of_ble_eq_true rfl) (Nat.le_of_ble_eq_true rfl) dX5_init_7 (fun H hB hS => ?_)
  have hB : Bk D (GX5_1 cA g b n k0 r1 r2 r3) b (n + 1) H := hB
  have hek0 : (GX5_1 cA g b n k0 r1 r2 r3) (k0) = .inr (5, [.null, .null, .null, .null, .null, .null, .int 0, .int 0]) := (upE_ne (by omega)).trans hek0
  refine W.widen (k := 1) (n := 40) (by omega) (by omega) ?_
  refine bk_putF (ci := 5) (v := .ref (b + n)) (ty := (.array .int)) (C := RX5) (T := TX5) (N := 8) hx hb hts icX5_init_5 tyX5 tyX5_ok nmX5 hown hK hB hS (by omega) hek0 rfl 3 (by decide) (hts (.fieldLink RX5 9 "CuckooShares$Roll" "act" "[I") (by decide +kernel)) hin rfl (by decide +kernel) rfl rfl (Nat.le_of_ble_eq_true rfl) dX5_init_9 (fun H locs hB hS => ?_)
  have hB : Bk D (GX5_2 cA g b n k0 r1 r2 r3) b (n + 1) H := hB
  have hek0 : (GX5_2 cA g b n k0 r1 r2 r3) (k0) = .inr (5, [.null, .null, .null, .ref (b + n), .null, .null, .int 0, .int 0]) := upE_at
  refine lv_aload_n hx hb dX5_init_12 rfl (lv_at hl 0 rfl) ?_
  refine lv_bipush (v := 40) hx hb dX5_init_13 (by decide) ?_
  refine bk_newa (atype := .int) (ty := .int) (cR := cA 0) (x := 40) (N' := 40) (a0 := (40, .inl (fun _ => 0))) hx hb (hts (.arrayClass .int) (by decide +kernel)) rfl hK 0 rfl (fun h => h) hB hS (fun _ => rfl) (by decide) (by decide) (by decide) (Nat.le_of_ble_eq_true rfl) (Nat.le_of_ble_eq_true rfl) dX5_init_15 (fun H hB hS => ?_)
  have hB : Bk D (GX5_3 cA g b n k0 r1 r2 r3) b (n + 2) H := hB
  have hek0 : (GX5_3 cA g b n k0 r1 r2 r3) (k0) = .inr (5, [.null, .null, .null, .ref (b + n), .null, .null, .int 0, .int 0]) := (upE_ne (by omega)).trans hek0
  refine W.widen (k := 2) (n := 80) (by omega) (by omega) ?_
  refine bk_putF (ci := 5) (v := .ref (b + (n + 1))) (ty := (.array .int)) (C := RX5) (T := TX5) (N := 8) hx hb hts icX5_init_5 tyX5 tyX5_ok nmX5 hown hK hB hS (by omega) hek0 rfl 4 (by decide) (hts (.fieldLink RX5 15 "CuckooShares$Roll" "who" "[I") (by decide +kernel)) hin rfl (by decide +kernel) rfl rfl (Nat.le_of_ble_eq_true rfl) dX5_init_17 (fun H locs hB hS => ?_)
  have hB : Bk D (GX5_4 cA g b n k0 r1 r2 r3) b (n + 2) H := hB
  have hek0 : (GX5_4 cA g b n k0 r1 r2 r3) (k0) = .inr (5, [.null, .null, .null, .ref (b + n), .ref (b + (n + 1)), .null, .int 0, .int 0]) := upE_at
  refine lv_aload_n hx hb dX5_init_20 rfl (lv_at hl 0 rfl) ?_
  refine lv_bipush (v := 40) hx hb dX5_init_21 (by decide) ?_
  refine bk_newa (atype := .int) (ty := .int) (cR := cA 0) (x := 40) (N' := 40) (a0 := (40, .inl (fun _ => 0))) hx hb (hts (.arrayClass .int) (by decide +kernel)) rfl hK 0 rfl (fun h => h) hB hS (fun _ => rfl) (by decide) (by decide) (by decide) (Nat.le_of_ble_eq_true rfl) (Nat.le_of_ble_eq_true rfl) dX5_init_23 (fun H hB hS => ?_)
  have hB : Bk D (GX5_5 cA g b n k0 r1 r2 r3) b (n + 3) H := hB
  have hek0 : (GX5_5 cA g b n k0 r1 r2 r3) (k0) = .inr (5, [.null, .null, .null, .ref (b + n), .ref (b + (n + 1)), .null, .int 0, .int 0]) := (upE_ne (by omega)).trans hek0
  refine W.widen (k := 3) (n := 120) (by omega) (by omega) ?_
  refine bk_putF (ci := 5) (v := .ref (b + (n + 2))) (ty := (.array .int)) (C := RX5) (T := TX5) (N := 8) hx hb hts icX5_init_5 tyX5 tyX5_ok nmX5 hown hK hB hS (by omega) hek0 rfl 5 (by decide) (hts (.fieldLink RX5 18 "CuckooShares$Roll" "object" "[I") (by decide +kernel)) hin rfl (by decide +kernel) rfl rfl (Nat.le_of_ble_eq_true rfl) dX5_init_25 (fun H locs hB hS => ?_)
  have hB : Bk D (GX5_6 cA g b n k0 r1 r2 r3) b (n + 3) H := hB
  have hek0 : (GX5_6 cA g b n k0 r1 r2 r3) (k0) = .inr (5, [.null, .null, .null, .ref (b + n), .ref (b + (n + 1)), .ref (b + (n + 2)), .int 0, .int 0]) := upE_at
  refine lv_aload_n hx hb dX5_init_28 rfl (lv_at hl 0 rfl) ?_
  refine lv_aload_n hx hb dX5_init_29 rfl (lv_at hl 1 rfl) ?_
  refine bk_putF (ci := 5) (v := .ref r1) (ty := (.object "CuckooShares$Tape")) (C := RX5) (T := TX5) (N := 8) hx hb hts icX5_init_5 tyX5 tyX5_ok nmX5 hown hK hB hS (by omega) hek0 rfl 0 (by decide) (hts (.fieldLink RX5 21 "CuckooShares$Roll" "tape" "LCuckooShares$Tape;") (by decide +kernel)) hin rfl (by decide +kernel) rfl rfl (Nat.le_of_ble_eq_true rfl) dX5_init_30 (fun H locs hB hS => ?_)
  have hB : Bk D (GX5_7 cA g b n k0 r1 r2 r3) b (n + 3) H := hB
  have hek0 : (GX5_7 cA g b n k0 r1 r2 r3) (k0) = .inr (5, [.ref r1, .null, .null, .ref (b + n), .ref (b + (n + 1)), .ref (b + (n + 2)), .int 0, .int 0]) := upE_at
  refine lv_aload_n hx hb dX5_init_33 rfl (lv_at hl 0 rfl) ?_
  refine lv_aload_n hx hb dX5_init_34 rfl (lv_at hl 2 rfl) ?_
  refine bk_putF (ci := 5) (v := .ref r2) (ty := (.object "CuckooShares$Valley")) (C := RX5) (T := TX5) (N := 8) hx hb hts icX5_init_5 tyX5 tyX5_ok nmX5 hown hK hB hS (by omega) hek0 rfl 1 (by decide) (hts (.fieldLink RX5 25 "CuckooShares$Roll" "valley" "LCuckooShares$Valley;") (by decide +kernel)) hin rfl (by decide +kernel) rfl rfl (Nat.le_of_ble_eq_true rfl) dX5_init_35 (fun H locs hB hS => ?_)
  have hB : Bk D (GX5_8 cA g b n k0 r1 r2 r3) b (n + 3) H := hB
  have hek0 : (GX5_8 cA g b n k0 r1 r2 r3) (k0) = .inr (5, [.ref r1, .ref r2, .null, .ref (b + n), .ref (b + (n + 1)), .ref (b + (n + 2)), .int 0, .int 0]) := upE_at
  refine lv_aload_n hx hb dX5_init_38 rfl (lv_at hl 0 rfl) ?_
  refine lv_aload_n hx hb dX5_init_39 rfl (lv_at hl 3 rfl) ?_
  refine bk_putF (ci := 5) (v := .ref r3) (ty := (.object "CuckooShares$Acts")) (C := RX5) (T := TX5) (N := 8) hx hb hts icX5_init_5 tyX5 tyX5_ok nmX5 hown hK hB hS (by omega) hek0 rfl 2 (by decide) (hts (.fieldLink RX5 29 "CuckooShares$Roll" "acts" "LCuckooShares$Acts;") (by decide +kernel)) hin rfl (by decide +kernel) rfl rfl (Nat.le_of_ble_eq_true rfl) dX5_init_40 (fun H locs hB hS => ?_)
  have hB : Bk D (GX5_9 cA g b n k0 r1 r2 r3) b (n + 3) H := hB
  have hek0 : (GX5_9 cA g b n k0 r1 r2 r3) (k0) = .inr (5, [.ref r1, .ref r2, .ref r3, .ref (b + n), .ref (b + (n + 1)), .ref (b + (n + 2)), .int 0, .int 0]) := upE_at
  exact bk_ret hx hb hr hB hS hlocks dX5_init_43
theorem icX4_init_2 : ∀ w ∈ u_ws RX2 TX2 7, w ∈ wsX4_init := by decide +kernel
theorem icX4_init_4 : ∀ w ∈ u_ws RX4 TX4 4, w ∈ wsX4_init := by decide +kernel
theorem icX4_init_6 : ∀ w ∈ u_ws RX6 TX6 7, w ∈ wsX4_init := by decide +kernel
theorem icX4_init_9 : ∀ w ∈ u_ws RX9 TX9 14, w ∈ wsX4_init := by decide +kernel
def GX4_1 (cA : Nat → ClassId) (g : Nat → va_E) (b n k0 : Nat) : Nat → va_E := upE g (n) (.inr (9, [.int 0, .int 0, .int 0, .int 0, .int 0, .int 0, .int 0, .null, .null, .null, .null, .null, .null, .null]))
def GX4_2 (cA : Nat → ClassId) (g : Nat → va_E) (b n k0 : Nat) : Nat → va_E := GX9 cA (GX4_1 cA g b n k0) b (n + 1) (n) 
def GX4_3 (cA : Nat → ClassId) (g : Nat → va_E) (b n k0 : Nat) : Nat → va_E := upE (GX4_2 cA g b n k0) k0 (.inr (4, [.ref (b + n), .null, .null, .int 0]))
def GX4_4 (cA : Nat → ClassId) (g : Nat → va_E) (b n k0 : Nat) : Nat → va_E := upE (GX4_3 cA g b n k0) (n + 68) (.inr (2, [.int 0, .int 0, .int 0, .null, .null, .null, .null]))
def GX4_5 (cA : Nat → ClassId) (g : Nat → va_E) (b n k0 : Nat) : Nat → va_E := GX2 cA (GX4_4 cA g b n k0) b (n + 69) (n + 68) 
def GX4_6 (cA : Nat → ClassId) (g : Nat → va_E) (b n k0 : Nat) : Nat → va_E := upE (GX4_5 cA g b n k0) k0 (.inr (4, [.ref (b + n), .ref (b + (n + 68)), .null, .int 0]))
def GX4_7 (cA : Nat → ClassId) (g : Nat → va_E) (b n k0 : Nat) : Nat → va_E := upE (GX4_6 cA g b n k0) (n + 73) (.inr (6, [.int 0, .int 0, .int 0, .null, .null, .null, .null]))
def GX4_8 (cA : Nat → ClassId) (g : Nat → va_E) (b n k0 : Nat) : Nat → va_E := GX6 cA (GX4_7 cA g b n k0) b (n + 74) (n + 73) 
def GX4_9 (cA : Nat → ClassId) (g : Nat → va_E) (b n k0 : Nat) : Nat → va_E := upE (GX4_8 cA g b n k0) k0 (.inr (4, [.ref (b + n), .ref (b + (n + 68)), .ref (b + (n + 73)), .int 0]))
def GX4 (cA : Nat → ClassId) (g : Nat → va_E) (b n k0 : Nat) : Nat → va_E := (GX4_9 cA g b n k0)
set_option maxRecDepth 4000 in
theorem GX4_self {cA : Nat → ClassId} {g : Nat → va_E} {b n k0 : Nat} (hk0 : k0 < n) : GX4 cA g b n k0 k0 = .inr (4, [.ref (b + n), .ref (b + (n + 68)), .ref (b + (n + 73)), .int 0]) := upE_at
set_option maxRecDepth 4000 in
theorem GX4_old {cA : Nat → ClassId} {g : Nat → va_E} {b n k0 : Nat} {q : Nat} (hq : q < n) (hne : q ≠ k0) : GX4 cA g b n k0 q = g q := (upE_ne (by omega)).trans ((GX6_old (by omega) (by omega)).trans ((upE_ne (by omega)).trans ((upE_ne (by omega)).trans ((GX2_old (by omega) (by omega)).trans ((upE_ne (by omega)).trans ((upE_ne (by omega)).trans ((GX9_old (by omega) (by omega)).trans ((upE_ne (by omega)).trans (rfl)))))))))
set_option maxHeartbeats 4000000 in
set_option maxRecDepth 8000 in
theorem c_X4_init (l : Launch) (D : va_G) (cA : Nat → ClassId) (g : Nat → va_E) (b n k0 : Nat) (hk0 : k0 < n) (hek0 : g k0 = .inr (4, [.null, .null, .null, .int 0])) : Met l yX4_init wsX4_init ({ frames := 2, cells := 78, slots := 508, locals := 32 } : Room) (BkP D cA g b n [.ref (b + k0)]) (BkQ D (GX4 cA g b n k0) b (n + 78)) 78 508 (Ab b) := by
  refine Met.ofW (cc := cX4_init) (maxL := 1) (ret := none) (by decide) rfl ?_
  intro p e s m args below meth c s₁ B hml hv
  obtain ⟨rfl, hB, hK, hE⟩ := hv
  have hx := B.exec
  have hb := B.bytes
  have hr := B.returns
  have hts := atoms_spec (ws := wsX4_init) B.pre
  have hown : s.vm.findClass RX4 = some m.cls := findClass_of_methodNamed B.named
  have hlocks := B.notSynchronized
  have hin : meth.name = "<init>" := (name_of_methodNamed B.named B.method).1
  have hS : va_S (Ab b) s.heap s.heap [] := va_S.rf
  have hl := lv_entry ([.ref (b + k0)]) (n := 1) (Nat.le_of_ble_eq_true rfl)
  rw [lg_entry_eq]
  generalize (lg_sl ([.ref (b + k0)]) ++ List.replicate (1 - (lg_sl ([.ref (b + k0)])).length) Slot.unset).toArray = ls at hl ⊢
  have hl : lv_has ls 1 [(0, .ref (b + k0))] := hl
  refine lv_aload_n hx hb dX4_init_0 rfl (lv_at hl 0 rfl) ?_
  refine W.objInit hx hb hown (hts (.methodLink RX4 1 objectInit) (by decide +kernel)) (hts (.instanceMethod objectInit) (by decide +kernel)) (hts (.code objectInit ⟨#[0xb1]⟩ 1 none) (by decide +kernel)) rfl (by rw [hml]; exact hl.1) rfl dX4_init_1 (Nat.le_of_ble_eq_true rfl) (Nat.le_of_ble_eq_true rfl) ?_
  refine W.eq (g2 := F0 m 4 ls []) rfl ?_
  refine lv_aload_n hx hb dX4_init_4 rfl (lv_at hl 0 rfl) ?_
  refine bk_new (ci := 9) (fs := [.int 0, .int 0, .int 0, .int 0, .int 0, .int 0, .int 0, .null, .null, .null, .null, .null, .null, .null]) (C := RX9) (T := TX9) (N := 14) hx hb hts icX4_init_9 tyX9 tyX9_ok hown (hts (.classLink RX4 7 RX9) (by decide +kernel)) (hts (.instantiable RX9 14) (by decide +kernel)) (hts (.initialized RX9) (by decide +kernel)) hK hB hS rfl dfX9 (Nat.le_of_ble_eq_true rfl) (Nat.le_of_ble_eq_true rfl) dX4_init_5 (fun H hB hS => ?_)
  have hB : Bk D (GX4_1 cA g b n k0) b (n + 1) H := hB
  have hek0 : (GX4_1 cA g b n k0) (k0) = .inr (4, [.null, .null, .null, .int 0]) := (upE_ne (by omega)).trans hek0
  refine W.widen (k := 1) (n := 14) (by omega) (by omega) ?_
  have hen : (GX4_1 cA g b n k0) (n) = .inr (9, [.int 0, .int 0, .int 0, .int 0, .int 0, .int 0, .int 0, .null, .null, .null, .null, .null, .null, .null]) := upE_at
  refine lv_dup hx hb dX4_init_8 rfl ?_
  refine bk_call (As := []) (rest := [.ref (b + n), .ref (b + k0)]) (k0 := n) ⟨hx, hb, hml, hown, hts⟩ hK hE hB hS (c_X9_init l D cA (GX4_1 cA g b n k0) b (n + 1) (n)  (by omega) hen) (cwI 0 hts gX4_init_X9_init rfl rfl rfl (hts (.initialized RX9) (by decide +kernel)) (hts (.methodLink RX4 9 yX9_init) (by decide +kernel)) (hts (.instanceMethod yX9_init) (by decide +kernel)) rfl (by decide +kernel) ⟨by decide, by decide⟩) rfl hl.1 rfl (Nat.le_of_ble_eq_true rfl) dX4_init_9 (Nat.le_of_ble_eq_true rfl) (Nat.le_of_ble_eq_true rfl) (fun H locs hB hS => ?_)
  have hB : Bk D (GX4_2 cA g b n k0) b (n + 68) H := hB
  have hek0 : (GX4_2 cA g b n k0) (k0) = .inr (4, [.null, .null, .null, .int 0]) := (GX9_old (by omega) (by omega)).trans hek0
  have hen : (GX4_2 cA g b n k0) (n) = .inr (9, [.int 20, .int 99, .int (-1), .int 0, .int 0, .int 0, .int 0, .ref (b + (n + 1)), .ref (b + (n + 2)), .ref (b + (n + 3)), .ref (b + (n + 12)), .ref (b + (n + 21)), .ref (b + (n + 26)), .ref (b + (n + 67))]) := GX9_self (by omega)
  refine W.widen (k := 68) (n := 302) (by omega) (by omega) ?_
  refine bk_putF (ci := 4) (v := .ref (b + n)) (ty := (.object "CuckooShares$Valley")) (C := RX4) (T := TX4) (N := 4) hx hb hts icX4_init_4 tyX4 tyX4_ok nmX4 hown hK hB hS (by omega) hek0 rfl 0 (by decide) (hts (.fieldLink RX4 10 "CuckooShares$Image" "valley" "LCuckooShares$Valley;") (by decide +kernel)) hin rfl (by decide +kernel) rfl rfl (Nat.le_of_ble_eq_true rfl) dX4_init_12 (fun H locs hB hS => ?_)
  have hB : Bk D (GX4_3 cA g b n k0) b (n + 68) H := hB
  have hek0 : (GX4_3 cA g b n k0) (k0) = .inr (4, [.ref (b + n), .null, .null, .int 0]) := upE_at
  refine lv_aload_n hx hb dX4_init_15 rfl (lv_at hl 0 rfl) ?_
  refine bk_new (ci := 2) (fs := [.int 0, .int 0, .int 0, .null, .null, .null, .null]) (C := RX2) (T := TX2) (N := 7) hx hb hts icX4_init_2 tyX2 tyX2_ok hown (hts (.classLink RX4 16 RX2) (by decide +kernel)) (hts (.instantiable RX2 7) (by decide +kernel)) (hts (.initialized RX2) (by decide +kernel)) hK hB hS rfl dfX2 (Nat.le_of_ble_eq_true rfl) (Nat.le_of_ble_eq_true rfl) dX4_init_16 (fun H hB hS => ?_)
  have hB : Bk D (GX4_4 cA g b n k0) b (n + 69) H := hB
  have hek0 : (GX4_4 cA g b n k0) (k0) = .inr (4, [.ref (b + n), .null, .null, .int 0]) := (upE_ne (by omega)).trans hek0
  refine W.widen (k := 69) (n := 309) (by omega) (by omega) ?_
  have hen_68 : (GX4_4 cA g b n k0) (n + 68) = .inr (2, [.int 0, .int 0, .int 0, .null, .null, .null, .null]) := upE_at
  refine lv_dup hx hb dX4_init_19 rfl ?_
  refine bk_call (As := []) (rest := [.ref (b + (n + 68)), .ref (b + k0)]) (k0 := n + 68) ⟨hx, hb, hml, hown, hts⟩ hK hE hB hS (c_X2_init l D cA (GX4_4 cA g b n k0) b (n + 69) (n + 68)  (by omega) hen_68) (cwI 0 hts gX4_init_X2_init rfl rfl rfl (hts (.initialized RX2) (by decide +kernel)) (hts (.methodLink RX4 18 yX2_init) (by decide +kernel)) (hts (.instanceMethod yX2_init) (by decide +kernel)) rfl (by decide +kernel) ⟨by decide, by decide⟩) rfl hl.1 rfl (Nat.le_of_ble_eq_true rfl) dX4_init_20 (Nat.le_of_ble_eq_true rfl) (Nat.le_of_ble_eq_true rfl) (fun H locs hB hS => ?_)
  have hB : Bk D (GX4_5 cA g b n k0) b (n + 73) H := hB
  have hek0 : (GX4_5 cA g b n k0) (k0) = .inr (4, [.ref (b + n), .null, .null, .int 0]) := (GX2_old (by omega) (by omega)).trans hek0
  have hen_68 : (GX4_5 cA g b n k0) (n + 68) = .inr (2, [.int 0, .int (-1), .int 0, .ref (b + (n + 69)), .ref (b + (n + 70)), .ref (b + (n + 71)), .ref (b + (n + 72))]) := GX2_self (by omega)
  refine W.widen (k := 73) (n := 341) (by omega) (by omega) ?_
  refine bk_putF (ci := 4) (v := .ref (b + (n + 68))) (ty := (.object "CuckooShares$Days")) (C := RX4) (T := TX4) (N := 4) hx hb hts icX4_init_4 tyX4 tyX4_ok nmX4 hown hK hB hS (by omega) hek0 rfl 1 (by decide) (hts (.fieldLink RX4 19 "CuckooShares$Image" "days" "LCuckooShares$Days;") (by decide +kernel)) hin rfl (by decide +kernel) rfl rfl (Nat.le_of_ble_eq_true rfl) dX4_init_23 (fun H locs hB hS => ?_)
  have hB : Bk D (GX4_6 cA g b n k0) b (n + 73) H := hB
  have hek0 : (GX4_6 cA g b n k0) (k0) = .inr (4, [.ref (b + n), .ref (b + (n + 68)), .null, .int 0]) := upE_at
  refine lv_aload_n hx hb dX4_init_26 rfl (lv_at hl 0 rfl) ?_
  refine bk_new (ci := 6) (fs := [.int 0, .int 0, .int 0, .null, .null, .null, .null]) (C := RX6) (T := TX6) (N := 7) hx hb hts icX4_init_6 tyX6 tyX6_ok hown (hts (.classLink RX4 23 RX6) (by decide +kernel)) (hts (.instantiable RX6 7) (by decide +kernel)) (hts (.initialized RX6) (by decide +kernel)) hK hB hS rfl dfX6 (Nat.le_of_ble_eq_true rfl) (Nat.le_of_ble_eq_true rfl) dX4_init_27 (fun H hB hS => ?_)
  have hB : Bk D (GX4_7 cA g b n k0) b (n + 74) H := hB
  have hek0 : (GX4_7 cA g b n k0) (k0) = .inr (4, [.ref (b + n), .ref (b + (n + 68)), .null, .int 0]) := (upE_ne (by omega)).trans hek0
  refine W.widen (k := 74) (n := 348) (by omega) (by omega) ?_
  have hen_73 : (GX4_7 cA g b n k0) (n + 73) = .inr (6, [.int 0, .int 0, .int 0, .null, .null, .null, .null]) := upE_at
  refine lv_dup hx hb dX4_init_30 rfl ?_
  refine bk_callN (As := []) (rest := [.ref (b + (n + 73)), .ref (b + k0)]) (k0 := n + 73) ⟨hx, hb, hml, hown, hts⟩ hK hE hB hS (c_X6_init l D cA (GX4_7 cA g b n k0) b (n + 74) (n + 73)  (by omega) hen_73) ⟨va_cnB 0 hts gX4_init_X6_init_n25 rfl rfl rfl hE.2.2.2.2.2.2 (hts (.initialized RX6) (by decide +kernel)) (by decide +kernel) ⟨by decide, by decide⟩, rfl, (hts (.instanceMethod yX6_init) (by decide +kernel))⟩ rfl hl.1 rfl (Nat.le_of_ble_eq_true rfl) dX4_init_31 (Nat.le_of_ble_eq_true rfl) (Nat.le_of_ble_eq_true rfl) (fun H locs hB hS => ?_)
  have hB : Bk D (GX4_8 cA g b n k0) b (n + 78) H := hB
  have hek0 : (GX4_8 cA g b n k0) (k0) = .inr (4, [.ref (b + n), .ref (b + (n + 68)), .null, .int 0]) := (GX6_old (by omega) (by omega)).trans hek0
  have hen_73 : (GX4_8 cA g b n k0) (n + 73) = .inr (6, [.int 0, .int 0, .int 0, .ref (b + (n + 74)), .ref (b + (n + 75)), .ref (b + (n + 76)), .ref (b + (n + 77))]) := GX6_self (by omega)
  refine W.widen (k := 78) (n := 508) (by omega) (by omega) ?_
  refine bk_putF (ci := 4) (v := .ref (b + (n + 73))) (ty := (.object "CuckooShares$Sentence")) (C := RX4) (T := TX4) (N := 4) hx hb hts icX4_init_4 tyX4 tyX4_ok nmX4 hown hK hB hS (by omega) hek0 rfl 2 (by decide) (hts (.fieldLink RX4 26 "CuckooShares$Image" "sentence" "LCuckooShares$Sentence;") (by decide +kernel)) hin rfl (by decide +kernel) rfl rfl (Nat.le_of_ble_eq_true rfl) dX4_init_34 (fun H locs hB hS => ?_)
  have hB : Bk D (GX4_9 cA g b n k0) b (n + 78) H := hB
  have hek0 : (GX4_9 cA g b n k0) (k0) = .inr (4, [.ref (b + n), .ref (b + (n + 68)), .ref (b + (n + 73)), .int 0]) := upE_at
  exact bk_ret hx hb hr hB hS hlocks dX4_init_37
