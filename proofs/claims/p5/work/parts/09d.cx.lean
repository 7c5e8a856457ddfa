theorem icX11_init_0 : ∀ w ∈ u_ws RX0 TX0 3, w ∈ wsX11_init := by decide +kernel
theorem icX11_init_1 : ∀ w ∈ u_ws RX1 TX1 9, w ∈ wsX11_init := by decide +kernel
theorem icX11_init_2 : ∀ w ∈ u_ws RX2 TX2 7, w ∈ wsX11_init := by decide +kernel
theorem icX11_init_3 : ∀ w ∈ u_ws RX3 TX3 3, w ∈ wsX11_init := by decide +kernel
theorem icX11_init_4 : ∀ w ∈ u_ws RX4 TX4 4, w ∈ wsX11_init := by decide +kernel
theorem icX11_init_5 : ∀ w ∈ u_ws RX5 TX5 8, w ∈ wsX11_init := by decide +kernel
theorem icX11_init_6 : ∀ w ∈ u_ws RX6 TX6 7, w ∈ wsX11_init := by decide +kernel
theorem icX11_init_7 : ∀ w ∈ u_ws RX7 TX7 3, w ∈ wsX11_init := by decide +kernel
theorem icX11_init_8 : ∀ w ∈ u_ws RX8 TX8 15, w ∈ wsX11_init := by decide +kernel
theorem icX11_init_9 : ∀ w ∈ u_ws RX9 TX9 14, w ∈ wsX11_init := by decide +kernel
theorem icX11_init_10 : ∀ w ∈ u_ws RX10 TX10 5, w ∈ wsX11_init := by decide +kernel
theorem icX11_init_11 : ∀ w ∈ u_ws RX11 TX11 19, w ∈ wsX11_init := by decide +kernel
def GX11_1 (cA : Nat → ClassId) (g : Nat → va_E) (b n k0 : Nat) : Nat → va_E := upE g (n) (.inr (8, [.null, .null, .null, .null, .null, .int 0, .int 0, .int 0, .int 0, .int 0, .int 0, .long 0, .int 0, .int 0, .int 0]))
def GX11_2 (cA : Nat → ClassId) (g : Nat → va_E) (b n k0 : Nat) : Nat → va_E := GX8 cA (GX11_1 cA g b n k0) b (n + 1) (n) 
def GX11_3 (cA : Nat → ClassId) (g : Nat → va_E) (b n k0 : Nat) : Nat → va_E := upE (GX11_2 cA g b n k0) k0 (.inr (11, [.ref (b + n), .null, .null, .null, .null, .null, .null, .null, .null, .null, .null, .null, .null, .null, .null, .null, .null, .int 0, .int 0]))
def GX11_4 (cA : Nat → ClassId) (g : Nat → va_E) (b n k0 : Nat) : Nat → va_E := upE (GX11_3 cA g b n k0) (n + 6) (.inr (9, [.int 0, .int 0, .int 0, .int 0, .int 0, .int 0, .int 0, .null, .null, .null, .null, .null, .null, .null]))
def GX11_5 (cA : Nat → ClassId) (g : Nat → va_E) (b n k0 : Nat) : Nat → va_E := GX9 cA (GX11_4 cA g b n k0) b (n + 7) (n + 6) 
def GX11_6 (cA : Nat → ClassId) (g : Nat → va_E) (b n k0 : Nat) : Nat → va_E := upE (GX11_5 cA g b n k0) k0 (.inr (11, [.ref (b + n), .ref (b + (n + 6)), .null, .null, .null, .null, .null, .null, .null, .null, .null, .null, .null, .null, .null, .null, .null, .int 0, .int 0]))
def GX11_7 (cA : Nat → ClassId) (g : Nat → va_E) (b n k0 : Nat) : Nat → va_E := upE (GX11_6 cA g b n k0) (n + 74) (.inr (9, [.int 0, .int 0, .int 0, .int 0, .int 0, .int 0, .int 0, .null, .null, .null, .null, .null, .null, .null]))
def GX11_8 (cA : Nat → ClassId) (g : Nat → va_E) (b n k0 : Nat) : Nat → va_E := GX9 cA (GX11_7 cA g b n k0) b (n + 75) (n + 74) 
def GX11_9 (cA : Nat → ClassId) (g : Nat → va_E) (b n k0 : Nat) : Nat → va_E := upE (GX11_8 cA g b n k0) k0 (.inr (11, [.ref (b + n), .ref (b + (n + 6)), .ref (b + (n + 74)), .null, .null, .null, .null, .null, .null, .null, .null, .null, .null, .null, .null, .null, .null, .int 0, .int 0]))
def GX11_10 (cA : Nat → ClassId) (g : Nat → va_E) (b n k0 : Nat) : Nat → va_E := upE (GX11_9 cA g b n k0) (n + 142) (.inr (10, [.null, .null, .int 0, .int 0, .int 0]))
def GX11_11 (cA : Nat → ClassId) (g : Nat → va_E) (b n k0 : Nat) : Nat → va_E := GX10 cA (GX11_10 cA g b n k0) b (n + 143) (n + 142) (b + n) (b + (n + 74))
def GX11_12 (cA : Nat → ClassId) (g : Nat → va_E) (b n k0 : Nat) : Nat → va_E := upE (GX11_11 cA g b n k0) k0 (.inr (11, [.ref (b + n), .ref (b + (n + 6)), .ref (b + (n + 74)), .ref (b + (n + 142)), .null, .null, .null, .null, .null, .null, .null, .null, .null, .null, .null, .null, .null, .int 0, .int 0]))
def GX11_13 (cA : Nat → ClassId) (g : Nat → va_E) (b n k0 : Nat) : Nat → va_E := upE (GX11_12 cA g b n k0) (n + 143) (.inr (2, [.int 0, .int 0, .int 0, .null, .null, .null, .null]))
def GX11_14 (cA : Nat → ClassId) (g : Nat → va_E) (b n k0 : Nat) : Nat → va_E := GX2 cA (GX11_13 cA g b n k0) b (n + 144) (n + 143) 
def GX11_15 (cA : Nat → ClassId) (g : Nat → va_E) (b n k0 : Nat) : Nat → va_E := upE (GX11_14 cA g b n k0) k0 (.inr (11, [.ref (b + n), .ref (b + (n + 6)), .ref (b + (n + 74)), .ref (b + (n + 142)), .ref (b + (n + 143)), .null, .null, .null, .null, .null, .null, .null, .null, .null, .null, .null, .null, .int 0, .int 0]))
def GX11_16 (cA : Nat → ClassId) (g : Nat → va_E) (b n k0 : Nat) : Nat → va_E := upE (GX11_15 cA g b n k0) (n + 148) (.inr (2, [.int 0, .int 0, .int 0, .null, .null, .null, .null]))
def GX11_17 (cA : Nat → ClassId) (g : Nat → va_E) (b n k0 : Nat) : Nat → va_E := GX2 cA (GX11_16 cA g b n k0) b (n + 149) (n + 148) 
def GX11_18 (cA : Nat → ClassId) (g : Nat → va_E) (b n k0 : Nat) : Nat → va_E := upE (GX11_17 cA g b n k0) k0 (.inr (11, [.ref (b + n), .ref (b + (n + 6)), .ref (b + (n + 74)), .ref (b + (n + 142)), .ref (b + (n + 143)), .ref (b + (n + 148)), .null, .null, .null, .null, .null, .null, .null, .null, .null, .null, .null, .int 0, .int 0]))
def GX11_19 (cA : Nat → ClassId) (g : Nat → va_E) (b n k0 : Nat) : Nat → va_E := upE (GX11_18 cA g b n k0) (n + 153) (.inr (2, [.int 0, .int 0, .int 0, .null, .null, .null, .null]))
def GX11_20 (cA : Nat → ClassId) (g : Nat → va_E) (b n k0 : Nat) : Nat → va_E := GX2 cA (GX11_19 cA g b n k0) b (n + 154) (n + 153) 
def GX11_21 (cA : Nat → ClassId) (g : Nat → va_E) (b n k0 : Nat) : Nat → va_E := upE (GX11_20 cA g b n k0) k0 (.inr (11, [.ref (b + n), .ref (b + (n + 6)), .ref (b + (n + 74)), .ref (b + (n + 142)), .ref (b + (n + 143)), .ref (b + (n + 148)), .ref (b + (n + 153)), .null, .null, .null, .null, .null, .null, .null, .null, .null, .null, .int 0, .int 0]))
def GX11_22 (cA : Nat → ClassId) (g : Nat → va_E) (b n k0 : Nat) : Nat → va_E := upE (GX11_21 cA g b n k0) (n + 158) (.inr (3, [.null, .int 0, .int 0]))
def GX11_23 (cA : Nat → ClassId) (g : Nat → va_E) (b n k0 : Nat) : Nat → va_E := GX3 cA (GX11_22 cA g b n k0) b (n + 159) (n + 158) 
def GX11_24 (cA : Nat → ClassId) (g : Nat → va_E) (b n k0 : Nat) : Nat → va_E := upE (GX11_23 cA g b n k0) k0 (.inr (11, [.ref (b + n), .ref (b + (n + 6)), .ref (b + (n + 74)), .ref (b + (n + 142)), .ref (b + (n + 143)), .ref (b + (n + 148)), .ref (b + (n + 153)), .ref (b + (n + 158)), .null, .null, .null, .null, .null, .null, .null, .null, .null, .int 0, .int 0]))
def GX11_25 (cA : Nat → ClassId) (g : Nat → va_E) (b n k0 : Nat) : Nat → va_E := upE (GX11_24 cA g b n k0) (n + 200) (.inr (1, [.null, .null, .null, .null, .null, .null, .null, .null, .null]))
def GX11_26 (cA : Nat → ClassId) (g : Nat → va_E) (b n k0 : Nat) : Nat → va_E := GX1 cA (GX11_25 cA g b n k0) b (n + 201) (n + 200) (b + (n + 6))
def GX11_27 (cA : Nat → ClassId) (g : Nat → va_E) (b n k0 : Nat) : Nat → va_E := upE (GX11_26 cA g b n k0) k0 (.inr (11, [.ref (b + n), .ref (b + (n + 6)), .ref (b + (n + 74)), .ref (b + (n + 142)), .ref (b + (n + 143)), .ref (b + (n + 148)), .ref (b + (n + 153)), .ref (b + (n + 158)), .ref (b + (n + 200)), .null, .null, .null, .null, .null, .null, .null, .null, .int 0, .int 0]))
def GX11_28 (cA : Nat → ClassId) (g : Nat → va_E) (b n k0 : Nat) : Nat → va_E := upE (GX11_27 cA g b n k0) (n + 209) (.inr (0, [.null, .null, .int 0]))
def GX11_29 (cA : Nat → ClassId) (g : Nat → va_E) (b n k0 : Nat) : Nat → va_E := GX0 cA (GX11_28 cA g b n k0) b (n + 210) (n + 209) (b + (n + 6)) (b + (n + 200))
def GX11_30 (cA : Nat → ClassId) (g : Nat → va_E) (b n k0 : Nat) : Nat → va_E := upE (GX11_29 cA g b n k0) k0 (.inr (11, [.ref (b + n), .ref (b + (n + 6)), .ref (b + (n + 74)), .ref (b + (n + 142)), .ref (b + (n + 143)), .ref (b + (n + 148)), .ref (b + (n + 153)), .ref (b + (n + 158)), .ref (b + (n + 200)), .ref (b + (n + 209)), .null, .null, .null, .null, .null, .null, .null, .int 0, .int 0]))
def GX11_31 (cA : Nat → ClassId) (g : Nat → va_E) (b n k0 : Nat) : Nat → va_E := upE (GX11_30 cA g b n k0) (n + 210) (.inr (6, [.int 0, .int 0, .int 0, .null, .null, .null, .null]))
def GX11_32 (cA : Nat → ClassId) (g : Nat → va_E) (b n k0 : Nat) : Nat → va_E := GX6 cA (GX11_31 cA g b n k0) b (n + 211) (n + 210) 
def GX11_33 (cA : Nat → ClassId) (g : Nat → va_E) (b n k0 : Nat) : Nat → va_E := upE (GX11_32 cA g b n k0) k0 (.inr (11, [.ref (b + n), .ref (b + (n + 6)), .ref (b + (n + 74)), .ref (b + (n + 142)), .ref (b + (n + 143)), .ref (b + (n + 148)), .ref (b + (n + 153)), .ref (b + (n + 158)), .ref (b + (n + 200)), .ref (b + (n + 209)), .ref (b + (n + 210)), .null, .null, .null, .null, .null, .null, .int 0, .int 0]))
def GX11_34 (cA : Nat → ClassId) (g : Nat → va_E) (b n k0 : Nat) : Nat → va_E := upE (GX11_33 cA g b n k0) (n + 215) (.inr (6, [.int 0, .int 0, .int 0, .null, .null, .null, .null]))
def GX11_35 (cA : Nat → ClassId) (g : Nat → va_E) (b n k0 : Nat) : Nat → va_E := GX6 cA (GX11_34 cA g b n k0) b (n + 216) (n + 215) 
def GX11_36 (cA : Nat → ClassId) (g : Nat → va_E) (b n k0 : Nat) : Nat → va_E := upE (GX11_35 cA g b n k0) k0 (.inr (11, [.ref (b + n), .ref (b + (n + 6)), .ref (b + (n + 74)), .ref (b + (n + 142)), .ref (b + (n + 143)), .ref (b + (n + 148)), .ref (b + (n + 153)), .ref (b + (n + 158)), .ref (b + (n + 200)), .ref (b + (n + 209)), .ref (b + (n + 210)), .ref (b + (n + 215)), .null, .null, .null, .null, .null, .int 0, .int 0]))
def GX11_37 (cA : Nat → ClassId) (g : Nat → va_E) (b n k0 : Nat) : Nat → va_E := upE (GX11_36 cA g b n k0) (n + 220) (.inr (7, [.null, .null, .null]))
def GX11_38 (cA : Nat → ClassId) (g : Nat → va_E) (b n k0 : Nat) : Nat → va_E := GX7 cA (GX11_37 cA g b n k0) b (n + 221) (n + 220) (b + n) (b + (n + 6)) (b + (n + 215))
def GX11_39 (cA : Nat → ClassId) (g : Nat → va_E) (b n k0 : Nat) : Nat → va_E := upE (GX11_38 cA g b n k0) k0 (.inr (11, [.ref (b + n), .ref (b + (n + 6)), .ref (b + (n + 74)), .ref (b + (n + 142)), .ref (b + (n + 143)), .ref (b + (n + 148)), .ref (b + (n + 153)), .ref (b + (n + 158)), .ref (b + (n + 200)), .ref (b + (n + 209)), .ref (b + (n + 210)), .ref (b + (n + 215)), .ref (b + (n + 220)), .null, .null, .null, .null, .int 0, .int 0]))
def GX11_40 (cA : Nat → ClassId) (g : Nat → va_E) (b n k0 : Nat) : Nat → va_E := upE (GX11_39 cA g b n k0) (n + 221) (.inr (5, [.null, .null, .null, .null, .null, .null, .int 0, .int 0]))
def GX11_41 (cA : Nat → ClassId) (g : Nat → va_E) (b n k0 : Nat) : Nat → va_E := GX5 cA (GX11_40 cA g b n k0) b (n + 222) (n + 221) (b + n) (b + (n + 6)) (b + (n + 209))
def GX11_42 (cA : Nat → ClassId) (g : Nat → va_E) (b n k0 : Nat) : Nat → va_E := upE (GX11_41 cA g b n k0) k0 (.inr (11, [.ref (b + n), .ref (b + (n + 6)), .ref (b + (n + 74)), .ref (b + (n + 142)), .ref (b + (n + 143)), .ref (b + (n + 148)), .ref (b + (n + 153)), .ref (b + (n + 158)), .ref (b + (n + 200)), .ref (b + (n + 209)), .ref (b + (n + 210)), .ref (b + (n + 215)), .ref (b + (n + 220)), .ref (b + (n + 221)), .null, .null, .null, .int 0, .int 0]))
def GX11_43 (cA : Nat → ClassId) (g : Nat → va_E) (b n k0 : Nat) : Nat → va_E := upE (GX11_42 cA g b n k0) (n + 225) (.inl (cA 6, 2, .inr (.inr (.inr (.inr (fun _ => none))))))
def GX11_44 (cA : Nat → ClassId) (g : Nat → va_E) (b n k0 : Nat) : Nat → va_E := upE (GX11_43 cA g b n k0) k0 (.inr (11, [.ref (b + n), .ref (b + (n + 6)), .ref (b + (n + 74)), .ref (b + (n + 142)), .ref (b + (n + 143)), .ref (b + (n + 148)), .ref (b + (n + 153)), .ref (b + (n + 158)), .ref (b + (n + 200)), .ref (b + (n + 209)), .ref (b + (n + 210)), .ref (b + (n + 215)), .ref (b + (n + 220)), .ref (b + (n + 221)), .ref (b + (n + 225)), .null, .null, .int 0, .int 0]))
def GX11_45 (cA : Nat → ClassId) (g : Nat → va_E) (b n k0 : Nat) : Nat → va_E := upE (GX11_44 cA g b n k0) (n + 226) (.inr (4, [.null, .null, .null, .int 0]))
def GX11_46 (cA : Nat → ClassId) (g : Nat → va_E) (b n k0 : Nat) : Nat → va_E := GX4 cA (GX11_45 cA g b n k0) b (n + 227) (n + 226) 
def GX11_47 (cA : Nat → ClassId) (g : Nat → va_E) (b n k0 : Nat) : Nat → va_E := upE (GX11_46 cA g b n k0) (n + 225) (.inl (cA 6, 2, .inr (.inr (.inr (.inr (va_up (fun _ => none) 0 (some (b + (n + 226)))))))))
def GX11_48 (cA : Nat → ClassId) (g : Nat → va_E) (b n k0 : Nat) : Nat → va_E := upE (GX11_47 cA g b n k0) (n + 305) (.inr (4, [.null, .null, .null, .int 0]))
def GX11_49 (cA : Nat → ClassId) (g : Nat → va_E) (b n k0 : Nat) : Nat → va_E := GX4 cA (GX11_48 cA g b n k0) b (n + 306) (n + 305) 
def GX11_50 (cA : Nat → ClassId) (g : Nat → va_E) (b n k0 : Nat) : Nat → va_E := upE (GX11_49 cA g b n k0) (n + 225) (.inl (cA 6, 2, .inr (.inr (.inr (.inr (va_up (va_up (fun _ => none) 0 (some (b + (n + 226)))) 1 (some (b + (n + 305)))))))))
def GX11_51 (cA : Nat → ClassId) (g : Nat → va_E) (b n k0 : Nat) : Nat → va_E := upE (GX11_50 cA g b n k0) (n + 384) (.inl (cA 0, 2, .inl (fun _ => 0)))
def GX11_52 (cA : Nat → ClassId) (g : Nat → va_E) (b n k0 : Nat) : Nat → va_E := upE (GX11_51 cA g b n k0) k0 (.inr (11, [.ref (b + n), .ref (b + (n + 6)), .ref (b + (n + 74)), .ref (b + (n + 142)), .ref (b + (n + 143)), .ref (b + (n + 148)), .ref (b + (n + 153)), .ref (b + (n + 158)), .ref (b + (n + 200)), .ref (b + (n + 209)), .ref (b + (n + 210)), .ref (b + (n + 215)), .ref (b + (n + 220)), .ref (b + (n + 221)), .ref (b + (n + 225)), .ref (b + (n + 384)), .null, .int 0, .int 0]))
def GX11_53 (cA : Nat → ClassId) (g : Nat → va_E) (b n k0 : Nat) : Nat → va_E := upE (GX11_52 cA g b n k0) (n + 385) (.inl (cA 0, 4, .inl (fun _ => 0)))
def GX11_54 (cA : Nat → ClassId) (g : Nat → va_E) (b n k0 : Nat) : Nat → va_E := upE (GX11_53 cA g b n k0) k0 (.inr (11, [.ref (b + n), .ref (b + (n + 6)), .ref (b + (n + 74)), .ref (b + (n + 142)), .ref (b + (n + 143)), .ref (b + (n + 148)), .ref (b + (n + 153)), .ref (b + (n + 158)), .ref (b + (n + 200)), .ref (b + (n + 209)), .ref (b + (n + 210)), .ref (b + (n + 215)), .ref (b + (n + 220)), .ref (b + (n + 221)), .ref (b + (n + 225)), .ref (b + (n + 384)), .ref (b + (n + 385)), .int 0, .int 0]))
def GX11 (cA : Nat → ClassId) (g : Nat → va_E) (b n k0 : Nat) : Nat → va_E := (GX11_54 cA g b n k0)
set_option maxRecDepth 4000 in
theorem GX11_self {cA : Nat → ClassId} {g : Nat → va_E} {b n k0 : Nat} (hk0 : k0 < n) : GX11 cA g b n k0 k0 = .inr (11, [.ref (b + n), .ref (b + (n + 6)), .ref (b + (n + 74)), .ref (b + (n + 142)), .ref (b + (n + 143)), .ref (b + (n + 148)), .ref (b + (n + 153)), .ref (b + (n + 158)), .ref (b + (n + 200)), .ref (b + (n + 209)), .ref (b + (n + 210)), .ref (b + (n + 215)), .ref (b + (n + 220)), .ref (b + (n + 221)), .ref (b + (n + 225)), .ref (b + (n + 384)), .ref (b + (n + 385)), .int 0, .int 0]) := upE_at
set_option maxRecDepth 4000 in
theorem GX11_old {cA : Nat → ClassId} {g : Nat → va_E} {b n k0 : Nat} {q : Nat} (hq : q < n) (hne : q ≠ k0) : GX11 cA g b n k0 q = g q := (upE_ne (by omega)).trans ((upE_ne (by omega)).trans ((upE_ne (by omega)).trans ((upE_ne (by omega)).trans ((upE_ne (by omega)).trans ((GX4_old (by omega) (by omega)).trans ((upE_ne (by omega)).trans ((upE_ne (by omega)).trans ((GX4_old (by omega) (by omega)).trans ((upE_ne (by omega)).trans ((upE_ne (by omega)).trans ((upE_ne (by omega)).trans ((upE_ne (by omega)).trans ((GX5_old (by omega) (by omega)).trans ((upE_ne (by omega)).trans ((upE_ne (by omega)).trans ((GX7_old (by omega) (by omega)).trans ((upE_ne (by omega)).trans ((upE_ne (by omega)).trans ((GX6_old (by omega) (by omega)).trans ((upE_ne (by omega)).trans ((upE_ne (by omega)).trans ((GX6_old (by omega) (by omega)).trans ((upE_ne (by omega)).trans ((upE_ne (by omega)).trans ((GX0_old (by omega) (by omega)).trans ((upE_ne (by omega)).trans ((upE_ne (by omega)).trans ((GX1_old (by omega) (by omega)).trans ((upE_ne (by omega)).trans ((upE_ne (by omega)).trans ((GX3_old (by omega) (by omega)).trans ((upE_ne (by omega)).trans ((upE_ne (by omega)).trans ((GX2_old (by omega) (by omega)).trans ((upE_ne (by omega)).trans ((upE_ne (by omega)).trans ((GX2_old (by omega) (by omega)).trans ((upE_ne (by omega)).trans ((upE_ne (by omega)).trans ((GX2_old (by omega) (by omega)).trans ((upE_ne (by omega)).trans ((upE_ne (by omega)).trans ((GX10_old (by omega) (by omega)).trans ((upE_ne (by omega)).trans ((upE_ne (by omega)).trans ((GX9_old (by omega) (by omega)).trans ((upE_ne (by omega)).trans ((upE_ne (by omega)).trans ((GX9_old (by omega) (by omega)).trans ((upE_ne (by omega)).trans ((upE_ne (by omega)).trans ((GX8_old (by omega) (by omega)).trans ((upE_ne (by omega)).trans (rfl))))))))))))))))))))))))))))))))))))))))))))))))))))))
set_option maxHeartbeats 4000000 in
set_option maxRecDepth 8000 in
theorem c_X11_init (l : Launch) (D : va_G) (cA : Nat → ClassId) (g : Nat → va_E) (b n k0 : Nat) (hk0 : k0 < n) (hek0 : g k0 = .inr (11, [.null, .null, .null, .null, .null, .null, .null, .null, .null, .null, .null, .null, .null, .null, .null, .null, .null, .int 0, .int 0])) : Met l yX11_init wsX11_init ({ frames := 3, cells := 386, slots := 7355, locals := 53 } : Room) (BkP D cA g b n [.ref (b + k0)]) (BkQ D (GX11 cA g b n k0) b (n + 386)) 386 7355 (Ab b) := by
  refine Met.ofW (cc := cX11_init) (maxL := 2) (ret := none) (by decide) rfl ?_
  intro p e s m args below meth c s₁ B hml hv
  obtain ⟨rfl, hB, hK, hE⟩ := hv
  have hx := B.exec
  have hb := B.bytes
  have hr := B.returns
  have hts := atoms_spec (ws := wsX11_init) B.pre
  have hown : s.vm.findClass RX11 = some m.cls := findClass_of_methodNamed B.named
  have hlocks := B.notSynchronized
  have hin : meth.name = "<init>" := (name_of_methodNamed B.named B.method).1
  have hS : va_S (Ab b) s.heap s.heap [] := va_S.rf
  have hl := lv_entry ([.ref (b + k0)]) (n := 2) (Nat.le_of_ble_eq_true rfl)
  rw [lg_entry_eq]
  generalize (lg_sl ([.ref (b + k0)]) ++ List.replicate (2 - (lg_sl ([.ref (b + k0)])).length) Slot.unset).toArray = ls at hl ⊢
  have hl : lv_has ls 2 [(0, .ref (b + k0))] := hl
  refine lv_aload_n hx hb dX11_init_0 rfl (lv_at hl 0 rfl) ?_
  refine W.objInit hx hb hown (hts (.methodLink RX11 1 objectInit) (by decide +kernel)) (hts (.instanceMethod objectInit) (by decide +kernel)) (hts (.code objectInit ⟨#[0xb1]⟩ 1 none) (by decide +kernel)) rfl (by rw [hml]; exact hl.1) rfl dX11_init_1 (Nat.le_of_ble_eq_true rfl) (Nat.le_of_ble_eq_true rfl) ?_
  refine W.eq (g2 := F0 m 4 ls []) rfl ?_
  refine lv_aload_n hx hb dX11_init_4 rfl (lv_at hl 0 rfl) ?_
  refine bk_new (ci := 8) (fs := [.null, .null, .null, .null, .null, .int 0, .int 0, .int 0, .int 0, .int 0, .int 0, .long 0, .int 0, .int 0, .int 0]) (C := RX8) (T := TX8) (N := 15) hx hb hts icX11_init_8 tyX8 tyX8_ok hown (hts (.classLink RX11 7 RX8) (by decide +kernel)) (hts (.instantiable RX8 15) (by decide +kernel)) (hts (.initialized RX8) (by decide +kernel)) hK hB hS rfl dfX8 (Nat.le_of_ble_eq_true rfl) (Nat.le_of_ble_eq_true rfl) dX11_init_5 (fun H hB hS => ?_)
  have hB : Bk D (GX11_1 cA g b n k0) b (n + 1) H := hB
  have hek0 : (GX11_1 cA g b n k0) (k0) = .inr (11, [.null, .null, .null, .null, .null, .null, .null, .null, .null, .null, .null, .null, .null, .null, .null, .null, .null, .int 0, .int 0]) := (upE_ne (by omega)).trans hek0
  refine W.widen (k := 1) (n := 15) (by omega) (by omega) ?_
  have hen : (GX11_1 cA g b n k0) (n) = .inr (8, [.null, .null, .null, .null, .null, .int 0, .int 0, .int 0, .int 0, .int 0, .int 0, .long 0, .int 0, .int 0, .int 0]) := upE_at
  refine lv_dup hx hb dX11_init_8 rfl ?_
  refine bk_callN (As := []) (rest := [.ref (b + n), .ref (b + k0)]) (k0 := n) ⟨hx, hb, hml, hown, hts⟩ hK hE hB hS (c_X8_init l D cA (GX11_1 cA g b n k0) b (n + 1) (n)  (by omega) hen) ⟨va_cnB 0 hts gX11_init_X8_init_n9 rfl rfl rfl hE.2.2.2.1 (hts (.initialized RX8) (by decide +kernel)) (by decide +kernel) ⟨by decide, by decide⟩, rfl, (hts (.instanceMethod yX8_init) (by decide +kernel))⟩ rfl hl.1 rfl (Nat.le_of_ble_eq_true rfl) dX11_init_9 (Nat.le_of_ble_eq_true rfl) (Nat.le_of_ble_eq_true rfl) (fun H locs hB hS => ?_)
  have hB : Bk D (GX11_2 cA g b n k0) b (n + 6) H := hB
  have hek0 : (GX11_2 cA g b n k0) (k0) = .inr (11, [.null, .null, .null, .null, .null, .null, .null, .null, .null, .null, .null, .null, .null, .null, .null, .null, .null, .int 0, .int 0]) := (GX8_old (by omega) (by omega)).trans hek0
  have hen : (GX11_2 cA g b n k0) (n) = .inr (8, [.ref (b + (n + 1)), .ref (b + (n + 2)), .ref (b + (n + 3)), .ref (b + (n + 4)), .ref (b + (n + 5)), .int 0, .int 0, .int 0, .int 0, .int 0, .int 0, .long 0, .int 0, .int 0, .int 0]) := GX8_self (by omega)
  refine W.widen (k := 6) (n := 4719) (by omega) (by omega) ?_
  refine bk_putF (ci := 11) (v := .ref (b + n)) (ty := (.object "CuckooShares$Tape")) (C := RX11) (T := TX11) (N := 19) hx hb hts icX11_init_11 tyX11 tyX11_ok nmX11 hown hK hB hS (by omega) hek0 rfl 0 (by decide) (hts (.fieldLink RX11 10 "CuckooShares" "tape" "LCuckooShares$Tape;") (by decide +kernel)) hin rfl (by decide +kernel) rfl rfl (Nat.le_of_ble_eq_true rfl) dX11_init_12 (fun H locs hB hS => ?_)
  have hB : Bk D (GX11_3 cA g b n k0) b (n + 6) H := hB
  have hek0 : (GX11_3 cA g b n k0) (k0) = .inr (11, [.ref (b + n), .null, .null, .null, .null, .null, .null, .null, .null, .null, .null, .null, .null, .null, .null, .null, .null, .int 0, .int 0]) := upE_at
  refine lv_aload_n hx hb dX11_init_15 rfl (lv_at hl 0 rfl) ?_
  refine bk_new (ci := 9) (fs := [.int 0, .int 0, .int 0, .int 0, .int 0, .int 0, .int 0, .null, .null, .null, .null, .null, .null, .null]) (C := RX9) (T := TX9) (N := 14) hx hb hts icX11_init_9 tyX9 tyX9_ok hown (hts (.classLink RX11 16 RX9) (by decide +kernel)) (hts (.instantiable RX9 14) (by decide +kernel)) (hts (.initialized RX9) (by decide +kernel)) hK hB hS rfl dfX9 (Nat.le_of_ble_eq_true rfl) (Nat.le_of_ble_eq_true rfl) dX11_init_16 (fun H hB hS => ?_)
  have hB : Bk D (GX11_4 cA g b n k0) b (n + 7) H := hB
  have hek0 : (GX11_4 cA g b n k0) (k0) = .inr (11, [.ref (b + n), .null, .null, .null, .null, .null, .null, .null, .null, .null, .null, .null, .null, .null, .null, .null, .null, .int 0, .int 0]) := (upE_ne (by omega)).trans hek0
  refine W.widen (k := 7) (n := 4733) (by omega) (by omega) ?_
  have hen_6 : (GX11_4 cA g b n k0) (n + 6) = .inr (9, [.int 0, .int 0, .int 0, .int 0, .int 0, .int 0, .int 0, .null, .null, .null, .null, .null, .null, .null]) := upE_at
  refine lv_dup hx hb dX11_init_19 rfl ?_
  refine bk_call (As := []) (rest := [.ref (b + (n + 6)), .ref (b + k0)]) (k0 := n + 6) ⟨hx, hb, hml, hown, hts⟩ hK hE hB hS (c_X9_init l D cA (GX11_4 cA g b n k0) b (n + 7) (n + 6)  (by omega) hen_6) (cwI 0 hts gX11_init_X9_init rfl rfl rfl (hts (.initialized RX9) (by decide +kernel)) (hts (.methodLink RX11 18 yX9_init) (by decide +kernel)) (hts (.instanceMethod yX9_init) (by decide +kernel)) rfl (by decide +kernel) ⟨by decide, by decide⟩) rfl hl.1 rfl (Nat.le_of_ble_eq_true rfl) dX11_init_20 (Nat.le_of_ble_eq_true rfl) (Nat.le_of_ble_eq_true rfl) (fun H locs hB hS => ?_)
  have hB : Bk D (GX11_5 cA g b n k0) b (n + 74) H := hB
  have hek0 : (GX11_5 cA g b n k0) (k0) = .inr (11, [.ref (b + n), .null, .null, .null, .null, .null, .null, .null, .null, .null, .null, .null, .null, .null, .null, .null, .null, .int 0, .int 0]) := (GX9_old (by omega) (by omega)).trans hek0
  have hen_6 : (GX11_5 cA g b n k0) (n + 6) = .inr (9, [.int 20, .int 99, .int (-1), .int 0, .int 0, .int 0, .int 0, .ref (b + (n + 7)), .ref (b + (n + 8)), .ref (b + (n + 9)), .ref (b + (n + 18)), .ref (b + (n + 27)), .ref (b + (n + 32)), .ref (b + (n + 73))]) := GX9_self (by omega)
  refine W.widen (k := 74) (n := 5021) (by omega) (by omega) ?_
  refine bk_putF (ci := 11) (v := .ref (b + (n + 6))) (ty := (.object "CuckooShares$Valley")) (C := RX11) (T := TX11) (N := 19) hx hb hts icX11_init_11 tyX11 tyX11_ok nmX11 hown hK hB hS (by omega) hek0 rfl 1 (by decide) (hts (.fieldLink RX11 19 "CuckooShares" "valley" "LCuckooShares$Valley;") (by decide +kernel)) hin rfl (by decide +kernel) rfl rfl (Nat.le_of_ble_eq_true rfl) dX11_init_23 (fun H locs hB hS => ?_)
  have hB : Bk D (GX11_6 cA g b n k0) b (n + 74) H := hB
  have hek0 : (GX11_6 cA g b n k0) (k0) = .inr (11, [.ref (b + n), .ref (b + (n + 6)), .null, .null, .null, .null, .null, .null, .null, .null, .null, .null, .null, .null, .null, .null, .null, .int 0, .int 0]) := upE_at
  refine lv_aload_n hx hb dX11_init_26 rfl (lv_at hl 0 rfl) ?_
  refine bk_new (ci := 9) (fs := [.int 0, .int 0, .int 0, .int 0, .int 0, .int 0, .int 0, .null, .null, .null, .null, .null, .null, .null]) (C := RX9) (T := TX9) (N := 14) hx hb hts icX11_init_9 tyX9 tyX9_ok hown (hts (.classLink RX11 16 RX9) (by decide +kernel)) (hts (.instantiable RX9 14) (by decide +kernel)) (hts (.initialized RX9) (by decide +kernel)) hK hB hS rfl dfX9 (Nat.le_of_ble_eq_true rfl) (Nat.le_of_ble_eq_true rfl) dX11_init_27 (fun H hB hS => ?_)
  have hB : Bk D (GX11_7 cA g b n k0) b (n + 75) H := hB
  have hek0 : (GX11_7 cA g b n k0) (k0) = .inr (11, [.ref (b + n), .ref (b + (n + 6)), .null, .null, .null, .null, .null, .null, .null, .null, .null, .null, .null, .null, .null, .null, .null, .int 0, .int 0]) := (upE_ne (by omega)).trans hek0
  refine W.widen (k := 75) (n := 5035) (by omega) (by omega) ?_
  have hen_74 : (GX11_7 cA g b n k0) (n + 74) = .inr (9, [.int 0, .int 0, .int 0, .int 0, .int 0, .int 0, .int 0, .null, .null, .null, .null, .null, .null, .null]) := upE_at
  refine lv_dup hx hb dX11_init_30 rfl ?_
  refine bk_call (As := []) (rest := [.ref (b + (n + 74)), .ref (b + k0)]) (k0 := n + 74) ⟨hx, hb, hml, hown, hts⟩ hK hE hB hS (c_X9_init l D cA (GX11_7 cA g b n k0) b (n + 75) (n + 74)  (by omega) hen_74) (cwI 0 hts gX11_init_X9_init rfl rfl rfl (hts (.initialized RX9) (by decide +kernel)) (hts (.methodLink RX11 18 yX9_init) (by decide +kernel)) (hts (.instanceMethod yX9_init) (by decide +kernel)) rfl (by decide +kernel) ⟨by decide, by decide⟩) rfl hl.1 rfl (Nat.le_of_ble_eq_true rfl) dX11_init_31 (Nat.le_of_ble_eq_true rfl) (Nat.le_of_ble_eq_true rfl) (fun H locs hB hS => ?_)
  have hB : Bk D (GX11_8 cA g b n k0) b (n + 142) H := hB
  have hek0 : (GX11_8 cA g b n k0) (k0) = .inr (11, [.ref (b + n), .ref (b + (n + 6)), .null, .null, .null, .null, .null, .null, .null, .null, .null, .null, .null, .null, .null, .null, .null, .int 0, .int 0]) := (GX9_old (by omega) (by omega)).trans hek0
  have hen_74 : (GX11_8 cA g b n k0) (n + 74) = .inr (9, [.int 20, .int 99, .int (-1), .int 0, .int 0, .int 0, .int 0, .ref (b + (n + 75)), .ref (b + (n + 76)), .ref (b + (n + 77)), .ref (b + (n + 86)), .ref (b + (n + 95)), .ref (b + (n + 100)), .ref (b + (n + 141))]) := GX9_self (by omega)
  refine W.widen (k := 142) (n := 5323) (by omega) (by omega) ?_
  refine bk_putF (ci := 11) (v := .ref (b + (n + 74))) (ty := (.object "CuckooShares$Valley")) (C := RX11) (T := TX11) (N := 19) hx hb hts icX11_init_11 tyX11 tyX11_ok nmX11 hown hK hB hS (by omega) hek0 rfl 2 (by decide) (hts (.fieldLink RX11 23 "CuckooShares" "spareValley" "LCuckooShares$Valley;") (by decide +kernel)) hin rfl (by decide +kernel) rfl rfl (Nat.le_of_ble_eq_true rfl) dX11_init_34 (fun H locs hB hS => ?_)
  have hB : Bk D (GX11_9 cA g b n k0) b (n + 142) H := hB
  have hek0 : (GX11_9 cA g b n k0) (k0) = .inr (11, [.ref (b + n), .ref (b + (n + 6)), .ref (b + (n + 74)), .null, .null, .null, .null, .null, .null, .null, .null, .null, .null, .null, .null, .null, .null, .int 0, .int 0]) := upE_at
  refine lv_aload_n hx hb dX11_init_37 rfl (lv_at hl 0 rfl) ?_
  refine bk_new (ci := 10) (fs := [.null, .null, .int 0, .int 0, .int 0]) (C := RX10) (T := TX10) (N := 5) hx hb hts icX11_init_10 tyX10 tyX10_ok hown (hts (.classLink RX11 26 RX10) (by decide +kernel)) (hts (.instantiable RX10 5) (by decide +kernel)) (hts (.initialized RX10) (by decide +kernel)) hK hB hS rfl dfX10 (Nat.le_of_ble_eq_true rfl) (Nat.le_of_ble_eq_true rfl) dX11_init_38 (fun H hB hS => ?_)
  have hB : Bk D (GX11_10 cA g b n k0) b (n + 143) H := hB
  have hek0 : (GX11_10 cA g b n k0) (k0) = .inr (11, [.ref (b + n), .ref (b + (n + 6)), .ref (b + (n + 74)), .null, .null, .null, .null, .null, .null, .null, .null, .null, .null, .null, .null, .null, .null, .int 0, .int 0]) := (upE_ne (by omega)).trans hek0
  refine W.widen (k := 143) (n := 5328) (by omega) (by omega) ?_
  have hen_142 : (GX11_10 cA g b n k0) (n + 142) = .inr (10, [.null, .null, .int 0, .int 0, .int 0]) := upE_at
  refine lv_dup hx hb dX11_init_41 rfl ?_
  refine lv_aload_n hx hb dX11_init_42 rfl (lv_at hl 0 rfl) ?_
  refine bk_get (ci := 11) (v := .ref (b + n)) (C := RX11) (T := TX11) (N := 19) hx hb hts icX11_init_11 hown hK hB (by omega) hek0 rfl 0 (by decide) (hts (.fieldLink RX11 10 "CuckooShares" "tape" "LCuckooShares$Tape;") (by decide +kernel)) rfl dX11_init_43 ?_
  refine lv_aload_n hx hb dX11_init_46 rfl (lv_at hl 0 rfl) ?_
  refine bk_get (ci := 11) (v := .ref (b + (n + 74))) (C := RX11) (T := TX11) (N := 19) hx hb hts icX11_init_11 hown hK hB (by omega) hek0 rfl 2 (by decide) (hts (.fieldLink RX11 23 "CuckooShares" "spareValley" "LCuckooShares$Valley;") (by decide +kernel)) rfl dX11_init_47 ?_
  refine bk_call (As := [.ref (b + n), .ref (b + (n + 74))]) (rest := [.ref (b + (n + 142)), .ref (b + k0)]) (k0 := n + 142) ⟨hx, hb, hml, hown, hts⟩ hK hE hB hS (c_X10_init l D cA (GX11_10 cA g b n k0) b (n + 143) (n + 142) (b + n) (b + (n + 74)) (by omega) hen_142) (cwI 2 hts gX11_init_X10_init rfl rfl rfl (hts (.initialized RX10) (by decide +kernel)) (hts (.methodLink RX11 28 yX10_init) (by decide +kernel)) (hts (.instanceMethod yX10_init) (by decide +kernel)) rfl (by decide +kernel) ⟨by decide, by decide⟩) rfl hl.1 rfl (Nat.le_of_ble_eq_true rfl) dX11_init_50 (Nat.le_of_ble_eq_true rfl) (Nat.le_of_ble_eq_true rfl) (fun H locs hB hS => ?_)
  have hB : Bk D (GX11_11 cA g b n k0) b (n + 143) H := hB
  have hek0 : (GX11_11 cA g b n k0) (k0) = .inr (11, [.ref (b + n), .ref (b + (n + 6)), .ref (b + (n + 74)), .null, .null, .null, .null, .null, .null, .null, .null, .null, .null, .null, .null, .null, .null, .int 0, .int 0]) := (GX10_old (by omega) (by omega)).trans hek0
  have hen_142 : (GX11_11 cA g b n k0) (n + 142) = .inr (10, [.ref (b + n), .ref (b + (n + 74)), .int 0, .int 0, .int 0]) := GX10_self (by omega)
  refine W.widen (k := 143) (n := 5328) (by omega) (by omega) ?_
  refine bk_putF (ci := 11) (v := .ref (b + (n + 142))) (ty := (.object "CuckooShares$ValleyText")) (C := RX11) (T := TX11) (N := 19) hx hb hts icX11_init_11 tyX11 tyX11_ok nmX11 hown hK hB hS (by omega) hek0 rfl 3 (by decide) (hts (.fieldLink RX11 31 "CuckooShares" "valleyText" "LCuckooShares$ValleyText;") (by decide +kernel)) hin rfl (by decide +kernel) rfl rfl (Nat.le_of_ble_eq_true rfl) dX11_init_53 (fun H locs hB hS => ?_)
  have hB : Bk D (GX11_12 cA g b n k0) b (n + 143) H := hB
  have hek0 : (GX11_12 cA g b n k0) (k0) = .inr (11, [.ref (b + n), .ref (b + (n + 6)), .ref (b + (n + 74)), .ref (b + (n + 142)), .null, .null, .null, .null, .null, .null, .null, .null, .null, .null, .null, .null, .null, .int 0, .int 0]) := upE_at
  refine lv_aload_n hx hb dX11_init_56 rfl (lv_at hl 0 rfl) ?_
  refine bk_new (ci := 2) (fs := [.int 0, .int 0, .int 0, .null, .null, .null, .null]) (C := RX2) (T := TX2) (N := 7) hx hb hts icX11_init_2 tyX2 tyX2_ok hown (hts (.classLink RX11 35 RX2) (by decide +kernel)) (hts (.instantiable RX2 7) (by decide +kernel)) (hts (.initialized RX2) (by decide +kernel)) hK hB hS rfl dfX2 (Nat.le_of_ble_eq_true rfl) (Nat.le_of_ble_eq_true rfl) dX11_init_57 (fun H hB hS => ?_)
  have hB : Bk D (GX11_13 cA g b n k0) b (n + 144) H := hB
  have hek0 : (GX11_13 cA g b n k0) (k0) = .inr (11, [.ref (b + n), .ref (b + (n + 6)), .ref (b + (n + 74)), .ref (b + (n + 142)), .null, .null, .null, .null, .null, .null, .null, .null, .null, .null, .null, .null, .null, .int 0, .int 0]) := (upE_ne (by omega)).trans hek0
  refine W.widen (k := 144) (n := 5335) (by omega) (by omega) ?_
  have hen_143 : (GX11_13 cA g b n k0) (n + 143) = .inr (2, [.int 0, .int 0, .int 0, .null, .null, .null, .null]) := upE_at
  refine lv_dup hx hb dX11_init_60 rfl ?_
  refine bk_call (As := []) (rest := [.ref (b + (n + 143)), .ref (b + k0)]) (k0 := n + 143) ⟨hx, hb, hml, hown, hts⟩ hK hE hB hS (c_X2_init l D cA (GX11_13 cA g b n k0) b (n + 144) (n + 143)  (by omega) hen_143) (cwI 0 hts gX11_init_X2_init rfl rfl rfl (hts (.initialized RX2) (by decide +kernel)) (hts (.methodLink RX11 37 yX2_init) (by decide +kernel)) (hts (.instanceMethod yX2_init) (by decide +kernel)) rfl (by decide +kernel) ⟨by decide, by decide⟩) rfl hl.1 rfl (Nat.le_of_ble_eq_true rfl) dX11_init_61 (Nat.le_of_ble_eq_true rfl) (Nat.le_of_ble_eq_true rfl) (fun H locs hB hS => ?_)
  have hB : Bk D (GX11_14 cA g b n k0) b (n + 148) H := hB
  have hek0 : (GX11_14 cA g b n k0) (k0) = .inr (11, [.ref (b + n), .ref (b + (n + 6)), .ref (b + (n + 74)), .ref (b + (n + 142)), .null, .null, .null, .null, .null, .null, .null, .null, .null, .null, .null, .null, .null, .int 0, .int 0]) := (GX2_old (by omega) (by omega)).trans hek0
  have hen_143 : (GX11_14 cA g b n k0) (n + 143) = .inr (2, [.int 0, .int (-1), .int 0, .ref (b + (n + 144)), .ref (b + (n + 145)), .ref (b + (n + 146)), .ref (b + (n + 147))]) := GX2_self (by omega)
  refine W.widen (k := 148) (n := 5367) (by omega) (by omega) ?_
  refine bk_putF (ci := 11) (v := .ref (b + (n + 143))) (ty := (.object "CuckooShares$Days")) (C := RX11) (T := TX11) (N := 19) hx hb hts icX11_init_11 tyX11 tyX11_ok nmX11 hown hK hB hS (by omega) hek0 rfl 4 (by decide) (hts (.fieldLink RX11 38 "CuckooShares" "days" "LCuckooShares$Days;") (by decide +kernel)) hin rfl (by decide +kernel) rfl rfl (Nat.le_of_ble_eq_true rfl) dX11_init_64 (fun H locs hB hS => ?_)
  have hB : Bk D (GX11_15 cA g b n k0) b (n + 148) H := hB
  have hek0 : (GX11_15 cA g b n k0) (k0) = .inr (11, [.ref (b + n), .ref (b + (n + 6)), .ref (b + (n + 74)), .ref (b + (n + 142)), .ref (b + (n + 143)), .null, .null, .null, .null, .null, .null, .null, .null, .null, .null, .null, .null, .int 0, .int 0]) := upE_at
  refine lv_aload_n hx hb dX11_init_67 rfl (lv_at hl 0 rfl) ?_
  refine bk_new (ci := 2) (fs := [.int 0, .int 0, .int 0, .null, .null, .null, .null]) (C := RX2) (T := TX2) (N := 7) hx hb hts icX11_init_2 tyX2 tyX2_ok hown (hts (.classLink RX11 35 RX2) (by decide +kernel)) (hts (.instantiable RX2 7) (by decide +kernel)) (hts (.initialized RX2) (by decide +kernel)) hK hB hS rfl dfX2 (Nat.le_of_ble_eq_true rfl) (Nat.le_of_ble_eq_true rfl) dX11_init_68 (fun H hB hS => ?_)
  have hB : Bk D (GX11_16 cA g b n k0) b (n + 149) H := hB
  have hek0 : (GX11_16 cA g b n k0) (k0) = .inr (11, [.ref (b + n), .ref (b + (n + 6)), .ref (b + (n + 74)), .ref (b + (n + 142)), .ref (b + (n + 143)), .null, .null, .null, .null, .null, .null, .null, .null, .null, .null, .null, .null, .int 0, .int 0]) := (upE_ne (by omega)).trans hek0
  refine W.widen (k := 149) (n := 5374) (by omega) (by omega) ?_
  have hen_148 : (GX11_16 cA g b n k0) (n + 148) = .inr (2, [.int 0, .int 0, .int 0, .null, .null, .null, .null]) := upE_at
  refine lv_dup hx hb dX11_init_71 rfl ?_
  refine bk_call (As := []) (rest := [.ref (b + (n + 148)), .ref (b + k0)]) (k0 := n + 148) ⟨hx, hb, hml, hown, hts⟩ hK hE hB hS (c_X2_init l D cA (GX11_16 cA g b n k0) b (n + 149) (n + 148)  (by omega) hen_148) (cwI 0 hts gX11_init_X2_init rfl rfl rfl (hts (.initialized RX2) (by decide +kernel)) (hts (.methodLink RX11 37 yX2_init) (by decide +kernel)) (hts (.instanceMethod yX2_init) (by decide +kernel)) rfl (by decide +kernel) ⟨by decide, by decide⟩) rfl hl.1 rfl (Nat.le_of_ble_eq_true rfl) dX11_init_72 (Nat.le_of_ble_eq_true rfl) (Nat.le_of_ble_eq_true rfl) (fun H locs hB hS => ?_)
  have hB : Bk D (GX11_17 cA g b n k0) b (n + 153) H := hB
  have hek0 : (GX11_17 cA g b n k0) (k0) = .inr (11, [.ref (b + n), .ref (b + (n + 6)), .ref (b + (n + 74)), .ref (b + (n + 142)), .ref (b + (n + 143)), .null, .null, .null, .null, .null, .null, .null, .null, .null, .null, .null, .null, .int 0, .int 0]) := (GX2_old (by omega) (by omega)).trans hek0
  have hen_148 : (GX11_17 cA g b n k0) (n + 148) = .inr (2, [.int 0, .int (-1), .int 0, .ref (b + (n + 149)), .ref (b + (n + 150)), .ref (b + (n + 151)), .ref (b + (n + 152))]) := GX2_self (by omega)
  refine W.widen (k := 153) (n := 5406) (by omega) (by omega) ?_
  refine bk_putF (ci := 11) (v := .ref (b + (n + 148))) (ty := (.object "CuckooShares$Days")) (C := RX11) (T := TX11) (N := 19) hx hb hts icX11_init_11 tyX11 tyX11_ok nmX11 hown hK hB hS (by omega) hek0 rfl 5 (by decide) (hts (.fieldLink RX11 42 "CuckooShares" "before" "LCuckooShares$Days;") (by decide +kernel)) hin rfl (by decide +kernel) rfl rfl (Nat.le_of_ble_eq_true rfl) dX11_init_75 (fun H locs hB hS => ?_)
  have hB : Bk D (GX11_18 cA g b n k0) b (n + 153) H := hB
  have hek0 : (GX11_18 cA g b n k0) (k0) = .inr (11, [.ref (b + n), .ref (b + (n + 6)), .ref (b + (n + 74)), .ref (b + (n + 142)), .ref (b + (n + 143)), .ref (b + (n + 148)), .null, .null, .null, .null, .null, .null, .null, .null, .null, .null, .null, .int 0, .int 0]) := upE_at
  refine lv_aload_n hx hb dX11_init_78 rfl (lv_at hl 0 rfl) ?_
  refine bk_new (ci := 2) (fs := [.int 0, .int 0, .int 0, .null, .null, .null, .null]) (C := RX2) (T := TX2) (N := 7) hx hb hts icX11_init_2 tyX2 tyX2_ok hown (hts (.classLink RX11 35 RX2) (by decide +kernel)) (hts (.instantiable RX2 7) (by decide +kernel)) (hts (.initialized RX2) (by decide +kernel)) hK hB hS rfl dfX2 (Nat.le_of_ble_eq_true rfl) (Nat.le_of_ble_eq_true rfl) dX11_init_79 (fun H hB hS => ?_)
  have hB : Bk D (GX11_19 cA g b n k0) b (n + 154) H := hB
  have hek0 : (GX11_19 cA g b n k0) (k0) = .inr (11, [.ref (b + n), .ref (b + (n + 6)), .ref (b + (n + 74)), .ref (b + (n + 142)), .ref (b + (n + 143)), .ref (b + (n + 148)), .null, .null, .null, .null, .null, .null, .null, .null, .null, .null, .null, .int 0, .int 0]) := (upE_ne (by omega)).trans hek0
  refine W.widen (k := 154) (n := 5413) (by omega) (by omega) ?_
  have hen_153 : (GX11_19 cA g b n k0) (n + 153) = .inr (2, [.int 0, .int 0, .int 0, .null, .null, .null, .null]) := upE_at
  refine lv_dup hx hb dX11_init_82 rfl ?_
  refine bk_call (As := []) (rest := [.ref (b + (n + 153)), .ref (b + k0)]) (k0 := n + 153) ⟨hx, hb, hml, hown, hts⟩ hK hE hB hS (c_X2_init l D cA (GX11_19 cA g b n k0) b (n + 154) (n + 153)  (by omega) hen_153) (cwI 0 hts gX11_init_X2_init rfl rfl rfl (hts (.initialized RX2) (by decide +kernel)) (hts (.methodLink RX11 37 yX2_init) (by decide +kernel)) (hts (.instanceMethod yX2_init) (by decide +kernel)) rfl (by decide +kernel) ⟨by decide, by decide⟩) rfl hl.1 rfl (Nat.le_of_ble_eq_true rfl) dX11_init_83 (Nat.le_of_ble_eq_true rfl) (Nat.le_of_ble_eq_true rfl) (fun H locs hB hS => ?_)
  have hB : Bk D (GX11_20 cA g b n k0) b (n + 158) H := hB
  have hek0 : (GX11_20 cA g b n k0) (k0) = .inr (11, [.ref (b + n), .ref (b + (n + 6)), .ref (b + (n + 74)), .ref (b + (n + 142)), .ref (b + (n + 143)), .ref (b + (n + 148)), .null, .null, .null, .null, .null, .null, .null, .null, .null, .null, .null, .int 0, .int 0]) := (GX2_old (by omega) (by omega)).trans hek0
  have hen_153 : (GX11_20 cA g b n k0) (n + 153) = .inr (2, [.int 0, .int (-1), .int 0, .ref (b + (n + 154)), .ref (b + (n + 155)), .ref (b + (n + 156)), .ref (b + (n + 157))]) := GX2_self (by omega)
  refine W.widen (k := 158) (n := 5445) (by omega) (by omega) ?_
  refine bk_putF (ci := 11) (v := .ref (b + (n + 153))) (ty := (.object "CuckooShares$Days")) (C := RX11) (T := TX11) (N := 19) hx hb hts icX11_init_11 tyX11 tyX11_ok nmX11 hown hK hB hS (by omega) hek0 rfl 6 (by decide) (hts (.fieldLink RX11 45 "CuckooShares" "trial" "LCuckooShares$Days;") (by decide +kernel)) hin rfl (by decide +kernel) rfl rfl (Nat.le_of_ble_eq_true rfl) dX11_init_86 (fun H locs hB hS => ?_)
  have hB : Bk D (GX11_21 cA g b n k0) b (n + 158) H := hB
  have hek0 : (GX11_21 cA g b n k0) (k0) = .inr (11, [.ref (b + n), .ref (b + (n + 6)), .ref (b + (n + 74)), .ref (b + (n + 142)), .ref (b + (n + 143)), .ref (b + (n + 148)), .ref (b + (n + 153)), .null, .null, .null, .null, .null, .null, .null, .null, .null, .null, .int 0, .int 0]) := upE_at
  refine lv_aload_n hx hb dX11_init_89 rfl (lv_at hl 0 rfl) ?_
  refine bk_new (ci := 3) (fs := [.null, .int 0, .int 0]) (C := RX3) (T := TX3) (N := 3) hx hb hts icX11_init_3 tyX3 tyX3_ok hown (hts (.classLink RX11 48 RX3) (by decide +kernel)) (hts (.instantiable RX3 3) (by decide +kernel)) (hts (.initialized RX3) (by decide +kernel)) hK hB hS rfl dfX3 (Nat.le_of_ble_eq_true rfl) (Nat.le_of_ble_eq_true rfl) dX11_init_90 (fun H hB hS => ?_)
  have hB : Bk D (GX11_22 cA g b n k0) b (n + 159) H := hB
  have hek0 : (GX11_22 cA g b n k0) (k0) = .inr (11, [.ref (b + n), .ref (b + (n + 6)), .ref (b + (n + 74)), .ref (b + (n + 142)), .ref (b + (n + 143)), .ref (b + (n + 148)), .ref (b + (n + 153)), .null, .null, .null, .null, .null, .null, .null, .null, .null, .null, .int 0, .int 0]) := (upE_ne (by omega)).trans hek0
  refine W.widen (k := 159) (n := 5448) (by omega) (by omega) ?_
  have hen_158 : (GX11_22 cA g b n k0) (n + 158) = .inr (3, [.null, .int 0, .int 0]) := upE_at
  refine lv_dup hx hb dX11_init_93 rfl ?_
  refine bk_call (As := []) (rest := [.ref (b + (n + 158)), .ref (b + k0)]) (k0 := n + 158) ⟨hx, hb, hml, hown, hts⟩ hK hE hB hS (c_X3_init l D cA (GX11_22 cA g b n k0) b (n + 159) (n + 158)  (by omega) hen_158) (cwI 0 hts gX11_init_X3_init rfl rfl rfl (hts (.initialized RX3) (by decide +kernel)) (hts (.methodLink RX11 50 yX3_init) (by decide +kernel)) (hts (.instanceMethod yX3_init) (by decide +kernel)) rfl (by decide +kernel) ⟨by decide, by decide⟩) rfl hl.1 rfl (Nat.le_of_ble_eq_true rfl) dX11_init_94 (Nat.le_of_ble_eq_true rfl) (Nat.le_of_ble_eq_true rfl) (fun H locs hB hS => ?_)
  have hB : Bk D (GX11_23 cA g b n k0) b (n + 200) H := hB
  have hek0 : (GX11_23 cA g b n k0) (k0) = .inr (11, [.ref (b + n), .ref (b + (n + 6)), .ref (b + (n + 74)), .ref (b + (n + 142)), .ref (b + (n + 143)), .ref (b + (n + 148)), .ref (b + (n + 153)), .null, .null, .null, .null, .null, .null, .null, .null, .null, .null, .int 0, .int 0]) := (GX3_old (by omega) (by omega)).trans hek0
  have hen_158 : (GX11_23 cA g b n k0) (n + 158) = .inr (3, [.ref (b + (n + 159)), .int 0, .int 0]) := GX3_self (by omega)
  refine W.widen (k := 200) (n := 5768) (by omega) (by omega) ?_
  refine bk_putF (ci := 11) (v := .ref (b + (n + 158))) (ty := (.object "CuckooShares$History")) (C := RX11) (T := TX11) (N := 19) hx hb hts icX11_init_11 tyX11 tyX11_ok nmX11 hown hK hB hS (by omega) hek0 rfl 7 (by decide) (hts (.fieldLink RX11 51 "CuckooShares" "history" "LCuckooShares$History;") (by decide +kernel)) hin rfl (by decide +kernel) rfl rfl (Nat.le_of_ble_eq_true rfl) dX11_init_97 (fun H locs hB hS => ?_)
  have hB : Bk D (GX11_24 cA g b n k0) b (n + 200) H := hB
  have hek0 : (GX11_24 cA g b n k0) (k0) = .inr (11, [.ref (b + n), .ref (b + (n + 6)), .ref (b + (n + 74)), .ref (b + (n + 142)), .ref (b + (n + 143)), .ref (b + (n + 148)), .ref (b + (n + 153)), .ref (b + (n + 158)), .null, .null, .null, .null, .null, .null, .null, .null, .null, .int 0, .int 0]) := upE_at
  refine lv_aload_n hx hb dX11_init_100 rfl (lv_at hl 0 rfl) ?_
  refine bk_new (ci := 1) (fs := [.null, .null, .null, .null, .null, .null, .null, .null, .null]) (C := RX1) (T := TX1) (N := 9) hx hb hts icX11_init_1 tyX1 tyX1_ok hown (hts (.classLink RX11 55 RX1) (by decide +kernel)) (hts (.instantiable RX1 9) (by decide +kernel)) (hts (.initialized RX1) (by decide +kernel)) hK hB hS rfl dfX1 (Nat.le_of_ble_eq_true rfl) (Nat.le_of_ble_eq_true rfl) dX11_init_101 (fun H hB hS => ?_)
  have hB : Bk D (GX11_25 cA g b n k0) b (n + 201) H := hB
  have hek0 : (GX11_25 cA g b n k0) (k0) = .inr (11, [.ref (b + n), .ref (b + (n + 6)), .ref (b + (n + 74)), .ref (b + (n + 142)), .ref (b + (n + 143)), .ref (b + (n + 148)), .ref (b + (n + 153)), .ref (b + (n + 158)), .null, .null, .null, .null, .null, .null, .null, .null, .null, .int 0, .int 0]) := (upE_ne (by omega)).trans hek0
  refine W.widen (k := 201) (n := 5777) (by omega) (by omega) ?_
  have hen_200 : (GX11_25 cA g b n k0) (n + 200) = .inr (1, [.null, .null, .null, .null, .null, .null, .null, .null, .null]) := upE_at
  refine lv_dup hx hb dX11_init_104 rfl ?_
  refine lv_aload_n hx hb dX11_init_105 rfl (lv_at hl 0 rfl) ?_
  refine bk_get (ci := 11) (v := .ref (b + (n + 6))) (C := RX11) (T := TX11) (N := 19) hx hb hts icX11_init_11 hown hK hB (by omega) hek0 rfl 1 (by decide) (hts (.fieldLink RX11 19 "CuckooShares" "valley" "LCuckooShares$Valley;") (by decide +kernel)) rfl dX11_init_106 ?_
  refine bk_call (As := [.ref (b + (n + 6))]) (rest := [.ref (b + (n + 200)), .ref (b + k0)]) (k0 := n + 200) ⟨hx, hb, hml, hown, hts⟩ hK hE hB hS (c_X1_init l D cA (GX11_25 cA g b n k0) b (n + 201) (n + 200) (b + (n + 6)) (by omega) hen_200) (cwI 1 hts gX11_init_X1_init rfl rfl rfl (hts (.initialized RX1) (by decide +kernel)) (hts (.methodLink RX11 57 yX1_init) (by decide +kernel)) (hts (.instanceMethod yX1_init) (by decide +kernel)) rfl (by decide +kernel) ⟨by decide, by decide⟩) rfl hl.1 rfl (Nat.le_of_ble_eq_true rfl) dX11_init_109 (Nat.le_of_ble_eq_true rfl) (Nat.le_of_ble_eq_true rfl) (fun H locs hB hS => ?_)
  have hB : Bk D (GX11_26 cA g b n k0) b (n + 209) H := hB
  have hek0 : (GX11_26 cA g b n k0) (k0) = .inr (11, [.ref (b + n), .ref (b + (n + 6)), .ref (b + (n + 74)), .ref (b + (n + 142)), .ref (b + (n + 143)), .ref (b + (n + 148)), .ref (b + (n + 153)), .ref (b + (n + 158)), .null, .null, .null, .null, .null, .null, .null, .null, .null, .int 0, .int 0]) := (GX1_old (by omega) (by omega)).trans hek0
  have hen_200 : (GX11_26 cA g b n k0) (n + 200) = .inr (1, [.ref (b + (n + 6)), .ref (b + (n + 201)), .ref (b + (n + 202)), .ref (b + (n + 203)), .ref (b + (n + 204)), .ref (b + (n + 205)), .ref (b + (n + 206)), .ref (b + (n + 207)), .ref (b + (n + 208))]) := GX1_self (by omega)
  refine W.widen (k := 209) (n := 5855) (by omega) (by omega) ?_
  refine bk_putF (ci := 11) (v := .ref (b + (n + 200))) (ty := (.object "CuckooShares$Camp")) (C := RX11) (T := TX11) (N := 19) hx hb hts icX11_init_11 tyX11 tyX11_ok nmX11 hown hK hB hS (by omega) hek0 rfl 8 (by decide) (hts (.fieldLink RX11 60 "CuckooShares" "camp" "LCuckooShares$Camp;") (by decide +kernel)) hin rfl (by decide +kernel) rfl rfl (Nat.le_of_ble_eq_true rfl) dX11_init_112 (fun H locs hB hS => ?_)
  have hB : Bk D (GX11_27 cA g b n k0) b (n + 209) H := hB
  have hek0 : (GX11_27 cA g b n k0) (k0) = .inr (11, [.ref (b + n), .ref (b + (n + 6)), .ref (b + (n + 74)), .ref (b + (n + 142)), .ref (b + (n + 143)), .ref (b + (n + 148)), .ref (b + (n + 153)), .ref (b + (n + 158)), .ref (b + (n + 200)), .null, .null, .null, .null, .null, .null, .null, .null, .int 0, .int 0]) := upE_at
  refine lv_aload_n hx hb dX11_init_115 rfl (lv_at hl 0 rfl) ?_
  refine bk_new (ci := 0) (fs := [.null, .null, .int 0]) (C := RX0) (T := TX0) (N := 3) hx hb hts icX11_init_0 tyX0 tyX0_ok hown (hts (.classLink RX11 64 RX0) (by decide +kernel)) (hts (.instantiable RX0 3) (by decide +kernel)) (hts (.initialized RX0) (by decide +kernel)) hK hB hS rfl dfX0 (Nat.le_of_ble_eq_true rfl) (Nat.le_of_ble_eq_true rfl) dX11_init_116 (fun H hB hS => ?_)
  have hB : Bk D (GX11_28 cA g b n k0) b (n + 210) H := hB
  have hek0 : (GX11_28 cA g b n k0) (k0) = .inr (11, [.ref (b + n), .ref (b + (n + 6)), .ref (b + (n + 74)), .ref (b + (n + 142)), .ref (b + (n + 143)), .ref (b + (n + 148)), .ref (b + (n + 153)), .ref (b + (n + 158)), .ref (b + (n + 200)), .null, .null, .null, .null, .null, .null, .null, .null, .int 0, .int 0]) := (upE_ne (by omega)).trans hek0
  refine W.widen (k := 210) (n := 5858) (by omega) (by omega) ?_
  have hen_209 : (GX11_28 cA g b n k0) (n + 209) = .inr (0, [.null, .null, .int 0]) := upE_at
  refine lv_dup hx hb dX11_init_119 rfl ?_
  refine lv_aload_n hx hb dX11_init_120 rfl (lv_at hl 0 rfl) ?_
  refine bk_get (ci := 11) (v := .ref (b + (n + 6))) (C := RX11) (T := TX11) (N := 19) hx hb hts icX11_init_11 hown hK hB (by omega) hek0 rfl 1 (by decide) (hts (.fieldLink RX11 19 "CuckooShares" "valley" "LCuckooShares$Valley;") (by decide +kernel)) rfl dX11_init_121 ?_
  refine lv_aload_n hx hb dX11_init_124 rfl (lv_at hl 0 rfl) ?_
  refine bk_get (ci := 11) (v := .ref (b + (n + 200))) (C := RX11) (T := TX11) (N := 19) hx hb hts icX11_init_11 hown hK hB (by omega) hek0 rfl 8 (by decide) (hts (.fieldLink RX11 60 "CuckooShares" "camp" "LCuckooShares$Camp;") (by decide +kernel)) rfl dX11_init_125 ?_
  refine bk_call (As := [.ref (b + (n + 6)), .ref (b + (n + 200))]) (rest := [.ref (b + (n + 209)), .ref (b + k0)]) (k0 := n + 209) ⟨hx, hb, hml, hown, hts⟩ hK hE hB hS (c_X0_init l D cA (GX11_28 cA g b n k0) b (n + 210) (n + 209) (b + (n + 6)) (b + (n + 200)) (by omega) hen_209) (cwI 2 hts gX11_init_X0_init rfl rfl rfl (hts (.initialized RX0) (by decide +kernel)) (hts (.methodLink RX11 66 yX0_init) (by decide +kernel)) (hts (.instanceMethod yX0_init) (by decide +kernel)) rfl (by decide +kernel) ⟨by decide, by decide⟩) rfl hl.1 rfl (Nat.le_of_ble_eq_true rfl) dX11_init_128 (Nat.le_of_ble_eq_true rfl) (Nat.le_of_ble_eq_true rfl) (fun H locs hB hS => ?_)
  have hB : Bk D (GX11_29 cA g b n k0) b (n + 210) H := hB
  have hek0 : (GX11_29 cA g b n k0) (k0) = .inr (11, [.ref (b + n), .ref (b + (n + 6)), .ref (b + (n + 74)), .ref (b + (n + 142)), .ref (b + (n + 143)), .ref (b + (n + 148)), .ref (b + (n + 153)), .ref (b + (n + 158)), .ref (b + (n + 200)), .null, .null, .null, .null, .null, .null, .null, .null, .int 0, .int 0]) := (GX0_old (by omega) (by omega)).trans hek0
  have hen_209 : (GX11_29 cA g b n k0) (n + 209) = .inr (0, [.ref (b + (n + 6)), .ref (b + (n + 200)), .int 0]) := GX0_self (by omega)
  refine W.widen (k := 210) (n := 5858) (by omega) (by omega) ?_
  refine bk_putF (ci := 11) (v := .ref (b + (n + 209))) (ty := (.object "CuckooShares$Acts")) (C := RX11) (T := TX11) (N := 19) hx hb hts icX11_init_11 tyX11 tyX11_ok nmX11 hown hK hB hS (by omega) hek0 rfl 9 (by decide) (hts (.fieldLink RX11 69 "CuckooShares" "acts" "LCuckooShares$Acts;") (by decide +kernel)) hin rfl (by decide +kernel) rfl rfl (Nat.le_of_ble_eq_true rfl) dX11_init_131 (fun H locs hB hS => ?_)
  have hB : Bk D (GX11_30 cA g b n k0) b (n + 210) H := hB
  have hek0 : (GX11_30 cA g b n k0) (k0) = .inr (11, [.ref (b + n), .ref (b + (n + 6)), .ref (b + (n + 74)), .ref (b + (n + 142)), .ref (b + (n + 143)), .ref (b + (n + 148)), .ref (b + (n + 153)), .ref (b + (n + 158)), .ref (b + (n + 200)), .ref (b + (n + 209)), .null, .null, .null, .null, .null, .null, .null, .int 0, .int 0]) := upE_at
  refine lv_aload_n hx hb dX11_init_134 rfl (lv_at hl 0 rfl) ?_
  refine bk_new (ci := 6) (fs := [.int 0, .int 0, .int 0, .null, .null, .null, .null]) (C := RX6) (T := TX6) (N := 7) hx hb hts icX11_init_6 tyX6 tyX6_ok hown (hts (.classLink RX11 73 RX6) (by decide +kernel)) (hts (.instantiable RX6 7) (by decide +kernel)) (hts (.initialized RX6) (by decide +kernel)) hK hB hS rfl dfX6 (Nat.le_of_ble_eq_true rfl) (Nat.le_of_ble_eq_true rfl) dX11_init_135 (fun H hB hS => ?_)
  have hB : Bk D (GX11_31 cA g b n k0) b (n + 211) H := hB
  have hek0 : (GX11_31 cA g b n k0) (k0) = .inr (11, [.ref (b + n), .ref (b + (n + 6)), .ref (b + (n + 74)), .ref (b + (n + 142)), .ref (b + (n + 143)), .ref (b + (n + 148)), .ref (b + (n + 153)), .ref (b + (n + 158)), .ref (b + (n + 200)), .ref (b + (n + 209)), .null, .null, .null, .null, .null, .null, .null, .int 0, .int 0]) := (upE_ne (by omega)).trans hek0
  refine W.widen (k := 211) (n := 5865) (by omega) (by omega) ?_
  have hen_210 : (GX11_31 cA g b n k0) (n + 210) = .inr (6, [.int 0, .int 0, .int 0, .null, .null, .null, .null]) := upE_at
  refine lv_dup hx hb dX11_init_138 rfl ?_
  refine bk_callN (As := []) (rest := [.ref (b + (n + 210)), .ref (b + k0)]) (k0 := n + 210) ⟨hx, hb, hml, hown, hts⟩ hK hE hB hS (c_X6_init l D cA (GX11_31 cA g b n k0) b (n + 211) (n + 210)  (by omega) hen_210) ⟨va_cnB 0 hts gX11_init_X6_init_n75 rfl rfl rfl hE.2.2.2.2.1 (hts (.initialized RX6) (by decide +kernel)) (by decide +kernel) ⟨by decide, by decide⟩, rfl, (hts (.instanceMethod yX6_init) (by decide +kernel))⟩ rfl hl.1 rfl (Nat.le_of_ble_eq_true rfl) dX11_init_139 (Nat.le_of_ble_eq_true rfl) (Nat.le_of_ble_eq_true rfl) (fun H locs hB hS => ?_)
  have hB : Bk D (GX11_32 cA g b n k0) b (n + 215) H := hB
  have hek0 : (GX11_32 cA g b n k0) (k0) = .inr (11, [.ref (b + n), .ref (b + (n + 6)), .ref (b + (n + 74)), .ref (b + (n + 142)), .ref (b + (n + 143)), .ref (b + (n + 148)), .ref (b + (n + 153)), .ref (b + (n + 158)), .ref (b + (n + 200)), .ref (b + (n + 209)), .null, .null, .null, .null, .null, .null, .null, .int 0, .int 0]) := (GX6_old (by omega) (by omega)).trans hek0
  have hen_210 : (GX11_32 cA g b n k0) (n + 210) = .inr (6, [.int 0, .int 0, .int 0, .ref (b + (n + 211)), .ref (b + (n + 212)), .ref (b + (n + 213)), .ref (b + (n + 214))]) := GX6_self (by omega)
  refine W.widen (k := 215) (n := 6025) (by omega) (by omega) ?_
  refine bk_putF (ci := 11) (v := .ref (b + (n + 210))) (ty := (.object "CuckooShares$Sentence")) (C := RX11) (T := TX11) (N := 19) hx hb hts icX11_init_11 tyX11 tyX11_ok nmX11 hown hK hB hS (by omega) hek0 rfl 10 (by decide) (hts (.fieldLink RX11 76 "CuckooShares" "sentence" "LCuckooShares$Sentence;") (by decide +kernel)) hin rfl (by decide +kernel) rfl rfl (Nat.le_of_ble_eq_true rfl) dX11_init_142 (fun H locs hB hS => ?_)
  have hB : Bk D (GX11_33 cA g b n k0) b (n + 215) H := hB
  have hek0 : (GX11_33 cA g b n k0) (k0) = .inr (11, [.ref (b + n), .ref (b + (n + 6)), .ref (b + (n + 74)), .ref (b + (n + 142)), .ref (b + (n + 143)), .ref (b + (n + 148)), .ref (b + (n + 153)), .ref (b + (n + 158)), .ref (b + (n + 200)), .ref (b + (n + 209)), .ref (b + (n + 210)), .null, .null, .null, .null, .null, .null, .int 0, .int 0]) := upE_at
  refine lv_aload_n hx hb dX11_init_145 rfl (lv_at hl 0 rfl) ?_
  refine bk_new (ci := 6) (fs := [.int 0, .int 0, .int 0, .null, .null, .null, .null]) (C := RX6) (T := TX6) (N := 7) hx hb hts icX11_init_6 tyX6 tyX6_ok hown (hts (.classLink RX11 73 RX6) (by decide +kernel)) (hts (.instantiable RX6 7) (by decide +kernel)) (hts (.initialized RX6) (by decide +kernel)) hK hB hS rfl dfX6 (Nat.le_of_ble_eq_true rfl) (Nat.le_of_ble_eq_true rfl) dX11_init_146 (fun H hB hS => ?_)
  have hB : Bk D (GX11_34 cA g b n k0) b (n + 216) H := hB
  have hek0 : (GX11_34 cA g b n k0) (k0) = .inr (11, [.ref (b + n), .ref (b + (n + 6)), .ref (b + (n + 74)), .ref (b + (n + 142)), .ref (b + (n + 143)), .ref (b + (n + 148)), .ref (b + (n + 153)), .ref (b + (n + 158)), .ref (b + (n + 200)), .ref (b + (n + 209)), .ref (b + (n + 210)), .null, .null, .null, .null, .null, .null, .int 0, .int 0]) := (upE_ne (by omega)).trans hek0
  refine W.widen (k := 216) (n := 6032) (by omega) (by omega) ?_
  have hen_215 : (GX11_34 cA g b n k0) (n + 215) = .inr (6, [.int 0, .int 0, .int 0, .null, .null, .null, .null]) := upE_at
  refine lv_dup hx hb dX11_init_149 rfl ?_
  refine bk_callN (As := []) (rest := [.ref (b + (n + 215)), .ref (b + k0)]) (k0 := n + 215) ⟨hx, hb, hml, hown, hts⟩ hK hE hB hS (c_X6_init l D cA (GX11_34 cA g b n k0) b (n + 216) (n + 215)  (by omega) hen_215) ⟨va_cnB 0 hts gX11_init_X6_init_n75 rfl rfl rfl hE.2.2.2.2.1 (hts (.initialized RX6) (by decide +kernel)) (by decide +kernel) ⟨by decide, by decide⟩, rfl, (hts (.instanceMethod yX6_init) (by decide +kernel))⟩ rfl hl.1 rfl (Nat.le_of_ble_eq_true rfl) dX11_init_150 (Nat.le_of_ble_eq_true rfl) (Nat.le_of_ble_eq_true rfl) (fun H locs hB hS => ?_)
  have hB : Bk D (GX11_35 cA g b n k0) b (n + 220) H := hB
  have hek0 : (GX11_35 cA g b n k0) (k0) = .inr (11, [.ref (b + n), .ref (b + (n + 6)), .ref (b + (n + 74)), .ref (b + (n + 142)), .ref (b + (n + 143)), .ref (b + (n + 148)), .ref (b + (n + 153)), .ref (b + (n + 158)), .ref (b + (n + 200)), .ref (b + (n + 209)), .ref (b + (n + 210)), .null, .null, .null, .null, .null, .null, .int 0, .int 0]) := (GX6_old (by omega) (by omega)).trans hek0
  have hen_215 : (GX11_35 cA g b n k0) (n + 215) = .inr (6, [.int 0, .int 0, .int 0, .ref (b + (n + 216)), .ref (b + (n + 217)), .ref (b + (n + 218)), .ref (b + (n + 219))]) := GX6_self (by omega)
  refine W.widen (k := 220) (n := 6192) (by omega) (by omega) ?_
  refine bk_putF (ci := 11) (v := .ref (b + (n + 215))) (ty := (.object "CuckooShares$Sentence")) (C := RX11) (T := TX11) (N := 19) hx hb hts icX11_init_11 tyX11 tyX11_ok nmX11 hown hK hB hS (by omega) hek0 rfl 11 (by decide) (hts (.fieldLink RX11 80 "CuckooShares" "spareSentence" "LCuckooShares$Sentence;") (by decide +kernel)) hin rfl (by decide +kernel) rfl rfl (Nat.le_of_ble_eq_true rfl) dX11_init_153 (fun H locs hB hS => ?_)
  have hB : Bk D (GX11_36 cA g b n k0) b (n + 220) H := hB
  have hek0 : (GX11_36 cA g b n k0) (k0) = .inr (11, [.ref (b + n), .ref (b + (n + 6)), .ref (b + (n + 74)), .ref (b + (n + 142)), .ref (b + (n + 143)), .ref (b + (n + 148)), .ref (b + (n + 153)), .ref (b + (n + 158)), .ref (b + (n + 200)), .ref (b + (n + 209)), .ref (b + (n + 210)), .ref (b + (n + 215)), .null, .null, .null, .null, .null, .int 0, .int 0]) := upE_at
  refine lv_aload_n hx hb dX11_init_156 rfl (lv_at hl 0 rfl) ?_
  refine bk_new (ci := 7) (fs := [.null, .null, .null]) (C := RX7) (T := TX7) (N := 3) hx hb hts icX11_init_7 tyX7 tyX7_ok hown (hts (.classLink RX11 83 RX7) (by decide +kernel)) (hts (.instantiable RX7 3) (by decide +kernel)) (hts (.initialized RX7) (by decide +kernel)) hK hB hS rfl dfX7 (Nat.le_of_ble_eq_true rfl) (Nat.le_of_ble_eq_true rfl) dX11_init_157 (fun H hB hS => ?_)
  have hB : Bk D (GX11_37 cA g b n k0) b (n + 221) H := hB
  have hek0 : (GX11_37 cA g b n k0) (k0) = .inr (11, [.ref (b + n), .ref (b + (n + 6)), .ref (b + (n + 74)), .ref (b + (n + 142)), .ref (b + (n + 143)), .ref (b + (n + 148)), .ref (b + (n + 153)), .ref (b + (n + 158)), .ref (b + (n + 200)), .ref (b + (n + 209)), .ref (b + (n + 210)), .ref (b + (n + 215)), .null, .null, .null, .null, .null, .int 0, .int 0]) := (upE_ne (by omega)).trans hek0
  refine W.widen (k := 221) (n := 6195) (by omega) (by omega) ?_
  have hen_220 : (GX11_37 cA g b n k0) (n + 220) = .inr (7, [.null, .null, .null]) := upE_at
  refine lv_dup hx hb dX11_init_160 rfl ?_
  refine lv_aload_n hx hb dX11_init_161 rfl (lv_at hl 0 rfl) ?_
  refine bk_get (ci := 11) (v := .ref (b + n)) (C := RX11) (T := TX11) (N := 19) hx hb hts icX11_init_11 hown hK hB (by omega) hek0 rfl 0 (by decide) (hts (.fieldLink RX11 10 "CuckooShares" "tape" "LCuckooShares$Tape;") (by decide +kernel)) rfl dX11_init_162 ?_
  refine lv_aload_n hx hb dX11_init_165 rfl (lv_at hl 0 rfl) ?_
  refine bk_get (ci := 11) (v := .ref (b + (n + 6))) (C := RX11) (T := TX11) (N := 19) hx hb hts icX11_init_11 hown hK hB (by omega) hek0 rfl 1 (by decide) (hts (.fieldLink RX11 19 "CuckooShares" "valley" "LCuckooShares$Valley;") (by decide +kernel)) rfl dX11_init_166 ?_
  refine lv_aload_n hx hb dX11_init_169 rfl (lv_at hl 0 rfl) ?_
  refine bk_get (ci := 11) (v := .ref (b + (n + 215))) (C := RX11) (T := TX11) (N := 19) hx hb hts icX11_init_11 hown hK hB (by omega) hek0 rfl 11 (by decide) (hts (.fieldLink RX11 80 "CuckooShares" "spareSentence" "LCuckooShares$Sentence;") (by decide +kernel)) rfl dX11_init_170 ?_
  refine bk_call (As := [.ref (b + n), .ref (b + (n + 6)), .ref (b + (n + 215))]) (rest := [.ref (b + (n + 220)), .ref (b + k0)]) (k0 := n + 220) ⟨hx, hb, hml, hown, hts⟩ hK hE hB hS (c_X7_init l D cA (GX11_37 cA g b n k0) b (n + 221) (n + 220) (b + n) (b + (n + 6)) (b + (n + 215)) (by omega) hen_220) (cwI 3 hts gX11_init_X7_init rfl rfl rfl (hts (.initialized RX7) (by decide +kernel)) (hts (.methodLink RX11 85 yX7_init) (by decide +kernel)) (hts (.instanceMethod yX7_init) (by decide +kernel)) rfl (by decide +kernel) ⟨by decide, by decide⟩) rfl hl.1 rfl (Nat.le_of_ble_eq_true rfl) dX11_init_173 (Nat.le_of_ble_eq_true rfl) (Nat.le_of_ble_eq_true rfl) (fun H locs hB hS => ?_)
  have hB : Bk D (GX11_38 cA g b n k0) b (n + 221) H := hB
  have hek0 : (GX11_38 cA g b n k0) (k0) = .inr (11, [.ref (b + n), .ref (b + (n + 6)), .ref (b + (n + 74)), .ref (b + (n + 142)), .ref (b + (n + 143)), .ref (b + (n + 148)), .ref (b + (n + 153)), .ref (b + (n + 158)), .ref (b + (n + 200)), .ref (b + (n + 209)), .ref (b + (n + 210)), .ref (b + (n + 215)), .null, .null, .null, .null, .null, .int 0, .int 0]) := (GX7_old (by omega) (by omega)).trans hek0
  have hen_220 : (GX11_38 cA g b n k0) (n + 220) = .inr (7, [.ref (b + n), .ref (b + (n + 6)), .ref (b + (n + 215))]) := GX7_self (by omega)
  refine W.widen (k := 221) (n := 6195) (by omega) (by omega) ?_
  refine bk_putF (ci := 11) (v := .ref (b + (n + 220))) (ty := (.object "CuckooShares$SentenceText")) (C := RX11) (T := TX11) (N := 19) hx hb hts icX11_init_11 tyX11 tyX11_ok nmX11 hown hK hB hS (by omega) hek0 rfl 12 (by decide) (hts (.fieldLink RX11 88 "CuckooShares" "sentenceText" "LCuckooShares$SentenceText;") (by decide +kernel)) hin rfl (by decide +kernel) rfl rfl (Nat.le_of_ble_eq_true rfl) dX11_init_176 (fun H locs hB hS => ?_)
  have hB : Bk D (GX11_39 cA g b n k0) b (n + 221) H := hB
  have hek0 : (GX11_39 cA g b n k0) (k0) = .inr (11, [.ref (b + n), .ref (b + (n + 6)), .ref (b + (n + 74)), .ref (b + (n + 142)), .ref (b + (n + 143)), .ref (b + (n + 148)), .ref (b + (n + 153)), .ref (b + (n + 158)), .ref (b + (n + 200)), .ref (b + (n + 209)), .ref (b + (n + 210)), .ref (b + (n + 215)), .ref (b + (n + 220)), .null, .null, .null, .null, .int 0, .int 0]) := upE_at
  refine lv_aload_n hx hb dX11_init_179 rfl (lv_at hl 0 rfl) ?_
  refine bk_new (ci := 5) (fs := [.null, .null, .null, .null, .null, .null, .int 0, .int 0]) (C := RX5) (T := TX5) (N := 8) hx hb hts icX11_init_5 tyX5 tyX5_ok hown (hts (.classLink RX11 92 RX5) (by decide +kernel)) (hts (.instantiable RX5 8) (by decide +kernel)) (hts (.initialized RX5) (by decide +kernel)) hK hB hS rfl dfX5 (Nat.le_of_ble_eq_true rfl) (Nat.le_of_ble_eq_true rfl) dX11_init_180 (fun H hB hS => ?_)
  have hB : Bk D (GX11_40 cA g b n k0) b (n + 222) H := hB
  have hek0 : (GX11_40 cA g b n k0) (k0) = .inr (11, [.ref (b + n), .ref (b + (n + 6)), .ref (b + (n + 74)), .ref (b + (n + 142)), .ref (b + (n + 143)), .ref (b + (n + 148)), .ref (b + (n + 153)), .ref (b + (n + 158)), .ref (b + (n + 200)), .ref (b + (n + 209)), .ref (b + (n + 210)), .ref (b + (n + 215)), .ref (b + (n + 220)), .null, .null, .null, .null, .int 0, .int 0]) := (upE_ne (by omega)).trans hek0
  refine W.widen (k := 222) (n := 6203) (by omega) (by omega) ?_
  have hen_221 : (GX11_40 cA g b n k0) (n + 221) = .inr (5, [.null, .null, .null, .null, .null, .null, .int 0, .int 0]) := upE_at
  refine lv_dup hx hb dX11_init_183 rfl ?_
  refine lv_aload_n hx hb dX11_init_184 rfl (lv_at hl 0 rfl) ?_
  refine bk_get (ci := 11) (v := .ref (b + n)) (C := RX11) (T := TX11) (N := 19) hx hb hts icX11_init_11 hown hK hB (by omega) hek0 rfl 0 (by decide) (hts (.fieldLink RX11 10 "CuckooShares" "tape" "LCuckooShares$Tape;") (by decide +kernel)) rfl dX11_init_185 ?_
  refine lv_aload_n hx hb dX11_init_188 rfl (lv_at hl 0 rfl) ?_
  refine bk_get (ci := 11) (v := .ref (b + (n + 6))) (C := RX11) (T := TX11) (N := 19) hx hb hts icX11_init_11 hown hK hB (by omega) hek0 rfl 1 (by decide) (hts (.fieldLink RX11 19 "CuckooShares" "valley" "LCuckooShares$Valley;") (by decide +kernel)) rfl dX11_init_189 ?_
  refine lv_aload_n hx hb dX11_init_192 rfl (lv_at hl 0 rfl) ?_
  refine bk_get (ci := 11) (v := .ref (b + (n + 209))) (C := RX11) (T := TX11) (N := 19) hx hb hts icX11_init_11 hown hK hB (by omega) hek0 rfl 9 (by decide) (hts (.fieldLink RX11 69 "CuckooShares" "acts" "LCuckooShares$Acts;") (by decide +kernel)) rfl dX11_init_193 ?_
  refine bk_call (As := [.ref (b + n), .ref (b + (n + 6)), .ref (b + (n + 209))]) (rest := [.ref (b + (n + 221)), .ref (b + k0)]) (k0 := n + 221) ⟨hx, hb, hml, hown, hts⟩ hK hE hB hS (c_X5_init l D cA (GX11_40 cA g b n k0) b (n + 222) (n + 221) (b + n) (b + (n + 6)) (b + (n + 209)) (by omega) hen_221) (cwI 3 hts gX11_init_X5_init rfl rfl rfl (hts (.initialized RX5) (by decide +kernel)) (hts (.methodLink RX11 94 yX5_init) (by decide +kernel)) (hts (.instanceMethod yX5_init) (by decide +kernel)) rfl (by decide +kernel) ⟨by decide, by decide⟩) rfl hl.1 rfl (Nat.le_of_ble_eq_true rfl) dX11_init_196 (Nat.le_of_ble_eq_true rfl) (Nat.le_of_ble_eq_true rfl) (fun H locs hB hS => ?_)
  have hB : Bk D (GX11_41 cA g b n k0) b (n + 225) H := hB
  have hek0 : (GX11_41 cA g b n k0) (k0) = .inr (11, [.ref (b + n), .ref (b + (n + 6)), .ref (b + (n + 74)), .ref (b + (n + 142)), .ref (b + (n + 143)), .ref (b + (n + 148)), .ref (b + (n + 153)), .ref (b + (n + 158)), .ref (b + (n + 200)), .ref (b + (n + 209)), .ref (b + (n + 210)), .ref (b + (n + 215)), .ref (b + (n + 220)), .null, .null, .null, .null, .int 0, .int 0]) := (GX5_old (by omega) (by omega)).trans hek0
  have hen_221 : (GX11_41 cA g b n k0) (n + 221) = .inr (5, [.ref (b + n), .ref (b + (n + 6)), .ref (b + (n + 209)), .ref (b + (n + 222)), .ref (b + (n + 223)), .ref (b + (n + 224)), .int 0, .int 0]) := GX5_self (by omega)
  refine W.widen (k := 225) (n := 6323) (by omega) (by omega) ?_
  refine bk_putF (ci := 11) (v := .ref (b + (n + 221))) (ty := (.object "CuckooShares$Roll")) (C := RX11) (T := TX11) (N := 19) hx hb hts icX11_init_11 tyX11 tyX11_ok nmX11 hown hK hB hS (by omega) hek0 rfl 13 (by decide) (hts (.fieldLink RX11 97 "CuckooShares" "roll" "LCuckooShares$Roll;") (by decide +kernel)) hin rfl (by decide +kernel) rfl rfl (Nat.le_of_ble_eq_true rfl) dX11_init_199 (fun H locs hB hS => ?_)
  have hB : Bk D (GX11_42 cA g b n k0) b (n + 225) H := hB
  have hek0 : (GX11_42 cA g b n k0) (k0) = .inr (11, [.ref (b + n), .ref (b + (n + 6)), .ref (b + (n + 74)), .ref (b + (n + 142)), .ref (b + (n + 143)), .ref (b + (n + 148)), .ref (b + (n + 153)), .ref (b + (n + 158)), .ref (b + (n + 200)), .ref (b + (n + 209)), .ref (b + (n + 210)), .ref (b + (n + 215)), .ref (b + (n + 220)), .ref (b + (n + 221)), .null, .null, .null, .int 0, .int 0]) := upE_at
  refine lv_aload_n hx hb dX11_init_202 rfl (lv_at hl 0 rfl) ?_
  refine lv_iconst (v := 2) hx hb dX11_init_203 (by decide) ?_
  refine bk_newq (C := RX4) (cR := cA 6) (x := 2) (N' := 2) hx hb hown (hts (.classLink RX11 101 RX4) (by decide +kernel)) hE.2.1 hK 6 rfl hB hS (by decide) (by decide) (by decide) (Nat.le_of_ble_eq_true rfl) (Nat.le_of_ble_eq_true rfl) dX11_init_204 (fun H hB hS => ?_)
  have hB : Bk D (GX11_43 cA g b n k0) b (n + 226) H := hB
  have hek0 : (GX11_43 cA g b n k0) (k0) = .inr (11, [.ref (b + n), .ref (b + (n + 6)), .ref (b + (n + 74)), .ref (b + (n + 142)), .ref (b + (n + 143)), .ref (b + (n + 148)), .ref (b + (n + 153)), .ref (b + (n + 158)), .ref (b + (n + 200)), .ref (b + (n + 209)), .ref (b + (n + 210)), .ref (b + (n + 215)), .ref (b + (n + 220)), .ref (b + (n + 221)), .null, .null, .null, .int 0, .int 0]) := (upE_ne (by omega)).trans hek0
  refine W.widen (k := 226) (n := 6325) (by omega) (by omega) ?_
  have hen_225 : (GX11_43 cA g b n k0) (n + 225) = .inl (cA 6, 2, .inr (.inr (.inr (.inr (fun _ => none))))) := upE_at
  refine bk_putF (ci := 11) (v := .ref (b + (n + 225))) (ty := (.array (.object "CuckooShares$Image"))) (C := RX11) (T := TX11) (N := 19) hx hb hts icX11_init_11 tyX11 tyX11_ok nmX11 hown hK hB hS (by omega) hek0 rfl 14 (by decide) (hts (.fieldLink RX11 103 "CuckooShares" "images" "[LCuckooShares$Image;") (by decide +kernel)) hin rfl (by decide +kernel) rfl rfl (Nat.le_of_ble_eq_true rfl) dX11_init_207 (fun H locs hB hS => ?_)
  have hB : Bk D (GX11_44 cA g b n k0) b (n + 226) H := hB
  have hek0 : (GX11_44 cA g b n k0) (k0) = .inr (11, [.ref (b + n), .ref (b + (n + 6)), .ref (b + (n + 74)), .ref (b + (n + 142)), .ref (b + (n + 143)), .ref (b + (n + 148)), .ref (b + (n + 153)), .ref (b + (n + 158)), .ref (b + (n + 200)), .ref (b + (n + 209)), .ref (b + (n + 210)), .ref (b + (n + 215)), .ref (b + (n + 220)), .ref (b + (n + 221)), .ref (b + (n + 225)), .null, .null, .int 0, .int 0]) := upE_at
  have hen_225 : (GX11_44 cA g b n k0) (n + 225) = .inl (cA 6, 2, .inr (.inr (.inr (.inr (fun _ => none))))) := (upE_ne (by omega)).trans hen_225
  refine lv_iconst (v := 0) hx hb dX11_init_210 (by decide) ?_
  refine lv_istore_n (lv' := [(1, .int 0), (0, .ref (b + k0))]) hx hb dX11_init_211 rfl hl (by decide) rfl (fun ls hl => ?_)
  refine lv_iload_n hx hb dX11_init_212 rfl (lv_at hl 0 rfl) ?_
  refine lv_iconst (v := 2) hx hb dX11_init_213 (by decide) ?_
  refine r_icmp_ge (tgt := 236) hx hb dX11_init_214 (by decide) (fun cq => ?_) (fun cq => ?_)
  · exact absurd cq (by decide)
  refine lv_aload_n hx hb dX11_init_217 rfl (lv_at hl 1 rfl) ?_
  refine bk_get (ci := 11) (v := .ref (b + (n + 225))) (C := RX11) (T := TX11) (N := 19) hx hb hts icX11_init_11 hown hK hB (by omega) hek0 rfl 14 (by decide) (hts (.fieldLink RX11 103 "CuckooShares" "images" "[LCuckooShares$Image;") (by decide +kernel)) rfl dX11_init_218 ?_
  refine lv_iload_n hx hb dX11_init_221 rfl (lv_at hl 0 rfl) ?_
  refine bk_new (ci := 4) (fs := [.null, .null, .null, .int 0]) (C := RX4) (T := TX4) (N := 4) hx hb hts icX11_init_4 tyX4 tyX4_ok hown (hts (.classLink RX11 101 RX4) (by decide +kernel)) (hts (.instantiable RX4 4) (by decide +kernel)) (hts (.initialized RX4) (by decide +kernel)) hK hB hS rfl dfX4 (Nat.le_of_ble_eq_true rfl) (Nat.le_of_ble_eq_true rfl) dX11_init_222 (fun H hB hS => ?_)
  have hB : Bk D (GX11_45 cA g b n k0) b (n + 227) H := hB
  have hek0 : (GX11_45 cA g b n k0) (k0) = .inr (11, [.ref (b + n), .ref (b + (n + 6)), .ref (b + (n + 74)), .ref (b + (n + 142)), .ref (b + (n + 143)), .ref (b + (n + 148)), .ref (b + (n + 153)), .ref (b + (n + 158)), .ref (b + (n + 200)), .ref (b + (n + 209)), .ref (b + (n + 210)), .ref (b + (n + 215)), .ref (b + (n + 220)), .ref (b + (n + 221)), .ref (b + (n + 225)), .null, .null, .int 0, .int 0]) := (upE_ne (by omega)).trans hek0
  have hen_225 : (GX11_45 cA g b n k0) (n + 225) = .inl (cA 6, 2, .inr (.inr (.inr (.inr (fun _ => none))))) := (upE_ne (by omega)).trans hen_225
  refine W.widen (k := 227) (n := 6329) (by omega) (by omega) ?_
  have hen_226 : (GX11_45 cA g b n k0) (n + 226) = .inr (4, [.null, .null, .null, .int 0]) := upE_at
  refine lv_dup hx hb dX11_init_225 rfl ?_
  refine bk_callN (As := []) (rest := [.ref (b + (n + 226)), .int 0, .ref (b + (n + 225))]) (k0 := n + 226) ⟨hx, hb, hml, hown, hts⟩ hK hE hB hS (c_X4_init l D cA (GX11_45 cA g b n k0) b (n + 227) (n + 226)  (by omega) hen_226) ⟨va_cnB 0 hts gX11_init_X4_init_n107 rfl rfl rfl hE.2.2.2.2.2.1 (hts (.initialized RX4) (by decide +kernel)) (by decide +kernel) ⟨by decide, by decide⟩, rfl, (hts (.instanceMethod yX4_init) (by decide +kernel))⟩ rfl hl.1 rfl (Nat.le_of_ble_eq_true rfl) dX11_init_226 (Nat.le_of_ble_eq_true rfl) (Nat.le_of_ble_eq_true rfl) (fun H locs hB hS => ?_)
  have hB : Bk D (GX11_46 cA g b n k0) b (n + 305) H := hB
  have hek0 : (GX11_46 cA g b n k0) (k0) = .inr (11, [.ref (b + n), .ref (b + (n + 6)), .ref (b + (n + 74)), .ref (b + (n + 142)), .ref (b + (n + 143)), .ref (b + (n + 148)), .ref (b + (n + 153)), .ref (b + (n + 158)), .ref (b + (n + 200)), .ref (b + (n + 209)), .ref (b + (n + 210)), .ref (b + (n + 215)), .ref (b + (n + 220)), .ref (b + (n + 221)), .ref (b + (n + 225)), .null, .null, .int 0, .int 0]) := (GX4_old (by omega) (by omega)).trans hek0
  have hen_225 : (GX11_46 cA g b n k0) (n + 225) = .inl (cA 6, 2, .inr (.inr (.inr (.inr (fun _ => none))))) := (GX4_old (by omega) (by omega)).trans hen_225
  have hen_226 : (GX11_46 cA g b n k0) (n + 226) = .inr (4, [.ref (b + (n + 227)), .ref (b + (n + 295)), .ref (b + (n + 300)), .int 0]) := GX4_self (by omega)
  refine W.widen (k := 305) (n := 6837) (by omega) (by omega) ?_
  refine bk_aast (cR := cA 6) (r := (RX4, TX4, 4)) hx hb hK hB hS (n + 225) 6 (n + 226) 4 (by omega) (by omega) hen_225 rfl hen_226 rfl (j := 0) (by decide) (by decide) dX11_init_229 (fun H locs hB hS => ?_)
  have hB : Bk D (GX11_47 cA g b n k0) b (n + 305) H := hB
  have hek0 : (GX11_47 cA g b n k0) (k0) = .inr (11, [.ref (b + n), .ref (b + (n + 6)), .ref (b + (n + 74)), .ref (b + (n + 142)), .ref (b + (n + 143)), .ref (b + (n + 148)), .ref (b + (n + 153)), .ref (b + (n + 158)), .ref (b + (n + 200)), .ref (b + (n + 209)), .ref (b + (n + 210)), .ref (b + (n + 215)), .ref (b + (n + 220)), .ref (b + (n + 221)), .ref (b + (n + 225)), .null, .null, .int 0, .int 0]) := (upE_ne (by omega)).trans hek0
  have hen_225 : (GX11_47 cA g b n k0) (n + 225) = .inl (cA 6, 2, .inr (.inr (.inr (.inr (va_up (fun _ => none) 0 (some (b + (n + 226)))))))) := upE_at
  refine r_iinc (k := 0) (lv1 := fun z => [(1, .int z), (0, .ref (b + k0))]) hx hb dX11_init_230 hl rfl (by decide) (fun _ => rfl) (by decide) (by decide) (fun z ls ez hl => ?_)
  obtain rfl : z = 1 := Int32.toInt_inj.mp (by rw [ez]; rfl)
  refine lv_goto (tgt := 212) hx hb dX11_init_233 (by decide) ?_
  refine lv_iload_n hx hb dX11_init_212 rfl (lv_at hl 0 rfl) ?_
  refine lv_iconst (v := 2) hx hb dX11_init_213 (by decide) ?_
  refine r_icmp_ge (tgt := 236) hx hb dX11_init_214 (by decide) (fun cq => ?_) (fun cq => ?_)
  · exact absurd cq (by decide)
  refine lv_aload_n hx hb dX11_init_217 rfl (lv_at hl 1 rfl) ?_
  refine bk_get (ci := 11) (v := .ref (b + (n + 225))) (C := RX11) (T := TX11) (N := 19) hx hb hts icX11_init_11 hown hK hB (by omega) hek0 rfl 14 (by decide) (hts (.fieldLink RX11 103 "CuckooShares" "images" "[LCuckooShares$Image;") (by decide +kernel)) rfl dX11_init_218 ?_
  refine lv_iload_n hx hb dX11_init_221 rfl (lv_at hl 0 rfl) ?_
  refine bk_new (ci := 4) (fs := [.null, .null, .null, .int 0]) (C := RX4) (T := TX4) (N := 4) hx hb hts icX11_init_4 tyX4 tyX4_ok hown (hts (.classLink RX11 101 RX4) (by decide +kernel)) (hts (.instantiable RX4 4) (by decide +kernel)) (hts (.initialized RX4) (by decide +kernel)) hK hB hS rfl dfX4 (Nat.le_of_ble_eq_true rfl) (Nat.le_of_ble_eq_true rfl) dX11_init_222 (fun H hB hS => ?_)
  have hB : Bk D (GX11_48 cA g b n k0) b (n + 306) H := hB
  have hek0 : (GX11_48 cA g b n k0) (k0) = .inr (11, [.ref (b + n), .ref (b + (n + 6)), .ref (b + (n + 74)), .ref (b + (n + 142)), .ref (b + (n + 143)), .ref (b + (n + 148)), .ref (b + (n + 153)), .ref (b + (n + 158)), .ref (b + (n + 200)), .ref (b + (n + 209)), .ref (b + (n + 210)), .ref (b + (n + 215)), .ref (b + (n + 220)), .ref (b + (n + 221)), .ref (b + (n + 225)), .null, .null, .int 0, .int 0]) := (upE_ne (by omega)).trans hek0
  have hen_225 : (GX11_48 cA g b n k0) (n + 225) = .inl (cA 6, 2, .inr (.inr (.inr (.inr (va_up (fun _ => none) 0 (some (b + (n + 226)))))))) := (upE_ne (by omega)).trans hen_225
  refine W.widen (k := 306) (n := 6841) (by omega) (by omega) ?_
  have hen_305 : (GX11_48 cA g b n k0) (n + 305) = .inr (4, [.null, .null, .null, .int 0]) := upE_at
  refine lv_dup hx hb dX11_init_225 rfl ?_
  refine bk_callN (As := []) (rest := [.ref (b + (n + 305)), .int 1, .ref (b + (n + 225))]) (k0 := n + 305) ⟨hx, hb, hml, hown, hts⟩ hK hE hB hS (c_X4_init l D cA (GX11_48 cA g b n k0) b (n + 306) (n + 305)  (by omega) hen_305) ⟨va_cnB 0 hts gX11_init_X4_init_n107 rfl rfl rfl hE.2.2.2.2.2.1 (hts (.initialized RX4) (by decide +kernel)) (by decide +kernel) ⟨by decide, by decide⟩, rfl, (hts (.instanceMethod yX4_init) (by decide +kernel))⟩ rfl hl.1 rfl (Nat.le_of_ble_eq_true rfl) dX11_init_226 (Nat.le_of_ble_eq_true rfl) (Nat.le_of_ble_eq_true rfl) (fun H locs hB hS => ?_)
  have hB : Bk D (GX11_49 cA g b n k0) b (n + 384) H := hB
  have hek0 : (GX11_49 cA g b n k0) (k0) = .inr (11, [.ref (b + n), .ref (b + (n + 6)), .ref (b + (n + 74)), .ref (b + (n + 142)), .ref (b + (n + 143)), .ref (b + (n + 148)), .ref (b + (n + 153)), .ref (b + (n + 158)), .ref (b + (n + 200)), .ref (b + (n + 209)), .ref (b + (n + 210)), .ref (b + (n + 215)), .ref (b + (n + 220)), .ref (b + (n + 221)), .ref (b + (n + 225)), .null, .null, .int 0, .int 0]) := (GX4_old (by omega) (by omega)).trans hek0
  have hen_225 : (GX11_49 cA g b n k0) (n + 225) = .inl (cA 6, 2, .inr (.inr (.inr (.inr (va_up (fun _ => none) 0 (some (b + (n + 226)))))))) := (GX4_old (by omega) (by omega)).trans hen_225
  have hen_305 : (GX11_49 cA g b n k0) (n + 305) = .inr (4, [.ref (b + (n + 306)), .ref (b + (n + 374)), .ref (b + (n + 379)), .int 0]) := GX4_self (by omega)
  refine W.widen (k := 384) (n := 7349) (by omega) (by omega) ?_
  refine bk_aast (cR := cA 6) (r := (RX4, TX4, 4)) hx hb hK hB hS (n + 225) 6 (n + 305) 4 (by omega) (by omega) hen_225 rfl hen_305 rfl (j := 1) (by decide) (by decide) dX11_init_229 (fun H locs hB hS => ?_)
  have hB : Bk D (GX11_50 cA g b n k0) b (n + 384) H := hB
  have hek0 : (GX11_50 cA g b n k0) (k0) = .inr (11, [.ref (b + n), .ref (b + (n + 6)), .ref (b + (n + 74)), .ref (b + (n + 142)), .ref (b + (n + 143)), .ref (b + (n + 148)), .ref (b + (n + 153)), .ref (b + (n + 158)), .ref (b + (n + 200)), .ref (b + (n + 209)), .ref (b + (n + 210)), .ref (b + (n + 215)), .ref (b + (n + 220)), .ref (b + (n + 221)), .ref (b + (n + 225)), .null, .null, .int 0, .int 0]) := (upE_ne (by omega)).trans hek0
  have hen_225 : (GX11_50 cA g b n k0) (n + 225) = .inl (cA 6, 2, .inr (.inr (.inr (.inr (va_up (va_up (fun _ => none) 0 (some (b + (n + 226)))) 1 (some (b + (n + 305)))))))) := upE_at
  refine r_iinc (k := 0) (lv1 := fun z => [(1, .int z), (0, .ref (b + k0))]) hx hb dX11_init_230 hl rfl (by decide) (fun _ => rfl) (by decide) (by decide) (fun z ls ez hl => ?_)
  obtain rfl : z = 2 := Int32.toInt_inj.mp (by rw [ez]; rfl)
  refine lv_goto (tgt := 212) hx hb dX11_init_233 (by decide) ?_
  refine lv_iload_n hx hb dX11_init_212 rfl (lv_at hl 0 rfl) ?_
  refine lv_iconst (v := 2) hx hb dX11_init_213 (by decide) ?_
  refine r_icmp_ge (tgt := 236) hx hb dX11_init_214 (by decide) (fun cq => ?_) (fun cq => ?_)
  rotate_left
  · exact absurd cq (by decide)
  refine lv_aload_n hx hb dX11_init_236 rfl (lv_at hl 1 rfl) ?_
  refine lv_iconst (v := 2) hx hb dX11_init_237 (by decide) ?_
  refine bk_newa (atype := .int) (ty := .int) (cR := cA 0) (x := 2) (N' := 2) (a0 := (2, .inl (fun _ => 0))) hx hb (hts (.arrayClass .int) (by decide +kernel)) rfl hK 0 rfl (fun h => h) hB hS (fun _ => rfl) (by decide) (by decide) (by decide) (Nat.le_of_ble_eq_true rfl) (Nat.le_of_ble_eq_true rfl) dX11_init_238 (fun H hB hS => ?_)
  have hB : Bk D (GX11_51 cA g b n k0) b (n + 385) H := hB
  have hek0 : (GX11_51 cA g b n k0) (k0) = .inr (11, [.ref (b + n), .ref (b + (n + 6)), .ref (b + (n + 74)), .ref (b + (n + 142)), .ref (b + (n + 143)), .ref (b + (n + 148)), .ref (b + (n + 153)), .ref (b + (n + 158)), .ref (b + (n + 200)), .ref (b + (n + 209)), .ref (b + (n + 210)), .ref (b + (n + 215)), .ref (b + (n + 220)), .ref (b + (n + 221)), .ref (b + (n + 225)), .null, .null, .int 0, .int 0]) := (upE_ne (by omega)).trans hek0
  have hen_225 : (GX11_51 cA g b n k0) (n + 225) = .inl (cA 6, 2, .inr (.inr (.inr (.inr (va_up (va_up (fun _ => none) 0 (some (b + (n + 226)))) 1 (some (b + (n + 305)))))))) := (upE_ne (by omega)).trans hen_225
  refine W.widen (k := 385) (n := 7351) (by omega) (by omega) ?_
  refine bk_putF (ci := 11) (v := .ref (b + (n + 384))) (ty := (.array .int)) (C := RX11) (T := TX11) (N := 19) hx hb hts icX11_init_11 tyX11 tyX11_ok nmX11 hown hK hB hS (by omega) hek0 rfl 15 (by decide) (hts (.fieldLink RX11 108 "CuckooShares" "bestMean" "[I") (by decide +kernel)) hin rfl (by decide +kernel) rfl rfl (Nat.le_of_ble_eq_true rfl) dX11_init_240 (fun H locs hB hS => ?_)
  have hB : Bk D (GX11_52 cA g b n k0) b (n + 385) H := hB
  have hek0 : (GX11_52 cA g b n k0) (k0) = .inr (11, [.ref (b + n), .ref (b + (n + 6)), .ref (b + (n + 74)), .ref (b + (n + 142)), .ref (b + (n + 143)), .ref (b + (n + 148)), .ref (b + (n + 153)), .ref (b + (n + 158)), .ref (b + (n + 200)), .ref (b + (n + 209)), .ref (b + (n + 210)), .ref (b + (n + 215)), .ref (b + (n + 220)), .ref (b + (n + 221)), .ref (b + (n + 225)), .ref (b + (n + 384)), .null, .int 0, .int 0]) := upE_at
  have hen_225 : (GX11_52 cA g b n k0) (n + 225) = .inl (cA 6, 2, .inr (.inr (.inr (.inr (va_up (va_up (fun _ => none) 0 (some (b + (n + 226)))) 1 (some (b + (n + 305)))))))) := (upE_ne (by omega)).trans hen_225
  refine lv_aload_n hx hb dX11_init_243 rfl (lv_at hl 1 rfl) ?_
  refine lv_iconst (v := 4) hx hb dX11_init_244 (by decide) ?_
  refine bk_newa (atype := .int) (ty := .int) (cR := cA 0) (x := 4) (N' := 4) (a0 := (4, .inl (fun _ => 0))) hx hb (hts (.arrayClass .int) (by decide +kernel)) rfl hK 0 rfl (fun h => h) hB hS (fun _ => rfl) (by decide) (by decide) (by decide) (Nat.le_of_ble_eq_true rfl) (Nat.le_of_ble_eq_true rfl) dX11_init_245 (fun H hB hS => ?_)
  have hB : Bk D (GX11_53 cA g b n k0) b (n + 386) H := hB
  have hek0 : (GX11_53 cA g b n k0) (k0) = .inr (11, [.ref (b + n), .ref (b + (n + 6)), .ref (b + (n + 74)), .ref (b + (n + 142)), .ref (b + (n + 143)), .ref (b + (n + 148)), .ref (b + (n + 153)), .ref (b + (n + 158)), .ref (b + (n + 200)), .ref (b + (n + 209)), .ref (b + (n + 210)), .ref (b + (n + 215)), .ref (b + (n + 220)), .ref (b + (n + 221)), .ref (b + (n + 225)), .ref (b + (n + 384)), .null, .int 0, .int 0]) := (upE_ne (by omega)).trans hek0
  have hen_225 : (GX11_53 cA g b n k0) (n + 225) = .inl (cA 6, 2, .inr (.inr (.inr (.inr (va_up (va_up (fun _ => none) 0 (some (b + (n + 226)))) 1 (some (b + (n + 305)))))))) := (upE_ne (by omega)).trans hen_225
  refine W.widen (k := 386) (n := 7355) (by omega) (by omega) ?_
  refine bk_putF (ci := 11) (v := .ref (b + (n + 385))) (ty := (.array .int)) (C := RX11) (T := TX11) (N := 19) hx hb hts icX11_init_11 tyX11 tyX11_ok nmX11 hown hK hB hS (by omega) hek0 rfl 16 (by decide) (hts (.fieldLink RX11 112 "CuckooShares" "lastRoll" "[I") (by decide +kernel)) hin rfl (by decide +kernel) rfl rfl (Nat.le_of_ble_eq_true rfl) dX11_init_247 (fun H locs hB hS => ?_)
  have hB : Bk D (GX11_54 cA g b n k0) b (n + 386) H := hB
  have hek0 : (GX11_54 cA g b n k0) (k0) = .inr (11, [.ref (b + n), .ref (b + (n + 6)), .ref (b + (n + 74)), .ref (b + (n + 142)), .ref (b + (n + 143)), .ref (b + (n + 148)), .ref (b + (n + 153)), .ref (b + (n + 158)), .ref (b + (n + 200)), .ref (b + (n + 209)), .ref (b + (n + 210)), .ref (b + (n + 215)), .ref (b + (n + 220)), .ref (b + (n + 221)), .ref (b + (n + 225)), .ref (b + (n + 384)), .ref (b + (n + 385)), .int 0, .int 0]) := upE_at
  have hen_225 : (GX11_54 cA g b n k0) (n + 225) = .inl (cA 6, 2, .inr (.inr (.inr (.inr (va_up (va_up (fun _ => none) 0 (some (b + (n + 226)))) 1 (some (b + (n + 305)))))))) := (upE_ne (by omega)).trans hen_225
  exact bk_ret hx hb hr hB hS hlocks dX11_init_250
