set_option maxRecDepth 100000 in
set_option maxHeartbeats 8000000 in
theorem fn_0 (cA : Nat → ClassId) (b : Nat) (str : Nat → Nat) : FN cA b str 0 := rfl
set_option maxRecDepth 100000 in
set_option maxHeartbeats 8000000 in
theorem fn_1 (cA : Nat → ClassId) (b : Nat) (str : Nat → Nat) : FN cA b str 1 := rfl
set_option maxRecDepth 100000 in
set_option maxHeartbeats 8000000 in
theorem fn_2 (cA : Nat → ClassId) (b : Nat) (str : Nat → Nat) : FN cA b str 2 := rfl
set_option maxRecDepth 100000 in
set_option maxHeartbeats 8000000 in
theorem fn_3 (cA : Nat → ClassId) (b : Nat) (str : Nat → Nat) : FN cA b str 3 := rfl
set_option maxRecDepth 100000 in
set_option maxHeartbeats 8000000 in
theorem fn_4 (cA : Nat → ClassId) (b : Nat) (str : Nat → Nat) : FN cA b str 4 := rfl
set_option maxRecDepth 100000 in
set_option maxHeartbeats 8000000 in
theorem fn_5 (cA : Nat → ClassId) (b : Nat) (str : Nat → Nat) : FN cA b str 5 := rfl
set_option maxRecDepth 100000 in
set_option maxHeartbeats 8000000 in
theorem fn_6 (cA : Nat → ClassId) (b : Nat) (str : Nat → Nat) : FN cA b str 6 := rfl
set_option maxRecDepth 100000 in
set_option maxHeartbeats 8000000 in
theorem fn_7 (cA : Nat → ClassId) (b : Nat) (str : Nat → Nat) : FN cA b str 7 := rfl
set_option maxRecDepth 100000 in
set_option maxHeartbeats 8000000 in
theorem fn_8 (cA : Nat → ClassId) (b : Nat) (str : Nat → Nat) : FN cA b str 8 := rfl
set_option maxRecDepth 100000 in
set_option maxHeartbeats 8000000 in
theorem fn_9 (cA : Nat → ClassId) (b : Nat) (str : Nat → Nat) : FN cA b str 9 := rfl
set_option maxRecDepth 100000 in
set_option maxHeartbeats 8000000 in
theorem fn_10 (cA : Nat → ClassId) (b : Nat) (str : Nat → Nat) : FN cA b str 10 := rfl
set_option maxRecDepth 100000 in
set_option maxHeartbeats 8000000 in
theorem fn_11 (cA : Nat → ClassId) (b : Nat) (str : Nat → Nat) : FN cA b str 11 := rfl
set_option maxRecDepth 100000 in
set_option maxHeartbeats 8000000 in
theorem fn_12 (cA : Nat → ClassId) (b : Nat) (str : Nat → Nat) : FN cA b str 12 := rfl
set_option maxRecDepth 100000 in
set_option maxHeartbeats 8000000 in
theorem fn_13 (cA : Nat → ClassId) (b : Nat) (str : Nat → Nat) : FN cA b str 13 := rfl
set_option maxRecDepth 100000 in
set_option maxHeartbeats 8000000 in
theorem fn_14 (cA : Nat → ClassId) (b : Nat) (str : Nat → Nat) : FN cA b str 14 := rfl
set_option maxRecDepth 100000 in
set_option maxHeartbeats 8000000 in
theorem fn_15 (cA : Nat → ClassId) (b : Nat) (str : Nat → Nat) : FN cA b str 15 := rfl
set_option maxRecDepth 100000 in
set_option maxHeartbeats 8000000 in
theorem fn_16 (cA : Nat → ClassId) (b : Nat) (str : Nat → Nat) : FN cA b str 16 := rfl
set_option maxRecDepth 100000 in
set_option maxHeartbeats 8000000 in
theorem fn_17 (cA : Nat → ClassId) (b : Nat) (str : Nat → Nat) : FN cA b str 17 := rfl
set_option maxRecDepth 100000 in
set_option maxHeartbeats 8000000 in
theorem fn_18 (cA : Nat → ClassId) (b : Nat) (str : Nat → Nat) : FN cA b str 18 := rfl
set_option maxRecDepth 100000 in
set_option maxHeartbeats 8000000 in
theorem fn_19 (cA : Nat → ClassId) (b : Nat) (str : Nat → Nat) : FN cA b str 19 := rfl
set_option maxRecDepth 100000 in
set_option maxHeartbeats 8000000 in
theorem fn_20 (cA : Nat → ClassId) (b : Nat) (str : Nat → Nat) : FN cA b str 20 := rfl
set_option maxRecDepth 100000 in
set_option maxHeartbeats 8000000 in
theorem fn_21 (cA : Nat → ClassId) (b : Nat) (str : Nat → Nat) : FN cA b str 21 := rfl
set_option maxRecDepth 100000 in
set_option maxHeartbeats 8000000 in
theorem fn_22 (cA : Nat → ClassId) (b : Nat) (str : Nat → Nat) : FN cA b str 22 := rfl
set_option maxRecDepth 100000 in
set_option maxHeartbeats 8000000 in
theorem fn_23 (cA : Nat → ClassId) (b : Nat) (str : Nat → Nat) : FN cA b str 23 := rfl
set_option maxRecDepth 100000 in
set_option maxHeartbeats 8000000 in
theorem fn_24 (cA : Nat → ClassId) (b : Nat) (str : Nat → Nat) : FN cA b str 24 := rfl
set_option maxRecDepth 100000 in
set_option maxHeartbeats 8000000 in
theorem fn_25 (cA : Nat → ClassId) (b : Nat) (str : Nat → Nat) : FN cA b str 25 := rfl
set_option maxRecDepth 100000 in
set_option maxHeartbeats 8000000 in
theorem fn_26 (cA : Nat → ClassId) (b : Nat) (str : Nat → Nat) : FN cA b str 26 := rfl
set_option maxRecDepth 100000 in
set_option maxHeartbeats 8000000 in
theorem fn_27 (cA : Nat → ClassId) (b : Nat) (str : Nat → Nat) : FN cA b str 27 := rfl
set_option maxRecDepth 100000 in
set_option maxHeartbeats 8000000 in
theorem fn_28 (cA : Nat → ClassId) (b : Nat) (str : Nat → Nat) : FN cA b str 28 := rfl
set_option maxRecDepth 100000 in
set_option maxHeartbeats 8000000 in
theorem fn_29 (cA : Nat → ClassId) (b : Nat) (str : Nat → Nat) : FN cA b str 29 := rfl
set_option maxRecDepth 100000 in
set_option maxHeartbeats 8000000 in
theorem fn_30 (cA : Nat → ClassId) (b : Nat) (str : Nat → Nat) : FN cA b str 30 := rfl
set_option maxRecDepth 100000 in
set_option maxHeartbeats 8000000 in
theorem fn_31 (cA : Nat → ClassId) (b : Nat) (str : Nat → Nat) : FN cA b str 31 := (congrArg (fun f => (.inl (cA 6, 2, .inr (.inr (.inr (.inr f)))) : va_E)) (funext fun i => by
      rcases (show i = 0 ∨ i = 1 ∨ 2 ≤ i by omega) with rfl | rfl | q
      · rfl
      · rfl
      · unfold va_up; rw [if_neg (by omega)]; rw [if_neg (by omega)];  rw [if_neg (by omega)]))
set_option maxRecDepth 100000 in
set_option maxHeartbeats 8000000 in
theorem fn_32 (cA : Nat → ClassId) (b : Nat) (str : Nat → Nat) : FN cA b str 32 := (congrArg (fun f => (.inl (cA 5, 8, .inr (.inr (.inr (.inr f)))) : va_E)) (funext fun i => by
      rcases (show i = 0 ∨ i = 1 ∨ i = 2 ∨ i = 3 ∨ i = 4 ∨ i = 5 ∨ i = 6 ∨ i = 7 ∨ 8 ≤ i by omega) with rfl | rfl | rfl | rfl | rfl | rfl | rfl | rfl | q
      · rfl
      · rfl
      · rfl
      · rfl
      · rfl
      · rfl
      · rfl
      · rfl
      · unfold va_up; rw [if_neg (by omega)]; rw [if_neg (by omega)]; rw [if_neg (by omega)]; rw [if_neg (by omega)]; rw [if_neg (by omega)]; rw [if_neg (by omega)]; rw [if_neg (by omega)]; rw [if_neg (by omega)];  rw [if_neg (by omega)]))
set_option maxRecDepth 100000 in
set_option maxHeartbeats 8000000 in
theorem fn_33 (cA : Nat → ClassId) (b : Nat) (str : Nat → Nat) : FN cA b str 33 := rfl
set_option maxRecDepth 100000 in
set_option maxHeartbeats 8000000 in
theorem fn_34 (cA : Nat → ClassId) (b : Nat) (str : Nat → Nat) : FN cA b str 34 := rfl
set_option maxRecDepth 100000 in
set_option maxHeartbeats 8000000 in
theorem fn_35 (cA : Nat → ClassId) (b : Nat) (str : Nat → Nat) : FN cA b str 35 := rfl
set_option maxRecDepth 100000 in
set_option maxHeartbeats 8000000 in
theorem fn_36 (cA : Nat → ClassId) (b : Nat) (str : Nat → Nat) : FN cA b str 36 := rfl
set_option maxRecDepth 100000 in
set_option maxHeartbeats 8000000 in
theorem fn_37 (cA : Nat → ClassId) (b : Nat) (str : Nat → Nat) : FN cA b str 37 := rfl
set_option maxRecDepth 100000 in
set_option maxHeartbeats 8000000 in
theorem fn_38 (cA : Nat → ClassId) (b : Nat) (str : Nat → Nat) : FN cA b str 38 := rfl
set_option maxRecDepth 100000 in
set_option maxHeartbeats 8000000 in
theorem fn_39 (cA : Nat → ClassId) (b : Nat) (str : Nat → Nat) : FN cA b str 39 := rfl
set_option maxRecDepth 100000 in
set_option maxHeartbeats 8000000 in
theorem fn_40 (cA : Nat → ClassId) (b : Nat) (str : Nat → Nat) : FN cA b str 40 := rfl
set_option maxRecDepth 100000 in
set_option maxHeartbeats 8000000 in
theorem fn_41 (cA : Nat → ClassId) (b : Nat) (str : Nat → Nat) : FN cA b str 41 := rfl
set_option maxRecDepth 100000 in
set_option maxHeartbeats 8000000 in
theorem fn_42 (cA : Nat → ClassId) (b : Nat) (str : Nat → Nat) : FN cA b str 42 := rfl
set_option maxRecDepth 100000 in
set_option maxHeartbeats 8000000 in
theorem fn_43 (cA : Nat → ClassId) (b : Nat) (str : Nat → Nat) : FN cA b str 43 := rfl
set_option maxRecDepth 100000 in
set_option maxHeartbeats 8000000 in
theorem fn_44 (cA : Nat → ClassId) (b : Nat) (str : Nat → Nat) : FN cA b str 44 := rfl
set_option maxRecDepth 100000 in
set_option maxHeartbeats 8000000 in
theorem fn_45 (cA : Nat → ClassId) (b : Nat) (str : Nat → Nat) : FN cA b str 45 := rfl
set_option maxRecDepth 100000 in
set_option maxHeartbeats 8000000 in
theorem fn_46 (cA : Nat → ClassId) (b : Nat) (str : Nat → Nat) : FN cA b str 46 := rfl
set_option maxRecDepth 100000 in
set_option maxHeartbeats 8000000 in
theorem fn_47 (cA : Nat → ClassId) (b : Nat) (str : Nat → Nat) : FN cA b str 47 := rfl
set_option maxRecDepth 100000 in
set_option maxHeartbeats 8000000 in
theorem fn_48 (cA : Nat → ClassId) (b : Nat) (str : Nat → Nat) : FN cA b str 48 := (congrArg (fun f => (.inl (cA 4, 8, .inr (.inr (.inr (.inr f)))) : va_E)) (fn_arr (N := 8) (a := 68) (c := 10) (by decide)))
set_option maxRecDepth 100000 in
set_option maxHeartbeats 8000000 in
theorem fn_49 (cA : Nat → ClassId) (b : Nat) (str : Nat → Nat) : FN cA b str 49 := (congrArg (fun f => (.inl (cA 4, 8, .inr (.inr (.inr (.inr f)))) : va_E)) (fn_arr (N := 8) (a := 76) (c := 78) (by decide)))
set_option maxRecDepth 100000 in
set_option maxHeartbeats 8000000 in
theorem fn_50 (cA : Nat → ClassId) (b : Nat) (str : Nat → Nat) : FN cA b str 50 := (congrArg (fun f => (.inl (cA 4, 8, .inr (.inr (.inr (.inr f)))) : va_E)) (fn_arr (N := 8) (a := 84) (c := 231) (by decide)))
set_option maxRecDepth 100000 in
set_option maxHeartbeats 8000000 in
theorem fn_51 (cA : Nat → ClassId) (b : Nat) (str : Nat → Nat) : FN cA b str 51 := (congrArg (fun f => (.inl (cA 4, 8, .inr (.inr (.inr (.inr f)))) : va_E)) (fn_arr (N := 8) (a := 92) (c := 310) (by decide)))
set_option maxRecDepth 100000 in
set_option maxHeartbeats 8000000 in
theorem fn_52 (cA : Nat → ClassId) (b : Nat) (str : Nat → Nat) : FN cA b str 52 := (congrArg (fun f => (.inl (cA 4, 8, .inr (.inr (.inr (.inr f)))) : va_E)) (fn_arr (N := 8) (a := 100) (c := 19) (by decide)))
set_option maxRecDepth 100000 in
set_option maxHeartbeats 8000000 in
theorem fn_53 (cA : Nat → ClassId) (b : Nat) (str : Nat → Nat) : FN cA b str 53 := (congrArg (fun f => (.inl (cA 4, 8, .inr (.inr (.inr (.inr f)))) : va_E)) (fn_arr (N := 8) (a := 108) (c := 87) (by decide)))
set_option maxRecDepth 100000 in
set_option maxHeartbeats 8000000 in
theorem fn_54 (cA : Nat → ClassId) (b : Nat) (str : Nat → Nat) : FN cA b str 54 := (congrArg (fun f => (.inl (cA 4, 8, .inr (.inr (.inr (.inr f)))) : va_E)) (fn_arr (N := 8) (a := 116) (c := 240) (by decide)))
set_option maxRecDepth 100000 in
set_option maxHeartbeats 8000000 in
theorem fn_55 (cA : Nat → ClassId) (b : Nat) (str : Nat → Nat) : FN cA b str 55 := (congrArg (fun f => (.inl (cA 4, 8, .inr (.inr (.inr (.inr f)))) : va_E)) (fn_arr (N := 8) (a := 124) (c := 319) (by decide)))
set_option maxRecDepth 100000 in
set_option maxHeartbeats 8000000 in
theorem fn_56 (cA : Nat → ClassId) (b : Nat) (str : Nat → Nat) : FN cA b str 56 := (congrArg (fun f => (.inl (cA 4, 4, .inr (.inr (.inr (.inr f)))) : va_E)) (fn_arr (N := 4) (a := 132) (c := 28) (by decide)))
set_option maxRecDepth 100000 in
set_option maxHeartbeats 8000000 in
theorem fn_57 (cA : Nat → ClassId) (b : Nat) (str : Nat → Nat) : FN cA b str 57 := (congrArg (fun f => (.inl (cA 4, 4, .inr (.inr (.inr (.inr f)))) : va_E)) (fn_arr (N := 4) (a := 136) (c := 96) (by decide)))
set_option maxRecDepth 100000 in
set_option maxHeartbeats 8000000 in
theorem fn_58 (cA : Nat → ClassId) (b : Nat) (str : Nat → Nat) : FN cA b str 58 := (congrArg (fun f => (.inl (cA 4, 4, .inr (.inr (.inr (.inr f)))) : va_E)) (fn_arr (N := 4) (a := 140) (c := 249) (by decide)))
set_option maxRecDepth 100000 in
set_option maxHeartbeats 8000000 in
theorem fn_59 (cA : Nat → ClassId) (b : Nat) (str : Nat → Nat) : FN cA b str 59 := (congrArg (fun f => (.inl (cA 4, 4, .inr (.inr (.inr (.inr f)))) : va_E)) (fn_arr (N := 4) (a := 144) (c := 328) (by decide)))
set_option maxRecDepth 100000 in
set_option maxHeartbeats 8000000 in
theorem fn_60 (cA : Nat → ClassId) (b : Nat) (str : Nat → Nat) : FN cA b str 60 := (congrArg (fun f => (.inl (cA 4, 40, .inr (.inr (.inr (.inr f)))) : va_E)) (fn_arr (N := 40) (a := 148) (c := 33) (by decide)))
set_option maxRecDepth 100000 in
set_option maxHeartbeats 8000000 in
theorem fn_61 (cA : Nat → ClassId) (b : Nat) (str : Nat → Nat) : FN cA b str 61 := (congrArg (fun f => (.inl (cA 4, 40, .inr (.inr (.inr (.inr f)))) : va_E)) (fn_arr (N := 40) (a := 188) (c := 101) (by decide)))
set_option maxRecDepth 100000 in
set_option maxHeartbeats 8000000 in
theorem fn_62 (cA : Nat → ClassId) (b : Nat) (str : Nat → Nat) : FN cA b str 62 := (congrArg (fun f => (.inl (cA 4, 40, .inr (.inr (.inr (.inr f)))) : va_E)) (fn_arr (N := 40) (a := 228) (c := 254) (by decide)))
set_option maxRecDepth 100000 in
set_option maxHeartbeats 8000000 in
theorem fn_63 (cA : Nat → ClassId) (b : Nat) (str : Nat → Nat) : FN cA b str 63 := (congrArg (fun f => (.inl (cA 4, 40, .inr (.inr (.inr (.inr f)))) : va_E)) (fn_arr (N := 40) (a := 268) (c := 333) (by decide)))
set_option maxRecDepth 100000 in
set_option maxHeartbeats 8000000 in
theorem fn_64 (cA : Nat → ClassId) (b : Nat) (str : Nat → Nat) : FN cA b str 64 := rfl
set_option maxRecDepth 100000 in
set_option maxHeartbeats 8000000 in
theorem fn_65 (cA : Nat → ClassId) (b : Nat) (str : Nat → Nat) : FN cA b str 65 := rfl
set_option maxRecDepth 100000 in
set_option maxHeartbeats 8000000 in
theorem fn_66 (cA : Nat → ClassId) (b : Nat) (str : Nat → Nat) : FN cA b str 66 := rfl
set_option maxRecDepth 100000 in
set_option maxHeartbeats 8000000 in
theorem fn_67 (cA : Nat → ClassId) (b : Nat) (str : Nat → Nat) : FN cA b str 67 := rfl
set_option maxRecDepth 100000 in
set_option maxHeartbeats 8000000 in
theorem fn_68 (cA : Nat → ClassId) (b : Nat) (str : Nat → Nat) : FN cA b str 68 := rfl
set_option maxRecDepth 100000 in
set_option maxHeartbeats 8000000 in
theorem fn_69 (cA : Nat → ClassId) (b : Nat) (str : Nat → Nat) : FN cA b str 69 := rfl
set_option maxRecDepth 100000 in
set_option maxHeartbeats 8000000 in
theorem fn_70 (cA : Nat → ClassId) (b : Nat) (str : Nat → Nat) : FN cA b str 70 := rfl
set_option maxRecDepth 100000 in
set_option maxHeartbeats 8000000 in
theorem fn_71 (cA : Nat → ClassId) (b : Nat) (str : Nat → Nat) : FN cA b str 71 := rfl
set_option maxRecDepth 100000 in
set_option maxHeartbeats 8000000 in
theorem fn_72 (cA : Nat → ClassId) (b : Nat) (str : Nat → Nat) : FN cA b str 72 := rfl
set_option maxRecDepth 100000 in
set_option maxHeartbeats 8000000 in
theorem fn_73 (cA : Nat → ClassId) (b : Nat) (str : Nat → Nat) : FN cA b str 73 := rfl
set_option maxRecDepth 100000 in
set_option maxHeartbeats 8000000 in
theorem fn_74 (cA : Nat → ClassId) (b : Nat) (str : Nat → Nat) : FN cA b str 74 := rfl
set_option maxRecDepth 100000 in
set_option maxHeartbeats 8000000 in
theorem fn_75 (cA : Nat → ClassId) (b : Nat) (str : Nat → Nat) : FN cA b str 75 := rfl
set_option maxRecDepth 100000 in
set_option maxHeartbeats 8000000 in
theorem fn_76 (cA : Nat → ClassId) (b : Nat) (str : Nat → Nat) : FN cA b str 76 := rfl
set_option maxRecDepth 100000 in
set_option maxHeartbeats 8000000 in
theorem fn_77 (cA : Nat → ClassId) (b : Nat) (str : Nat → Nat) : FN cA b str 77 := rfl
set_option maxRecDepth 100000 in
set_option maxHeartbeats 8000000 in
theorem fn_78 (cA : Nat → ClassId) (b : Nat) (str : Nat → Nat) : FN cA b str 78 := rfl
set_option maxRecDepth 100000 in
set_option maxHeartbeats 8000000 in
theorem fn_79 (cA : Nat → ClassId) (b : Nat) (str : Nat → Nat) : FN cA b str 79 := rfl
set_option maxRecDepth 100000 in
set_option maxHeartbeats 8000000 in
theorem fn_80 (cA : Nat → ClassId) (b : Nat) (str : Nat → Nat) : FN cA b str 80 := rfl
set_option maxRecDepth 100000 in
set_option maxHeartbeats 8000000 in
theorem fn_81 (cA : Nat → ClassId) (b : Nat) (str : Nat → Nat) : FN cA b str 81 := rfl
set_option maxRecDepth 100000 in
set_option maxHeartbeats 8000000 in
theorem fn_82 (cA : Nat → ClassId) (b : Nat) (str : Nat → Nat) : FN cA b str 82 := rfl
set_option maxRecDepth 100000 in
set_option maxHeartbeats 8000000 in
theorem fn_83 (cA : Nat → ClassId) (b : Nat) (str : Nat → Nat) : FN cA b str 83 := rfl
set_option maxRecDepth 100000 in
set_option maxHeartbeats 8000000 in
theorem fn_84 (cA : Nat → ClassId) (b : Nat) (str : Nat → Nat) : FN cA b str 84 := rfl
set_option maxRecDepth 100000 in
set_option maxHeartbeats 8000000 in
theorem fn_85 (cA : Nat → ClassId) (b : Nat) (str : Nat → Nat) : FN cA b str 85 := rfl
set_option maxRecDepth 100000 in
set_option maxHeartbeats 8000000 in
theorem fn_86 (cA : Nat → ClassId) (b : Nat) (str : Nat → Nat) : FN cA b str 86 := rfl
set_option maxRecDepth 100000 in
set_option maxHeartbeats 8000000 in
theorem fn_87 (cA : Nat → ClassId) (b : Nat) (str : Nat → Nat) : FN cA b str 87 := rfl
set_option maxRecDepth 100000 in
set_option maxHeartbeats 8000000 in
theorem fn_88 (cA : Nat → ClassId) (b : Nat) (str : Nat → Nat) : FN cA b str 88 := rfl
set_option maxRecDepth 100000 in
set_option maxHeartbeats 8000000 in
theorem fn_89 (cA : Nat → ClassId) (b : Nat) (str : Nat → Nat) : FN cA b str 89 := rfl
set_option maxRecDepth 100000 in
set_option maxHeartbeats 8000000 in
theorem fn_90 (cA : Nat → ClassId) (b : Nat) (str : Nat → Nat) : FN cA b str 90 := rfl
set_option maxRecDepth 100000 in
set_option maxHeartbeats 8000000 in
theorem fn_91 (cA : Nat → ClassId) (b : Nat) (str : Nat → Nat) : FN cA b str 91 := rfl
set_option maxRecDepth 100000 in
set_option maxHeartbeats 8000000 in
theorem fn_92 (cA : Nat → ClassId) (b : Nat) (str : Nat → Nat) : FN cA b str 92 := rfl
set_option maxRecDepth 100000 in
set_option maxHeartbeats 8000000 in
theorem fn_93 (cA : Nat → ClassId) (b : Nat) (str : Nat → Nat) : FN cA b str 93 := rfl
set_option maxRecDepth 100000 in
set_option maxHeartbeats 8000000 in
theorem fn_94 (cA : Nat → ClassId) (b : Nat) (str : Nat → Nat) : FN cA b str 94 := rfl
set_option maxRecDepth 100000 in
set_option maxHeartbeats 8000000 in
theorem fn_95 (cA : Nat → ClassId) (b : Nat) (str : Nat → Nat) : FN cA b str 95 := rfl
set_option maxRecDepth 100000 in
set_option maxHeartbeats 8000000 in
theorem fn_96 (cA : Nat → ClassId) (b : Nat) (str : Nat → Nat) : FN cA b str 96 := rfl
set_option maxRecDepth 100000 in
set_option maxHeartbeats 8000000 in
theorem fn_97 (cA : Nat → ClassId) (b : Nat) (str : Nat → Nat) : FN cA b str 97 := rfl
set_option maxRecDepth 100000 in
set_option maxHeartbeats 8000000 in
theorem fn_98 (cA : Nat → ClassId) (b : Nat) (str : Nat → Nat) : FN cA b str 98 := rfl
set_option maxRecDepth 100000 in
set_option maxHeartbeats 8000000 in
theorem fn_99 (cA : Nat → ClassId) (b : Nat) (str : Nat → Nat) : FN cA b str 99 := rfl
set_option maxRecDepth 100000 in
set_option maxHeartbeats 8000000 in
theorem fn_100 (cA : Nat → ClassId) (b : Nat) (str : Nat → Nat) : FN cA b str 100 := rfl
set_option maxRecDepth 100000 in
set_option maxHeartbeats 8000000 in
theorem fn_101 (cA : Nat → ClassId) (b : Nat) (str : Nat → Nat) : FN cA b str 101 := rfl
set_option maxRecDepth 100000 in
set_option maxHeartbeats 8000000 in
theorem fn_102 (cA : Nat → ClassId) (b : Nat) (str : Nat → Nat) : FN cA b str 102 := rfl
set_option maxRecDepth 100000 in
set_option maxHeartbeats 8000000 in
theorem fn_103 (cA : Nat → ClassId) (b : Nat) (str : Nat → Nat) : FN cA b str 103 := rfl
set_option maxRecDepth 100000 in
set_option maxHeartbeats 8000000 in
theorem fn_104 (cA : Nat → ClassId) (b : Nat) (str : Nat → Nat) : FN cA b str 104 := rfl
set_option maxRecDepth 100000 in
set_option maxHeartbeats 8000000 in
theorem fn_105 (cA : Nat → ClassId) (b : Nat) (str : Nat → Nat) : FN cA b str 105 := rfl
set_option maxRecDepth 100000 in
set_option maxHeartbeats 8000000 in
theorem fn_106 (cA : Nat → ClassId) (b : Nat) (str : Nat → Nat) : FN cA b str 106 := rfl
set_option maxRecDepth 100000 in
set_option maxHeartbeats 8000000 in
theorem fn_107 (cA : Nat → ClassId) (b : Nat) (str : Nat → Nat) : FN cA b str 107 := rfl
set_option maxRecDepth 100000 in
set_option maxHeartbeats 8000000 in
theorem fn_108 (cA : Nat → ClassId) (b : Nat) (str : Nat → Nat) : FN cA b str 108 := rfl
set_option maxRecDepth 100000 in
set_option maxHeartbeats 8000000 in
theorem fn_109 (cA : Nat → ClassId) (b : Nat) (str : Nat → Nat) : FN cA b str 109 := rfl
set_option maxRecDepth 100000 in
set_option maxHeartbeats 8000000 in
theorem fn_110 (cA : Nat → ClassId) (b : Nat) (str : Nat → Nat) : FN cA b str 110 := rfl
set_option maxRecDepth 100000 in
set_option maxHeartbeats 8000000 in
theorem fn_111 (cA : Nat → ClassId) (b : Nat) (str : Nat → Nat) : FN cA b str 111 := rfl
set_option maxRecDepth 100000 in
set_option maxHeartbeats 8000000 in
theorem fn_112 (cA : Nat → ClassId) (b : Nat) (str : Nat → Nat) : FN cA b str 112 := rfl
set_option maxRecDepth 100000 in
set_option maxHeartbeats 8000000 in
theorem fn_113 (cA : Nat → ClassId) (b : Nat) (str : Nat → Nat) : FN cA b str 113 := rfl
set_option maxRecDepth 100000 in
set_option maxHeartbeats 8000000 in
theorem fn_114 (cA : Nat → ClassId) (b : Nat) (str : Nat → Nat) : FN cA b str 114 := rfl
set_option maxRecDepth 100000 in
set_option maxHeartbeats 8000000 in
theorem fn_115 (cA : Nat → ClassId) (b : Nat) (str : Nat → Nat) : FN cA b str 115 := rfl
set_option maxRecDepth 100000 in
set_option maxHeartbeats 8000000 in
theorem fn_116 (cA : Nat → ClassId) (b : Nat) (str : Nat → Nat) : FN cA b str 116 := rfl
set_option maxRecDepth 100000 in
set_option maxHeartbeats 8000000 in
theorem fn_117 (cA : Nat → ClassId) (b : Nat) (str : Nat → Nat) : FN cA b str 117 := rfl
set_option maxRecDepth 100000 in
set_option maxHeartbeats 8000000 in
theorem fn_118 (cA : Nat → ClassId) (b : Nat) (str : Nat → Nat) : FN cA b str 118 := rfl
set_option maxRecDepth 100000 in
set_option maxHeartbeats 8000000 in
theorem fn_119 (cA : Nat → ClassId) (b : Nat) (str : Nat → Nat) : FN cA b str 119 := rfl
set_option maxRecDepth 100000 in
set_option maxHeartbeats 8000000 in
theorem fn_120 (cA : Nat → ClassId) (b : Nat) (str : Nat → Nat) : FN cA b str 120 := rfl
set_option maxRecDepth 100000 in
set_option maxHeartbeats 8000000 in
theorem fn_121 (cA : Nat → ClassId) (b : Nat) (str : Nat → Nat) : FN cA b str 121 := rfl
set_option maxRecDepth 100000 in
set_option maxHeartbeats 8000000 in
theorem fn_122 (cA : Nat → ClassId) (b : Nat) (str : Nat → Nat) : FN cA b str 122 := rfl
set_option maxRecDepth 100000 in
set_option maxHeartbeats 8000000 in
theorem fn_123 (cA : Nat → ClassId) (b : Nat) (str : Nat → Nat) : FN cA b str 123 := rfl
set_option maxRecDepth 100000 in
set_option maxHeartbeats 8000000 in
theorem fn_124 (cA : Nat → ClassId) (b : Nat) (str : Nat → Nat) : FN cA b str 124 := rfl
set_option maxRecDepth 100000 in
set_option maxHeartbeats 8000000 in
theorem fn_125 (cA : Nat → ClassId) (b : Nat) (str : Nat → Nat) : FN cA b str 125 := rfl
set_option maxRecDepth 100000 in
set_option maxHeartbeats 8000000 in
theorem fn_126 (cA : Nat → ClassId) (b : Nat) (str : Nat → Nat) : FN cA b str 126 := rfl
set_option maxRecDepth 100000 in
set_option maxHeartbeats 8000000 in
theorem fn_127 (cA : Nat → ClassId) (b : Nat) (str : Nat → Nat) : FN cA b str 127 := rfl
set_option maxRecDepth 100000 in
set_option maxHeartbeats 8000000 in
theorem fn_128 (cA : Nat → ClassId) (b : Nat) (str : Nat → Nat) : FN cA b str 128 := rfl
set_option maxRecDepth 100000 in
set_option maxHeartbeats 8000000 in
theorem fn_129 (cA : Nat → ClassId) (b : Nat) (str : Nat → Nat) : FN cA b str 129 := rfl
set_option maxRecDepth 100000 in
set_option maxHeartbeats 8000000 in
theorem fn_130 (cA : Nat → ClassId) (b : Nat) (str : Nat → Nat) : FN cA b str 130 := rfl
set_option maxRecDepth 100000 in
set_option maxHeartbeats 8000000 in
theorem fn_131 (cA : Nat → ClassId) (b : Nat) (str : Nat → Nat) : FN cA b str 131 := rfl
set_option maxRecDepth 100000 in
set_option maxHeartbeats 8000000 in
theorem fn_132 (cA : Nat → ClassId) (b : Nat) (str : Nat → Nat) : FN cA b str 132 := rfl
set_option maxRecDepth 100000 in
set_option maxHeartbeats 8000000 in
theorem fn_133 (cA : Nat → ClassId) (b : Nat) (str : Nat → Nat) : FN cA b str 133 := rfl
set_option maxRecDepth 100000 in
set_option maxHeartbeats 8000000 in
theorem fn_134 (cA : Nat → ClassId) (b : Nat) (str : Nat → Nat) : FN cA b str 134 := rfl
set_option maxRecDepth 100000 in
set_option maxHeartbeats 8000000 in
theorem fn_135 (cA : Nat → ClassId) (b : Nat) (str : Nat → Nat) : FN cA b str 135 := rfl
set_option maxRecDepth 100000 in
set_option maxHeartbeats 8000000 in
theorem fn_136 (cA : Nat → ClassId) (b : Nat) (str : Nat → Nat) : FN cA b str 136 := rfl
set_option maxRecDepth 100000 in
set_option maxHeartbeats 8000000 in
theorem fn_137 (cA : Nat → ClassId) (b : Nat) (str : Nat → Nat) : FN cA b str 137 := rfl
set_option maxRecDepth 100000 in
set_option maxHeartbeats 8000000 in
theorem fn_138 (cA : Nat → ClassId) (b : Nat) (str : Nat → Nat) : FN cA b str 138 := rfl
set_option maxRecDepth 100000 in
set_option maxHeartbeats 8000000 in
theorem fn_139 (cA : Nat → ClassId) (b : Nat) (str : Nat → Nat) : FN cA b str 139 := rfl
set_option maxRecDepth 100000 in
set_option maxHeartbeats 8000000 in
theorem fn_140 (cA : Nat → ClassId) (b : Nat) (str : Nat → Nat) : FN cA b str 140 := rfl
set_option maxRecDepth 100000 in
set_option maxHeartbeats 8000000 in
theorem fn_141 (cA : Nat → ClassId) (b : Nat) (str : Nat → Nat) : FN cA b str 141 := rfl
set_option maxRecDepth 100000 in
set_option maxHeartbeats 8000000 in
theorem fn_142 (cA : Nat → ClassId) (b : Nat) (str : Nat → Nat) : FN cA b str 142 := rfl
set_option maxRecDepth 100000 in
set_option maxHeartbeats 8000000 in
theorem fn_143 (cA : Nat → ClassId) (b : Nat) (str : Nat → Nat) : FN cA b str 143 := rfl
set_option maxRecDepth 100000 in
set_option maxHeartbeats 8000000 in
theorem fn_144 (cA : Nat → ClassId) (b : Nat) (str : Nat → Nat) : FN cA b str 144 := rfl
set_option maxRecDepth 100000 in
set_option maxHeartbeats 8000000 in
theorem fn_145 (cA : Nat → ClassId) (b : Nat) (str : Nat → Nat) : FN cA b str 145 := rfl
set_option maxRecDepth 100000 in
set_option maxHeartbeats 8000000 in
theorem fn_146 (cA : Nat → ClassId) (b : Nat) (str : Nat → Nat) : FN cA b str 146 := rfl
set_option maxRecDepth 100000 in
set_option maxHeartbeats 8000000 in
theorem fn_147 (cA : Nat → ClassId) (b : Nat) (str : Nat → Nat) : FN cA b str 147 := rfl
set_option maxRecDepth 100000 in
set_option maxHeartbeats 8000000 in
theorem fn_148 (cA : Nat → ClassId) (b : Nat) (str : Nat → Nat) : FN cA b str 148 := rfl
set_option maxRecDepth 100000 in
set_option maxHeartbeats 8000000 in
theorem fn_149 (cA : Nat → ClassId) (b : Nat) (str : Nat → Nat) : FN cA b str 149 := rfl
set_option maxRecDepth 100000 in
set_option maxHeartbeats 8000000 in
theorem fn_150 (cA : Nat → ClassId) (b : Nat) (str : Nat → Nat) : FN cA b str 150 := rfl
set_option maxRecDepth 100000 in
set_option maxHeartbeats 8000000 in
theorem fn_151 (cA : Nat → ClassId) (b : Nat) (str : Nat → Nat) : FN cA b str 151 := rfl
set_option maxRecDepth 100000 in
set_option maxHeartbeats 8000000 in
theorem fn_152 (cA : Nat → ClassId) (b : Nat) (str : Nat → Nat) : FN cA b str 152 := rfl
set_option maxRecDepth 100000 in
set_option maxHeartbeats 8000000 in
theorem fn_153 (cA : Nat → ClassId) (b : Nat) (str : Nat → Nat) : FN cA b str 153 := rfl
set_option maxRecDepth 100000 in
set_option maxHeartbeats 8000000 in
theorem fn_154 (cA : Nat → ClassId) (b : Nat) (str : Nat → Nat) : FN cA b str 154 := rfl
set_option maxRecDepth 100000 in
set_option maxHeartbeats 8000000 in
theorem fn_155 (cA : Nat → ClassId) (b : Nat) (str : Nat → Nat) : FN cA b str 155 := rfl
set_option maxRecDepth 100000 in
set_option maxHeartbeats 8000000 in
theorem fn_156 (cA : Nat → ClassId) (b : Nat) (str : Nat → Nat) : FN cA b str 156 := rfl
set_option maxRecDepth 100000 in
set_option maxHeartbeats 8000000 in
theorem fn_157 (cA : Nat → ClassId) (b : Nat) (str : Nat → Nat) : FN cA b str 157 := rfl
set_option maxRecDepth 100000 in
set_option maxHeartbeats 8000000 in
theorem fn_158 (cA : Nat → ClassId) (b : Nat) (str : Nat → Nat) : FN cA b str 158 := rfl
set_option maxRecDepth 100000 in
set_option maxHeartbeats 8000000 in
theorem fn_159 (cA : Nat → ClassId) (b : Nat) (str : Nat → Nat) : FN cA b str 159 := rfl
set_option maxRecDepth 100000 in
set_option maxHeartbeats 8000000 in
theorem fn_160 (cA : Nat → ClassId) (b : Nat) (str : Nat → Nat) : FN cA b str 160 := rfl
set_option maxRecDepth 100000 in
set_option maxHeartbeats 8000000 in
theorem fn_161 (cA : Nat → ClassId) (b : Nat) (str : Nat → Nat) : FN cA b str 161 := rfl
set_option maxRecDepth 100000 in
set_option maxHeartbeats 8000000 in
theorem fn_162 (cA : Nat → ClassId) (b : Nat) (str : Nat → Nat) : FN cA b str 162 := rfl
set_option maxRecDepth 100000 in
set_option maxHeartbeats 8000000 in
theorem fn_163 (cA : Nat → ClassId) (b : Nat) (str : Nat → Nat) : FN cA b str 163 := rfl
set_option maxRecDepth 100000 in
set_option maxHeartbeats 8000000 in
theorem fn_164 (cA : Nat → ClassId) (b : Nat) (str : Nat → Nat) : FN cA b str 164 := rfl
set_option maxRecDepth 100000 in
set_option maxHeartbeats 8000000 in
theorem fn_165 (cA : Nat → ClassId) (b : Nat) (str : Nat → Nat) : FN cA b str 165 := rfl
set_option maxRecDepth 100000 in
set_option maxHeartbeats 8000000 in
theorem fn_166 (cA : Nat → ClassId) (b : Nat) (str : Nat → Nat) : FN cA b str 166 := rfl
set_option maxRecDepth 100000 in
set_option maxHeartbeats 8000000 in
theorem fn_167 (cA : Nat → ClassId) (b : Nat) (str : Nat → Nat) : FN cA b str 167 := rfl
set_option maxRecDepth 100000 in
set_option maxHeartbeats 8000000 in
theorem fn_168 (cA : Nat → ClassId) (b : Nat) (str : Nat → Nat) : FN cA b str 168 := rfl
set_option maxRecDepth 100000 in
set_option maxHeartbeats 8000000 in
theorem fn_169 (cA : Nat → ClassId) (b : Nat) (str : Nat → Nat) : FN cA b str 169 := rfl
set_option maxRecDepth 100000 in
set_option maxHeartbeats 8000000 in
theorem fn_170 (cA : Nat → ClassId) (b : Nat) (str : Nat → Nat) : FN cA b str 170 := rfl
set_option maxRecDepth 100000 in
set_option maxHeartbeats 8000000 in
theorem fn_171 (cA : Nat → ClassId) (b : Nat) (str : Nat → Nat) : FN cA b str 171 := rfl
set_option maxRecDepth 100000 in
set_option maxHeartbeats 8000000 in
theorem fn_172 (cA : Nat → ClassId) (b : Nat) (str : Nat → Nat) : FN cA b str 172 := rfl
set_option maxRecDepth 100000 in
set_option maxHeartbeats 8000000 in
theorem fn_173 (cA : Nat → ClassId) (b : Nat) (str : Nat → Nat) : FN cA b str 173 := rfl
set_option maxRecDepth 100000 in
set_option maxHeartbeats 8000000 in
theorem fn_174 (cA : Nat → ClassId) (b : Nat) (str : Nat → Nat) : FN cA b str 174 := rfl
set_option maxRecDepth 100000 in
set_option maxHeartbeats 8000000 in
theorem fn_175 (cA : Nat → ClassId) (b : Nat) (str : Nat → Nat) : FN cA b str 175 := rfl
set_option maxRecDepth 100000 in
set_option maxHeartbeats 8000000 in
theorem fn_176 (cA : Nat → ClassId) (b : Nat) (str : Nat → Nat) : FN cA b str 176 := rfl
set_option maxRecDepth 100000 in
set_option maxHeartbeats 8000000 in
theorem fn_177 (cA : Nat → ClassId) (b : Nat) (str : Nat → Nat) : FN cA b str 177 := rfl
set_option maxRecDepth 100000 in
set_option maxHeartbeats 8000000 in
theorem fn_178 (cA : Nat → ClassId) (b : Nat) (str : Nat → Nat) : FN cA b str 178 := rfl
set_option maxRecDepth 100000 in
set_option maxHeartbeats 8000000 in
theorem fn_179 (cA : Nat → ClassId) (b : Nat) (str : Nat → Nat) : FN cA b str 179 := rfl
set_option maxRecDepth 100000 in
set_option maxHeartbeats 8000000 in
theorem fn_180 (cA : Nat → ClassId) (b : Nat) (str : Nat → Nat) : FN cA b str 180 := rfl
set_option maxRecDepth 100000 in
set_option maxHeartbeats 8000000 in
theorem fn_181 (cA : Nat → ClassId) (b : Nat) (str : Nat → Nat) : FN cA b str 181 := rfl
set_option maxRecDepth 100000 in
set_option maxHeartbeats 8000000 in
theorem fn_182 (cA : Nat → ClassId) (b : Nat) (str : Nat → Nat) : FN cA b str 182 := rfl
set_option maxRecDepth 100000 in
set_option maxHeartbeats 8000000 in
theorem fn_183 (cA : Nat → ClassId) (b : Nat) (str : Nat → Nat) : FN cA b str 183 := rfl
set_option maxRecDepth 100000 in
set_option maxHeartbeats 8000000 in
theorem fn_184 (cA : Nat → ClassId) (b : Nat) (str : Nat → Nat) : FN cA b str 184 := rfl
set_option maxRecDepth 100000 in
set_option maxHeartbeats 8000000 in
theorem fn_185 (cA : Nat → ClassId) (b : Nat) (str : Nat → Nat) : FN cA b str 185 := rfl
set_option maxRecDepth 100000 in
set_option maxHeartbeats 8000000 in
theorem fn_186 (cA : Nat → ClassId) (b : Nat) (str : Nat → Nat) : FN cA b str 186 := rfl
set_option maxRecDepth 100000 in
set_option maxHeartbeats 8000000 in
theorem fn_187 (cA : Nat → ClassId) (b : Nat) (str : Nat → Nat) : FN cA b str 187 := rfl
set_option maxRecDepth 100000 in
set_option maxHeartbeats 8000000 in
theorem fn_188 (cA : Nat → ClassId) (b : Nat) (str : Nat → Nat) : FN cA b str 188 := rfl
set_option maxRecDepth 100000 in
set_option maxHeartbeats 8000000 in
theorem fn_189 (cA : Nat → ClassId) (b : Nat) (str : Nat → Nat) : FN cA b str 189 := rfl
set_option maxRecDepth 100000 in
set_option maxHeartbeats 8000000 in
theorem fn_190 (cA : Nat → ClassId) (b : Nat) (str : Nat → Nat) : FN cA b str 190 := rfl
set_option maxRecDepth 100000 in
set_option maxHeartbeats 8000000 in
theorem fn_191 (cA : Nat → ClassId) (b : Nat) (str : Nat → Nat) : FN cA b str 191 := rfl
set_option maxRecDepth 100000 in
set_option maxHeartbeats 8000000 in
theorem fn_192 (cA : Nat → ClassId) (b : Nat) (str : Nat → Nat) : FN cA b str 192 := rfl
set_option maxRecDepth 100000 in
set_option maxHeartbeats 8000000 in
theorem fn_193 (cA : Nat → ClassId) (b : Nat) (str : Nat → Nat) : FN cA b str 193 := rfl
set_option maxRecDepth 100000 in
set_option maxHeartbeats 8000000 in
theorem fn_194 (cA : Nat → ClassId) (b : Nat) (str : Nat → Nat) : FN cA b str 194 := rfl
set_option maxRecDepth 100000 in
set_option maxHeartbeats 8000000 in
theorem fn_195 (cA : Nat → ClassId) (b : Nat) (str : Nat → Nat) : FN cA b str 195 := rfl
set_option maxRecDepth 100000 in
set_option maxHeartbeats 8000000 in
theorem fn_196 (cA : Nat → ClassId) (b : Nat) (str : Nat → Nat) : FN cA b str 196 := rfl
set_option maxRecDepth 100000 in
set_option maxHeartbeats 8000000 in
theorem fn_197 (cA : Nat → ClassId) (b : Nat) (str : Nat → Nat) : FN cA b str 197 := rfl
set_option maxRecDepth 100000 in
set_option maxHeartbeats 8000000 in
theorem fn_198 (cA : Nat → ClassId) (b : Nat) (str : Nat → Nat) : FN cA b str 198 := rfl
set_option maxRecDepth 100000 in
set_option maxHeartbeats 8000000 in
theorem fn_199 (cA : Nat → ClassId) (b : Nat) (str : Nat → Nat) : FN cA b str 199 := rfl
set_option maxRecDepth 100000 in
set_option maxHeartbeats 8000000 in
theorem fn_200 (cA : Nat → ClassId) (b : Nat) (str : Nat → Nat) : FN cA b str 200 := rfl
set_option maxRecDepth 100000 in
set_option maxHeartbeats 8000000 in
theorem fn_201 (cA : Nat → ClassId) (b : Nat) (str : Nat → Nat) : FN cA b str 201 := rfl
set_option maxRecDepth 100000 in
set_option maxHeartbeats 8000000 in
theorem fn_202 (cA : Nat → ClassId) (b : Nat) (str : Nat → Nat) : FN cA b str 202 := rfl
set_option maxRecDepth 100000 in
set_option maxHeartbeats 8000000 in
theorem fn_203 (cA : Nat → ClassId) (b : Nat) (str : Nat → Nat) : FN cA b str 203 := rfl
set_option maxRecDepth 100000 in
set_option maxHeartbeats 8000000 in
theorem fn_204 (cA : Nat → ClassId) (b : Nat) (str : Nat → Nat) : FN cA b str 204 := rfl
set_option maxRecDepth 100000 in
set_option maxHeartbeats 8000000 in
theorem fn_205 (cA : Nat → ClassId) (b : Nat) (str : Nat → Nat) : FN cA b str 205 := rfl
set_option maxRecDepth 100000 in
set_option maxHeartbeats 8000000 in
theorem fn_206 (cA : Nat → ClassId) (b : Nat) (str : Nat → Nat) : FN cA b str 206 := rfl
set_option maxRecDepth 100000 in
set_option maxHeartbeats 8000000 in
theorem fn_207 (cA : Nat → ClassId) (b : Nat) (str : Nat → Nat) : FN cA b str 207 := rfl
set_option maxRecDepth 100000 in
set_option maxHeartbeats 8000000 in
theorem fn_208 (cA : Nat → ClassId) (b : Nat) (str : Nat → Nat) : FN cA b str 208 := rfl
set_option maxRecDepth 100000 in
set_option maxHeartbeats 8000000 in
theorem fn_209 (cA : Nat → ClassId) (b : Nat) (str : Nat → Nat) : FN cA b str 209 := rfl
set_option maxRecDepth 100000 in
set_option maxHeartbeats 8000000 in
theorem fn_210 (cA : Nat → ClassId) (b : Nat) (str : Nat → Nat) : FN cA b str 210 := rfl
set_option maxRecDepth 100000 in
set_option maxHeartbeats 8000000 in
theorem fn_211 (cA : Nat → ClassId) (b : Nat) (str : Nat → Nat) : FN cA b str 211 := rfl
set_option maxRecDepth 100000 in
set_option maxHeartbeats 8000000 in
theorem fn_212 (cA : Nat → ClassId) (b : Nat) (str : Nat → Nat) : FN cA b str 212 := rfl
set_option maxRecDepth 100000 in
set_option maxHeartbeats 8000000 in
theorem fn_213 (cA : Nat → ClassId) (b : Nat) (str : Nat → Nat) : FN cA b str 213 := rfl
set_option maxRecDepth 100000 in
set_option maxHeartbeats 8000000 in
theorem fn_214 (cA : Nat → ClassId) (b : Nat) (str : Nat → Nat) : FN cA b str 214 := rfl
set_option maxRecDepth 100000 in
set_option maxHeartbeats 8000000 in
theorem fn_215 (cA : Nat → ClassId) (b : Nat) (str : Nat → Nat) : FN cA b str 215 := rfl
set_option maxRecDepth 100000 in
set_option maxHeartbeats 8000000 in
theorem fn_216 (cA : Nat → ClassId) (b : Nat) (str : Nat → Nat) : FN cA b str 216 := rfl
set_option maxRecDepth 100000 in
set_option maxHeartbeats 8000000 in
theorem fn_217 (cA : Nat → ClassId) (b : Nat) (str : Nat → Nat) : FN cA b str 217 := rfl
set_option maxRecDepth 100000 in
set_option maxHeartbeats 8000000 in
theorem fn_218 (cA : Nat → ClassId) (b : Nat) (str : Nat → Nat) : FN cA b str 218 := rfl
set_option maxRecDepth 100000 in
set_option maxHeartbeats 8000000 in
theorem fn_219 (cA : Nat → ClassId) (b : Nat) (str : Nat → Nat) : FN cA b str 219 := rfl
set_option maxRecDepth 100000 in
set_option maxHeartbeats 8000000 in
theorem fn_220 (cA : Nat → ClassId) (b : Nat) (str : Nat → Nat) : FN cA b str 220 := rfl
set_option maxRecDepth 100000 in
set_option maxHeartbeats 8000000 in
theorem fn_221 (cA : Nat → ClassId) (b : Nat) (str : Nat → Nat) : FN cA b str 221 := rfl
set_option maxRecDepth 100000 in
set_option maxHeartbeats 8000000 in
theorem fn_222 (cA : Nat → ClassId) (b : Nat) (str : Nat → Nat) : FN cA b str 222 := rfl
set_option maxRecDepth 100000 in
set_option maxHeartbeats 8000000 in
theorem fn_223 (cA : Nat → ClassId) (b : Nat) (str : Nat → Nat) : FN cA b str 223 := rfl
set_option maxRecDepth 100000 in
set_option maxHeartbeats 8000000 in
theorem fn_224 (cA : Nat → ClassId) (b : Nat) (str : Nat → Nat) : FN cA b str 224 := rfl
set_option maxRecDepth 100000 in
set_option maxHeartbeats 8000000 in
theorem fn_225 (cA : Nat → ClassId) (b : Nat) (str : Nat → Nat) : FN cA b str 225 := rfl
set_option maxRecDepth 100000 in
set_option maxHeartbeats 8000000 in
theorem fn_226 (cA : Nat → ClassId) (b : Nat) (str : Nat → Nat) : FN cA b str 226 := rfl
set_option maxRecDepth 100000 in
set_option maxHeartbeats 8000000 in
theorem fn_227 (cA : Nat → ClassId) (b : Nat) (str : Nat → Nat) : FN cA b str 227 := rfl
set_option maxRecDepth 100000 in
set_option maxHeartbeats 8000000 in
theorem fn_228 (cA : Nat → ClassId) (b : Nat) (str : Nat → Nat) : FN cA b str 228 := rfl
set_option maxRecDepth 100000 in
set_option maxHeartbeats 8000000 in
theorem fn_229 (cA : Nat → ClassId) (b : Nat) (str : Nat → Nat) : FN cA b str 229 := rfl
set_option maxRecDepth 100000 in
set_option maxHeartbeats 8000000 in
theorem fn_230 (cA : Nat → ClassId) (b : Nat) (str : Nat → Nat) : FN cA b str 230 := rfl
set_option maxRecDepth 100000 in
set_option maxHeartbeats 8000000 in
theorem fn_231 (cA : Nat → ClassId) (b : Nat) (str : Nat → Nat) : FN cA b str 231 := rfl
set_option maxRecDepth 100000 in
set_option maxHeartbeats 8000000 in
theorem fn_232 (cA : Nat → ClassId) (b : Nat) (str : Nat → Nat) : FN cA b str 232 := rfl
set_option maxRecDepth 100000 in
set_option maxHeartbeats 8000000 in
theorem fn_233 (cA : Nat → ClassId) (b : Nat) (str : Nat → Nat) : FN cA b str 233 := rfl
set_option maxRecDepth 100000 in
set_option maxHeartbeats 8000000 in
theorem fn_234 (cA : Nat → ClassId) (b : Nat) (str : Nat → Nat) : FN cA b str 234 := rfl
set_option maxRecDepth 100000 in
set_option maxHeartbeats 8000000 in
theorem fn_235 (cA : Nat → ClassId) (b : Nat) (str : Nat → Nat) : FN cA b str 235 := rfl
set_option maxRecDepth 100000 in
set_option maxHeartbeats 8000000 in
theorem fn_236 (cA : Nat → ClassId) (b : Nat) (str : Nat → Nat) : FN cA b str 236 := rfl
set_option maxRecDepth 100000 in
set_option maxHeartbeats 8000000 in
theorem fn_237 (cA : Nat → ClassId) (b : Nat) (str : Nat → Nat) : FN cA b str 237 := rfl
set_option maxRecDepth 100000 in
set_option maxHeartbeats 8000000 in
theorem fn_238 (cA : Nat → ClassId) (b : Nat) (str : Nat → Nat) : FN cA b str 238 := rfl
set_option maxRecDepth 100000 in
set_option maxHeartbeats 8000000 in
theorem fn_239 (cA : Nat → ClassId) (b : Nat) (str : Nat → Nat) : FN cA b str 239 := rfl
set_option maxRecDepth 100000 in
set_option maxHeartbeats 8000000 in
theorem fn_240 (cA : Nat → ClassId) (b : Nat) (str : Nat → Nat) : FN cA b str 240 := rfl
set_option maxRecDepth 100000 in
set_option maxHeartbeats 8000000 in
theorem fn_241 (cA : Nat → ClassId) (b : Nat) (str : Nat → Nat) : FN cA b str 241 := rfl
set_option maxRecDepth 100000 in
set_option maxHeartbeats 8000000 in
theorem fn_242 (cA : Nat → ClassId) (b : Nat) (str : Nat → Nat) : FN cA b str 242 := rfl
set_option maxRecDepth 100000 in
set_option maxHeartbeats 8000000 in
theorem fn_243 (cA : Nat → ClassId) (b : Nat) (str : Nat → Nat) : FN cA b str 243 := rfl
set_option maxRecDepth 100000 in
set_option maxHeartbeats 8000000 in
theorem fn_244 (cA : Nat → ClassId) (b : Nat) (str : Nat → Nat) : FN cA b str 244 := rfl
set_option maxRecDepth 100000 in
set_option maxHeartbeats 8000000 in
theorem fn_245 (cA : Nat → ClassId) (b : Nat) (str : Nat → Nat) : FN cA b str 245 := rfl
set_option maxRecDepth 100000 in
set_option maxHeartbeats 8000000 in
theorem fn_246 (cA : Nat → ClassId) (b : Nat) (str : Nat → Nat) : FN cA b str 246 := rfl
set_option maxRecDepth 100000 in
set_option maxHeartbeats 8000000 in
theorem fn_247 (cA : Nat → ClassId) (b : Nat) (str : Nat → Nat) : FN cA b str 247 := rfl
set_option maxRecDepth 100000 in
set_option maxHeartbeats 8000000 in
theorem fn_248 (cA : Nat → ClassId) (b : Nat) (str : Nat → Nat) : FN cA b str 248 := rfl
set_option maxRecDepth 100000 in
set_option maxHeartbeats 8000000 in
theorem fn_249 (cA : Nat → ClassId) (b : Nat) (str : Nat → Nat) : FN cA b str 249 := rfl
set_option maxRecDepth 100000 in
set_option maxHeartbeats 8000000 in
theorem fn_250 (cA : Nat → ClassId) (b : Nat) (str : Nat → Nat) : FN cA b str 250 := rfl
set_option maxRecDepth 100000 in
set_option maxHeartbeats 8000000 in
theorem fn_251 (cA : Nat → ClassId) (b : Nat) (str : Nat → Nat) : FN cA b str 251 := rfl
set_option maxRecDepth 100000 in
set_option maxHeartbeats 8000000 in
theorem fn_252 (cA : Nat → ClassId) (b : Nat) (str : Nat → Nat) : FN cA b str 252 := rfl
set_option maxRecDepth 100000 in
set_option maxHeartbeats 8000000 in
theorem fn_253 (cA : Nat → ClassId) (b : Nat) (str : Nat → Nat) : FN cA b str 253 := rfl
set_option maxRecDepth 100000 in
set_option maxHeartbeats 8000000 in
theorem fn_254 (cA : Nat → ClassId) (b : Nat) (str : Nat → Nat) : FN cA b str 254 := rfl
set_option maxRecDepth 100000 in
set_option maxHeartbeats 8000000 in
theorem fn_255 (cA : Nat → ClassId) (b : Nat) (str : Nat → Nat) : FN cA b str 255 := rfl
set_option maxRecDepth 100000 in
set_option maxHeartbeats 8000000 in
theorem fn_256 (cA : Nat → ClassId) (b : Nat) (str : Nat → Nat) : FN cA b str 256 := rfl
set_option maxRecDepth 100000 in
set_option maxHeartbeats 8000000 in
theorem fn_257 (cA : Nat → ClassId) (b : Nat) (str : Nat → Nat) : FN cA b str 257 := rfl
set_option maxRecDepth 100000 in
set_option maxHeartbeats 8000000 in
theorem fn_258 (cA : Nat → ClassId) (b : Nat) (str : Nat → Nat) : FN cA b str 258 := rfl
set_option maxRecDepth 100000 in
set_option maxHeartbeats 8000000 in
theorem fn_259 (cA : Nat → ClassId) (b : Nat) (str : Nat → Nat) : FN cA b str 259 := rfl
set_option maxRecDepth 100000 in
set_option maxHeartbeats 8000000 in
theorem fn_260 (cA : Nat → ClassId) (b : Nat) (str : Nat → Nat) : FN cA b str 260 := rfl
set_option maxRecDepth 100000 in
set_option maxHeartbeats 8000000 in
theorem fn_261 (cA : Nat → ClassId) (b : Nat) (str : Nat → Nat) : FN cA b str 261 := rfl
set_option maxRecDepth 100000 in
set_option maxHeartbeats 8000000 in
theorem fn_262 (cA : Nat → ClassId) (b : Nat) (str : Nat → Nat) : FN cA b str 262 := rfl
set_option maxRecDepth 100000 in
set_option maxHeartbeats 8000000 in
theorem fn_263 (cA : Nat → ClassId) (b : Nat) (str : Nat → Nat) : FN cA b str 263 := rfl
set_option maxRecDepth 100000 in
set_option maxHeartbeats 8000000 in
theorem fn_264 (cA : Nat → ClassId) (b : Nat) (str : Nat → Nat) : FN cA b str 264 := rfl
set_option maxRecDepth 100000 in
set_option maxHeartbeats 8000000 in
theorem fn_265 (cA : Nat → ClassId) (b : Nat) (str : Nat → Nat) : FN cA b str 265 := rfl
set_option maxRecDepth 100000 in
set_option maxHeartbeats 8000000 in
theorem fn_266 (cA : Nat → ClassId) (b : Nat) (str : Nat → Nat) : FN cA b str 266 := rfl
set_option maxRecDepth 100000 in
set_option maxHeartbeats 8000000 in
theorem fn_267 (cA : Nat → ClassId) (b : Nat) (str : Nat → Nat) : FN cA b str 267 := rfl
set_option maxRecDepth 100000 in
set_option maxHeartbeats 8000000 in
theorem fn_268 (cA : Nat → ClassId) (b : Nat) (str : Nat → Nat) : FN cA b str 268 := rfl
set_option maxRecDepth 100000 in
set_option maxHeartbeats 8000000 in
theorem fn_269 (cA : Nat → ClassId) (b : Nat) (str : Nat → Nat) : FN cA b str 269 := rfl
set_option maxRecDepth 100000 in
set_option maxHeartbeats 8000000 in
theorem fn_270 (cA : Nat → ClassId) (b : Nat) (str : Nat → Nat) : FN cA b str 270 := rfl
set_option maxRecDepth 100000 in
set_option maxHeartbeats 8000000 in
theorem fn_271 (cA : Nat → ClassId) (b : Nat) (str : Nat → Nat) : FN cA b str 271 := rfl
set_option maxRecDepth 100000 in
set_option maxHeartbeats 8000000 in
theorem fn_272 (cA : Nat → ClassId) (b : Nat) (str : Nat → Nat) : FN cA b str 272 := rfl
set_option maxRecDepth 100000 in
set_option maxHeartbeats 8000000 in
theorem fn_273 (cA : Nat → ClassId) (b : Nat) (str : Nat → Nat) : FN cA b str 273 := rfl
set_option maxRecDepth 100000 in
set_option maxHeartbeats 8000000 in
theorem fn_274 (cA : Nat → ClassId) (b : Nat) (str : Nat → Nat) : FN cA b str 274 := rfl
set_option maxRecDepth 100000 in
set_option maxHeartbeats 8000000 in
theorem fn_275 (cA : Nat → ClassId) (b : Nat) (str : Nat → Nat) : FN cA b str 275 := rfl
set_option maxRecDepth 100000 in
set_option maxHeartbeats 8000000 in
theorem fn_276 (cA : Nat → ClassId) (b : Nat) (str : Nat → Nat) : FN cA b str 276 := rfl
set_option maxRecDepth 100000 in
set_option maxHeartbeats 8000000 in
theorem fn_277 (cA : Nat → ClassId) (b : Nat) (str : Nat → Nat) : FN cA b str 277 := rfl
set_option maxRecDepth 100000 in
set_option maxHeartbeats 8000000 in
theorem fn_278 (cA : Nat → ClassId) (b : Nat) (str : Nat → Nat) : FN cA b str 278 := rfl
set_option maxRecDepth 100000 in
set_option maxHeartbeats 8000000 in
theorem fn_279 (cA : Nat → ClassId) (b : Nat) (str : Nat → Nat) : FN cA b str 279 := rfl
set_option maxRecDepth 100000 in
set_option maxHeartbeats 8000000 in
theorem fn_280 (cA : Nat → ClassId) (b : Nat) (str : Nat → Nat) : FN cA b str 280 := rfl
set_option maxRecDepth 100000 in
set_option maxHeartbeats 8000000 in
theorem fn_281 (cA : Nat → ClassId) (b : Nat) (str : Nat → Nat) : FN cA b str 281 := rfl
set_option maxRecDepth 100000 in
set_option maxHeartbeats 8000000 in
theorem fn_282 (cA : Nat → ClassId) (b : Nat) (str : Nat → Nat) : FN cA b str 282 := rfl
set_option maxRecDepth 100000 in
set_option maxHeartbeats 8000000 in
theorem fn_283 (cA : Nat → ClassId) (b : Nat) (str : Nat → Nat) : FN cA b str 283 := rfl
set_option maxRecDepth 100000 in
set_option maxHeartbeats 8000000 in
theorem fn_284 (cA : Nat → ClassId) (b : Nat) (str : Nat → Nat) : FN cA b str 284 := rfl
set_option maxRecDepth 100000 in
set_option maxHeartbeats 8000000 in
theorem fn_285 (cA : Nat → ClassId) (b : Nat) (str : Nat → Nat) : FN cA b str 285 := rfl
set_option maxRecDepth 100000 in
set_option maxHeartbeats 8000000 in
theorem fn_286 (cA : Nat → ClassId) (b : Nat) (str : Nat → Nat) : FN cA b str 286 := rfl
set_option maxRecDepth 100000 in
set_option maxHeartbeats 8000000 in
theorem fn_287 (cA : Nat → ClassId) (b : Nat) (str : Nat → Nat) : FN cA b str 287 := rfl
set_option maxRecDepth 100000 in
set_option maxHeartbeats 8000000 in
theorem fn_288 (cA : Nat → ClassId) (b : Nat) (str : Nat → Nat) : FN cA b str 288 := rfl
set_option maxRecDepth 100000 in
set_option maxHeartbeats 8000000 in
theorem fn_289 (cA : Nat → ClassId) (b : Nat) (str : Nat → Nat) : FN cA b str 289 := rfl
set_option maxRecDepth 100000 in
set_option maxHeartbeats 8000000 in
theorem fn_290 (cA : Nat → ClassId) (b : Nat) (str : Nat → Nat) : FN cA b str 290 := rfl
set_option maxRecDepth 100000 in
set_option maxHeartbeats 8000000 in
theorem fn_291 (cA : Nat → ClassId) (b : Nat) (str : Nat → Nat) : FN cA b str 291 := rfl
set_option maxRecDepth 100000 in
set_option maxHeartbeats 8000000 in
theorem fn_292 (cA : Nat → ClassId) (b : Nat) (str : Nat → Nat) : FN cA b str 292 := rfl
set_option maxRecDepth 100000 in
set_option maxHeartbeats 8000000 in
theorem fn_293 (cA : Nat → ClassId) (b : Nat) (str : Nat → Nat) : FN cA b str 293 := rfl
set_option maxRecDepth 100000 in
set_option maxHeartbeats 8000000 in
theorem fn_294 (cA : Nat → ClassId) (b : Nat) (str : Nat → Nat) : FN cA b str 294 := rfl
set_option maxRecDepth 100000 in
set_option maxHeartbeats 8000000 in
theorem fn_295 (cA : Nat → ClassId) (b : Nat) (str : Nat → Nat) : FN cA b str 295 := rfl
set_option maxRecDepth 100000 in
set_option maxHeartbeats 8000000 in
theorem fn_296 (cA : Nat → ClassId) (b : Nat) (str : Nat → Nat) : FN cA b str 296 := rfl
set_option maxRecDepth 100000 in
set_option maxHeartbeats 8000000 in
theorem fn_297 (cA : Nat → ClassId) (b : Nat) (str : Nat → Nat) : FN cA b str 297 := rfl
set_option maxRecDepth 100000 in
set_option maxHeartbeats 8000000 in
theorem fn_298 (cA : Nat → ClassId) (b : Nat) (str : Nat → Nat) : FN cA b str 298 := rfl
set_option maxRecDepth 100000 in
set_option maxHeartbeats 8000000 in
theorem fn_299 (cA : Nat → ClassId) (b : Nat) (str : Nat → Nat) : FN cA b str 299 := rfl
set_option maxRecDepth 100000 in
set_option maxHeartbeats 8000000 in
theorem fn_300 (cA : Nat → ClassId) (b : Nat) (str : Nat → Nat) : FN cA b str 300 := rfl
set_option maxRecDepth 100000 in
set_option maxHeartbeats 8000000 in
theorem fn_301 (cA : Nat → ClassId) (b : Nat) (str : Nat → Nat) : FN cA b str 301 := rfl
set_option maxRecDepth 100000 in
set_option maxHeartbeats 8000000 in
theorem fn_302 (cA : Nat → ClassId) (b : Nat) (str : Nat → Nat) : FN cA b str 302 := rfl
set_option maxRecDepth 100000 in
set_option maxHeartbeats 8000000 in
theorem fn_303 (cA : Nat → ClassId) (b : Nat) (str : Nat → Nat) : FN cA b str 303 := rfl
set_option maxRecDepth 100000 in
set_option maxHeartbeats 8000000 in
theorem fn_304 (cA : Nat → ClassId) (b : Nat) (str : Nat → Nat) : FN cA b str 304 := rfl
set_option maxRecDepth 100000 in
set_option maxHeartbeats 8000000 in
theorem fn_305 (cA : Nat → ClassId) (b : Nat) (str : Nat → Nat) : FN cA b str 305 := rfl
set_option maxRecDepth 100000 in
set_option maxHeartbeats 8000000 in
theorem fn_306 (cA : Nat → ClassId) (b : Nat) (str : Nat → Nat) : FN cA b str 306 := rfl
set_option maxRecDepth 100000 in
set_option maxHeartbeats 8000000 in
theorem fn_307 (cA : Nat → ClassId) (b : Nat) (str : Nat → Nat) : FN cA b str 307 := rfl
set_option maxRecDepth 100000 in
set_option maxHeartbeats 8000000 in
theorem fn_308 (cA : Nat → ClassId) (b : Nat) (str : Nat → Nat) : FN cA b str 308 := rfl
set_option maxRecDepth 100000 in
set_option maxHeartbeats 8000000 in
theorem fn_309 (cA : Nat → ClassId) (b : Nat) (str : Nat → Nat) : FN cA b str 309 := rfl
set_option maxRecDepth 100000 in
set_option maxHeartbeats 8000000 in
theorem fn_310 (cA : Nat → ClassId) (b : Nat) (str : Nat → Nat) : FN cA b str 310 := rfl
set_option maxRecDepth 100000 in
set_option maxHeartbeats 8000000 in
theorem fn_311 (cA : Nat → ClassId) (b : Nat) (str : Nat → Nat) : FN cA b str 311 := rfl
set_option maxRecDepth 100000 in
set_option maxHeartbeats 8000000 in
theorem fn_312 (cA : Nat → ClassId) (b : Nat) (str : Nat → Nat) : FN cA b str 312 := rfl
set_option maxRecDepth 100000 in
set_option maxHeartbeats 8000000 in
theorem fn_313 (cA : Nat → ClassId) (b : Nat) (str : Nat → Nat) : FN cA b str 313 := rfl
set_option maxRecDepth 100000 in
set_option maxHeartbeats 8000000 in
theorem fn_314 (cA : Nat → ClassId) (b : Nat) (str : Nat → Nat) : FN cA b str 314 := rfl
set_option maxRecDepth 100000 in
set_option maxHeartbeats 8000000 in
theorem fn_315 (cA : Nat → ClassId) (b : Nat) (str : Nat → Nat) : FN cA b str 315 := rfl
set_option maxRecDepth 100000 in
set_option maxHeartbeats 8000000 in
theorem fn_316 (cA : Nat → ClassId) (b : Nat) (str : Nat → Nat) : FN cA b str 316 := rfl
set_option maxRecDepth 100000 in
set_option maxHeartbeats 8000000 in
theorem fn_317 (cA : Nat → ClassId) (b : Nat) (str : Nat → Nat) : FN cA b str 317 := rfl
set_option maxRecDepth 100000 in
set_option maxHeartbeats 8000000 in
theorem fn_318 (cA : Nat → ClassId) (b : Nat) (str : Nat → Nat) : FN cA b str 318 := rfl
set_option maxRecDepth 100000 in
set_option maxHeartbeats 8000000 in
theorem fn_319 (cA : Nat → ClassId) (b : Nat) (str : Nat → Nat) : FN cA b str 319 := rfl
set_option maxRecDepth 100000 in
set_option maxHeartbeats 8000000 in
theorem fn_320 (cA : Nat → ClassId) (b : Nat) (str : Nat → Nat) : FN cA b str 320 := rfl
set_option maxRecDepth 100000 in
set_option maxHeartbeats 8000000 in
theorem fn_321 (cA : Nat → ClassId) (b : Nat) (str : Nat → Nat) : FN cA b str 321 := rfl
set_option maxRecDepth 100000 in
set_option maxHeartbeats 8000000 in
theorem fn_322 (cA : Nat → ClassId) (b : Nat) (str : Nat → Nat) : FN cA b str 322 := rfl
set_option maxRecDepth 100000 in
set_option maxHeartbeats 8000000 in
theorem fn_323 (cA : Nat → ClassId) (b : Nat) (str : Nat → Nat) : FN cA b str 323 := rfl
set_option maxRecDepth 100000 in
set_option maxHeartbeats 8000000 in
theorem fn_324 (cA : Nat → ClassId) (b : Nat) (str : Nat → Nat) : FN cA b str 324 := rfl
set_option maxRecDepth 100000 in
set_option maxHeartbeats 8000000 in
theorem fn_325 (cA : Nat → ClassId) (b : Nat) (str : Nat → Nat) : FN cA b str 325 := rfl
set_option maxRecDepth 100000 in
set_option maxHeartbeats 8000000 in
theorem fn_326 (cA : Nat → ClassId) (b : Nat) (str : Nat → Nat) : FN cA b str 326 := rfl
set_option maxRecDepth 100000 in
set_option maxHeartbeats 8000000 in
theorem fn_327 (cA : Nat → ClassId) (b : Nat) (str : Nat → Nat) : FN cA b str 327 := rfl
set_option maxRecDepth 100000 in
set_option maxHeartbeats 8000000 in
theorem fn_328 (cA : Nat → ClassId) (b : Nat) (str : Nat → Nat) : FN cA b str 328 := rfl
set_option maxRecDepth 100000 in
set_option maxHeartbeats 8000000 in
theorem fn_329 (cA : Nat → ClassId) (b : Nat) (str : Nat → Nat) : FN cA b str 329 := rfl
set_option maxRecDepth 100000 in
set_option maxHeartbeats 8000000 in
theorem fn_330 (cA : Nat → ClassId) (b : Nat) (str : Nat → Nat) : FN cA b str 330 := rfl
set_option maxRecDepth 100000 in
set_option maxHeartbeats 8000000 in
theorem fn_331 (cA : Nat → ClassId) (b : Nat) (str : Nat → Nat) : FN cA b str 331 := rfl
set_option maxRecDepth 100000 in
set_option maxHeartbeats 8000000 in
theorem fn_332 (cA : Nat → ClassId) (b : Nat) (str : Nat → Nat) : FN cA b str 332 := rfl
set_option maxRecDepth 100000 in
set_option maxHeartbeats 8000000 in
theorem fn_333 (cA : Nat → ClassId) (b : Nat) (str : Nat → Nat) : FN cA b str 333 := rfl
set_option maxRecDepth 100000 in
set_option maxHeartbeats 8000000 in
theorem fn_334 (cA : Nat → ClassId) (b : Nat) (str : Nat → Nat) : FN cA b str 334 := rfl
set_option maxRecDepth 100000 in
set_option maxHeartbeats 8000000 in
theorem fn_335 (cA : Nat → ClassId) (b : Nat) (str : Nat → Nat) : FN cA b str 335 := rfl
set_option maxRecDepth 100000 in
set_option maxHeartbeats 8000000 in
theorem fn_336 (cA : Nat → ClassId) (b : Nat) (str : Nat → Nat) : FN cA b str 336 := rfl
set_option maxRecDepth 100000 in
set_option maxHeartbeats 8000000 in
theorem fn_337 (cA : Nat → ClassId) (b : Nat) (str : Nat → Nat) : FN cA b str 337 := rfl
set_option maxRecDepth 100000 in
set_option maxHeartbeats 8000000 in
theorem fn_338 (cA : Nat → ClassId) (b : Nat) (str : Nat → Nat) : FN cA b str 338 := rfl
set_option maxRecDepth 100000 in
set_option maxHeartbeats 8000000 in
theorem fn_339 (cA : Nat → ClassId) (b : Nat) (str : Nat → Nat) : FN cA b str 339 := rfl
set_option maxRecDepth 100000 in
set_option maxHeartbeats 8000000 in
theorem fn_340 (cA : Nat → ClassId) (b : Nat) (str : Nat → Nat) : FN cA b str 340 := rfl
set_option maxRecDepth 100000 in
set_option maxHeartbeats 8000000 in
theorem fn_341 (cA : Nat → ClassId) (b : Nat) (str : Nat → Nat) : FN cA b str 341 := rfl
set_option maxRecDepth 100000 in
set_option maxHeartbeats 8000000 in
theorem fn_342 (cA : Nat → ClassId) (b : Nat) (str : Nat → Nat) : FN cA b str 342 := rfl
set_option maxRecDepth 100000 in
set_option maxHeartbeats 8000000 in
theorem fn_343 (cA : Nat → ClassId) (b : Nat) (str : Nat → Nat) : FN cA b str 343 := rfl
set_option maxRecDepth 100000 in
set_option maxHeartbeats 8000000 in
theorem fn_344 (cA : Nat → ClassId) (b : Nat) (str : Nat → Nat) : FN cA b str 344 := rfl
set_option maxRecDepth 100000 in
set_option maxHeartbeats 8000000 in
theorem fn_345 (cA : Nat → ClassId) (b : Nat) (str : Nat → Nat) : FN cA b str 345 := rfl
set_option maxRecDepth 100000 in
set_option maxHeartbeats 8000000 in
theorem fn_346 (cA : Nat → ClassId) (b : Nat) (str : Nat → Nat) : FN cA b str 346 := rfl
set_option maxRecDepth 100000 in
set_option maxHeartbeats 8000000 in
theorem fn_347 (cA : Nat → ClassId) (b : Nat) (str : Nat → Nat) : FN cA b str 347 := rfl
set_option maxRecDepth 100000 in
set_option maxHeartbeats 8000000 in
theorem fn_348 (cA : Nat → ClassId) (b : Nat) (str : Nat → Nat) : FN cA b str 348 := rfl
set_option maxRecDepth 100000 in
set_option maxHeartbeats 8000000 in
theorem fn_349 (cA : Nat → ClassId) (b : Nat) (str : Nat → Nat) : FN cA b str 349 := rfl
set_option maxRecDepth 100000 in
set_option maxHeartbeats 8000000 in
theorem fn_350 (cA : Nat → ClassId) (b : Nat) (str : Nat → Nat) : FN cA b str 350 := rfl
set_option maxRecDepth 100000 in
set_option maxHeartbeats 8000000 in
theorem fn_351 (cA : Nat → ClassId) (b : Nat) (str : Nat → Nat) : FN cA b str 351 := rfl
set_option maxRecDepth 100000 in
set_option maxHeartbeats 8000000 in
theorem fn_352 (cA : Nat → ClassId) (b : Nat) (str : Nat → Nat) : FN cA b str 352 := rfl
set_option maxRecDepth 100000 in
set_option maxHeartbeats 8000000 in
theorem fn_353 (cA : Nat → ClassId) (b : Nat) (str : Nat → Nat) : FN cA b str 353 := rfl
set_option maxRecDepth 100000 in
set_option maxHeartbeats 8000000 in
theorem fn_354 (cA : Nat → ClassId) (b : Nat) (str : Nat → Nat) : FN cA b str 354 := rfl
set_option maxRecDepth 100000 in
set_option maxHeartbeats 8000000 in
theorem fn_355 (cA : Nat → ClassId) (b : Nat) (str : Nat → Nat) : FN cA b str 355 := rfl
set_option maxRecDepth 100000 in
set_option maxHeartbeats 8000000 in
theorem fn_356 (cA : Nat → ClassId) (b : Nat) (str : Nat → Nat) : FN cA b str 356 := rfl
set_option maxRecDepth 100000 in
set_option maxHeartbeats 8000000 in
theorem fn_357 (cA : Nat → ClassId) (b : Nat) (str : Nat → Nat) : FN cA b str 357 := rfl
set_option maxRecDepth 100000 in
set_option maxHeartbeats 8000000 in
theorem fn_358 (cA : Nat → ClassId) (b : Nat) (str : Nat → Nat) : FN cA b str 358 := rfl
set_option maxRecDepth 100000 in
set_option maxHeartbeats 8000000 in
theorem fn_359 (cA : Nat → ClassId) (b : Nat) (str : Nat → Nat) : FN cA b str 359 := rfl
set_option maxRecDepth 100000 in
set_option maxHeartbeats 8000000 in
theorem fn_360 (cA : Nat → ClassId) (b : Nat) (str : Nat → Nat) : FN cA b str 360 := rfl
set_option maxRecDepth 100000 in
set_option maxHeartbeats 8000000 in
theorem fn_361 (cA : Nat → ClassId) (b : Nat) (str : Nat → Nat) : FN cA b str 361 := rfl
set_option maxRecDepth 100000 in
set_option maxHeartbeats 8000000 in
theorem fn_362 (cA : Nat → ClassId) (b : Nat) (str : Nat → Nat) : FN cA b str 362 := rfl
set_option maxRecDepth 100000 in
set_option maxHeartbeats 8000000 in
theorem fn_363 (cA : Nat → ClassId) (b : Nat) (str : Nat → Nat) : FN cA b str 363 := rfl
set_option maxRecDepth 100000 in
set_option maxHeartbeats 8000000 in
theorem fn_364 (cA : Nat → ClassId) (b : Nat) (str : Nat → Nat) : FN cA b str 364 := rfl
set_option maxRecDepth 100000 in
set_option maxHeartbeats 8000000 in
theorem fn_365 (cA : Nat → ClassId) (b : Nat) (str : Nat → Nat) : FN cA b str 365 := rfl
set_option maxRecDepth 100000 in
set_option maxHeartbeats 8000000 in
theorem fn_366 (cA : Nat → ClassId) (b : Nat) (str : Nat → Nat) : FN cA b str 366 := rfl
set_option maxRecDepth 100000 in
set_option maxHeartbeats 8000000 in
theorem fn_367 (cA : Nat → ClassId) (b : Nat) (str : Nat → Nat) : FN cA b str 367 := rfl
set_option maxRecDepth 100000 in
set_option maxHeartbeats 8000000 in
theorem fn_368 (cA : Nat → ClassId) (b : Nat) (str : Nat → Nat) : FN cA b str 368 := rfl
set_option maxRecDepth 100000 in
set_option maxHeartbeats 8000000 in
theorem fn_369 (cA : Nat → ClassId) (b : Nat) (str : Nat → Nat) : FN cA b str 369 := rfl
set_option maxRecDepth 100000 in
set_option maxHeartbeats 8000000 in
theorem fn_370 (cA : Nat → ClassId) (b : Nat) (str : Nat → Nat) : FN cA b str 370 := rfl
set_option maxRecDepth 100000 in
set_option maxHeartbeats 8000000 in
theorem fn_371 (cA : Nat → ClassId) (b : Nat) (str : Nat → Nat) : FN cA b str 371 := rfl
set_option maxRecDepth 100000 in
set_option maxHeartbeats 8000000 in
theorem fn_372 (cA : Nat → ClassId) (b : Nat) (str : Nat → Nat) : FN cA b str 372 := rfl
set_option maxRecDepth 100000 in
set_option maxHeartbeats 8000000 in
theorem fn_373 (cA : Nat → ClassId) (b : Nat) (str : Nat → Nat) : FN cA b str 373 := rfl
set_option maxRecDepth 100000 in
set_option maxHeartbeats 8000000 in
theorem fn_374 (cA : Nat → ClassId) (b : Nat) (str : Nat → Nat) : FN cA b str 374 := rfl
set_option maxRecDepth 100000 in
set_option maxHeartbeats 8000000 in
theorem fn_375 (cA : Nat → ClassId) (b : Nat) (str : Nat → Nat) : FN cA b str 375 := rfl
set_option maxRecDepth 100000 in
set_option maxHeartbeats 8000000 in
theorem fn_376 (cA : Nat → ClassId) (b : Nat) (str : Nat → Nat) : FN cA b str 376 := rfl
set_option maxRecDepth 100000 in
set_option maxHeartbeats 8000000 in
theorem fn_377 (cA : Nat → ClassId) (b : Nat) (str : Nat → Nat) : FN cA b str 377 := rfl
set_option maxRecDepth 100000 in
set_option maxHeartbeats 8000000 in
theorem fn_378 (cA : Nat → ClassId) (b : Nat) (str : Nat → Nat) : FN cA b str 378 := rfl
set_option maxRecDepth 100000 in
set_option maxHeartbeats 8000000 in
theorem fn_379 (cA : Nat → ClassId) (b : Nat) (str : Nat → Nat) : FN cA b str 379 := rfl
set_option maxRecDepth 100000 in
set_option maxHeartbeats 8000000 in
theorem fn_380 (cA : Nat → ClassId) (b : Nat) (str : Nat → Nat) : FN cA b str 380 := rfl
set_option maxRecDepth 100000 in
set_option maxHeartbeats 8000000 in
theorem fn_381 (cA : Nat → ClassId) (b : Nat) (str : Nat → Nat) : FN cA b str 381 := rfl
set_option maxRecDepth 100000 in
set_option maxHeartbeats 8000000 in
theorem fn_382 (cA : Nat → ClassId) (b : Nat) (str : Nat → Nat) : FN cA b str 382 := rfl
set_option maxRecDepth 100000 in
set_option maxHeartbeats 8000000 in
theorem fn_383 (cA : Nat → ClassId) (b : Nat) (str : Nat → Nat) : FN cA b str 383 := rfl
set_option maxRecDepth 100000 in
set_option maxHeartbeats 8000000 in
theorem fn_384 (cA : Nat → ClassId) (b : Nat) (str : Nat → Nat) : FN cA b str 384 := rfl
set_option maxRecDepth 100000 in
set_option maxHeartbeats 8000000 in
theorem fn_385 (cA : Nat → ClassId) (b : Nat) (str : Nat → Nat) : FN cA b str 385 := rfl
set_option maxRecDepth 100000 in
set_option maxHeartbeats 8000000 in
theorem fn_386 (cA : Nat → ClassId) (b : Nat) (str : Nat → Nat) : FN cA b str 386 := rfl
set_option maxRecDepth 100000 in
set_option maxHeartbeats 8000000 in
theorem fn_387 (cA : Nat → ClassId) (b : Nat) (str : Nat → Nat) : FN cA b str 387 := rfl
set_option maxRecDepth 100000 in
set_option maxHeartbeats 8000000 in
theorem fn_388 (cA : Nat → ClassId) (b : Nat) (str : Nat → Nat) : FN cA b str 388 := rfl
set_option maxRecDepth 100000 in
set_option maxHeartbeats 8000000 in
theorem fn_389 (cA : Nat → ClassId) (b : Nat) (str : Nat → Nat) : FN cA b str 389 := rfl
set_option maxRecDepth 100000 in
set_option maxHeartbeats 8000000 in
theorem fn_390 (cA : Nat → ClassId) (b : Nat) (str : Nat → Nat) : FN cA b str 390 := rfl
set_option maxRecDepth 100000 in
set_option maxHeartbeats 8000000 in
theorem fn_391 (cA : Nat → ClassId) (b : Nat) (str : Nat → Nat) : FN cA b str 391 := rfl
set_option maxRecDepth 100000 in
set_option maxHeartbeats 8000000 in
theorem fn_392 (cA : Nat → ClassId) (b : Nat) (str : Nat → Nat) : FN cA b str 392 := rfl
set_option maxRecDepth 100000 in
set_option maxHeartbeats 8000000 in
theorem fn_393 (cA : Nat → ClassId) (b : Nat) (str : Nat → Nat) : FN cA b str 393 := rfl
set_option maxRecDepth 100000 in
set_option maxHeartbeats 8000000 in
theorem fn_394 (cA : Nat → ClassId) (b : Nat) (str : Nat → Nat) : FN cA b str 394 := rfl
set_option maxRecDepth 100000 in
set_option maxHeartbeats 8000000 in
theorem fn_395 (cA : Nat → ClassId) (b : Nat) (str : Nat → Nat) : FN cA b str 395 := rfl
set_option maxRecDepth 100000 in
set_option maxHeartbeats 8000000 in
theorem fn_396 (cA : Nat → ClassId) (b : Nat) (str : Nat → Nat) : FN cA b str 396 := rfl
set_option maxRecDepth 100000 in
set_option maxHeartbeats 8000000 in
theorem fn_397 (cA : Nat → ClassId) (b : Nat) (str : Nat → Nat) : FN cA b str 397 := rfl
set_option maxRecDepth 100000 in
set_option maxHeartbeats 8000000 in
theorem fn_398 (cA : Nat → ClassId) (b : Nat) (str : Nat → Nat) : FN cA b str 398 := rfl
set_option maxRecDepth 100000 in
set_option maxHeartbeats 8000000 in
theorem fn_399 (cA : Nat → ClassId) (b : Nat) (str : Nat → Nat) : FN cA b str 399 := rfl
set_option maxRecDepth 100000 in
set_option maxHeartbeats 8000000 in
theorem fn_400 (cA : Nat → ClassId) (b : Nat) (str : Nat → Nat) : FN cA b str 400 := rfl
set_option maxRecDepth 100000 in
set_option maxHeartbeats 8000000 in
theorem fn_401 (cA : Nat → ClassId) (b : Nat) (str : Nat → Nat) : FN cA b str 401 := rfl
set_option maxRecDepth 100000 in
set_option maxHeartbeats 8000000 in
theorem fn_402 (cA : Nat → ClassId) (b : Nat) (str : Nat → Nat) : FN cA b str 402 := rfl
set_option maxRecDepth 100000 in
set_option maxHeartbeats 8000000 in
theorem fn_403 (cA : Nat → ClassId) (b : Nat) (str : Nat → Nat) : FN cA b str 403 := rfl
set_option maxRecDepth 100000 in
set_option maxHeartbeats 8000000 in
theorem fn_404 (cA : Nat → ClassId) (b : Nat) (str : Nat → Nat) : FN cA b str 404 := rfl
set_option maxRecDepth 100000 in
set_option maxHeartbeats 8000000 in
theorem fn_405 (cA : Nat → ClassId) (b : Nat) (str : Nat → Nat) : FN cA b str 405 := rfl
set_option maxRecDepth 100000 in
set_option maxHeartbeats 8000000 in
theorem fn_406 (cA : Nat → ClassId) (b : Nat) (str : Nat → Nat) : FN cA b str 406 := rfl
