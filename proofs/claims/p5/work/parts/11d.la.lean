def LJ (p : Program) (l : Launch) (e : Env) (s : State) (m : MethodId) (below : List Frame) (meth : Method) (c : Code) (b L : Nat) (xs : Nat → Int32) (D : va_G) (cA : Nat → ClassId) (ad : Nat → Nat) (i : Int32) (pc : Nat) : Prop := ∀ (σ : Nat → Nat → Int32) (τ : Nat → Nat → Int64) (H : Heap) (locs : List Loc) (cells slots : Nat) (ls : Array Slot), LI σ τ → va_P D vwCl (gw cA ad σ τ) H → va_S (Ab s.heap.size) s.heap H locs → (cells : Int) ≤ 407 + i.toInt → (slots : Int) ≤ 10600 + i.toInt → lv_has ls 7 [(0, .ref b), (1, .ref (ad 0)), (2, .ref (ad 387)), (3, .ref (ad 406)), (4, .int i)] → W p l e room_1 s m #[Value.ref b] below meth c H locs cells slots (lw_Z below #[Value.ref b] s) (F0 m pc ls [])
def LK (p : Program) (l : Launch) (e : Env) (s : State) (m : MethodId) (below : List Frame) (meth : Method) (c : Code) (b L : Nat) (xs : Nat → Int32) (D : va_G) (cA : Nat → ClassId) (ad : Nat → Nat) (i : Int32) : Prop := ∀ (σ : Nat → Nat → Int32) (τ : Nat → Nat → Int64) (H : Heap) (locs : List Loc) (cells slots : Nat) (ls : Array Slot), LI σ τ → va_P D vwCl (gw cA ad σ τ) H → va_S (Ab s.heap.size) s.heap H locs → (cells : Int) ≤ 408 + i.toInt → (slots : Int) ≤ 10606 + i.toInt → lv_has ls 7 [(0, .ref b), (1, .ref (ad 0)), (2, .ref (ad 387)), (3, .ref (ad 406)), (4, .int i)] → W p l e room_1 s m #[Value.ref b] below meth c H locs cells slots (lw_Z below #[Value.ref b] s) (F0 m 1492 ls [])
set_option maxHeartbeats 4000000 in
theorem LB_0 (p : Program) (l : Launch) (e : Env) (s : State) (m : MethodId) (below : List Frame) (meth : Method) (c : Code) (b L : Nat) (xs : Nat → Int32) (D : va_G) (cA : Nat → ClassId) (ad : Nat → Nat) (C : LC p l s m meth c b L xs D cA ad) (i : Int32) (ni : Nat) (ei : i.toInt = (ni : Int)) (hL : L ≤ 3072) (hn : ni + 6 ≤ L) (Kc : LK p l e s m below meth c b L xs D cA ad i) : LJ p l e s m below meth c b L xs D cA ad i 228 := by
  obtain ⟨hx, hb, hml, hown, hts, hX, hbl, hK, hI, hA, hV, hl0⟩ := C
  intro σ τ H locs cells slots ls hli hP hS hcc hss hl
  obtain ⟨hR, gRI, gSI, gSIK, gBI, hsz, gTE, gRV, gVK, gVN, hfa⟩ := hli
  have hcl : cells ≤ room_1.cells := (show cells ≤ 601024 by omega)
  have hsl : slots ≤ room_1.slots := (show slots ≤ 7293034 by omega)
  have hcl1 : cells + 1 ≤ room_1.cells := (show cells + 1 ≤ 601024 by omega)
  have hsl1 : slots + 6 ≤ room_1.slots := (show slots + 6 ≤ 7293034 by omega)
  refine lv_aload_n hx hb dL_law_228 rfl (lv_at hl 1 rfl) ?_
  refine lv_aload_n hx hb dL_law_229 rfl (lv_at hl 0 rfl) ?_
  refine lv_iload hx hb dL_law_230 (lv_at hl 4 rfl) ?_
  refine r_iconst hx hb dL_law_232 (by decide) (fun z1 ez1 => ?_)
  refine r_iadd hx hb dL_law_233 (by omega) (fun z2 ez2 => ?_)
  refine q_scr (j := ni + 1) hx hb hX hbl hS (by omega) (by omega) dL_law_234 ?_
  refine lv_aload_n hx hb dL_law_235 rfl (lv_at hl 0 rfl) ?_
  refine lv_iload hx hb dL_law_236 (lv_at hl 4 rfl) ?_
  refine r_iconst hx hb dL_law_238 (by decide) (fun z3 ez3 => ?_)
  refine r_iadd hx hb dL_law_239 (by omega) (fun z4 ez4 => ?_)
  refine q_scr (j := ni + 2) hx hb hX hbl hS (by omega) (by omega) dL_law_240 ?_
  refine lv_aload_n hx hb dL_law_241 rfl (lv_at hl 0 rfl) ?_
  refine lv_iload hx hb dL_law_242 (lv_at hl 4 rfl) ?_
  refine r_iconst hx hb dL_law_244 (by decide) (fun z5 ez5 => ?_)
  refine r_iadd hx hb dL_law_245 (by omega) (fun z6 ez6 => ?_)
  refine q_scr (j := ni + 3) hx hb hX hbl hS (by omega) (by omega) dL_law_246 ?_
  refine lv_aload_n hx hb dL_law_247 rfl (lv_at hl 0 rfl) ?_
  refine lv_iload hx hb dL_law_248 (lv_at hl 4 rfl) ?_
  refine r_iconst hx hb dL_law_250 (by decide) (fun z7 ez7 => ?_)
  refine r_iadd hx hb dL_law_251 (by omega) (fun z8 ez8 => ?_)
  refine q_scr (j := ni + 4) hx hb hX hbl hS (by omega) (by omega) dL_law_252 ?_
  refine lv_aload_n hx hb dL_law_253 rfl (lv_at hl 0 rfl) ?_
  refine lv_iload hx hb dL_law_254 (lv_at hl 4 rfl) ?_
  refine r_iconst hx hb dL_law_256 (by decide) (fun z9 ez9 => ?_)
  refine r_iadd hx hb dL_law_257 (by omega) (fun z10 ez10 => ?_)
  refine q_scr (j := ni + 5) hx hb hX hbl hS (by omega) (by omega) dL_law_258 ?_
  have hs5_11 := rg_8_5 hR (k := 1) (by decide) (by decide)
  refine q_cVi (k := 0) (As := [.int (xs (ni + 1)), .int (xs (ni + 2)), .int (xs (ni + 3)), .int (xs (ni + 4)), .int (xs (ni + 5))]) (rest := []) ⟨hx, hb, hml, hown, hts⟩ hK hP hV hA hS (c_X11_feed l D cA ad hI σ τ hR (xs (ni + 1)) (xs (ni + 2)) (xs (ni + 3)) (xs (ni + 4)) (xs (ni + 5))) (cwV 5 hts gL_law_X11_feed rfl rfl rfl (by decide +kernel) ⟨by decide, by decide⟩) (rv_X hK hP (by decide) (by decide)) rfl hl.1 rfl (Nat.le_of_ble_eq_true rfl) dL_law_259 hcl hsl (fun r11 u11 H11 locs11 hp11 hP hS => ?_)
  obtain ⟨σ11, τ11⟩ := u11
  obtain ⟨hR, f11, fL11, hq11, ho11_0, ho11_1⟩ : P_X11_feed σ τ (xs (ni + 1)) (xs (ni + 2)) (xs (ni + 3)) (xs (ni + 4)) (xs (ni + 5)) r11 σ11 τ11 := hp11
  have hP : va_P D vwCl (gw cA ad σ11 τ11) H11 := hP
  obtain rfl := FrL.nil fL11
  have gRI := RI.fr gRI f11 (by decide)
  have gSI := SI.fr gSI hR f11 (by decide)
  have gSIK := SIK.fr gSIK hR f11 (by decide)
  have gBI := BI.fr gBI f11 (by decide)
  have t11_387_2 := congrArg Int32.toInt (f11.at 387 2 (by decide))
  have t11_0_18 := congrArg Int32.toInt (f11.at 0 18 (by decide))
  have t11_387_15 := congrArg Int32.toInt (f11.at 387 15 (by decide))
  have gVK := gVK.fr f11 (by decide)
  have gVN := gVN.fr f11 (by decide) fL11 (by decide)
  have fcf := f11
  have gTEf := gTE
  refine lv_pop hx hb dL_law_262 rfl ?_
  refine lv_aload_n hx hb dL_law_263 rfl (lv_at hl 2 rfl) ?_
  refine lv_aload_n hx hb dL_law_264 rfl (lv_at hl 0 rfl) ?_
  refine lv_iload hx hb dL_law_265 (lv_at hl 4 rfl) ?_
  refine r_iconst hx hb dL_law_267 (by decide) (fun z12 ez12 => ?_)
  refine r_iadd hx hb dL_law_268 (by omega) (fun z13 ez13 => ?_)
  refine q_scr (j := ni + 1) hx hb hX hbl hS (by omega) (by omega) dL_law_269 ?_
  refine lv_aload_n hx hb dL_law_270 rfl (lv_at hl 0 rfl) ?_
  refine lv_iload hx hb dL_law_271 (lv_at hl 4 rfl) ?_
  refine r_iconst hx hb dL_law_273 (by decide) (fun z14 ez14 => ?_)
  refine r_iadd hx hb dL_law_274 (by omega) (fun z15 ez15 => ?_)
  refine q_scr (j := ni + 2) hx hb hX hbl hS (by omega) (by omega) dL_law_275 ?_
  refine lv_aload_n hx hb dL_law_276 rfl (lv_at hl 0 rfl) ?_
  refine lv_iload hx hb dL_law_277 (lv_at hl 4 rfl) ?_
  refine r_iconst hx hb dL_law_279 (by decide) (fun z16 ez16 => ?_)
  refine r_iadd hx hb dL_law_280 (by omega) (fun z17 ez17 => ?_)
  refine q_scr (j := ni + 3) hx hb hX hbl hS (by omega) (by omega) dL_law_281 ?_
  refine lv_aload_n hx hb dL_law_282 rfl (lv_at hl 0 rfl) ?_
  refine lv_iload hx hb dL_law_283 (lv_at hl 4 rfl) ?_
  refine r_iconst hx hb dL_law_285 (by decide) (fun z18 ez18 => ?_)
  refine r_iadd hx hb dL_law_286 (by omega) (fun z19 ez19 => ?_)
  refine q_scr (j := ni + 4) hx hb hX hbl hS (by omega) (by omega) dL_law_287 ?_
  refine lv_aload_n hx hb dL_law_288 rfl (lv_at hl 0 rfl) ?_
  refine lv_iload hx hb dL_law_289 (lv_at hl 4 rfl) ?_
  refine r_iconst hx hb dL_law_291 (by decide) (fun z20 ez20 => ?_)
  refine r_iadd hx hb dL_law_292 (by omega) (fun z21 ez21 => ?_)
  refine q_scr (j := ni + 5) hx hb hX hbl hS (by omega) (by omega) dL_law_293 ?_
  have hs5_22 := rg_8_5 hR (k := 1) (by decide) (by decide)
  refine q_cVi (k := 387) (As := [.int (xs (ni + 1)), .int (xs (ni + 2)), .int (xs (ni + 3)), .int (xs (ni + 4)), .int (xs (ni + 5))]) (rest := []) ⟨hx, hb, hml, hown, hts⟩ hK hP hV hA hS (c_X12_feed l D cA ad hI σ11 τ hR (xs (ni + 1)) (xs (ni + 2)) (xs (ni + 3)) (xs (ni + 4)) (xs (ni + 5))) (cwV 5 hts gL_law_X12_feed rfl rfl rfl (by decide +kernel) ⟨by decide, by decide⟩) (rv_M hK hP (by decide) (by decide)) rfl hl.1 rfl (Nat.le_of_ble_eq_true rfl) dL_law_294 hcl hsl (fun r22 u22 H22 locs22 hp22 hP hS => ?_)
  obtain ⟨σ22, τ22⟩ := u22
  obtain ⟨hR, f22, fL22, hq22, ho22_0, ho22_1⟩ : P_X12_feed σ11 τ (xs (ni + 1)) (xs (ni + 2)) (xs (ni + 3)) (xs (ni + 4)) (xs (ni + 5)) r22 σ22 τ22 := hp22
  have hP : va_P D vwCl (gw cA ad σ22 τ22) H22 := hP
  obtain rfl := FrL.nil fL22
  have gRI := RI.fr gRI f22 (by decide)
  have gSI := SI.fr gSI hR f22 (by decide)
  have gSIK := SIK.fr gSIK hR f22 (by decide)
  have gBI := BI.fr gBI f22 (by decide)
  have t22_1_5 := congrArg Int32.toInt (f22.at 1 5 (by decide))
  have t22_0_18 := congrArg Int32.toInt (f22.at 0 18 (by decide))
  have t22_387_15 := congrArg Int32.toInt (f22.at 387 15 (by decide))
  have gVK := gVK.fr f22 (by decide)
  have gVN := gVN.fr f22 (by decide) fL22 (by decide)
  have gTE : TE σ22 := by
    rcases ho11_1 with hc1 | hc1
    · rcases ho22_1 with hm1 | hm1
      · exact TE.same gTEf fcf (by decide) hc1.2 f22 (by decide) hm1.2 (by omega) (by omega)
      · have hc9 := hc1.1; have hm9 := hm1.1; exfalso; omega
    · rcases ho22_1 with hm1 | hm1
      · have hc9 := hc1.1; have hm9 := hm1.1; exfalso; omega
      · have hc9 := hc1.1; have hm9 := hm1.1; exact TE.fd gTEf fcf (by decide) f22 (by decide) (by omega) (by omega) (by omega) hc1.2 hm1.2 (by omega)
  refine lv_pop hx hb dL_law_297 rfl ?_
  refine lv_goto (tgt := 1492) hx hb dL_law_298 (by decide) ?_
  exact Kc σ22 τ H22 locs22 (cells) (slots) ls ⟨hR, gRI, gSI, gSIK, gBI, (by omega), gTE, gRV, gVK, gVN, (by omega)⟩ hP hS (by omega) (by omega) (lv_sub hl [0, 1, 2, 3, 4] rfl)
set_option maxHeartbeats 4000000 in
theorem LB_1 (p : Program) (l : Launch) (e : Env) (s : State) (m : MethodId) (below : List Frame) (meth : Method) (c : Code) (b L : Nat) (xs : Nat → Int32) (D : va_G) (cA : Nat → ClassId) (ad : Nat → Nat) (C : LC p l s m meth c b L xs D cA ad) (i : Int32) (ni : Nat) (ei : i.toInt = (ni : Int)) (hL : L ≤ 3072) (hn : ni + 6 ≤ L) (Kc : LK p l e s m below meth c b L xs D cA ad i) : LJ p l e s m below meth c b L xs D cA ad i 301 := by
  obtain ⟨hx, hb, hml, hown, hts, hX, hbl, hK, hI, hA, hV, hl0⟩ := C
  intro σ τ H locs cells slots ls hli hP hS hcc hss hl
  obtain ⟨hR, gRI, gSI, gSIK, gBI, hsz, gTE, gRV, gVK, gVN, hfa⟩ := hli
  have hcl : cells ≤ room_1.cells := (show cells ≤ 601024 by omega)
  have hsl : slots ≤ room_1.slots := (show slots ≤ 7293034 by omega)
  have hcl1 : cells + 1 ≤ room_1.cells := (show cells + 1 ≤ 601024 by omega)
  have hsl1 : slots + 6 ≤ room_1.slots := (show slots + 6 ≤ 7293034 by omega)
  refine lv_aload_n hx hb dL_law_301 rfl (lv_at hl 1 rfl) ?_
  refine lv_aload_n hx hb dL_law_302 rfl (lv_at hl 0 rfl) ?_
  refine lv_iload hx hb dL_law_303 (lv_at hl 4 rfl) ?_
  refine r_iconst hx hb dL_law_305 (by decide) (fun z1 ez1 => ?_)
  refine r_iadd hx hb dL_law_306 (by omega) (fun z2 ez2 => ?_)
  refine q_scr (j := ni + 1) hx hb hX hbl hS (by omega) (by omega) dL_law_307 ?_
  have hs5_3 := rg_8_5 hR (k := 1) (by decide) (by decide)
  refine q_cVi (k := 0) (As := [.int (xs (ni + 1))]) (rest := []) ⟨hx, hb, hml, hown, hts⟩ hK hP hV hA hS (c_X11_end l D cA ad hI σ τ hR (xs (ni + 1))) (cwV 1 hts gL_law_X11_end rfl rfl rfl (by decide +kernel) ⟨by decide, by decide⟩) (rv_X hK hP (by decide) (by decide)) rfl hl.1 rfl (Nat.le_of_ble_eq_true rfl) dL_law_308 hcl hsl (fun r3 u3 H3 locs3 hp3 hP hS => ?_)
  obtain ⟨σ3, τ3⟩ := u3
  obtain ⟨hR, f3, fL3, hq3, ho3_0⟩ : P_X11_end σ τ (xs (ni + 1)) r3 σ3 τ3 := hp3
  have hP : va_P D vwCl (gw cA ad σ3 τ3) H3 := hP
  obtain rfl := FrL.nil fL3
  have gRI := RI.fr gRI f3 (by decide)
  have gSI := SI.fr gSI hR f3 (by decide)
  have gSIK := SIK.fr gSIK hR f3 (by decide)
  have gBI := BI.fr gBI f3 (by decide)
  have t3_387_2 := congrArg Int32.toInt (f3.at 387 2 (by decide))
  have t3_0_18 := congrArg Int32.toInt (f3.at 0 18 (by decide))
  have t3_387_15 := congrArg Int32.toInt (f3.at 387 15 (by decide))
  have gVK := gVK.fr f3 (by decide)
  have gVN := gVN.fr f3 (by decide) fL3 (by decide)
  have gTE := gTE.fr f3 (by decide) (by omega) (by omega)
  refine lv_pop hx hb dL_law_311 rfl ?_
  refine lv_aload_n hx hb dL_law_312 rfl (lv_at hl 2 rfl) ?_
  refine lv_aload_n hx hb dL_law_313 rfl (lv_at hl 0 rfl) ?_
  refine lv_iload hx hb dL_law_314 (lv_at hl 4 rfl) ?_
  refine r_iconst hx hb dL_law_316 (by decide) (fun z4 ez4 => ?_)
  refine r_iadd hx hb dL_law_317 (by omega) (fun z5 ez5 => ?_)
  refine q_scr (j := ni + 1) hx hb hX hbl hS (by omega) (by omega) dL_law_318 ?_
  have hs5_6 := rg_8_5 hR (k := 1) (by decide) (by decide)
  refine q_cVi (k := 387) (As := [.int (xs (ni + 1))]) (rest := []) ⟨hx, hb, hml, hown, hts⟩ hK hP hV hA hS (c_X12_end l D cA ad hI σ3 τ hR (xs (ni + 1))) (cwV 1 hts gL_law_X12_end rfl rfl rfl (by decide +kernel) ⟨by decide, by decide⟩) (rv_M hK hP (by decide) (by decide)) rfl hl.1 rfl (Nat.le_of_ble_eq_true rfl) dL_law_319 hcl hsl (fun r6 u6 H6 locs6 hp6 hP hS => ?_)
  obtain ⟨σ6, τ6⟩ := u6
  obtain ⟨hR, f6, fL6, hq6, ho6_0⟩ : P_X12_end σ3 τ (xs (ni + 1)) r6 σ6 τ6 := hp6
  have hP : va_P D vwCl (gw cA ad σ6 τ6) H6 := hP
  obtain rfl := FrL.nil fL6
  have gRI := RI.fr gRI f6 (by decide)
  have gSI := SI.fr gSI hR f6 (by decide)
  have gSIK := SIK.fr gSIK hR f6 (by decide)
  have gBI := BI.fr gBI f6 (by decide)
  have t6_1_5 := congrArg Int32.toInt (f6.at 1 5 (by decide))
  have t6_0_18 := congrArg Int32.toInt (f6.at 0 18 (by decide))
  have t6_387_15 := congrArg Int32.toInt (f6.at 387 15 (by decide))
  have gVK := gVK.fr f6 (by decide)
  have gVN := gVN.fr f6 (by decide) fL6 (by decide)
  have gTE := gTE.fr f6 (by decide) (by omega) (by omega)
  refine lv_pop hx hb dL_law_322 rfl ?_
  refine lv_goto (tgt := 1492) hx hb dL_law_323 (by decide) ?_
  exact Kc σ6 τ H6 locs6 (cells) (slots) ls ⟨hR, gRI, gSI, gSIK, gBI, (by omega), gTE, gRV, gVK, gVN, (by omega)⟩ hP hS (by omega) (by omega) (lv_sub hl [0, 1, 2, 3, 4] rfl)
set_option maxHeartbeats 4000000 in
theorem LB_2 (p : Program) (l : Launch) (e : Env) (s : State) (m : MethodId) (below : List Frame) (meth : Method) (c : Code) (b L : Nat) (xs : Nat → Int32) (D : va_G) (cA : Nat → ClassId) (ad : Nat → Nat) (C : LC p l s m meth c b L xs D cA ad) (i : Int32) (ni : Nat) (ei : i.toInt = (ni : Int)) (hL : L ≤ 3072) (hn : ni + 6 ≤ L) (Kc : LK p l e s m below meth c b L xs D cA ad i) : LJ p l e s m below meth c b L xs D cA ad i 326 := by
  obtain ⟨hx, hb, hml, hown, hts, hX, hbl, hK, hI, hA, hV, hl0⟩ := C
  intro σ τ H locs cells slots ls hli hP hS hcc hss hl
  obtain ⟨hR, gRI, gSI, gSIK, gBI, hsz, gTE, gRV, gVK, gVN, hfa⟩ := hli
  have hcl : cells ≤ room_1.cells := (show cells ≤ 601024 by omega)
  have hsl : slots ≤ room_1.slots := (show slots ≤ 7293034 by omega)
  have hcl1 : cells + 1 ≤ room_1.cells := (show cells + 1 ≤ 601024 by omega)
  have hsl1 : slots + 6 ≤ room_1.slots := (show slots + 6 ≤ 7293034 by omega)
  refine lv_aload_n hx hb dL_law_326 rfl (lv_at hl 1 rfl) ?_
  have hs5_1 := rg_8_5 hR (k := 1) (by decide) (by decide)
  have gTE0 := gTE
  refine q_cVi (k := 0) (As := []) (rest := []) ⟨hx, hb, hml, hown, hts⟩ hK hP hV hA hS (c_X11_valley l D cA ad hI σ τ hR (bC σ) (σ 1 5).toInt.toNat ⟨by omega, by omega, fun j hj => rfl⟩) (cwV 0 hts gL_law_X11_valley rfl rfl rfl (by decide +kernel) ⟨by decide, by decide⟩) (rv_X hK hP (by decide) (by decide)) rfl hl.1 rfl (Nat.le_of_ble_eq_true rfl) dL_law_327 hcl hsl (fun r1 u1 H1 locs1 hp1 hP hS => ?_)
  obtain ⟨σ1, τ1⟩ := u1
  obtain ⟨hR, f1, fL1, ho1_0, ho1_1, ho1_2, ho1_3, ho1_4⟩ : P_X11_valley σ τ (bC σ) (σ 1 5).toInt.toNat r1 σ1 τ1 := hp1
  have hP : va_P D vwCl (gw cA ad σ1 τ1) H1 := hP
  have gRV := gRV.agL (AgrL.fr fL1 (by decide))
  have gRI := RI.fr gRI f1 (by decide)
  have gSI := SI.fr gSI hR f1 (by decide)
  have gSIK := SIK.fr gSIK hR f1 (by decide)
  have gBI := BI.fr gBI f1 (by decide)
  have t1_387_2 := congrArg Int32.toInt (f1.at 387 2 (by decide))
  have t1_387_15 := congrArg Int32.toInt (f1.at 387 15 (by decide))
  have gVK0 := gVK
  have gVN0 := gVN
  have gTE := gTE.fr f1 (by decide) (by omega) (by omega)
  refine lv_pop hx hb dL_law_330 rfl ?_
  refine lv_aload_n hx hb dL_law_331 rfl (lv_at hl 2 rfl) ?_
  have hs5_2 := rg_8_5 hR (k := 1) (by decide) (by decide)
  refine q_cVi (k := 387) (As := []) (rest := []) ⟨hx, hb, hml, hown, hts⟩ hK hP hV hA hS (c_X12_valley l D cA ad hI σ1 τ1 hR (bC σ) (σ 1 5).toInt.toNat ⟨by omega, by omega, fun j hj => gTE0.b f1 (by decide) (by omega) hj⟩ gSI gRV) (cwV 0 hts gL_law_X12_valley rfl rfl rfl (by decide +kernel) ⟨by decide, by decide⟩) (rv_M hK hP (by decide) (by decide)) rfl hl.1 rfl (Nat.le_of_ble_eq_true rfl) dL_law_332 hcl hsl (fun r2 u2 H2 locs2 hp2 hP hS => ?_)
  obtain ⟨σ2, τ2⟩ := u2
  obtain ⟨hR, f2, fL2, ho2_0, ho2_1, ho2_2, ho2_3, ho2_4, gnSI, gnRV⟩ : P_X12_valley σ1 τ1 (bC σ) (σ 1 5).toInt.toNat r2 σ2 τ2 := hp2
  have hP : va_P D vwCl (gw cA ad σ2 τ2) H2 := hP
  have gRV := gRV.agL (AgrL.fr fL2 (by decide))
  have gRI := RI.fr gRI f2 (by decide)
  have gSI := gnSI
  have gSIK := SIK.fr gSIK hR f2 (by decide)
  have gBI := BI.fr gBI f2 (by decide)
  have t2_1_5 := congrArg Int32.toInt (f2.at 1 5 (by decide))
  have t2_0_18 := congrArg Int32.toInt (f2.at 0 18 (by decide))
  have gVK := gVK0.val ho1_2 f1 (by decide) ho2_2 f2 (by decide)
  have gVN := gVN0.val ho1_3 f1 (by decide) fL1 (by decide) ho2_2 ho2_3 f2 (by decide) fL2 (by decide)
  have gTE := gTE.fr f2 (by decide) (by omega) (by omega)
  refine lv_pop hx hb dL_law_335 rfl ?_
  refine lv_goto (tgt := 1492) hx hb dL_law_336 (by decide) ?_
  exact Kc σ2 τ2 H2 locs2 (cells) (slots) ls ⟨hR, gRI, gSI, gSIK, gBI, (by omega), gTE, gRV, gVK, gVN, (by omega)⟩ hP hS (by omega) (by omega) (lv_sub hl [0, 1, 2, 3, 4] rfl)
set_option maxHeartbeats 4000000 in
theorem LB_3 (p : Program) (l : Launch) (e : Env) (s : State) (m : MethodId) (below : List Frame) (meth : Method) (c : Code) (b L : Nat) (xs : Nat → Int32) (D : va_G) (cA : Nat → ClassId) (ad : Nat → Nat) (C : LC p l s m meth c b L xs D cA ad) (i : Int32) (ni : Nat) (ei : i.toInt = (ni : Int)) (hL : L ≤ 3072) (hn : ni + 6 ≤ L) (Kc : LK p l e s m below meth c b L xs D cA ad i) : LJ p l e s m below meth c b L xs D cA ad i 339 := by
  obtain ⟨hx, hb, hml, hown, hts, hX, hbl, hK, hI, hA, hV, hl0⟩ := C
  intro σ τ H locs cells slots ls hli hP hS hcc hss hl
  obtain ⟨hR, gRI, gSI, gSIK, gBI, hsz, gTE, gRV, gVK, gVN, hfa⟩ := hli
  have hcl : cells ≤ room_1.cells := (show cells ≤ 601024 by omega)
  have hsl : slots ≤ room_1.slots := (show slots ≤ 7293034 by omega)
  have hcl1 : cells + 1 ≤ room_1.cells := (show cells + 1 ≤ 601024 by omega)
  have hsl1 : slots + 6 ≤ room_1.slots := (show slots + 6 ≤ 7293034 by omega)
  refine lv_aload_n hx hb dL_law_339 rfl (lv_at hl 1 rfl) ?_
  have hs5_1 := rg_8_5 hR (k := 1) (by decide) (by decide)
  refine q_cVi (k := 0) (As := []) (rest := []) ⟨hx, hb, hml, hown, hts⟩ hK hP hV hA hS (c_X11_fault l D cA ad hI σ τ hR) (cwV 0 hts gL_law_X11_fault rfl rfl rfl (by decide +kernel) ⟨by decide, by decide⟩) (rv_X hK hP (by decide) (by decide)) rfl hl.1 rfl (Nat.le_of_ble_eq_true rfl) dL_law_340 hcl hsl (fun r1 u1 H1 locs1 hp1 hP hS => ?_)
  obtain ⟨σ1, τ1⟩ := u1
  obtain ⟨hR, f1, fL1, ho1_0⟩ : P_X11_fault σ τ r1 σ1 τ1 := hp1
  have hP : va_P D vwCl (gw cA ad σ1 τ1) H1 := hP
  obtain rfl := FrL.nil fL1
  obtain rfl := Fr.nil f1
  refine lv_aload_n hx hb dL_law_343 rfl (lv_at hl 2 rfl) ?_
  have hs5_2 := rg_8_5 hR (k := 1) (by decide) (by decide)
  refine q_cVi (k := 387) (As := []) (rest := [.int r1]) ⟨hx, hb, hml, hown, hts⟩ hK hP hV hA hS (c_X12_fault l D cA ad hI σ τ hR) (cwV 0 hts gL_law_X12_fault rfl rfl rfl (by decide +kernel) ⟨by decide, by decide⟩) (rv_M hK hP (by decide) (by decide)) rfl hl.1 rfl (Nat.le_of_ble_eq_true rfl) dL_law_344 hcl hsl (fun r2 u2 H2 locs2 hp2 hP hS => ?_)
  obtain ⟨σ2, τ2⟩ := u2
  obtain ⟨hR, f2, fL2, ho2_0⟩ : P_X12_fault σ τ r2 σ2 τ2 := hp2
  have hP : va_P D vwCl (gw cA ad σ2 τ2) H2 := hP
  obtain rfl := FrL.nil fL2
  have gRI := RI.fr gRI f2 (by decide)
  have gSI := SI.fr gSI hR f2 (by decide)
  have gSIK := SIK.fr gSIK hR f2 (by decide)
  have gBI := BI.fr gBI f2 (by decide)
  have t2_1_5 := congrArg Int32.toInt (f2.at 1 5 (by decide))
  have t2_387_2 := congrArg Int32.toInt (f2.at 387 2 (by decide))
  have t2_0_18 := congrArg Int32.toInt (f2.at 0 18 (by decide))
  have t2_387_15 := congrArg Int32.toInt (f2.at 387 15 (by decide))
  have gVK := gVK.fr f2 (by decide)
  have gVN := gVN.fr f2 (by decide) fL2 (by decide)
  have gTE := gTE.fr f2 (by decide) (by omega) (by omega)
  refine r_icmp_eq (tgt := 1492) hx hb dL_law_347 (by decide) (fun cq => ?_) (fun cq => ?_)
  rotate_left
  · exfalso; omega
  exact Kc σ2 τ H2 locs2 (cells) (slots) ls ⟨hR, gRI, gSI, gSIK, gBI, (by omega), gTE, gRV, gVK, gVN, (by omega)⟩ hP hS (by omega) (by omega) (lv_sub hl [0, 1, 2, 3, 4] rfl)
set_option maxHeartbeats 4000000 in
theorem LB_4 (p : Program) (l : Launch) (e : Env) (s : State) (m : MethodId) (below : List Frame) (meth : Method) (c : Code) (b L : Nat) (xs : Nat → Int32) (D : va_G) (cA : Nat → ClassId) (ad : Nat → Nat) (C : LC p l s m meth c b L xs D cA ad) (i : Int32) (ni : Nat) (ei : i.toInt = (ni : Int)) (hL : L ≤ 3072) (hn : ni + 6 ≤ L) (Kc : LK p l e s m below meth c b L xs D cA ad i) : LJ p l e s m below meth c b L xs D cA ad i 352 := by
  obtain ⟨hx, hb, hml, hown, hts, hX, hbl, hK, hI, hA, hV, hl0⟩ := C
  intro σ τ H locs cells slots ls hli hP hS hcc hss hl
  obtain ⟨hR, gRI, gSI, gSIK, gBI, hsz, gTE, gRV, gVK, gVN, hfa⟩ := hli
  have hcl : cells ≤ room_1.cells := (show cells ≤ 601024 by omega)
  have hsl : slots ≤ room_1.slots := (show slots ≤ 7293034 by omega)
  have hcl1 : cells + 1 ≤ room_1.cells := (show cells + 1 ≤ 601024 by omega)
  have hsl1 : slots + 6 ≤ room_1.slots := (show slots + 6 ≤ 7293034 by omega)
  refine lv_aload_n hx hb dL_law_352 rfl (lv_at hl 1 rfl) ?_
  refine lv_aload_n hx hb dL_law_353 rfl (lv_at hl 0 rfl) ?_
  refine lv_iload hx hb dL_law_354 (lv_at hl 4 rfl) ?_
  refine r_iconst hx hb dL_law_356 (by decide) (fun z1 ez1 => ?_)
  refine r_iadd hx hb dL_law_357 (by omega) (fun z2 ez2 => ?_)
  refine q_scr (j := ni + 1) hx hb hX hbl hS (by omega) (by omega) dL_law_358 ?_
  refine lv_aload_n hx hb dL_law_359 rfl (lv_at hl 0 rfl) ?_
  refine lv_iload hx hb dL_law_360 (lv_at hl 4 rfl) ?_
  refine r_iconst hx hb dL_law_362 (by decide) (fun z3 ez3 => ?_)
  refine r_iadd hx hb dL_law_363 (by omega) (fun z4 ez4 => ?_)
  refine q_scr (j := ni + 2) hx hb hX hbl hS (by omega) (by omega) dL_law_364 ?_
  have hs5_5 := rg_8_5 hR (k := 1) (by decide) (by decide)
  refine q_cVi (k := 0) (As := [.int (xs (ni + 1)), .int (xs (ni + 2))]) (rest := []) ⟨hx, hb, hml, hown, hts⟩ hK hP hV hA hS (c_X11_hill l D cA ad hI σ τ hR (xs (ni + 1)) (xs (ni + 2))) (cwV 2 hts gL_law_X11_hill rfl rfl rfl (by decide +kernel) ⟨by decide, by decide⟩) (rv_X hK hP (by decide) (by decide)) rfl hl.1 rfl (Nat.le_of_ble_eq_true rfl) dL_law_365 hcl hsl (fun r5 u5 H5 locs5 hp5 hP hS => ?_)
  obtain ⟨σ5, τ5⟩ := u5
  obtain ⟨hR, f5, fL5⟩ : P_X11_hill σ τ (xs (ni + 1)) (xs (ni + 2)) r5 σ5 τ5 := hp5
  have hP : va_P D vwCl (gw cA ad σ5 τ5) H5 := hP
  obtain rfl := FrL.nil fL5
  obtain rfl := Fr.nil f5
  refine lv_pop hx hb dL_law_368 rfl ?_
  refine lv_aload_n hx hb dL_law_369 rfl (lv_at hl 2 rfl) ?_
  refine lv_aload_n hx hb dL_law_370 rfl (lv_at hl 0 rfl) ?_
  refine lv_iload hx hb dL_law_371 (lv_at hl 4 rfl) ?_
  refine r_iconst hx hb dL_law_373 (by decide) (fun z6 ez6 => ?_)
  refine r_iadd hx hb dL_law_374 (by omega) (fun z7 ez7 => ?_)
  refine q_scr (j := ni + 1) hx hb hX hbl hS (by omega) (by omega) dL_law_375 ?_
  refine lv_aload_n hx hb dL_law_376 rfl (lv_at hl 0 rfl) ?_
  refine lv_iload hx hb dL_law_377 (lv_at hl 4 rfl) ?_
  refine r_iconst hx hb dL_law_379 (by decide) (fun z8 ez8 => ?_)
  refine r_iadd hx hb dL_law_380 (by omega) (fun z9 ez9 => ?_)
  refine q_scr (j := ni + 2) hx hb hX hbl hS (by omega) (by omega) dL_law_381 ?_
  have hs5_10 := rg_8_5 hR (k := 1) (by decide) (by decide)
  refine q_cVi (k := 387) (As := [.int (xs (ni + 1)), .int (xs (ni + 2))]) (rest := []) ⟨hx, hb, hml, hown, hts⟩ hK hP hV hA hS (c_X12_hill l D cA ad hI σ τ hR (xs (ni + 1)) (xs (ni + 2))) (cwV 2 hts gL_law_X12_hill rfl rfl rfl (by decide +kernel) ⟨by decide, by decide⟩) (rv_M hK hP (by decide) (by decide)) rfl hl.1 rfl (Nat.le_of_ble_eq_true rfl) dL_law_382 hcl hsl (fun r10 u10 H10 locs10 hp10 hP hS => ?_)
  obtain ⟨σ10, τ10⟩ := u10
  obtain ⟨hR, f10, fL10⟩ : P_X12_hill σ τ (xs (ni + 1)) (xs (ni + 2)) r10 σ10 τ10 := hp10
  have hP : va_P D vwCl (gw cA ad σ10 τ10) H10 := hP
  obtain rfl := FrL.nil fL10
  have gRI := RI.fr gRI f10 (by decide)
  have gSI := SI.fr gSI hR f10 (by decide)
  have gSIK := SIK.fr gSIK hR f10 (by decide)
  have gBI := BI.fr gBI f10 (by decide)
  have t10_1_5 := congrArg Int32.toInt (f10.at 1 5 (by decide))
  have t10_387_2 := congrArg Int32.toInt (f10.at 387 2 (by decide))
  have t10_0_18 := congrArg Int32.toInt (f10.at 0 18 (by decide))
  have t10_387_15 := congrArg Int32.toInt (f10.at 387 15 (by decide))
  have gVK := gVK.fr f10 (by decide)
  have gVN := gVN.fr f10 (by decide) fL10 (by decide)
  have gTE := gTE.fr f10 (by decide) (by omega) (by omega)
  refine lv_pop hx hb dL_law_385 rfl ?_
  refine lv_goto (tgt := 1492) hx hb dL_law_386 (by decide) ?_
  exact Kc σ10 τ H10 locs10 (cells) (slots) ls ⟨hR, gRI, gSI, gSIK, gBI, (by omega), gTE, gRV, gVK, gVN, (by omega)⟩ hP hS (by omega) (by omega) (lv_sub hl [0, 1, 2, 3, 4] rfl)
set_option maxHeartbeats 4000000 in
theorem LB_5 (p : Program) (l : Launch) (e : Env) (s : State) (m : MethodId) (below : List Frame) (meth : Method) (c : Code) (b L : Nat) (xs : Nat → Int32) (D : va_G) (cA : Nat → ClassId) (ad : Nat → Nat) (C : LC p l s m meth c b L xs D cA ad) (i : Int32) (ni : Nat) (ei : i.toInt = (ni : Int)) (hL : L ≤ 3072) (hn : ni + 6 ≤ L) (Kc : LK p l e s m below meth c b L xs D cA ad i) : LJ p l e s m below meth c b L xs D cA ad i 389 := by
  obtain ⟨hx, hb, hml, hown, hts, hX, hbl, hK, hI, hA, hV, hl0⟩ := C
  intro σ τ H locs cells slots ls hli hP hS hcc hss hl
  obtain ⟨hR, gRI, gSI, gSIK, gBI, hsz, gTE, gRV, gVK, gVN, hfa⟩ := hli
  have hcl : cells ≤ room_1.cells := (show cells ≤ 601024 by omega)
  have hsl : slots ≤ room_1.slots := (show slots ≤ 7293034 by omega)
  have hcl1 : cells + 1 ≤ room_1.cells := (show cells + 1 ≤ 601024 by omega)
  have hsl1 : slots + 6 ≤ room_1.slots := (show slots + 6 ≤ 7293034 by omega)
  refine lv_aload_n hx hb dL_law_389 rfl (lv_at hl 1 rfl) ?_
  refine lv_aload_n hx hb dL_law_390 rfl (lv_at hl 0 rfl) ?_
  refine lv_iload hx hb dL_law_391 (lv_at hl 4 rfl) ?_
  refine r_iconst hx hb dL_law_393 (by decide) (fun z1 ez1 => ?_)
  refine r_iadd hx hb dL_law_394 (by omega) (fun z2 ez2 => ?_)
  refine q_scr (j := ni + 1) hx hb hX hbl hS (by omega) (by omega) dL_law_395 ?_
  refine lv_aload_n hx hb dL_law_396 rfl (lv_at hl 0 rfl) ?_
  refine lv_iload hx hb dL_law_397 (lv_at hl 4 rfl) ?_
  refine r_iconst hx hb dL_law_399 (by decide) (fun z3 ez3 => ?_)
  refine r_iadd hx hb dL_law_400 (by omega) (fun z4 ez4 => ?_)
  refine q_scr (j := ni + 2) hx hb hX hbl hS (by omega) (by omega) dL_law_401 ?_
  refine lv_aload_n hx hb dL_law_402 rfl (lv_at hl 3 rfl) ?_
  refine q_xSi (As := [.ref (ad 0), .int (xs (ni + 1)), .int (xs (ni + 2)), .ref (ad 406)]) (rest := []) ⟨hx, hb, hml, hown, hts⟩ hK hP hV hA hS (c_L_man l hl0 D cA ad hI σ τ hR (xs (ni + 1)) (xs (ni + 2))) (vx_cwSW 4 hts gL_law_L_man rfl rfl rfl (by decide +kernel) ⟨by decide, by decide⟩) rfl hl.1 rfl (Nat.le_of_ble_eq_true rfl) dL_law_403 hcl1 hsl1 (fun r5 u5 H5 locs5 hp5 hP hS => ?_)
  have hs5_5 := rg_8_5 hR (k := 1) (by decide) (by decide)
  obtain ⟨σ5, τ5⟩ := u5
  obtain ⟨hR, f5, fL5⟩ : Rg σ5 ∧ Fr L_X11_man σ σ5 ∧ FrL (LO LL_X11_man) τ τ5 := hp5
  have hP : va_P D vwCl (gw cA ad σ5 τ5) H5 := hP
  have gRV := gRV.agL (AgrL.fr fL5 (by decide))
  obtain rfl := Fr.nil f5
  have gVN := VN.fr (L := []) gVN Fr.rf (by decide) fL5 (by decide)
  have hcl : cells + 1 ≤ room_1.cells := hcl1
  have hsl : slots + 6 ≤ room_1.slots := hsl1
  refine lv_istore (lv' := [(5, .int r5), (0, .ref b), (1, .ref (ad 0)), (2, .ref (ad 387)), (3, .ref (ad 406)), (4, .int i)]) hx hb dL_law_406 hl (by decide) rfl (fun ls hl => ?_)
  refine lv_aload_n hx hb dL_law_408 rfl (lv_at hl 3 rfl) ?_
  refine lv_aload_n hx hb dL_law_409 rfl (lv_at hl 1 rfl) ?_
  refine lv_iload hx hb dL_law_410 (lv_at hl 5 rfl) ?_
  refine r_iconst hx hb dL_law_412 (by decide) (fun z6 ez6 => ?_)
  refine r_iadd hx hb dL_law_413 (by omega) (fun z7 ez7 => ?_)
  refine q_scr (j := ni + 1) hx hb hX hbl hS (by omega) (by omega) dL_law_414 ?_
  refine lv_aload_n hx hb dL_law_415 rfl (lv_at hl 1 rfl) ?_
  refine lv_iload hx hb dL_law_416 (lv_at hl 5 rfl) ?_
  refine r_iconst hx hb dL_law_418 (by decide) (fun z8 ez8 => ?_)
  refine r_iadd hx hb dL_law_419 (by omega) (fun z9 ez9 => ?_)
  refine q_scr (j := ni + 2) hx hb hX hbl hS (by omega) (by omega) dL_law_420 ?_
  have hs5_10 := rg_8_5 hR (k := 1) (by decide) (by decide)
  refine q_cVi (k := 387) (As := [.int (xs (ni + 1)), .int (xs (ni + 2))]) (rest := []) ⟨hx, hb, hml, hown, hts⟩ hK hP hV hA hS (c_X12_man l D cA ad hI σ τ5 hR (xs (ni + 1)) (xs (ni + 2))) (cwV 2 hts gL_law_X12_man rfl rfl rfl (by decide +kernel) ⟨by decide, by decide⟩) (rv_M hK hP (by decide) (by decide)) rfl hl.1 rfl (Nat.le_of_ble_eq_true rfl) dL_law_421 hcl hsl (fun r10 u10 H10 locs10 hp10 hP hS => ?_)
  obtain ⟨σ10, τ10⟩ := u10
  obtain ⟨hR, f10, fL10⟩ : P_X12_man σ τ5 (xs (ni + 1)) (xs (ni + 2)) r10 σ10 τ10 := hp10
  have hP : va_P D vwCl (gw cA ad σ10 τ10) H10 := hP
  obtain rfl := FrL.nil fL10
  have gRI := RI.fr gRI f10 (by decide)
  have gSI := SI.fr gSI hR f10 (by decide)
  have gSIK := SIK.fr gSIK hR f10 (by decide)
  have gBI := BI.fr gBI f10 (by decide)
  have t10_1_5 := congrArg Int32.toInt (f10.at 1 5 (by decide))
  have t10_387_2 := congrArg Int32.toInt (f10.at 387 2 (by decide))
  have t10_0_18 := congrArg Int32.toInt (f10.at 0 18 (by decide))
  have t10_387_15 := congrArg Int32.toInt (f10.at 387 15 (by decide))
  have gVK := gVK.fr f10 (by decide)
  have gVN := gVN.fr f10 (by decide) fL10 (by decide)
  have gTE := gTE.fr f10 (by decide) (by omega) (by omega)
  refine lv_istore (lv' := [(6, .int r10), (5, .int r5), (0, .ref b), (1, .ref (ad 0)), (2, .ref (ad 387)), (3, .ref (ad 406)), (4, .int i)]) hx hb dL_law_424 hl (by decide) rfl (fun ls hl => ?_)
  refine lv_goto (tgt := 1492) hx hb dL_law_426 (by decide) ?_
  exact Kc σ10 τ5 H10 locs10 (cells + 1) (slots + 6) ls ⟨hR, gRI, gSI, gSIK, gBI, (by omega), gTE, gRV, gVK, gVN, (by omega)⟩ hP hS (by omega) (by omega) (lv_sub hl [2, 3, 4, 5, 6] rfl)
set_option maxHeartbeats 4000000 in
theorem LB_6 (p : Program) (l : Launch) (e : Env) (s : State) (m : MethodId) (below : List Frame) (meth : Method) (c : Code) (b L : Nat) (xs : Nat → Int32) (D : va_G) (cA : Nat → ClassId) (ad : Nat → Nat) (C : LC p l s m meth c b L xs D cA ad) (i : Int32) (ni : Nat) (ei : i.toInt = (ni : Int)) (hL : L ≤ 3072) (hn : ni + 6 ≤ L) (Kc : LK p l e s m below meth c b L xs D cA ad i) : LJ p l e s m below meth c b L xs D cA ad i 429 := by
  obtain ⟨hx, hb, hml, hown, hts, hX, hbl, hK, hI, hA, hV, hl0⟩ := C
  intro σ τ H locs cells slots ls hli hP hS hcc hss hl
  obtain ⟨hR, gRI, gSI, gSIK, gBI, hsz, gTE, gRV, gVK, gVN, hfa⟩ := hli
  have hcl : cells ≤ room_1.cells := (show cells ≤ 601024 by omega)
  have hsl : slots ≤ room_1.slots := (show slots ≤ 7293034 by omega)
  have hcl1 : cells + 1 ≤ room_1.cells := (show cells + 1 ≤ 601024 by omega)
  have hsl1 : slots + 6 ≤ room_1.slots := (show slots + 6 ≤ 7293034 by omega)
  refine lv_aload_n hx hb dL_law_429 rfl (lv_at hl 1 rfl) ?_
  refine lv_aload_n hx hb dL_law_430 rfl (lv_at hl 0 rfl) ?_
  refine lv_iload hx hb dL_law_431 (lv_at hl 4 rfl) ?_
  refine r_iconst hx hb dL_law_433 (by decide) (fun z1 ez1 => ?_)
  refine r_iadd hx hb dL_law_434 (by omega) (fun z2 ez2 => ?_)
  refine q_scr (j := ni + 1) hx hb hX hbl hS (by omega) (by omega) dL_law_435 ?_
  refine lv_aload_n hx hb dL_law_436 rfl (lv_at hl 0 rfl) ?_
  refine lv_iload hx hb dL_law_437 (lv_at hl 4 rfl) ?_
  refine r_iconst hx hb dL_law_439 (by decide) (fun z3 ez3 => ?_)
  refine r_iadd hx hb dL_law_440 (by omega) (fun z4 ez4 => ?_)
  refine q_scr (j := ni + 2) hx hb hX hbl hS (by omega) (by omega) dL_law_441 ?_
  have hs5_5 := rg_8_5 hR (k := 1) (by decide) (by decide)
  refine q_cVi (k := 0) (As := [.int (xs (ni + 1)), .int (xs (ni + 2))]) (rest := []) ⟨hx, hb, hml, hown, hts⟩ hK hP hV hA hS (c_X11_flight l D cA ad hI σ τ hR (xs (ni + 1)) (xs (ni + 2)) (fun j : Nat => (σ 389 j).toInt) gVK.1) (cwV 2 hts gL_law_X11_flight rfl rfl rfl (by decide +kernel) ⟨by decide, by decide⟩) (rv_X hK hP (by decide) (by decide)) rfl hl.1 rfl (Nat.le_of_ble_eq_true rfl) dL_law_442 hcl hsl (fun r5 u5 H5 locs5 hp5 hP hS => ?_)
  obtain ⟨σ5, τ5⟩ := u5
  obtain ⟨hR, f5, fL5, ho5_0⟩ : P_X11_flight σ τ (xs (ni + 1)) (xs (ni + 2)) (fun j : Nat => (σ 389 j).toInt) r5 σ5 τ5 := hp5
  have hP : va_P D vwCl (gw cA ad σ5 τ5) H5 := hP
  obtain rfl := FrL.nil fL5
  obtain rfl := Fr.nil f5
  refine lv_pop hx hb dL_law_445 rfl ?_
  refine lv_aload_n hx hb dL_law_446 rfl (lv_at hl 2 rfl) ?_
  refine lv_aload_n hx hb dL_law_447 rfl (lv_at hl 0 rfl) ?_
  refine lv_iload hx hb dL_law_448 (lv_at hl 4 rfl) ?_
  refine r_iconst hx hb dL_law_450 (by decide) (fun z6 ez6 => ?_)
  refine r_iadd hx hb dL_law_451 (by omega) (fun z7 ez7 => ?_)
  refine q_scr (j := ni + 1) hx hb hX hbl hS (by omega) (by omega) dL_law_452 ?_
  refine lv_aload_n hx hb dL_law_453 rfl (lv_at hl 0 rfl) ?_
  refine lv_iload hx hb dL_law_454 (lv_at hl 4 rfl) ?_
  refine r_iconst hx hb dL_law_456 (by decide) (fun z8 ez8 => ?_)
  refine r_iadd hx hb dL_law_457 (by omega) (fun z9 ez9 => ?_)
  refine q_scr (j := ni + 2) hx hb hX hbl hS (by omega) (by omega) dL_law_458 ?_
  have hs5_10 := rg_8_5 hR (k := 1) (by decide) (by decide)
  refine q_cVi (k := 387) (As := [.int (xs (ni + 1)), .int (xs (ni + 2))]) (rest := []) ⟨hx, hb, hml, hown, hts⟩ hK hP hV hA hS (c_X12_flight l D cA ad hI σ τ hR (xs (ni + 1)) (xs (ni + 2))) (cwV 2 hts gL_law_X12_flight rfl rfl rfl (by decide +kernel) ⟨by decide, by decide⟩) (rv_M hK hP (by decide) (by decide)) rfl hl.1 rfl (Nat.le_of_ble_eq_true rfl) dL_law_459 hcl hsl (fun r10 u10 H10 locs10 hp10 hP hS => ?_)
  obtain ⟨σ10, τ10⟩ := u10
  obtain ⟨hR, f10, fL10, ho10_0⟩ : P_X12_flight σ τ (xs (ni + 1)) (xs (ni + 2)) r10 σ10 τ10 := hp10
  have hP : va_P D vwCl (gw cA ad σ10 τ10) H10 := hP
  obtain rfl := FrL.nil fL10
  have gRI := RI.fr gRI f10 (by decide)
  have gSI := SI.fr gSI hR f10 (by decide)
  have gSIK := SIK.fr gSIK hR f10 (by decide)
  have gBI := BI.fr gBI f10 (by decide)
  have t10_1_5 := congrArg Int32.toInt (f10.at 1 5 (by decide))
  have t10_387_2 := congrArg Int32.toInt (f10.at 387 2 (by decide))
  have t10_0_18 := congrArg Int32.toInt (f10.at 0 18 (by decide))
  have t10_387_15 := congrArg Int32.toInt (f10.at 387 15 (by decide))
  have gVK := gVK.fr f10 (by decide)
  have gVN := gVN.fr f10 (by decide) fL10 (by decide)
  have gTE := gTE.fr f10 (by decide) (by omega) (by omega)
  refine lv_pop hx hb dL_law_462 rfl ?_
  refine lv_goto (tgt := 1492) hx hb dL_law_463 (by decide) ?_
  exact Kc σ10 τ H10 locs10 (cells) (slots) ls ⟨hR, gRI, gSI, gSIK, gBI, (by omega), gTE, gRV, gVK, gVN, (by omega)⟩ hP hS (by omega) (by omega) (lv_sub hl [0, 1, 2, 3, 4] rfl)
set_option maxHeartbeats 4000000 in
theorem LB_7 (p : Program) (l : Launch) (e : Env) (s : State) (m : MethodId) (below : List Frame) (meth : Method) (c : Code) (b L : Nat) (xs : Nat → Int32) (D : va_G) (cA : Nat → ClassId) (ad : Nat → Nat) (C : LC p l s m meth c b L xs D cA ad) (i : Int32) (ni : Nat) (ei : i.toInt = (ni : Int)) (hL : L ≤ 3072) (hn : ni + 6 ≤ L) (Kc : LK p l e s m below meth c b L xs D cA ad i) : LJ p l e s m below meth c b L xs D cA ad i 466 := by
  obtain ⟨hx, hb, hml, hown, hts, hX, hbl, hK, hI, hA, hV, hl0⟩ := C
  intro σ τ H locs cells slots ls hli hP hS hcc hss hl
  obtain ⟨hR, gRI, gSI, gSIK, gBI, hsz, gTE, gRV, gVK, gVN, hfa⟩ := hli
  have hcl : cells ≤ room_1.cells := (show cells ≤ 601024 by omega)
  have hsl : slots ≤ room_1.slots := (show slots ≤ 7293034 by omega)
  have hcl1 : cells + 1 ≤ room_1.cells := (show cells + 1 ≤ 601024 by omega)
  have hsl1 : slots + 6 ≤ room_1.slots := (show slots + 6 ≤ 7293034 by omega)
  refine lv_aload_n hx hb dL_law_466 rfl (lv_at hl 1 rfl) ?_
  refine lv_aload_n hx hb dL_law_467 rfl (lv_at hl 0 rfl) ?_
  refine lv_iload hx hb dL_law_468 (lv_at hl 4 rfl) ?_
  refine r_iconst hx hb dL_law_470 (by decide) (fun z1 ez1 => ?_)
  refine r_iadd hx hb dL_law_471 (by omega) (fun z2 ez2 => ?_)
  refine q_scr (j := ni + 1) hx hb hX hbl hS (by omega) (by omega) dL_law_472 ?_
  refine lv_aload_n hx hb dL_law_473 rfl (lv_at hl 0 rfl) ?_
  refine lv_iload hx hb dL_law_474 (lv_at hl 4 rfl) ?_
  refine r_iconst hx hb dL_law_476 (by decide) (fun z3 ez3 => ?_)
  refine r_iadd hx hb dL_law_477 (by omega) (fun z4 ez4 => ?_)
  refine q_scr (j := ni + 2) hx hb hX hbl hS (by omega) (by omega) dL_law_478 ?_
  refine lv_aload_n hx hb dL_law_479 rfl (lv_at hl 0 rfl) ?_
  refine lv_iload hx hb dL_law_480 (lv_at hl 4 rfl) ?_
  refine r_iconst hx hb dL_law_482 (by decide) (fun z5 ez5 => ?_)
  refine r_iadd hx hb dL_law_483 (by omega) (fun z6 ez6 => ?_)
  refine q_scr (j := ni + 3) hx hb hX hbl hS (by omega) (by omega) dL_law_484 ?_
  have hs5_7 := rg_8_5 hR (k := 1) (by decide) (by decide)
  refine q_cVi (k := 0) (As := [.int (xs (ni + 1)), .int (xs (ni + 2)), .int (xs (ni + 3))]) (rest := []) ⟨hx, hb, hml, hown, hts⟩ hK hP hV hA hS (c_X11_call l D cA ad hI σ τ hR (xs (ni + 1)) (xs (ni + 2)) (xs (ni + 3)) (fun j : Nat => (σ 389 j).toInt) gVK.1) (cwV 3 hts gL_law_X11_call rfl rfl rfl (by decide +kernel) ⟨by decide, by decide⟩) (rv_X hK hP (by decide) (by decide)) rfl hl.1 rfl (Nat.le_of_ble_eq_true rfl) dL_law_485 hcl hsl (fun r7 u7 H7 locs7 hp7 hP hS => ?_)
  obtain ⟨σ7, τ7⟩ := u7
  obtain ⟨hR, f7, fL7, ho7_0⟩ : P_X11_call σ τ (xs (ni + 1)) (xs (ni + 2)) (xs (ni + 3)) (fun j : Nat => (σ 389 j).toInt) r7 σ7 τ7 := hp7
  have hP : va_P D vwCl (gw cA ad σ7 τ7) H7 := hP
  obtain rfl := FrL.nil fL7
  obtain rfl := Fr.nil f7
  refine lv_pop hx hb dL_law_488 rfl ?_
  refine lv_aload_n hx hb dL_law_489 rfl (lv_at hl 2 rfl) ?_
  refine lv_aload_n hx hb dL_law_490 rfl (lv_at hl 0 rfl) ?_
  refine lv_iload hx hb dL_law_491 (lv_at hl 4 rfl) ?_
  refine r_iconst hx hb dL_law_493 (by decide) (fun z8 ez8 => ?_)
  refine r_iadd hx hb dL_law_494 (by omega) (fun z9 ez9 => ?_)
  refine q_scr (j := ni + 1) hx hb hX hbl hS (by omega) (by omega) dL_law_495 ?_
  refine lv_aload_n hx hb dL_law_496 rfl (lv_at hl 0 rfl) ?_
  refine lv_iload hx hb dL_law_497 (lv_at hl 4 rfl) ?_
  refine r_iconst hx hb dL_law_499 (by decide) (fun z10 ez10 => ?_)
  refine r_iadd hx hb dL_law_500 (by omega) (fun z11 ez11 => ?_)
  refine q_scr (j := ni + 2) hx hb hX hbl hS (by omega) (by omega) dL_law_501 ?_
  refine lv_aload_n hx hb dL_law_502 rfl (lv_at hl 0 rfl) ?_
  refine lv_iload hx hb dL_law_503 (lv_at hl 4 rfl) ?_
  refine r_iconst hx hb dL_law_505 (by decide) (fun z12 ez12 => ?_)
  refine r_iadd hx hb dL_law_506 (by omega) (fun z13 ez13 => ?_)
  refine q_scr (j := ni + 3) hx hb hX hbl hS (by omega) (by omega) dL_law_507 ?_
  have hs5_14 := rg_8_5 hR (k := 1) (by decide) (by decide)
  refine q_cVi (k := 387) (As := [.int (xs (ni + 1)), .int (xs (ni + 2)), .int (xs (ni + 3))]) (rest := []) ⟨hx, hb, hml, hown, hts⟩ hK hP hV hA hS (c_X12_call l D cA ad hI σ τ hR (xs (ni + 1)) (xs (ni + 2)) (xs (ni + 3))) (cwV 3 hts gL_law_X12_call rfl rfl rfl (by decide +kernel) ⟨by decide, by decide⟩) (rv_M hK hP (by decide) (by decide)) rfl hl.1 rfl (Nat.le_of_ble_eq_true rfl) dL_law_508 hcl hsl (fun r14 u14 H14 locs14 hp14 hP hS => ?_)
  obtain ⟨σ14, τ14⟩ := u14
  obtain ⟨hR, f14, fL14, ho14_0⟩ : P_X12_call σ τ (xs (ni + 1)) (xs (ni + 2)) (xs (ni + 3)) r14 σ14 τ14 := hp14
  have hP : va_P D vwCl (gw cA ad σ14 τ14) H14 := hP
  obtain rfl := FrL.nil fL14
  have gRI := RI.fr gRI f14 (by decide)
  have gSI := SI.fr gSI hR f14 (by decide)
  have gSIK := SIK.fr gSIK hR f14 (by decide)
  have gBI := BI.fr gBI f14 (by decide)
  have t14_1_5 := congrArg Int32.toInt (f14.at 1 5 (by decide))
  have t14_387_2 := congrArg Int32.toInt (f14.at 387 2 (by decide))
  have t14_0_18 := congrArg Int32.toInt (f14.at 0 18 (by decide))
  have t14_387_15 := congrArg Int32.toInt (f14.at 387 15 (by decide))
  have gVK := gVK.fr f14 (by decide)
  have gVN := gVN.fr f14 (by decide) fL14 (by decide)
  have gTE := gTE.fr f14 (by decide) (by omega) (by omega)
  refine lv_pop hx hb dL_law_511 rfl ?_
  refine lv_goto (tgt := 1492) hx hb dL_law_512 (by decide) ?_
  exact Kc σ14 τ H14 locs14 (cells) (slots) ls ⟨hR, gRI, gSI, gSIK, gBI, (by omega), gTE, gRV, gVK, gVN, (by omega)⟩ hP hS (by omega) (by omega) (lv_sub hl [0, 1, 2, 3, 4] rfl)
set_option maxHeartbeats 4000000 in
theorem LB_8 (p : Program) (l : Launch) (e : Env) (s : State) (m : MethodId) (below : List Frame) (meth : Method) (c : Code) (b L : Nat) (xs : Nat → Int32) (D : va_G) (cA : Nat → ClassId) (ad : Nat → Nat) (C : LC p l s m meth c b L xs D cA ad) (i : Int32) (ni : Nat) (ei : i.toInt = (ni : Int)) (hL : L ≤ 3072) (hn : ni + 6 ≤ L) (Kc : LK p l e s m below meth c b L xs D cA ad i) : LJ p l e s m below meth c b L xs D cA ad i 515 := by
  obtain ⟨hx, hb, hml, hown, hts, hX, hbl, hK, hI, hA, hV, hl0⟩ := C
  intro σ τ H locs cells slots ls hli hP hS hcc hss hl
  obtain ⟨hR, gRI, gSI, gSIK, gBI, hsz, gTE, gRV, gVK, gVN, hfa⟩ := hli
  have hcl : cells ≤ room_1.cells := (show cells ≤ 601024 by omega)
  have hsl : slots ≤ room_1.slots := (show slots ≤ 7293034 by omega)
  have hcl1 : cells + 1 ≤ room_1.cells := (show cells + 1 ≤ 601024 by omega)
  have hsl1 : slots + 6 ≤ room_1.slots := (show slots + 6 ≤ 7293034 by omega)
  refine lv_aload_n hx hb dL_law_515 rfl (lv_at hl 1 rfl) ?_
  refine lv_aload_n hx hb dL_law_516 rfl (lv_at hl 0 rfl) ?_
  refine lv_iload hx hb dL_law_517 (lv_at hl 4 rfl) ?_
  refine r_iconst hx hb dL_law_519 (by decide) (fun z1 ez1 => ?_)
  refine r_iadd hx hb dL_law_520 (by omega) (fun z2 ez2 => ?_)
  refine q_scr (j := ni + 1) hx hb hX hbl hS (by omega) (by omega) dL_law_521 ?_
  have hs5_3 := rg_8_5 hR (k := 1) (by decide) (by decide)
  refine q_cVi (k := 0) (As := [.int (xs (ni + 1))]) (rest := []) ⟨hx, hb, hml, hown, hts⟩ hK hP hV hA hS (c_X11_now l D cA ad hI σ τ hR (xs (ni + 1))) (cwV 1 hts gL_law_X11_now rfl rfl rfl (by decide +kernel) ⟨by decide, by decide⟩) (rv_X hK hP (by decide) (by decide)) rfl hl.1 rfl (Nat.le_of_ble_eq_true rfl) dL_law_522 hcl hsl (fun r3 u3 H3 locs3 hp3 hP hS => ?_)
  obtain ⟨σ3, τ3⟩ := u3
  obtain ⟨hR, f3, fL3⟩ : P_X11_now σ τ (xs (ni + 1)) r3 σ3 τ3 := hp3
  have hP : va_P D vwCl (gw cA ad σ3 τ3) H3 := hP
  obtain rfl := FrL.nil fL3
  obtain rfl := Fr.nil f3
  refine lv_pop hx hb dL_law_525 rfl ?_
  refine lv_aload_n hx hb dL_law_526 rfl (lv_at hl 2 rfl) ?_
  refine lv_aload_n hx hb dL_law_527 rfl (lv_at hl 0 rfl) ?_
  refine lv_iload hx hb dL_law_528 (lv_at hl 4 rfl) ?_
  refine r_iconst hx hb dL_law_530 (by decide) (fun z4 ez4 => ?_)
  refine r_iadd hx hb dL_law_531 (by omega) (fun z5 ez5 => ?_)
  refine q_scr (j := ni + 1) hx hb hX hbl hS (by omega) (by omega) dL_law_532 ?_
  have hs5_6 := rg_8_5 hR (k := 1) (by decide) (by decide)
  refine q_cVi (k := 387) (As := [.int (xs (ni + 1))]) (rest := []) ⟨hx, hb, hml, hown, hts⟩ hK hP hV hA hS (c_X12_now l D cA ad hI σ τ hR (xs (ni + 1))) (cwV 1 hts gL_law_X12_now rfl rfl rfl (by decide +kernel) ⟨by decide, by decide⟩) (rv_M hK hP (by decide) (by decide)) rfl hl.1 rfl (Nat.le_of_ble_eq_true rfl) dL_law_533 hcl hsl (fun r6 u6 H6 locs6 hp6 hP hS => ?_)
  obtain ⟨σ6, τ6⟩ := u6
  obtain ⟨hR, f6, fL6⟩ : P_X12_now σ τ (xs (ni + 1)) r6 σ6 τ6 := hp6
  have hP : va_P D vwCl (gw cA ad σ6 τ6) H6 := hP
  obtain rfl := FrL.nil fL6
  have gRI := RI.fr gRI f6 (by decide)
  have gSI := SI.fr gSI hR f6 (by decide)
  have gSIK := SIK.fr gSIK hR f6 (by decide)
  have gBI := BI.fr gBI f6 (by decide)
  have t6_1_5 := congrArg Int32.toInt (f6.at 1 5 (by decide))
  have t6_387_2 := congrArg Int32.toInt (f6.at 387 2 (by decide))
  have t6_0_18 := congrArg Int32.toInt (f6.at 0 18 (by decide))
  have t6_387_15 := congrArg Int32.toInt (f6.at 387 15 (by decide))
  have gVK := gVK.fr f6 (by decide)
  have gVN := gVN.fr f6 (by decide) fL6 (by decide)
  have gTE := gTE.fr f6 (by decide) (by omega) (by omega)
  refine lv_pop hx hb dL_law_536 rfl ?_
  refine lv_goto (tgt := 1492) hx hb dL_law_537 (by decide) ?_
  exact Kc σ6 τ H6 locs6 (cells) (slots) ls ⟨hR, gRI, gSI, gSIK, gBI, (by omega), gTE, gRV, gVK, gVN, (by omega)⟩ hP hS (by omega) (by omega) (lv_sub hl [0, 1, 2, 3, 4] rfl)
set_option maxHeartbeats 4000000 in
theorem LB_9 (p : Program) (l : Launch) (e : Env) (s : State) (m : MethodId) (below : List Frame) (meth : Method) (c : Code) (b L : Nat) (xs : Nat → Int32) (D : va_G) (cA : Nat → ClassId) (ad : Nat → Nat) (C : LC p l s m meth c b L xs D cA ad) (i : Int32) (ni : Nat) (ei : i.toInt = (ni : Int)) (hL : L ≤ 3072) (hn : ni + 6 ≤ L) (Kc : LK p l e s m below meth c b L xs D cA ad i) : LJ p l e s m below meth c b L xs D cA ad i 540 := by
  obtain ⟨hx, hb, hml, hown, hts, hX, hbl, hK, hI, hA, hV, hl0⟩ := C
  intro σ τ H locs cells slots ls hli hP hS hcc hss hl
  obtain ⟨hR, gRI, gSI, gSIK, gBI, hsz, gTE, gRV, gVK, gVN, hfa⟩ := hli
  have hcl : cells ≤ room_1.cells := (show cells ≤ 601024 by omega)
  have hsl : slots ≤ room_1.slots := (show slots ≤ 7293034 by omega)
  have hcl1 : cells + 1 ≤ room_1.cells := (show cells + 1 ≤ 601024 by omega)
  have hsl1 : slots + 6 ≤ room_1.slots := (show slots + 6 ≤ 7293034 by omega)
  refine lv_aload_n hx hb dL_law_540 rfl (lv_at hl 1 rfl) ?_
  refine lv_aload_n hx hb dL_law_541 rfl (lv_at hl 0 rfl) ?_
  refine lv_iload hx hb dL_law_542 (lv_at hl 4 rfl) ?_
  refine r_iconst hx hb dL_law_544 (by decide) (fun z1 ez1 => ?_)
  refine r_iadd hx hb dL_law_545 (by omega) (fun z2 ez2 => ?_)
  refine q_scr (j := ni + 1) hx hb hX hbl hS (by omega) (by omega) dL_law_546 ?_
  have hs5_3 := rg_8_5 hR (k := 1) (by decide) (by decide)
  refine q_cVi (k := 0) (As := [.int (xs (ni + 1))]) (rest := []) ⟨hx, hb, hml, hown, hts⟩ hK hP hV hA hS (c_X11_comes l D cA ad hI σ τ hR (xs (ni + 1))) (cwV 1 hts gL_law_X11_comes rfl rfl rfl (by decide +kernel) ⟨by decide, by decide⟩) (rv_X hK hP (by decide) (by decide)) rfl hl.1 rfl (Nat.le_of_ble_eq_true rfl) dL_law_547 hcl hsl (fun r3 u3 H3 locs3 hp3 hP hS => ?_)
  obtain ⟨σ3, τ3⟩ := u3
  obtain ⟨hR, f3, fL3, hq3⟩ : P_X11_comes σ τ (xs (ni + 1)) r3 σ3 τ3 := hp3
  have hP : va_P D vwCl (gw cA ad σ3 τ3) H3 := hP
  obtain rfl := FrL.nil fL3
  have gRI := RI.fr gRI f3 (by decide)
  have gSI := SI.fr gSI hR f3 (by decide)
  have gSIK := SIK.fr gSIK hR f3 (by decide)
  have gBI := BI.fr gBI f3 (by decide)
  have t3_1_5 := congrArg Int32.toInt (f3.at 1 5 (by decide))
  have t3_387_2 := congrArg Int32.toInt (f3.at 387 2 (by decide))
  have t3_0_18 := congrArg Int32.toInt (f3.at 0 18 (by decide))
  have t3_387_15 := congrArg Int32.toInt (f3.at 387 15 (by decide))
  have gVK := gVK.fr f3 (by decide)
  have gVN := gVN.fr f3 (by decide) fL3 (by decide)
  have gTE := gTE.fr f3 (by decide) (by omega) (by omega)
  refine lv_pop hx hb dL_law_550 rfl ?_
  refine lv_aload_n hx hb dL_law_551 rfl (lv_at hl 2 rfl) ?_
  refine lv_aload_n hx hb dL_law_552 rfl (lv_at hl 0 rfl) ?_
  refine lv_iload hx hb dL_law_553 (lv_at hl 4 rfl) ?_
  refine r_iconst hx hb dL_law_555 (by decide) (fun z4 ez4 => ?_)
  refine r_iadd hx hb dL_law_556 (by omega) (fun z5 ez5 => ?_)
  refine q_scr (j := ni + 1) hx hb hX hbl hS (by omega) (by omega) dL_law_557 ?_
  have hs5_6 := rg_8_5 hR (k := 1) (by decide) (by decide)
  refine q_cVi (k := 387) (As := [.int (xs (ni + 1))]) (rest := []) ⟨hx, hb, hml, hown, hts⟩ hK hP hV hA hS (c_X12_comes l D cA ad hI σ3 τ hR (xs (ni + 1))) (cwV 1 hts gL_law_X12_comes rfl rfl rfl (by decide +kernel) ⟨by decide, by decide⟩) (rv_M hK hP (by decide) (by decide)) rfl hl.1 rfl (Nat.le_of_ble_eq_true rfl) dL_law_558 hcl hsl (fun r6 u6 H6 locs6 hp6 hP hS => ?_)
  obtain ⟨σ6, τ6⟩ := u6
  obtain ⟨hR, f6, fL6, hq6⟩ : P_X12_comes σ3 τ (xs (ni + 1)) r6 σ6 τ6 := hp6
  have hP : va_P D vwCl (gw cA ad σ6 τ6) H6 := hP
  obtain rfl := FrL.nil fL6
  have gRI := RI.fr gRI f6 (by decide)
  have gSI := SI.fr gSI hR f6 (by decide)
  have gSIK := SIK.fr gSIK hR f6 (by decide)
  have gBI := BI.fr gBI f6 (by decide)
  have t6_1_5 := congrArg Int32.toInt (f6.at 1 5 (by decide))
  have t6_387_2 := congrArg Int32.toInt (f6.at 387 2 (by decide))
  have t6_0_18 := congrArg Int32.toInt (f6.at 0 18 (by decide))
  have t6_387_15 := congrArg Int32.toInt (f6.at 387 15 (by decide))
  have gVK := gVK.fr f6 (by decide)
  have gVN := gVN.fr f6 (by decide) fL6 (by decide)
  have gTE := gTE.fr f6 (by decide) (by omega) (by omega)
  refine lv_pop hx hb dL_law_561 rfl ?_
  refine lv_goto (tgt := 1492) hx hb dL_law_562 (by decide) ?_
  exact Kc σ6 τ H6 locs6 (cells) (slots) ls ⟨hR, gRI, gSI, gSIK, gBI, (by omega), gTE, gRV, gVK, gVN, (by omega)⟩ hP hS (by omega) (by omega) (lv_sub hl [0, 1, 2, 3, 4] rfl)
set_option maxHeartbeats 4000000 in
theorem LB_10 (p : Program) (l : Launch) (e : Env) (s : State) (m : MethodId) (below : List Frame) (meth : Method) (c : Code) (b L : Nat) (xs : Nat → Int32) (D : va_G) (cA : Nat → ClassId) (ad : Nat → Nat) (C : LC p l s m meth c b L xs D cA ad) (i : Int32) (ni : Nat) (ei : i.toInt = (ni : Int)) (hL : L ≤ 3072) (hn : ni + 6 ≤ L) (Kc : LK p l e s m below meth c b L xs D cA ad i) : LJ p l e s m below meth c b L xs D cA ad i 565 := by
  obtain ⟨hx, hb, hml, hown, hts, hX, hbl, hK, hI, hA, hV, hl0⟩ := C
  intro σ τ H locs cells slots ls hli hP hS hcc hss hl
  obtain ⟨hR, gRI, gSI, gSIK, gBI, hsz, gTE, gRV, gVK, gVN, hfa⟩ := hli
  have hcl : cells ≤ room_1.cells := (show cells ≤ 601024 by omega)
  have hsl : slots ≤ room_1.slots := (show slots ≤ 7293034 by omega)
  have hcl1 : cells + 1 ≤ room_1.cells := (show cells + 1 ≤ 601024 by omega)
  have hsl1 : slots + 6 ≤ room_1.slots := (show slots + 6 ≤ 7293034 by omega)
  refine lv_aload_n hx hb dL_law_565 rfl (lv_at hl 1 rfl) ?_
  refine lv_aload_n hx hb dL_law_566 rfl (lv_at hl 0 rfl) ?_
  refine lv_iload hx hb dL_law_567 (lv_at hl 4 rfl) ?_
  refine r_iconst hx hb dL_law_569 (by decide) (fun z1 ez1 => ?_)
  refine r_iadd hx hb dL_law_570 (by omega) (fun z2 ez2 => ?_)
  refine q_scr (j := ni + 1) hx hb hX hbl hS (by omega) (by omega) dL_law_571 ?_
  have hs5_3 := rg_8_5 hR (k := 1) (by decide) (by decide)
  refine q_cVi (k := 0) (As := [.int (xs (ni + 1))]) (rest := []) ⟨hx, hb, hml, hown, hts⟩ hK hP hV hA hS (c_X11_hours l D cA ad hI σ τ hR (xs (ni + 1))) (cwV 1 hts gL_law_X11_hours rfl rfl rfl (by decide +kernel) ⟨by decide, by decide⟩) (rv_X hK hP (by decide) (by decide)) rfl hl.1 rfl (Nat.le_of_ble_eq_true rfl) dL_law_572 hcl hsl (fun r3 u3 H3 locs3 hp3 hP hS => ?_)
  obtain ⟨σ3, τ3⟩ := u3
  obtain ⟨hR, f3, fL3⟩ : P_X11_hours σ τ (xs (ni + 1)) r3 σ3 τ3 := hp3
  have hP : va_P D vwCl (gw cA ad σ3 τ3) H3 := hP
  obtain rfl := FrL.nil fL3
  have gRI := RI.fr gRI f3 (by decide)
  have gSI := SI.fr gSI hR f3 (by decide)
  have gSIK := SIK.fr gSIK hR f3 (by decide)
  have gBI := BI.fr gBI f3 (by decide)
  have t3_1_5 := congrArg Int32.toInt (f3.at 1 5 (by decide))
  have t3_387_2 := congrArg Int32.toInt (f3.at 387 2 (by decide))
  have t3_0_18 := congrArg Int32.toInt (f3.at 0 18 (by decide))
  have t3_387_15 := congrArg Int32.toInt (f3.at 387 15 (by decide))
  have gVK := gVK.fr f3 (by decide)
  have gVN := gVN.fr f3 (by decide) fL3 (by decide)
  have gTE := gTE.fr f3 (by decide) (by omega) (by omega)
  refine lv_pop hx hb dL_law_575 rfl ?_
  refine lv_aload_n hx hb dL_law_576 rfl (lv_at hl 2 rfl) ?_
  refine lv_aload_n hx hb dL_law_577 rfl (lv_at hl 0 rfl) ?_
  refine lv_iload hx hb dL_law_578 (lv_at hl 4 rfl) ?_
  refine r_iconst hx hb dL_law_580 (by decide) (fun z4 ez4 => ?_)
  refine r_iadd hx hb dL_law_581 (by omega) (fun z5 ez5 => ?_)
  refine q_scr (j := ni + 1) hx hb hX hbl hS (by omega) (by omega) dL_law_582 ?_
  have hs5_6 := rg_8_5 hR (k := 1) (by decide) (by decide)
  refine q_cVi (k := 387) (As := [.int (xs (ni + 1))]) (rest := []) ⟨hx, hb, hml, hown, hts⟩ hK hP hV hA hS (c_X12_hours l D cA ad hI σ3 τ hR (xs (ni + 1))) (cwV 1 hts gL_law_X12_hours rfl rfl rfl (by decide +kernel) ⟨by decide, by decide⟩) (rv_M hK hP (by decide) (by decide)) rfl hl.1 rfl (Nat.le_of_ble_eq_true rfl) dL_law_583 hcl hsl (fun r6 u6 H6 locs6 hp6 hP hS => ?_)
  obtain ⟨σ6, τ6⟩ := u6
  obtain ⟨hR, f6, fL6, hq6⟩ : P_X12_hours σ3 τ (xs (ni + 1)) r6 σ6 τ6 := hp6
  have hP : va_P D vwCl (gw cA ad σ6 τ6) H6 := hP
  obtain rfl := FrL.nil fL6
  have gRI := RI.fr gRI f6 (by decide)
  have gSI := SI.fr gSI hR f6 (by decide)
  have gSIK := SIK.fr gSIK hR f6 (by decide)
  have gBI := BI.fr gBI f6 (by decide)
  have t6_1_5 := congrArg Int32.toInt (f6.at 1 5 (by decide))
  have t6_387_2 := congrArg Int32.toInt (f6.at 387 2 (by decide))
  have t6_0_18 := congrArg Int32.toInt (f6.at 0 18 (by decide))
  have t6_387_15 := congrArg Int32.toInt (f6.at 387 15 (by decide))
  have gVK := gVK.fr f6 (by decide)
  have gVN := gVN.fr f6 (by decide) fL6 (by decide)
  have gTE := gTE.fr f6 (by decide) (by omega) (by omega)
  refine lv_pop hx hb dL_law_586 rfl ?_
  refine lv_goto (tgt := 1492) hx hb dL_law_587 (by decide) ?_
  exact Kc σ6 τ H6 locs6 (cells) (slots) ls ⟨hR, gRI, gSI, gSIK, gBI, (by omega), gTE, gRV, gVK, gVN, (by omega)⟩ hP hS (by omega) (by omega) (lv_sub hl [0, 1, 2, 3, 4] rfl)
set_option maxHeartbeats 4000000 in
theorem LB_11 (p : Program) (l : Launch) (e : Env) (s : State) (m : MethodId) (below : List Frame) (meth : Method) (c : Code) (b L : Nat) (xs : Nat → Int32) (D : va_G) (cA : Nat → ClassId) (ad : Nat → Nat) (C : LC p l s m meth c b L xs D cA ad) (i : Int32) (ni : Nat) (ei : i.toInt = (ni : Int)) (hL : L ≤ 3072) (hn : ni + 6 ≤ L) (Kc : LK p l e s m below meth c b L xs D cA ad i) : LJ p l e s m below meth c b L xs D cA ad i 590 := by
  obtain ⟨hx, hb, hml, hown, hts, hX, hbl, hK, hI, hA, hV, hl0⟩ := C
  intro σ τ H locs cells slots ls hli hP hS hcc hss hl
  obtain ⟨hR, gRI, gSI, gSIK, gBI, hsz, gTE, gRV, gVK, gVN, hfa⟩ := hli
  have hcl : cells ≤ room_1.cells := (show cells ≤ 601024 by omega)
  have hsl : slots ≤ room_1.slots := (show slots ≤ 7293034 by omega)
  have hcl1 : cells + 1 ≤ room_1.cells := (show cells + 1 ≤ 601024 by omega)
  have hsl1 : slots + 6 ≤ room_1.slots := (show slots + 6 ≤ 7293034 by omega)
  refine lv_aload_n hx hb dL_law_590 rfl (lv_at hl 1 rfl) ?_
  refine lv_aload_n hx hb dL_law_591 rfl (lv_at hl 0 rfl) ?_
  refine lv_iload hx hb dL_law_592 (lv_at hl 4 rfl) ?_
  refine r_iconst hx hb dL_law_594 (by decide) (fun z1 ez1 => ?_)
  refine r_iadd hx hb dL_law_595 (by omega) (fun z2 ez2 => ?_)
  refine q_scr (j := ni + 1) hx hb hX hbl hS (by omega) (by omega) dL_law_596 ?_
  refine lv_aload_n hx hb dL_law_597 rfl (lv_at hl 0 rfl) ?_
  refine lv_iload hx hb dL_law_598 (lv_at hl 4 rfl) ?_
  refine r_iconst hx hb dL_law_600 (by decide) (fun z3 ez3 => ?_)
  refine r_iadd hx hb dL_law_601 (by omega) (fun z4 ez4 => ?_)
  refine q_scr (j := ni + 2) hx hb hX hbl hS (by omega) (by omega) dL_law_602 ?_
  have hs5_5 := rg_8_5 hR (k := 1) (by decide) (by decide)
  refine q_cVi (k := 0) (As := [.int (xs (ni + 1)), .int (xs (ni + 2))]) (rest := []) ⟨hx, hb, hml, hown, hts⟩ hK hP hV hA hS (c_X11_move l D cA ad hI σ τ hR (xs (ni + 1)) (xs (ni + 2))) (cwV 2 hts gL_law_X11_move rfl rfl rfl (by decide +kernel) ⟨by decide, by decide⟩) (rv_X hK hP (by decide) (by decide)) rfl hl.1 rfl (Nat.le_of_ble_eq_true rfl) dL_law_603 hcl hsl (fun r5 u5 H5 locs5 hp5 hP hS => ?_)
  obtain ⟨σ5, τ5⟩ := u5
  obtain ⟨hR, f5, fL5, hq5⟩ : P_X11_move σ τ (xs (ni + 1)) (xs (ni + 2)) r5 σ5 τ5 := hp5
  have hP : va_P D vwCl (gw cA ad σ5 τ5) H5 := hP
  obtain rfl := FrL.nil fL5
  have gRI := RI.fr gRI f5 (by decide)
  have gSI := SI.fr gSI hR f5 (by decide)
  have gSIK := SIK.fr gSIK hR f5 (by decide)
  have gBI := BI.fr gBI f5 (by decide)
  have t5_1_5 := congrArg Int32.toInt (f5.at 1 5 (by decide))
  have t5_387_2 := congrArg Int32.toInt (f5.at 387 2 (by decide))
  have t5_0_18 := congrArg Int32.toInt (f5.at 0 18 (by decide))
  have t5_387_15 := congrArg Int32.toInt (f5.at 387 15 (by decide))
  have gVK := gVK.fr f5 (by decide)
  have gVN := gVN.fr f5 (by decide) fL5 (by decide)
  have gTE := gTE.fr f5 (by decide) (by omega) (by omega)
  refine lv_pop hx hb dL_law_606 rfl ?_
  refine lv_aload_n hx hb dL_law_607 rfl (lv_at hl 2 rfl) ?_
  refine lv_aload_n hx hb dL_law_608 rfl (lv_at hl 0 rfl) ?_
  refine lv_iload hx hb dL_law_609 (lv_at hl 4 rfl) ?_
  refine r_iconst hx hb dL_law_611 (by decide) (fun z6 ez6 => ?_)
  refine r_iadd hx hb dL_law_612 (by omega) (fun z7 ez7 => ?_)
  refine q_scr (j := ni + 1) hx hb hX hbl hS (by omega) (by omega) dL_law_613 ?_
  refine lv_aload_n hx hb dL_law_614 rfl (lv_at hl 0 rfl) ?_
  refine lv_iload hx hb dL_law_615 (lv_at hl 4 rfl) ?_
  refine r_iconst hx hb dL_law_617 (by decide) (fun z8 ez8 => ?_)
  refine r_iadd hx hb dL_law_618 (by omega) (fun z9 ez9 => ?_)
  refine q_scr (j := ni + 2) hx hb hX hbl hS (by omega) (by omega) dL_law_619 ?_
  have hs5_10 := rg_8_5 hR (k := 1) (by decide) (by decide)
  refine q_cVi (k := 387) (As := [.int (xs (ni + 1)), .int (xs (ni + 2))]) (rest := []) ⟨hx, hb, hml, hown, hts⟩ hK hP hV hA hS (c_X12_move l D cA ad hI σ5 τ hR (xs (ni + 1)) (xs (ni + 2))) (cwV 2 hts gL_law_X12_move rfl rfl rfl (by decide +kernel) ⟨by decide, by decide⟩) (rv_M hK hP (by decide) (by decide)) rfl hl.1 rfl (Nat.le_of_ble_eq_true rfl) dL_law_620 hcl hsl (fun r10 u10 H10 locs10 hp10 hP hS => ?_)
  obtain ⟨σ10, τ10⟩ := u10
  obtain ⟨hR, f10, fL10, hq10⟩ : P_X12_move σ5 τ (xs (ni + 1)) (xs (ni + 2)) r10 σ10 τ10 := hp10
  have hP : va_P D vwCl (gw cA ad σ10 τ10) H10 := hP
  obtain rfl := FrL.nil fL10
  have gRI := RI.fr gRI f10 (by decide)
  have gSI := SI.fr gSI hR f10 (by decide)
  have gSIK := SIK.fr gSIK hR f10 (by decide)
  have gBI := BI.fr gBI f10 (by decide)
  have t10_1_5 := congrArg Int32.toInt (f10.at 1 5 (by decide))
  have t10_387_2 := congrArg Int32.toInt (f10.at 387 2 (by decide))
  have t10_0_18 := congrArg Int32.toInt (f10.at 0 18 (by decide))
  have t10_387_15 := congrArg Int32.toInt (f10.at 387 15 (by decide))
  have gVK := gVK.fr f10 (by decide)
  have gVN := gVN.fr f10 (by decide) fL10 (by decide)
  have gTE := gTE.fr f10 (by decide) (by omega) (by omega)
  refine lv_pop hx hb dL_law_623 rfl ?_
  refine lv_goto (tgt := 1492) hx hb dL_law_624 (by decide) ?_
  exact Kc σ10 τ H10 locs10 (cells) (slots) ls ⟨hR, gRI, gSI, gSIK, gBI, (by omega), gTE, gRV, gVK, gVN, (by omega)⟩ hP hS (by omega) (by omega) (lv_sub hl [0, 1, 2, 3, 4] rfl)
set_option maxHeartbeats 4000000 in
theorem LB_12 (p : Program) (l : Launch) (e : Env) (s : State) (m : MethodId) (below : List Frame) (meth : Method) (c : Code) (b L : Nat) (xs : Nat → Int32) (D : va_G) (cA : Nat → ClassId) (ad : Nat → Nat) (C : LC p l s m meth c b L xs D cA ad) (i : Int32) (ni : Nat) (ei : i.toInt = (ni : Int)) (hL : L ≤ 3072) (hn : ni + 6 ≤ L) (Kc : LK p l e s m below meth c b L xs D cA ad i) : LJ p l e s m below meth c b L xs D cA ad i 627 := by
  obtain ⟨hx, hb, hml, hown, hts, hX, hbl, hK, hI, hA, hV, hl0⟩ := C
  intro σ τ H locs cells slots ls hli hP hS hcc hss hl
  obtain ⟨hR, gRI, gSI, gSIK, gBI, hsz, gTE, gRV, gVK, gVN, hfa⟩ := hli
  have hcl : cells ≤ room_1.cells := (show cells ≤ 601024 by omega)
  have hsl : slots ≤ room_1.slots := (show slots ≤ 7293034 by omega)
  have hcl1 : cells + 1 ≤ room_1.cells := (show cells + 1 ≤ 601024 by omega)
  have hsl1 : slots + 6 ≤ room_1.slots := (show slots + 6 ≤ 7293034 by omega)
  refine lv_aload_n hx hb dL_law_627 rfl (lv_at hl 1 rfl) ?_
  refine lv_aload_n hx hb dL_law_628 rfl (lv_at hl 0 rfl) ?_
  refine lv_iload hx hb dL_law_629 (lv_at hl 4 rfl) ?_
  refine r_iconst hx hb dL_law_631 (by decide) (fun z1 ez1 => ?_)
  refine r_iadd hx hb dL_law_632 (by omega) (fun z2 ez2 => ?_)
  refine q_scr (j := ni + 1) hx hb hX hbl hS (by omega) (by omega) dL_law_633 ?_
  refine lv_aload_n hx hb dL_law_634 rfl (lv_at hl 0 rfl) ?_
  refine lv_iload hx hb dL_law_635 (lv_at hl 4 rfl) ?_
  refine r_iconst hx hb dL_law_637 (by decide) (fun z3 ez3 => ?_)
  refine r_iadd hx hb dL_law_638 (by omega) (fun z4 ez4 => ?_)
  refine q_scr (j := ni + 2) hx hb hX hbl hS (by omega) (by omega) dL_law_639 ?_
  have hs5_5 := rg_8_5 hR (k := 1) (by decide) (by decide)
  refine q_cVi (k := 0) (As := [.int (xs (ni + 1)), .int (xs (ni + 2))]) (rest := []) ⟨hx, hb, hml, hown, hts⟩ hK hP hV hA hS (c_X11_swear l D cA ad hI σ τ hR (xs (ni + 1)) (xs (ni + 2))) (cwV 2 hts gL_law_X11_swear rfl rfl rfl (by decide +kernel) ⟨by decide, by decide⟩) (rv_X hK hP (by decide) (by decide)) rfl hl.1 rfl (Nat.le_of_ble_eq_true rfl) dL_law_640 hcl hsl (fun r5 u5 H5 locs5 hp5 hP hS => ?_)
  obtain ⟨σ5, τ5⟩ := u5
  obtain ⟨hR, f5, fL5, hq5⟩ : P_X11_swear σ τ (xs (ni + 1)) (xs (ni + 2)) r5 σ5 τ5 := hp5
  have hP : va_P D vwCl (gw cA ad σ5 τ5) H5 := hP
  obtain rfl := FrL.nil fL5
  have gRI := RI.fr gRI f5 (by decide)
  have gSI := SI.fr gSI hR f5 (by decide)
  have gSIK := SIK.fr gSIK hR f5 (by decide)
  have gBI := BI.fr gBI f5 (by decide)
  have t5_1_5 := congrArg Int32.toInt (f5.at 1 5 (by decide))
  have t5_387_2 := congrArg Int32.toInt (f5.at 387 2 (by decide))
  have t5_0_18 := congrArg Int32.toInt (f5.at 0 18 (by decide))
  have t5_387_15 := congrArg Int32.toInt (f5.at 387 15 (by decide))
  have gVK := gVK.fr f5 (by decide)
  have gVN := gVN.fr f5 (by decide) fL5 (by decide)
  have gTE := gTE.fr f5 (by decide) (by omega) (by omega)
  refine lv_pop hx hb dL_law_643 rfl ?_
  refine lv_aload_n hx hb dL_law_644 rfl (lv_at hl 2 rfl) ?_
  refine lv_aload_n hx hb dL_law_645 rfl (lv_at hl 0 rfl) ?_
  refine lv_iload hx hb dL_law_646 (lv_at hl 4 rfl) ?_
  refine r_iconst hx hb dL_law_648 (by decide) (fun z6 ez6 => ?_)
  refine r_iadd hx hb dL_law_649 (by omega) (fun z7 ez7 => ?_)
  refine q_scr (j := ni + 1) hx hb hX hbl hS (by omega) (by omega) dL_law_650 ?_
  refine lv_aload_n hx hb dL_law_651 rfl (lv_at hl 0 rfl) ?_
  refine lv_iload hx hb dL_law_652 (lv_at hl 4 rfl) ?_
  refine r_iconst hx hb dL_law_654 (by decide) (fun z8 ez8 => ?_)
  refine r_iadd hx hb dL_law_655 (by omega) (fun z9 ez9 => ?_)
  refine q_scr (j := ni + 2) hx hb hX hbl hS (by omega) (by omega) dL_law_656 ?_
  have hs5_10 := rg_8_5 hR (k := 1) (by decide) (by decide)
  refine q_cVi (k := 387) (As := [.int (xs (ni + 1)), .int (xs (ni + 2))]) (rest := []) ⟨hx, hb, hml, hown, hts⟩ hK hP hV hA hS (c_X12_swear l D cA ad hI σ5 τ hR (xs (ni + 1)) (xs (ni + 2))) (cwV 2 hts gL_law_X12_swear rfl rfl rfl (by decide +kernel) ⟨by decide, by decide⟩) (rv_M hK hP (by decide) (by decide)) rfl hl.1 rfl (Nat.le_of_ble_eq_true rfl) dL_law_657 hcl hsl (fun r10 u10 H10 locs10 hp10 hP hS => ?_)
  obtain ⟨σ10, τ10⟩ := u10
  obtain ⟨hR, f10, fL10, hq10⟩ : P_X12_swear σ5 τ (xs (ni + 1)) (xs (ni + 2)) r10 σ10 τ10 := hp10
  have hP : va_P D vwCl (gw cA ad σ10 τ10) H10 := hP
  obtain rfl := FrL.nil fL10
  have gRI := RI.fr gRI f10 (by decide)
  have gSI := SI.fr gSI hR f10 (by decide)
  have gSIK := SIK.fr gSIK hR f10 (by decide)
  have gBI := BI.fr gBI f10 (by decide)
  have t10_1_5 := congrArg Int32.toInt (f10.at 1 5 (by decide))
  have t10_387_2 := congrArg Int32.toInt (f10.at 387 2 (by decide))
  have t10_0_18 := congrArg Int32.toInt (f10.at 0 18 (by decide))
  have t10_387_15 := congrArg Int32.toInt (f10.at 387 15 (by decide))
  have gVK := gVK.fr f10 (by decide)
  have gVN := gVN.fr f10 (by decide) fL10 (by decide)
  have gTE := gTE.fr f10 (by decide) (by omega) (by omega)
  refine lv_pop hx hb dL_law_660 rfl ?_
  refine lv_goto (tgt := 1492) hx hb dL_law_661 (by decide) ?_
  exact Kc σ10 τ H10 locs10 (cells) (slots) ls ⟨hR, gRI, gSI, gSIK, gBI, (by omega), gTE, gRV, gVK, gVN, (by omega)⟩ hP hS (by omega) (by omega) (lv_sub hl [0, 1, 2, 3, 4] rfl)
set_option maxHeartbeats 4000000 in
theorem LB_13 (p : Program) (l : Launch) (e : Env) (s : State) (m : MethodId) (below : List Frame) (meth : Method) (c : Code) (b L : Nat) (xs : Nat → Int32) (D : va_G) (cA : Nat → ClassId) (ad : Nat → Nat) (C : LC p l s m meth c b L xs D cA ad) (i : Int32) (ni : Nat) (ei : i.toInt = (ni : Int)) (hL : L ≤ 3072) (hn : ni + 6 ≤ L) (Kc : LK p l e s m below meth c b L xs D cA ad i) : LJ p l e s m below meth c b L xs D cA ad i 664 := by
  obtain ⟨hx, hb, hml, hown, hts, hX, hbl, hK, hI, hA, hV, hl0⟩ := C
  intro σ τ H locs cells slots ls hli hP hS hcc hss hl
  obtain ⟨hR, gRI, gSI, gSIK, gBI, hsz, gTE, gRV, gVK, gVN, hfa⟩ := hli
  have hcl : cells ≤ room_1.cells := (show cells ≤ 601024 by omega)
  have hsl : slots ≤ room_1.slots := (show slots ≤ 7293034 by omega)
  have hcl1 : cells + 1 ≤ room_1.cells := (show cells + 1 ≤ 601024 by omega)
  have hsl1 : slots + 6 ≤ room_1.slots := (show slots + 6 ≤ 7293034 by omega)
  refine lv_aload_n hx hb dL_law_664 rfl (lv_at hl 1 rfl) ?_
  refine lv_aload_n hx hb dL_law_665 rfl (lv_at hl 0 rfl) ?_
  refine lv_iload hx hb dL_law_666 (lv_at hl 4 rfl) ?_
  refine r_iconst hx hb dL_law_668 (by decide) (fun z1 ez1 => ?_)
  refine r_iadd hx hb dL_law_669 (by omega) (fun z2 ez2 => ?_)
  refine q_scr (j := ni + 1) hx hb hX hbl hS (by omega) (by omega) dL_law_670 ?_
  refine lv_aload_n hx hb dL_law_671 rfl (lv_at hl 0 rfl) ?_
  refine lv_iload hx hb dL_law_672 (lv_at hl 4 rfl) ?_
  refine r_iconst hx hb dL_law_674 (by decide) (fun z3 ez3 => ?_)
  refine r_iadd hx hb dL_law_675 (by omega) (fun z4 ez4 => ?_)
  refine q_scr (j := ni + 2) hx hb hX hbl hS (by omega) (by omega) dL_law_676 ?_
  have hs5_5 := rg_8_5 hR (k := 1) (by decide) (by decide)
  refine q_cVi (k := 0) (As := [.int (xs (ni + 1)), .int (xs (ni + 2))]) (rest := []) ⟨hx, hb, hml, hown, hts⟩ hK hP hV hA hS (c_X11_accuse l D cA ad hI σ τ hR (xs (ni + 1)) (xs (ni + 2))) (cwV 2 hts gL_law_X11_accuse rfl rfl rfl (by decide +kernel) ⟨by decide, by decide⟩) (rv_X hK hP (by decide) (by decide)) rfl hl.1 rfl (Nat.le_of_ble_eq_true rfl) dL_law_677 hcl hsl (fun r5 u5 H5 locs5 hp5 hP hS => ?_)
  obtain ⟨σ5, τ5⟩ := u5
  obtain ⟨hR, f5, fL5, hq5⟩ : P_X11_accuse σ τ (xs (ni + 1)) (xs (ni + 2)) r5 σ5 τ5 := hp5
  have hP : va_P D vwCl (gw cA ad σ5 τ5) H5 := hP
  obtain rfl := FrL.nil fL5
  have gRI := RI.fr gRI f5 (by decide)
  have gSI := SI.fr gSI hR f5 (by decide)
  have gSIK := SIK.fr gSIK hR f5 (by decide)
  have gBI := BI.fr gBI f5 (by decide)
  have t5_1_5 := congrArg Int32.toInt (f5.at 1 5 (by decide))
  have t5_387_2 := congrArg Int32.toInt (f5.at 387 2 (by decide))
  have t5_0_18 := congrArg Int32.toInt (f5.at 0 18 (by decide))
  have t5_387_15 := congrArg Int32.toInt (f5.at 387 15 (by decide))
  have gVK := gVK.fr f5 (by decide)
  have gVN := gVN.fr f5 (by decide) fL5 (by decide)
  have gTE := gTE.fr f5 (by decide) (by omega) (by omega)
  refine lv_pop hx hb dL_law_680 rfl ?_
  refine lv_aload_n hx hb dL_law_681 rfl (lv_at hl 2 rfl) ?_
  refine lv_aload_n hx hb dL_law_682 rfl (lv_at hl 0 rfl) ?_
  refine lv_iload hx hb dL_law_683 (lv_at hl 4 rfl) ?_
  refine r_iconst hx hb dL_law_685 (by decide) (fun z6 ez6 => ?_)
  refine r_iadd hx hb dL_law_686 (by omega) (fun z7 ez7 => ?_)
  refine q_scr (j := ni + 1) hx hb hX hbl hS (by omega) (by omega) dL_law_687 ?_
  refine lv_aload_n hx hb dL_law_688 rfl (lv_at hl 0 rfl) ?_
  refine lv_iload hx hb dL_law_689 (lv_at hl 4 rfl) ?_
  refine r_iconst hx hb dL_law_691 (by decide) (fun z8 ez8 => ?_)
  refine r_iadd hx hb dL_law_692 (by omega) (fun z9 ez9 => ?_)
  refine q_scr (j := ni + 2) hx hb hX hbl hS (by omega) (by omega) dL_law_693 ?_
  have hs5_10 := rg_8_5 hR (k := 1) (by decide) (by decide)
  refine q_cVi (k := 387) (As := [.int (xs (ni + 1)), .int (xs (ni + 2))]) (rest := []) ⟨hx, hb, hml, hown, hts⟩ hK hP hV hA hS (c_X12_accuse l D cA ad hI σ5 τ hR (xs (ni + 1)) (xs (ni + 2))) (cwV 2 hts gL_law_X12_accuse rfl rfl rfl (by decide +kernel) ⟨by decide, by decide⟩) (rv_M hK hP (by decide) (by decide)) rfl hl.1 rfl (Nat.le_of_ble_eq_true rfl) dL_law_694 hcl hsl (fun r10 u10 H10 locs10 hp10 hP hS => ?_)
  obtain ⟨σ10, τ10⟩ := u10
  obtain ⟨hR, f10, fL10, hq10⟩ : P_X12_accuse σ5 τ (xs (ni + 1)) (xs (ni + 2)) r10 σ10 τ10 := hp10
  have hP : va_P D vwCl (gw cA ad σ10 τ10) H10 := hP
  obtain rfl := FrL.nil fL10
  have gRI := RI.fr gRI f10 (by decide)
  have gSI := SI.fr gSI hR f10 (by decide)
  have gSIK := SIK.fr gSIK hR f10 (by decide)
  have gBI := BI.fr gBI f10 (by decide)
  have t10_1_5 := congrArg Int32.toInt (f10.at 1 5 (by decide))
  have t10_387_2 := congrArg Int32.toInt (f10.at 387 2 (by decide))
  have t10_0_18 := congrArg Int32.toInt (f10.at 0 18 (by decide))
  have t10_387_15 := congrArg Int32.toInt (f10.at 387 15 (by decide))
  have gVK := gVK.fr f10 (by decide)
  have gVN := gVN.fr f10 (by decide) fL10 (by decide)
  have gTE := gTE.fr f10 (by decide) (by omega) (by omega)
  refine lv_pop hx hb dL_law_697 rfl ?_
  refine lv_goto (tgt := 1492) hx hb dL_law_698 (by decide) ?_
  exact Kc σ10 τ H10 locs10 (cells) (slots) ls ⟨hR, gRI, gSI, gSIK, gBI, (by omega), gTE, gRV, gVK, gVN, (by omega)⟩ hP hS (by omega) (by omega) (lv_sub hl [0, 1, 2, 3, 4] rfl)
set_option maxHeartbeats 4000000 in
theorem LB_14 (p : Program) (l : Launch) (e : Env) (s : State) (m : MethodId) (below : List Frame) (meth : Method) (c : Code) (b L : Nat) (xs : Nat → Int32) (D : va_G) (cA : Nat → ClassId) (ad : Nat → Nat) (C : LC p l s m meth c b L xs D cA ad) (i : Int32) (ni : Nat) (ei : i.toInt = (ni : Int)) (hL : L ≤ 3072) (hn : ni + 6 ≤ L) (Kc : LK p l e s m below meth c b L xs D cA ad i) : LJ p l e s m below meth c b L xs D cA ad i 701 := by
  obtain ⟨hx, hb, hml, hown, hts, hX, hbl, hK, hI, hA, hV, hl0⟩ := C
  intro σ τ H locs cells slots ls hli hP hS hcc hss hl
  obtain ⟨hR, gRI, gSI, gSIK, gBI, hsz, gTE, gRV, gVK, gVN, hfa⟩ := hli
  have hcl : cells ≤ room_1.cells := (show cells ≤ 601024 by omega)
  have hsl : slots ≤ room_1.slots := (show slots ≤ 7293034 by omega)
  have hcl1 : cells + 1 ≤ room_1.cells := (show cells + 1 ≤ 601024 by omega)
  have hsl1 : slots + 6 ≤ room_1.slots := (show slots + 6 ≤ 7293034 by omega)
  refine lv_aload_n hx hb dL_law_701 rfl (lv_at hl 1 rfl) ?_
  have hs5_1 := rg_8_5 hR (k := 1) (by decide) (by decide)
  refine q_cVi (k := 0) (As := []) (rest := []) ⟨hx, hb, hml, hown, hts⟩ hK hP hV hA hS (c_X11_share l D cA ad hI σ τ hR) (cwV 0 hts gL_law_X11_share rfl rfl rfl (by decide +kernel) ⟨by decide, by decide⟩) (rv_X hK hP (by decide) (by decide)) rfl hl.1 rfl (Nat.le_of_ble_eq_true rfl) dL_law_702 hcl hsl (fun r1 u1 H1 locs1 hp1 hP hS => ?_)
  obtain ⟨σ1, τ1⟩ := u1
  obtain ⟨hR, f1, fL1, hq1⟩ : P_X11_share σ τ r1 σ1 τ1 := hp1
  have hP : va_P D vwCl (gw cA ad σ1 τ1) H1 := hP
  obtain rfl := FrL.nil fL1
  have gRI := RI.fr gRI f1 (by decide)
  have gSI := SI.fr gSI hR f1 (by decide)
  have gSIK := SIK.fr gSIK hR f1 (by decide)
  have gBI := BI.fr gBI f1 (by decide)
  have t1_1_5 := congrArg Int32.toInt (f1.at 1 5 (by decide))
  have t1_387_2 := congrArg Int32.toInt (f1.at 387 2 (by decide))
  have t1_0_18 := congrArg Int32.toInt (f1.at 0 18 (by decide))
  have t1_387_15 := congrArg Int32.toInt (f1.at 387 15 (by decide))
  have gVK := gVK.fr f1 (by decide)
  have gVN := gVN.fr f1 (by decide) fL1 (by decide)
  have gTE := gTE.fr f1 (by decide) (by omega) (by omega)
  refine lv_pop hx hb dL_law_705 rfl ?_
  refine lv_aload_n hx hb dL_law_706 rfl (lv_at hl 2 rfl) ?_
  have hs5_2 := rg_8_5 hR (k := 1) (by decide) (by decide)
  refine q_cVi (k := 387) (As := []) (rest := []) ⟨hx, hb, hml, hown, hts⟩ hK hP hV hA hS (c_X12_share l D cA ad hI σ1 τ hR) (cwV 0 hts gL_law_X12_share rfl rfl rfl (by decide +kernel) ⟨by decide, by decide⟩) (rv_M hK hP (by decide) (by decide)) rfl hl.1 rfl (Nat.le_of_ble_eq_true rfl) dL_law_707 hcl hsl (fun r2 u2 H2 locs2 hp2 hP hS => ?_)
  obtain ⟨σ2, τ2⟩ := u2
  obtain ⟨hR, f2, fL2, hq2⟩ : P_X12_share σ1 τ r2 σ2 τ2 := hp2
  have hP : va_P D vwCl (gw cA ad σ2 τ2) H2 := hP
  obtain rfl := FrL.nil fL2
  have gRI := RI.fr gRI f2 (by decide)
  have gSI := SI.fr gSI hR f2 (by decide)
  have gSIK := SIK.fr gSIK hR f2 (by decide)
  have gBI := BI.fr gBI f2 (by decide)
  have t2_1_5 := congrArg Int32.toInt (f2.at 1 5 (by decide))
  have t2_387_2 := congrArg Int32.toInt (f2.at 387 2 (by decide))
  have t2_0_18 := congrArg Int32.toInt (f2.at 0 18 (by decide))
  have t2_387_15 := congrArg Int32.toInt (f2.at 387 15 (by decide))
  have gVK := gVK.fr f2 (by decide)
  have gVN := gVN.fr f2 (by decide) fL2 (by decide)
  have gTE := gTE.fr f2 (by decide) (by omega) (by omega)
  refine lv_pop hx hb dL_law_710 rfl ?_
  refine lv_goto (tgt := 1492) hx hb dL_law_711 (by decide) ?_
  exact Kc σ2 τ H2 locs2 (cells) (slots) ls ⟨hR, gRI, gSI, gSIK, gBI, (by omega), gTE, gRV, gVK, gVN, (by omega)⟩ hP hS (by omega) (by omega) (lv_sub hl [0, 1, 2, 3, 4] rfl)
