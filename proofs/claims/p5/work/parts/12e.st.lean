def pmI : List Nat := [0, 1, 35, 36, 37, 38, 39, 2, 40, 44, 48, 68, 69, 70, 71, 72, 73, 74, 75, 52, 100, 101, 102, 103, 104, 105, 106, 107, 56, 132, 133, 134, 135, 60, 148, 149, 150, 151, 152, 153, 154, 155, 156, 157, 158, 159, 160, 161, 162, 163, 164, 165, 166, 167, 168, 169, 170, 171, 172, 173, 174, 175, 176, 177, 178, 179, 180, 181, 182, 183, 184, 185, 186, 187, 64, 3, 41, 45, 49, 76, 77, 78, 79, 80, 81, 82, 83, 53, 108, 109, 110, 111, 112, 113, 114, 115, 57, 136, 137, 138, 139, 61, 188, 189, 190, 191, 192, 193, 194, 195, 196, 197, 198, 199, 200, 201, 202, 203, 204, 205, 206, 207, 208, 209, 210, 211, 212, 213, 214, 215, 216, 217, 218, 219, 220, 221, 222, 223, 224, 225, 226, 227, 65, 6, 7, 308, 321, 334, 347, 8, 309, 322, 335, 348, 9, 310, 323, 336, 349, 20, 32, 10, 311, 324, 337, 350, 11, 312, 325, 338, 351, 12, 313, 326, 339, 352, 13, 314, 327, 340, 353, 14, 315, 328, 341, 354, 15, 316, 329, 342, 355, 16, 317, 330, 343, 356, 17, 318, 331, 344, 357, 21, 360, 361, 362, 363, 364, 365, 366, 367, 22, 23, 371, 375, 379, 383, 24, 372, 376, 380, 384, 27, 28, 368, 369, 370, 31, 29, 4, 42, 46, 50, 84, 85, 86, 87, 88, 89, 90, 91, 54, 116, 117, 118, 119, 120, 121, 122, 123, 58, 140, 141, 142, 143, 62, 228, 229, 230, 231, 232, 233, 234, 235, 236, 237, 238, 239, 240, 241, 242, 243, 244, 245, 246, 247, 248, 249, 250, 251, 252, 253, 254, 255, 256, 257, 258, 259, 260, 261, 262, 263, 264, 265, 266, 267, 66, 18, 319, 332, 345, 358, 25, 373, 377, 381, 385, 30, 5, 43, 47, 51, 92, 93, 94, 95, 96, 97, 98, 99, 55, 124, 125, 126, 127, 128, 129, 130, 131, 59, 144, 145, 146, 147, 63, 268, 269, 270, 271, 272, 273, 274, 275, 276, 277, 278, 279, 280, 281, 282, 283, 284, 285, 286, 287, 288, 289, 290, 291, 292, 293, 294, 295, 296, 297, 298, 299, 300, 301, 302, 303, 304, 305, 306, 307, 67, 19, 320, 333, 346, 359, 26, 374, 378, 382, 386, 33, 34, 387, 388, 389, 390, 391, 392, 393, 394, 395, 396, 397, 398, 399, 400, 401, 402, 403, 404, 405, 406]
set_option maxRecDepth 100000 in
theorem pm_inv : ∀ k, k < 407 → pmI.getD (pm k) 0 = k := by decide +kernel
set_option maxRecDepth 100000 in
theorem pm_lt : ∀ k, k < 407 → pm k < 407 := by decide +kernel
theorem ad_in {B : Nat} {str : Nat → Nat} {k : Nat} (h : k < 407) : adF B str k = B + pm k := if_pos h
theorem ad_inj (B : Nat) (str : Nat → Nat) : Inj (adF B str) := fun i j hi hj e => by
  rw [ad_in hi, ad_in hj] at e
  have h : pm i = pm j := by omega
  rw [← pm_inv i hi, ← pm_inv j hj, h]
theorem gw_of {D : va_G} {cA : Nat → ClassId} {B : Nat} {str : Nat → Nat} {H : Heap} (hB : Bk D (GL5 cA B) B 407 H) : va_P D vwCl (gw cA (adF B str) σI τI) H := fun k q hk => by
  have h : k < 407 := by
    have h1 := (List.getElem?_eq_some_iff.mp hk).1
    unfold gw at h1
    rw [List.length_map, List.length_range] at h1
    exact h1
  unfold gw at hk
  rw [List.getElem?_map, List.getElem?_range h] at hk
  cases hk
  have h1 := hB.2 (pm k) (pm_lt k h)
  have h2 : GL5 cA B (pm k) = gcr cA (adF B str) (σI k) (τI k) k := fn_all cA B str k h
  rw [h2] at h1
  show va_at D vwCl (adF B str k, gcr cA (adF B str) (σI k) (τI k) k) H
  rw [show adF B str k = B + pm k from if_pos h]
  exact h1
set_option maxHeartbeats 8000000 in
theorem rz (k j : Nat) : rlo k j ≤ 0 ∧ 0 ≤ rhi k j := by
  constructor
  · unfold rlo
    repeat' split
    all_goals omega
  · unfold rhi
    repeat' split
    all_goals omega
theorem σV_0 {j : Nat} (h : 3 ≤ j) : σV j = 0 := by
  unfold σV
  match j, h with
  | j + 3, _ => rfl
theorem σD_0 {j : Nat} (h : j ≠ 1) : σD j = 0 := by
  unfold σD
  match j, h with
  | 0, _ => rfl
  | 1, h => exact absurd rfl h
  | j + 2, _ => rfl
theorem σS_0 {j : Nat} (h : j ≠ 3) (h2 : j ≠ 4) : σS j = 0 := by
  unfold σS upd
  rw [if_neg (show ¬ j = (4 : Int32).toNatClampNeg from h2), if_neg (show ¬ j = (3 : Int32).toNatClampNeg from h)]
theorem RgI : Rg σI := by
  intro k j
  have hz := rz k j
  unfold σI
  by_cases c1 : 2 ≤ k ∧ k ≤ 5
  · rw [if_pos c1]
    by_cases cj : 3 ≤ j
    · rw [σV_0 cj]; exact hz
    · have e1 : rlo k j = -2147483648 := by
        unfold rlo
        repeat (first | rw [if_pos (by omega)] | rw [if_neg (by omega)])
      have e2 : rhi k j = 2147483647 := by
        unfold rhi
        repeat (first | rw [if_pos (by omega)] | rw [if_neg (by omega)])
      rw [e1, e2]
      exact ⟨ti_lo _, ti_hi _⟩
  · rw [if_neg c1]
    by_cases c2 : 7 ≤ k ∧ k ≤ 19
    · rw [if_pos c2]
      have e1 : rlo k j = -2147483648 := by
        unfold rlo
        repeat (first | rw [if_pos (by omega)] | rw [if_neg (by omega)])
      have e2 : rhi k j = 2147483647 := by
        unfold rhi
        repeat (first | rw [if_pos (by omega)] | rw [if_neg (by omega)])
      rw [e1, e2]
      exact ⟨ti_lo _, ti_hi _⟩
    · rw [if_neg c2]
      by_cases c3 : k = 389
      · rw [if_pos c3]
        by_cases cj : j ≠ 3 ∧ j ≠ 4
        · rw [σS_0 cj.1 cj.2]; exact hz
        · have e1 : rlo k j = -2147483648 := by
            unfold rlo
            repeat (first | rw [if_pos (by omega)] | rw [if_neg (by omega)])
          have e2 : rhi k j = 2147483647 := by
            unfold rhi
            repeat (first | rw [if_pos (by omega)] | rw [if_neg (by omega)])
          rw [e1, e2]
          exact ⟨ti_lo _, ti_hi _⟩
      · rw [if_neg c3]
        exact hz
theorem SII : SI σI := by
  have e : ∀ j, j ≠ 3 → j ≠ 4 → σI 389 j = 0 := fun j h1 h2 => σS_0 h1 h2
  refine ⟨?_, fun f hf => ?_, Or.inl ?_⟩
  · have e0 : (σI 389 246).toInt.toNat = 0 := by rw [e 246 (by decide) (by decide)]; rfl
    rw [e0]
    exact VPc_zero _
  · rw [e (79 + f) (by omega) (by omega), e 2 (by decide) (by decide)]
    refine ⟨by decide, by decide, fun h => ?_⟩
    have : (f : Int) < 0 := h
    omega
  · rw [e 1 (by decide) (by decide)]; rfl
theorem RVI : RV τI := by
  intro i hi
  have h : ∀ i : Nat, i < 31 → (τI 393 i).toInt = RWl.getD i 0 := by decide +kernel
  exact h i hi
theorem VKI : VK σI := VK.beg (by decide +kernel) (by decide +kernel) (by decide +kernel)
theorem VNI : VN σI τI := VN.beg (by decide +kernel) (by decide +kernel) (by decide +kernel)
theorem LII : LI σI τI := ⟨RgI, fun j hj => ⟨Or.inl (show (0 : Int32).toInt < 16 by decide), Or.inl (show (0 : Int32).toInt ≠ 18 by decide)⟩, SII, fun k hk h => absurd (show (σI 405 k).toInt = 0 from rfl) h, Or.inl rfl, rfl, fun j hj => absurd hj (by show ¬ (j : Int) < (0 : Int32).toInt; exact fun h => absurd h (by show ¬ (j : Int) < 0; omega)), RVI, VKI, VNI, rfl⟩
set_option maxHeartbeats 8000000 in
set_option maxRecDepth 20000 in
/-- from the entry, for every script of at most 3072 ints, the law comes to its end with true -/
theorem whole_start {p : Program} {e : Env} {s : State} {m : MethodId} {below : List Frame} {meth : Method} {c : Code} (l : Launch) (hl0 : l.stackTraces = false) {b L : Nat} {xs : Nat → Int32} (hL : L ≤ 3072) (C0 : lw_At p s m meth c b L xs) : W p l e room_1 s m #[Value.ref b] below meth c s.heap [] 0 0 (lw_Z below #[Value.ref b] s) (entryFrame m ([Value.ref b] : List Value).toArray 7) := by
  obtain ⟨hx, hb, hr, hml, hown0, hts0, hX, hbl, hlocks, hgv⟩ := C0
  have hown : s.vm.findClass RL = some m.cls := hown0
  have hb : c.code = cL_law := hb
  have hts : ∀ w ∈ wsL_law, w.before #[Value.ref b] s = true := fun w h => hts0 w (wsL_law_in w h)
  obtain ⟨D, hD⟩ := en_K hts0
  have hE := en_EX hts0
  obtain ⟨cA, hK⟩ := en_tys hts0 hD hE
  obtain ⟨str, hstr⟩ := en_XV hts0 hgv
  have hl := lv_entry ([.ref b]) (n := 7) (Nat.le_of_ble_eq_true rfl)
  rw [lg_entry_eq]
  generalize (lg_sl ([.ref b]) ++ List.replicate (7 - (lg_sl ([.ref b])).length) Slot.unset).toArray = ls at hl ⊢
  have hl : lv_has ls 7 [(0, .ref b)] := hl
  have hB : Bk D (fun _ => .inr (0, [])) s.heap.size 0 s.heap := ⟨rfl, fun k h => absurd h (Nat.not_lt_zero _)⟩
  have hS : va_S (Ab s.heap.size) s.heap s.heap [] := va_S.rf
  refine bk_new (ci := 11) (fs := [.null, .null, .null, .null, .null, .null, .null, .null, .null, .null, .null, .null, .null, .null, .null, .null, .null, .int 0, .int 0]) (C := RX11) (T := TX11) (N := 19) hx hb hts inlX11 tyX11 tyX11_ok hown (hts _ (ml mr1 0 rfl)) (hts _ (ml mr1 1 rfl)) (hts _ (ml mr1 2 rfl)) hK hB hS rfl dfX11 (Nat.le_of_ble_eq_true rfl) (Nat.le_of_ble_eq_true rfl) dL_law_0 (fun H hB hS => ?_)
  have hB : Bk D (GL1 cA s.heap.size) s.heap.size 1 H := hB
  refine W.widen (k := 1) (n := 19) (by omega) (by omega) ?_
  refine lv_dup hx hb dL_law_3 rfl ?_
  refine bk_call (As := []) (rest := [.ref (s.heap.size + 0)]) (k0 := 0) ⟨hx, hb, hml, hown, hts⟩ hK hE hB hS (c_X11_init l D cA (GL1 cA s.heap.size) s.heap.size 1 0 (by decide) upE_at) (cwI 0 hts gL_law_X11_init rfl rfl rfl (hts _ (ml mr1 2 rfl)) (hts (.methodLink RL 22 yX11_init) (by decide +kernel)) (hts (.instanceMethod yX11_init) (by decide +kernel)) rfl (by decide +kernel) ⟨by decide, by decide⟩) rfl hl.1 rfl (Nat.le_of_ble_eq_true rfl) dL_law_4 (Nat.le_of_ble_eq_true rfl) (Nat.le_of_ble_eq_true rfl) (fun H locs hB hS => ?_)
  have hB : Bk D (GL2 cA s.heap.size) s.heap.size 387 H := hB
  refine W.widen (k := 387) (n := 7374) (by omega) (by omega) ?_
  refine lv_astore_n (lv' := [(1, .ref (s.heap.size + 0)), (0, .ref b)]) hx hb dL_law_7 rfl hl (by decide) rfl (fun ls hl => ?_)
  refine bk_new (ci := 12) (fs := [.int 0, .null, .int 0, .int 0, .int 0, .int 0, .null, .null, .null, .null, .null, .int 0, .int 0, .int 0, .int 0, .int 0, .int 0, .long 0, .int 0, .int 0, .int 0, .int 0, .null, .null, .null, .null, .int 0, .null, .null, .int 0, .int 0, .int 0, .int 0, .int 0, .int 0, .null, .int 0, .null, .int 0, .int 0, .int 0, .int 0, .int 0, .null, .null, .null, .null]) (C := RX12) (T := TX12) (N := 47) hx hb hts inlX12 tyX12 tyX12_ok hown (hts _ (ml mr1 3 rfl)) (hts _ (ml mr1 4 rfl)) (hts _ (ml mr1 5 rfl)) hK hB hS rfl dfX12 (Nat.le_of_ble_eq_true rfl) (Nat.le_of_ble_eq_true rfl) dL_law_8 (fun H hB hS => ?_)
  have hB : Bk D (GL3 cA s.heap.size) s.heap.size 388 H := hB
  refine W.widen (k := 388) (n := 7421) (by omega) (by omega) ?_
  refine lv_dup hx hb dL_law_11 rfl ?_
  refine bk_call (As := []) (rest := [.ref (s.heap.size + 387)]) (k0 := 387) ⟨hx, hb, hml, hown, hts⟩ hK hE hB hS (c_X12_init l D cA (GL3 cA s.heap.size) s.heap.size 388 387 (by decide) upE_at) (cwI 0 hts gL_law_X12_init rfl rfl rfl (hts _ (ml mr1 5 rfl)) (hts (.methodLink RL 25 yX12_init) (by decide +kernel)) (hts (.instanceMethod yX12_init) (by decide +kernel)) rfl (by decide +kernel) ⟨by decide, by decide⟩) rfl hl.1 rfl (Nat.le_of_ble_eq_true rfl) dL_law_12 (Nat.le_of_ble_eq_true rfl) (Nat.le_of_ble_eq_true rfl) (fun H locs hB hS => ?_)
  have hB : Bk D (GL4 cA s.heap.size) s.heap.size 406 H := hB
  refine W.widen (k := 406) (n := 10526) (by omega) (by omega) ?_
  refine lv_astore_n (lv' := [(2, .ref (s.heap.size + 387)), (1, .ref (s.heap.size + 0)), (0, .ref b)]) hx hb dL_law_15 rfl hl (by decide) rfl (fun ls hl => ?_)
  refine lv_iconst (v := 1) hx hb dL_law_16 (by decide) ?_
  refine bk_newa (atype := .long) (ty := .long) (cR := cA 3) (x := 1) (N' := 1) (a0 := (1, .inr (.inl (fun _ => 0)))) hx hb (hts _ (ml mr1 6 rfl)) rfl hK 3 rfl (fun h => h) hB hS (fun _ => rfl) (by decide) (by decide) (by decide) (Nat.le_of_ble_eq_true rfl) (Nat.le_of_ble_eq_true rfl) dL_law_17 (fun H hB hS => ?_)
  have hB : Bk D (GL5 cA s.heap.size) s.heap.size 407 H := hB
  refine W.widen (k := 407) (n := 10527) (by omega) (by omega) ?_
  refine lv_astore_n (lv' := [(3, .ref (s.heap.size + 406)), (2, .ref (s.heap.size + 387)), (1, .ref (s.heap.size + 0)), (0, .ref b)]) hx hb dL_law_19 rfl hl (by decide) rfl (fun ls hl => ?_)
  refine lv_iconst (v := 0) hx hb dL_law_20 (by decide) ?_
  refine lv_istore (lv' := [(4, .int 0), (3, .ref (s.heap.size + 406)), (2, .ref (s.heap.size + 387)), (1, .ref (s.heap.size + 0)), (0, .ref b)]) hx hb dL_law_21 hl (by decide) rfl (fun ls hl => ?_)
  have hA : ∀ q, AA (adF s.heap.size str) q → Ab s.heap.size q := fun q h => by obtain ⟨k, hk, rfl⟩ := h; rw [ad_in hk]; exact Nat.le_add_right _ _
  have hV := hstr (adF s.heap.size str) (fun k hk => by rw [ad_in hk]; exact Nat.le_add_right _ _) (fun k hk => if_neg (by omega))
  have hl : lv_has ls 7 [(0, .ref b), (1, .ref (adF s.heap.size str 0)), (2, .ref (adF s.heap.size str 387)), (3, .ref (adF s.heap.size str 406)), (4, .int 0)] := lv_sub hl [4, 3, 2, 1, 0] rfl
  exact LB_loop p l e s m below meth c b L xs D cA (adF s.heap.size str) ⟨hx, hb, hml, hown, hts, hX, hbl, hK, ad_inj _ _, hA, hV, hl0⟩ hr hlocks hL 3200 0 0 rfl (by decide) (by decide) σI τI H _ 407 10527 ls LII (gw_of hB) hS (by decide) (by decide) hl
