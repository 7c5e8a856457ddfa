/-! images kept: which -/
def KO (σ0 σ : Nat → Nat → Int32) (k : Nat) : Prop := ∀ q : Nat, 29 ≤ q → q ≤ 30 → q ≠ k → σ q 3 = σ0 q 3
theorem KO.of3 {La Lb Lc : List Rc} {σ0 σ1 σ2 σ3 σ4 : Nat → Nat → Int32} {k : Nat} (fa : Fr La σ0 σ1) (ha : disRc La [(29, 30, 3, 3)] = true) (fb : Fr Lb σ1 σ2) (hb : disRc Lb [(29, 30, 3, 3)] = true) (fc : Fr Lc σ2 σ3) (hc : disRc Lc [(29, 30, 3, 3)] = true) (u : Up1 σ3 σ4 k 3) : KO σ0 σ4 k := fun q h1 h2 hn => by
  rw [u q 3 (by omega), fc.dis hc ⟨_, List.mem_of_getElem? (i := 0) rfl, h1, h2, by decide, by decide⟩, fb.dis hb ⟨_, List.mem_of_getElem? (i := 0) rfl, h1, h2, by decide, by decide⟩, fa.dis ha ⟨_, List.mem_of_getElem? (i := 0) rfl, h1, h2, by decide, by decide⟩]
theorem IMc_of {σ0 σ : Nat → Nat → Int32} {a r : Int32} {j : Nat} (ej : a.toInt = (j : Int)) (h : j ≤ 1) (hr : r.toInt = 1) (k1 : (σ (29 + j) 3).toInt = 1) (ko : KO σ0 σ (29 + j)) : (r.toInt = 0 ∧ (a.toInt < 0 ∨ 1 < a.toInt) ∧ (σ 29 3).toInt = (σ0 29 3).toInt ∧ (σ 30 3).toInt = (σ0 30 3).toInt) ∨ (r.toInt = 1 ∧ a.toInt = 0 ∧ (σ 29 3).toInt = 1 ∧ (σ 30 3).toInt = (σ0 30 3).toInt) ∨ (r.toInt = 1 ∧ a.toInt = 1 ∧ (σ 30 3).toInt = 1 ∧ (σ 29 3).toInt = (σ0 29 3).toInt) := by
  rcases (show j = 0 ∨ j = 1 by omega) with rfl | rfl
  · exact Or.inr (Or.inl ⟨hr, by omega, k1, congrArg Int32.toInt (ko 30 (by decide) (by decide) (by decide))⟩)
  · exact Or.inr (Or.inr ⟨hr, by omega, k1, congrArg Int32.toInt (ko 29 (by decide) (by decide) (by decide))⟩)
theorem RSc_1 {σ0 : Nat → Nat → Int32} {a r : Int32} {j : Nat} (ej : a.toInt = (j : Int)) (h : j ≤ 1) (hr : r.toInt = 1) (hz : (σ0 (29 + j) 3).toInt ≠ 0) : (r.toInt = 1 ∧ ((a.toInt = 0 ∧ (σ0 29 3).toInt ≠ 0) ∨ (a.toInt = 1 ∧ (σ0 30 3).toInt ≠ 0))) ∨ (r.toInt = 0 ∧ (a.toInt < 0 ∨ 1 < a.toInt ∨ (a.toInt = 0 ∧ (σ0 29 3).toInt = 0) ∨ (a.toInt = 1 ∧ (σ0 30 3).toInt = 0))) := by
  rcases (show j = 0 ∨ j = 1 by omega) with rfl | rfl
  · exact Or.inl ⟨hr, Or.inl ⟨by omega, hz⟩⟩
  · exact Or.inl ⟨hr, Or.inr ⟨by omega, hz⟩⟩
theorem RSc_0 {σ0 : Nat → Nat → Int32} {a r : Int32} {j : Nat} (ej : a.toInt = (j : Int)) (h : j ≤ 1) (hr : r.toInt = 0) (hz : (σ0 (29 + j) 3).toInt = 0) : (r.toInt = 1 ∧ ((a.toInt = 0 ∧ (σ0 29 3).toInt ≠ 0) ∨ (a.toInt = 1 ∧ (σ0 30 3).toInt ≠ 0))) ∨ (r.toInt = 0 ∧ (a.toInt < 0 ∨ 1 < a.toInt ∨ (a.toInt = 0 ∧ (σ0 29 3).toInt = 0) ∨ (a.toInt = 1 ∧ (σ0 30 3).toInt = 0))) := by
  rcases (show j = 0 ∨ j = 1 by omega) with rfl | rfl
  · exact Or.inr ⟨hr, Or.inr (Or.inr (Or.inl ⟨by omega, hz⟩))⟩
  · exact Or.inr ⟨hr, Or.inr (Or.inr (Or.inr ⟨by omega, hz⟩))⟩
theorem IMm_no {σ0 σ : Nat → Nat → Int32} {a r : Int32} (u : Up1 σ0 σ 387 0) (hr : r.toInt = 0) (h : a.toInt < 0 ∨ 1 < a.toInt) : (r.toInt = 0 ∧ (a.toInt < 0 ∨ 1 < a.toInt) ∧ (σ 405 0).toInt = (σ0 405 0).toInt ∧ (σ 405 1).toInt = (σ0 405 1).toInt) ∨ (r.toInt = 1 ∧ a.toInt = 0 ∧ (σ 405 0).toInt = 1 ∧ (σ 405 1).toInt = (σ0 405 1).toInt) ∨ (r.toInt = 1 ∧ a.toInt = 1 ∧ (σ 405 1).toInt = 1 ∧ (σ 405 0).toInt = (σ0 405 0).toInt) := Or.inl ⟨hr, h, congrArg Int32.toInt (u 405 0 (by omega)), congrArg Int32.toInt (u 405 1 (by omega))⟩
theorem IMm_of {σ0 σ σ1 : Nat → Nat → Int32} {a r : Int32} {j : Nat} (ej : a.toInt = (j : Int)) (h : j ≤ 1) (hr : r.toInt = 1) (u : Up1 σ σ1 405 j) (v : (σ1 405 j).toInt = 1) (h3 : ∀ k : Nat, k < 2 → σ 405 k = σ0 405 k) : (r.toInt = 0 ∧ (a.toInt < 0 ∨ 1 < a.toInt) ∧ (σ1 405 0).toInt = (σ0 405 0).toInt ∧ (σ1 405 1).toInt = (σ0 405 1).toInt) ∨ (r.toInt = 1 ∧ a.toInt = 0 ∧ (σ1 405 0).toInt = 1 ∧ (σ1 405 1).toInt = (σ0 405 1).toInt) ∨ (r.toInt = 1 ∧ a.toInt = 1 ∧ (σ1 405 1).toInt = 1 ∧ (σ1 405 0).toInt = (σ0 405 0).toInt) := by
  rcases (show j = 0 ∨ j = 1 by omega) with rfl | rfl
  · exact Or.inr (Or.inl ⟨hr, by omega, v, by rw [u 405 1 (by omega), h3 1 (by decide)]⟩)
  · exact Or.inr (Or.inr ⟨hr, by omega, v, by rw [u 405 0 (by omega), h3 0 (by decide)]⟩)
theorem RSm_ok {σ0 : Nat → Nat → Int32} {a r : Int32} (h : ∀ i : Nat, a.toInt = (i : Int) → (σ0 405 i).toInt ≠ 0) (h0 : 0 ≤ a.toInt) (h1 : a.toInt ≤ 1) (hr : r.toInt = 1) : (r.toInt = 1 ∧ ((a.toInt = 0 ∧ (σ0 405 0).toInt ≠ 0) ∨ (a.toInt = 1 ∧ (σ0 405 1).toInt ≠ 0))) ∨ (r.toInt = 0 ∧ (a.toInt < 0 ∨ 1 < a.toInt ∨ (a.toInt = 0 ∧ (σ0 405 0).toInt = 0) ∨ (a.toInt = 1 ∧ (σ0 405 1).toInt = 0))) := by
  rcases (show a.toInt = 0 ∨ a.toInt = 1 by omega) with q | q
  · exact Or.inl ⟨hr, Or.inl ⟨q, h 0 (by omega)⟩⟩
  · exact Or.inl ⟨hr, Or.inr ⟨q, h 1 (by omega)⟩⟩
theorem RSm_0 {σ0 σ : Nat → Nat → Int32} {a r : Int32} {j : Nat} (u : Up1 σ0 σ 387 0) (ej : a.toInt = (j : Int)) (h : j ≤ 1) (hr : r.toInt = 0) (hz : (σ 405 j).toInt = 0) : (r.toInt = 1 ∧ ((a.toInt = 0 ∧ (σ0 405 0).toInt ≠ 0) ∨ (a.toInt = 1 ∧ (σ0 405 1).toInt ≠ 0))) ∨ (r.toInt = 0 ∧ (a.toInt < 0 ∨ 1 < a.toInt ∨ (a.toInt = 0 ∧ (σ0 405 0).toInt = 0) ∨ (a.toInt = 1 ∧ (σ0 405 1).toInt = 0))) := by
  rw [u 405 j (by omega)] at hz
  rcases (show j = 0 ∨ j = 1 by omega) with rfl | rfl
  · exact Or.inr ⟨hr, Or.inr (Or.inr (Or.inl ⟨by omega, hz⟩))⟩
  · exact Or.inr ⟨hr, Or.inr (Or.inr (Or.inr ⟨by omega, hz⟩))⟩
