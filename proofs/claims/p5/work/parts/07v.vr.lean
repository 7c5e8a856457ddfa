/-! ## what the model keeps of a VALLEY -/
def SA (σ : Nat → Nat → Int32) (σ0 : Nat → Nat → Int32) : Prop := ∀ j : Nat, j < 211 → σ 389 j = σ0 389 j
abbrev Gd_SA : List Rc := [(389, 389, 0, 210)]
theorem SA.ag {σ σ1 σ0 : Nat → Nat → Int32} (g : SA σ σ0) (a : Agr Gd_SA σ σ1) : SA σ1 σ0 := fun j hj => (a 389 j (rc_in 0 rfl (by decide) (by decide) (by omega) (by omega))).trans (g j hj)
theorem SA.rf {σ : Nat → Nat → Int32} : SA σ σ := fun _ _ => rfl
def VH (σ : Nat → Nat → Int32) (b : Nat → Int) (N : Nat) : Prop := ∃ y : Nat × Zt, valP b N 900 941 0 (z00 b N 900) = .inr y ∧ MH σ y.2.2.1
abbrev Gd_VH : List Rc := [(390, 390, 0, 210)]
theorem VH.ag {σ σ1 : Nat → Nat → Int32} {b : Nat → Int} {N : Nat} (g : VH σ b N) (a : Agr Gd_VH σ σ1) : VH σ1 b N := by
  obtain ⟨y, e, h⟩ := g
  exact ⟨y, e, h.ag a⟩
theorem VH.of {σ : Nat → Nat → Int32} {b : Nat → Int} {N nl q : Nat} {h nm : Nat → Int} {x y : Int32} (e : valP b N 900 941 0 (z00 b N 900) = .inr (nl, q, h, nm, x, y)) (g : MH σ h) : VH σ b N := ⟨_, e, g⟩
def VS (σ : Nat → Nat → Int32) (b : Nat → Int) (N : Nat) : Prop := ∃ y : Nat × Zt, valP b N 900 941 0 (z00 b N 900) = .inr y ∧ ∀ j : Nat, j < 211 → (σ 389 j).toInt = y.2.2.1 j
abbrev Gd_VS : List Rc := [(389, 389, 0, 210)]
theorem VS.ag {σ σ1 : Nat → Nat → Int32} {b : Nat → Int} {N : Nat} (g : VS σ b N) (a : Agr Gd_VS σ σ1) : VS σ1 b N := by
  obtain ⟨y, e, h⟩ := g
  refine ⟨y, e, fun j hj => ?_⟩
  rw [a 389 j (rc_in 0 rfl (by decide) (by decide) (by omega) (by omega))]
  exact h j hj
theorem VH.vs {σ : Nat → Nat → Int32} {b : Nat → Int} {N : Nat} (g : VH σ b N) (e : ∀ j : Nat, j < 211 → σ 389 j = σ 390 j) : VS σ b N := by
  obtain ⟨y, e1, h⟩ := g
  refine ⟨y, e1, fun j hj => ?_⟩
  rw [e j hj]
  exact h j hj
/-- what valley() does to the model's VALLEY -/
def VPm (σ0 σ : Nat → Nat → Int32) (b : Nat → Int) (N : Nat) : Prop := ((∃ f : Fq, valP b N 900 941 0 (z00 b N 900) = .inl f) ∧ SA σ σ0) ∨ VS σ b N
theorem VPm.no {σ0 σ : Nat → Nat → Int32} {b : Nat → Int} {N : Nat} {f : Fq} (e : valP b N 900 941 0 (z00 b N 900) = .inl f) (g : SA σ σ0) : VPm σ0 σ b N := Or.inl ⟨⟨f, e⟩, g⟩
/-- what image() does in the model -/
def IMm (σ0 σ : Nat → Nat → Int32) (a : Int32) : Prop := ((a.toInt < 0 ∨ 1 < a.toInt) ∧ (∀ j : Nat, σ 403 j = σ0 403 j) ∧ ∀ j : Nat, σ 405 j = σ0 405 j) ∨ ∃ i : Nat, i < 2 ∧ a.toInt = (i : Int) ∧ (∀ j : Nat, j < 427 → σ 403 (427 * i + j) = σ0 389 j) ∧ (∀ k j : Nat, k < 2 → k ≠ i → j < 427 → σ 403 (427 * k + j) = σ0 403 (427 * k + j)) ∧ (σ 405 i).toInt = 1 ∧ ∀ k : Nat, k < 2 → k ≠ i → σ 405 k = σ0 405 k
theorem IMm.no {σ0 σ : Nat → Nat → Int32} {a : Int32} (u : Up1 σ0 σ 387 0) (h : a.toInt < 0 ∨ 1 < a.toInt) : IMm σ0 σ a := Or.inl ⟨h, fun j => u 403 j (by omega), fun j => u 405 j (by omega)⟩
theorem IMm.of {L : List Rc} {σ0 σ σ1 : Nat → Nat → Int32} {a : Int32} {i : Nat} (ea : a.toInt = (i : Int)) (hi : i ≤ 1) (hF : Fr L σ0 σ1) (hL : disRc L [(389, 389, 0, 426)] = true) (h0 : ∀ i j : Nat, a.toInt = (i : Int) → j < 427 → σ 403 (427 * i + j) = σ 389 j) (h1 : ∀ k j : Nat, k < 2 → j < 427 → a.toInt ≠ (k : Int) → σ 403 (427 * k + j) = σ0 403 (427 * k + j)) (h2 : ∀ k : Nat, k < 2 → σ 405 k = σ0 405 k) (u : Up1 σ σ1 405 i) (v : (σ1 405 i).toInt = 1) : IMm σ0 σ1 a := by
  refine Or.inr ⟨i, by omega, ea, fun j hj => ?_, fun k j hk hn hj => ?_, v, fun k hk hn => ?_⟩
  · rw [u 403 _ (by omega), h0 i j ea hj, ← u 389 j (by omega)]
    exact hF.dis hL (rc_in 0 rfl (by decide) (by decide) (by omega) (by omega))
  · rw [u 403 _ (by omega)]
    exact h1 k j hk hj (by omega)
  · rw [u 405 k (by omega)]
    exact h2 k hk
/-- what restore() does in the model -/
def RT (σ : Nat → Nat → Int32) (σ0 : Nat → Nat → Int32) (a : Int32) : Prop := ∀ i : Nat, a.toInt = (i : Int) → (σ0 405 i).toInt ≠ 0 ∧ ∀ j : Nat, j < 211 → σ 389 j = σ0 403 (427 * i + j)
abbrev Gd_RT : List Rc := [(389, 389, 0, 210)]
theorem RT.ag {σ σ1 σ0 : Nat → Nat → Int32} {a : Int32} (g : RT σ σ0 a) (c : Agr Gd_RT σ σ1) : RT σ1 σ0 a := fun i hi => ⟨(g i hi).1, fun j hj => (c 389 j (rc_in 0 rfl (by decide) (by decide) (by omega) (by omega))).trans ((g i hi).2 j hj)⟩
theorem RT.of {L : List Rc} {σ0 σ : Nat → Nat → Int32} {a : Int32} (hF : Fr L σ0 σ) (hL : disRc L [(403, 403, 0, 853), (405, 405, 0, 1)] = true) (h0 : 0 ≤ a.toInt) (h1 : a.toInt ≤ 1) (h2 : ∀ i : Nat, a.toInt = (i : Int) → (σ 405 i).toInt ≠ 0) (h3 : ∀ i j : Nat, a.toInt = (i : Int) → j < 427 → σ 389 j = σ 403 (427 * i + j)) : RT σ σ0 a := fun i hi => ⟨by
    rw [← hF.dis hL (k := 405) (j := i) (rc_in 1 rfl (by decide) (by decide) (by omega) (by omega))]
    exact h2 i hi, fun j hj => (h3 i j hi (by omega)).trans (hF.dis hL (rc_in 0 rfl (by decide) (by decide) (by omega) (by omega)))⟩
def RSm (σ0 σ : Nat → Nat → Int32) (a : Int32) : Prop := ((a.toInt < 0 ∨ 1 < a.toInt ∨ ∃ i : Nat, i < 2 ∧ a.toInt = (i : Int) ∧ (σ0 405 i).toInt = 0) ∧ SA σ σ0) ∨ (0 ≤ a.toInt ∧ a.toInt ≤ 1 ∧ RT σ σ0 a)
theorem RSm.no {σ0 σ : Nat → Nat → Int32} {a : Int32} (u : Up1 σ0 σ 387 0) (h : a.toInt < 0 ∨ 1 < a.toInt) : RSm σ0 σ a := Or.inl ⟨by omega, fun j _ => u 389 j (by omega)⟩
theorem RSm.n0 {σ0 σ : Nat → Nat → Int32} {a : Int32} {i : Nat} (u : Up1 σ0 σ 387 0) (ei : a.toInt = (i : Int)) (hi : i ≤ 1) (h : (σ 405 i).toInt = 0) : RSm σ0 σ a := Or.inl ⟨Or.inr (Or.inr ⟨i, by omega, ei, by rw [← u 405 i (by omega)]; exact h⟩), fun j _ => u 389 j (by omega)⟩
theorem MS0 {σ0 σ : Nat → Nat → Int32} (u : Up1 σ0 σ 387 0) : (fun j : Nat => (σ 389 j).toInt) = fun j : Nat => (σ0 389 j).toInt := funext fun j => congrArg Int32.toInt (u 389 j (by omega))
theorem flM {σ : Nat → Nat → Int32} {f w : Int} {o j : Nat} (hf : 0 ≤ f) (h2 : f < (σ 389 2).toInt) (c : (w = 0 ∧ o = 79) ∨ (w = 1 ∧ o = 83) ∨ (w = 2 ∧ o = 87)) (ej : (j : Int) = o + f) : (σ 389 j).toInt = flH (fun j : Nat => (σ 389 j).toInt) f w := by
  rcases c with ⟨rfl, rfl⟩ | ⟨rfl, rfl⟩ | ⟨rfl, rfl⟩
  · rw [flH_0 (h := fun j : Nat => (σ 389 j).toInt) hf h2, show j = 79 + f.toNat by omega]
  · rw [flH_1 (h := fun j : Nat => (σ 389 j).toInt) hf h2, show j = 83 + f.toNat by omega]
  · rw [flH_2 (h := fun j : Nat => (σ 389 j).toInt) hf h2, show j = 87 + f.toNat by omega]
theorem caM {σ : Nat → Nat → Int32} {f k w : Int} {o j : Nat} (hf : 0 ≤ f) (h2 : f < (σ 389 2).toInt) (hk : 0 ≤ k) (h4 : k < (σ 389 (87 + f.toNat)).toInt) (c : (w = 0 ∧ o = 91) ∨ (w = 1 ∧ o = 131) ∨ (w = 2 ∧ o = 171)) (ej : (j : Int) = o + (10 * f + k)) : (σ 389 j).toInt = caH (fun j : Nat => (σ 389 j).toInt) f k w := by
  rcases c with ⟨rfl, rfl⟩ | ⟨rfl, rfl⟩ | ⟨rfl, rfl⟩
  · rw [caH_0 (h := fun j : Nat => (σ 389 j).toInt) hf h2 hk h4, show j = 91 + (10 * f.toNat + k.toNat) by omega]
  · rw [caH_1 (h := fun j : Nat => (σ 389 j).toInt) hf h2 hk h4, show j = 131 + (10 * f.toNat + k.toNat) by omega]
  · rw [caH_2 (h := fun j : Nat => (σ 389 j).toInt) hf h2 hk h4, show j = 171 + (10 * f.toNat + k.toNat) by omega]
theorem caM3 {σ : Nat → Nat → Int32} {f k w r : Int} {j : Nat} (hf : 0 ≤ f) (h2 : f < (σ 389 2).toInt) (hk : 0 ≤ k) (h4 : k < (σ 389 (87 + f.toNat)).toInt) (ew : w = 3) (ej : (j : Int) = 131 + (10 * f + k)) (hr : (r = 1 ∧ (σ 389 3).toInt < (σ 389 j).toInt) ∨ (r = 0 ∧ (σ 389 j).toInt ≤ (σ 389 3).toInt)) : r = caH (fun j : Nat => (σ 389 j).toInt) f k w := by
  subst ew
  have e : j = 131 + (10 * f.toNat + k.toNat) := by omega
  subst e
  exact caH_3 (h := fun j : Nat => (σ 389 j).toInt) hf h2 hk h4 hr
theorem PSm_ch (σ : Nat → Nat → Int32) : ∀ n : Nat, PSm σ n = chS (fun j : Nat => (σ 389 j).toInt) n
  | 0 => rfl
  | n + 1 => by
    show PSm σ n + (σ 389 (79 + n)).toInt = chS (fun j : Nat => (σ 389 j).toInt) n + (σ 389 (79 + n)).toInt
    rw [PSm_ch σ n]
theorem PF_ch {σ : Nat → Nat → Int32} {r : Int} (h : r = PF σ) : r = chS (fun j : Nat => (σ 389 j).toInt) ((fun j : Nat => (σ 389 j).toInt) 2).toNat := h.trans (PSm_ch σ _)
theorem dis_sub {L G G1 : List Rc} (h : disRc L G = true) (hs : ∀ r ∈ G1, r ∈ G) : disRc L G1 = true := List.all_eq_true.mpr fun q hq => List.all_eq_true.mpr fun r hr => List.all_eq_true.mp (List.all_eq_true.mp h q hq) r (hs r hr)
/-! ## class and model hold the same VALLEY, and the same images -/
def VK (σ : Nat → Nat → Int32) : Prop := CV σ 2 (fun j : Nat => (σ 389 j).toInt) ∧ ∀ i : Nat, i < 2 → (σ (29 + i) 3).toInt = (σ 405 i).toInt ∧ ((σ 405 i).toInt ≠ 0 → CV σ (4 + i) (fun j : Nat => (σ 403 (427 * i + j)).toInt))
abbrev Gd_VK : List Rc := [(2, 2, 0, 6), (4, 5, 0, 6), (132, 135, 0, 2), (140, 147, 0, 2), (148, 187, 0, 2), (228, 307, 0, 2), (29, 30, 3, 3), (389, 389, 0, 210), (403, 403, 0, 853), (405, 405, 0, 1)]
theorem VK.go {σ σ1 : Nat → Nat → Int32} (h : VK σ) (a : SmV σ σ1) (k : ∀ i : Nat, i < 2 → σ1 (29 + i) 3 = σ (29 + i) 3) (s : SA σ1 σ) (t : ∀ j : Nat, j < 854 → σ1 403 j = σ 403 j) (u : ∀ i : Nat, i < 2 → σ1 405 i = σ 405 i) : VK σ1 := by
  refine ⟨(h.1.sm a (by omega)).cg fun j hj => congrArg Int32.toInt (s j hj), fun i hi => ?_⟩
  rw [k i hi, u i hi]
  refine ⟨(h.2 i hi).1, fun hz => (((h.2 i hi).2 hz).sm a (by omega)).cg fun j hj => congrArg Int32.toInt (t _ (by omega))⟩
theorem SmV.sub {σ σ1 : Nat → Nat → Int32} (a : Agr Gd_VK σ σ1) : SmV σ σ1 := fun v k j hv hk => a k j (by
    rcases hv with rfl | rfl | rfl
    · rcases hk with hk | hk | hk
      · exact rc_in 0 rfl (by omega) (by omega) (by omega) (by omega)
      · exact rc_in 2 rfl (by omega) (by omega) (by omega) (by omega)
      · exact rc_in 4 rfl (by omega) (by omega) (by omega) (by omega)
    · rcases hk with hk | hk | hk
      · exact rc_in 1 rfl (by omega) (by omega) (by omega) (by omega)
      · exact rc_in 3 rfl (by omega) (by omega) (by omega) (by omega)
      · exact rc_in 5 rfl (by omega) (by omega) (by omega) (by omega)
    · rcases hk with hk | hk | hk
      · exact rc_in 1 rfl (by omega) (by omega) (by omega) (by omega)
      · exact rc_in 3 rfl (by omega) (by omega) (by omega) (by omega)
      · exact rc_in 5 rfl (by omega) (by omega) (by omega) (by omega))
theorem VK.fr {L : List Rc} {σ σ1 : Nat → Nat → Int32} (h : VK σ) (f : Fr L σ σ1) (hL : disRc L Gd_VK = true) : VK σ1 := by
  have a : Agr Gd_VK σ σ1 := Agr.fr f hL
  exact h.go (SmV.sub a) (fun i hi => a _ _ (rc_in 6 rfl (by omega) (by omega) (by decide) (by decide))) (fun j hj => a _ _ (rc_in 7 rfl (by decide) (by decide) (by omega) (by omega))) (fun j hj => a _ _ (rc_in 8 rfl (by decide) (by decide) (by omega) (by omega))) (fun i hi => a _ _ (rc_in 9 rfl (by decide) (by decide) (by omega) (by omega)))
/-- of a frame of the class's, what the model holds -/
abbrev Gd_Mo : List Rc := [(389, 389, 0, 426), (403, 403, 0, 853), (405, 405, 0, 1)]
/-- of a frame of the model's, what the class holds -/
abbrev Gd_Cl : List Rc := [(2, 2, 0, 6), (4, 5, 0, 6), (132, 135, 0, 2), (140, 147, 0, 2), (148, 187, 0, 2), (228, 307, 0, 2), (29, 30, 3, 3)]
theorem VK.val {L M : List Rc} {σ σ1 σ2 : Nat → Nat → Int32} {b : Nat → Int} {N : Nat} (h : VK σ) (c : VZc σ σ1 b N) (f : Fr L σ σ1) (hL : disRc L [(389, 389, 0, 426), (403, 403, 0, 853), (405, 405, 0, 1), (29, 30, 3, 3)] = true) (d : VPm σ1 σ2 b N) (g : Fr M σ1 σ2) (hM : disRc M [(2, 2, 0, 6), (4, 5, 0, 6), (132, 135, 0, 2), (140, 147, 0, 2), (148, 187, 0, 2), (228, 307, 0, 2), (29, 30, 3, 3), (403, 403, 0, 853), (405, 405, 0, 1)] = true) : VK σ2 := by
  have k : ∀ i : Nat, i < 2 → σ2 (29 + i) 3 = σ (29 + i) 3 := fun i hi => (g.dis hM (rc_in 6 rfl (by omega) (by omega) (by decide) (by decide))).trans (f.dis hL (rc_in 3 rfl (by omega) (by omega) (by decide) (by decide)))
  have t : ∀ j : Nat, j < 854 → σ2 403 j = σ 403 j := fun j hj => (g.dis hM (rc_in 7 rfl (by decide) (by decide) (by omega) (by omega))).trans (f.dis hL (rc_in 1 rfl (by decide) (by decide) (by omega) (by omega)))
  have u : ∀ i : Nat, i < 2 → σ2 405 i = σ 405 i := fun i hi => (g.dis hM (rc_in 8 rfl (by decide) (by decide) (by omega) (by omega))).trans (f.dis hL (rc_in 2 rfl (by decide) (by decide) (by omega) (by omega)))
  have m : SmV σ1 σ2 := SmV.of g (dis_sub hM (by decide))
  rcases c with ⟨⟨e1, he1⟩, c⟩ | ⟨y, he, c1, c2⟩
  · rcases d with ⟨_, d⟩ | ⟨y, he, _⟩
    · exact h.go (c.tr m) k (fun j hj => (d j hj).trans (f.dis hL (rc_in 0 rfl (by decide) (by decide) (by omega) (by omega)))) t u
    · rw [he1] at he
      cases he
  · rcases d with ⟨⟨e1, he1⟩, _⟩ | ⟨y2, he2, d⟩
    · rw [he1] at he
      cases he
    · rw [he] at he2
      cases he2
      refine ⟨(c1.sm m (by omega)).cg fun j hj => d j hj, fun i hi => ?_⟩
      rw [k i hi, u i hi]
      refine ⟨(h.2 i hi).1, fun hz => (((h.2 i hi).2 hz).fr fun a j hk => ?_).cg fun j hj => congrArg Int32.toInt (t _ (by omega))⟩
      rw [m (4 + i) a j (by omega) hk]
      exact c2 (4 + i) a j (by omega) hk
theorem VK.im {L M : List Rc} {σ σ1 σ2 : Nat → Nat → Int32} {a : Int32} (h : VK σ) (c : IMc σ σ1 a) (f : Fr L σ σ1) (hL : disRc L Gd_Mo = true) (d : IMm σ1 σ2 a) (g : Fr M σ1 σ2) (hM : disRc M [(2, 2, 0, 6), (4, 5, 0, 6), (132, 135, 0, 2), (140, 147, 0, 2), (148, 187, 0, 2), (228, 307, 0, 2), (29, 30, 3, 3), (389, 389, 0, 210)] = true) : VK σ2 := by
  have m : SmV σ1 σ2 := SmV.of g (dis_sub hM (by decide))
  have k : ∀ i : Nat, i < 2 → σ2 (29 + i) 3 = σ1 (29 + i) 3 := fun i hi => g.dis hM (rc_in 6 rfl (by omega) (by omega) (by decide) (by decide))
  have s1 : ∀ j : Nat, j < 427 → σ1 389 j = σ 389 j := fun j hj => f.dis hL (rc_in 0 rfl (by decide) (by decide) (by omega) (by omega))
  have s2 : ∀ j : Nat, j < 211 → σ2 389 j = σ1 389 j := fun j hj => g.dis hM (rc_in 7 rfl (by decide) (by decide) (by omega) (by omega))
  have t1 : ∀ j : Nat, j < 854 → σ1 403 j = σ 403 j := fun j hj => f.dis hL (rc_in 1 rfl (by decide) (by decide) (by omega) (by omega))
  have u1 : ∀ i : Nat, i < 2 → σ1 405 i = σ 405 i := fun i hi => f.dis hL (rc_in 2 rfl (by decide) (by decide) (by omega) (by omega))
  rcases c with ⟨ha, rfl⟩ | ⟨i, hi, ei, c1, c2, c3⟩
  · rcases d with ⟨_, d1, d2⟩ | ⟨i2, hi2, ei2, _⟩
    · exact h.go m k (fun j hj => s2 j hj) (fun j _ => d1 j) (fun i _ => d2 i)
    · exfalso; omega
  · rcases d with ⟨ha, _⟩ | ⟨i2, hi2, ei2, d1, d2, d3, d4⟩
    · exfalso; omega
    · have e : i2 = i := by omega
      subst e
      refine ⟨((h.1.ne c1 (by omega) (by omega) (by omega)).sm m (by omega)).cg fun j hj => congrArg Int32.toInt ((s2 j hj).trans (s1 j (by omega))), fun q hq => ?_⟩
      rw [k q hq]
      by_cases cq : q = i2
      · subst cq
        refine ⟨c2.trans d3.symm, fun _ => ((h.1.cp c1).sm m (by omega)).cg fun j hj => congrArg Int32.toInt ((d1 j (by omega)).trans (s1 j (by omega)))⟩
      · rw [c3 (29 + q) (by omega) (by omega) (by omega), d4 q hq cq, u1 q hq]
        refine ⟨(h.2 q hq).1, fun hz => ((((h.2 q hq).2 hz).ne c1 (by omega) (by omega) (by omega)).sm m (by omega)).cg fun j hj => congrArg Int32.toInt ((d2 q j hq cq (by omega)).trans (t1 _ (by omega)))⟩
theorem VK.rs {L M : List Rc} {σ σ1 σ2 : Nat → Nat → Int32} {a : Int32} (h : VK σ) (c : RSc σ σ1 a) (f : Fr L σ σ1) (hL : disRc L [(389, 389, 0, 426), (403, 403, 0, 853), (405, 405, 0, 1), (29, 30, 3, 3)] = true) (d : RSm σ1 σ2 a) (g : Fr M σ1 σ2) (hM : disRc M [(2, 2, 0, 6), (4, 5, 0, 6), (132, 135, 0, 2), (140, 147, 0, 2), (148, 187, 0, 2), (228, 307, 0, 2), (29, 30, 3, 3), (403, 403, 0, 853), (405, 405, 0, 1)] = true) : VK σ2 := by
  have k : ∀ i : Nat, i < 2 → σ2 (29 + i) 3 = σ (29 + i) 3 := fun i hi => (g.dis hM (rc_in 6 rfl (by omega) (by omega) (by decide) (by decide))).trans (f.dis hL (rc_in 3 rfl (by omega) (by omega) (by decide) (by decide)))
  have t1 : ∀ j : Nat, j < 854 → σ1 403 j = σ 403 j := fun j hj => f.dis hL (rc_in 1 rfl (by decide) (by decide) (by omega) (by omega))
  have t : ∀ j : Nat, j < 854 → σ2 403 j = σ 403 j := fun j hj => (g.dis hM (rc_in 7 rfl (by decide) (by decide) (by omega) (by omega))).trans (t1 j hj)
  have u1 : ∀ i : Nat, i < 2 → σ1 405 i = σ 405 i := fun i hi => f.dis hL (rc_in 2 rfl (by decide) (by decide) (by omega) (by omega))
  have u : ∀ i : Nat, i < 2 → σ2 405 i = σ 405 i := fun i hi => (g.dis hM (rc_in 8 rfl (by decide) (by decide) (by omega) (by omega))).trans (u1 i hi)
  have m : SmV σ1 σ2 := SmV.of g (dis_sub hM (by decide))
  rcases c with ⟨ha, rfl⟩ | ⟨i, hi, ei, hz, c⟩
  · rcases d with ⟨_, d⟩ | ⟨a0, a1, d⟩
    · exact h.go m k d t u
    · exfalso
      rcases ha with ha | ha | ⟨i, hi, ei, hz⟩
      · omega
      · omega
      · have h1 := (h.2 i hi).1
        exact (d i ei).1 (by omega)
  · rcases d with ⟨ha, _⟩ | ⟨a0, a1, d⟩
    · exfalso
      rcases ha with ha | ha | ⟨i2, hi2, ei2, hz2⟩
      · omega
      · omega
      · have e : i2 = i := by omega
        subst e
        have h1 := (h.2 i2 hi2).1
        rw [u1 i2 hi2] at hz2
        omega
    · have h1 := h.2 i hi
      have dd := d i ei
      refine ⟨(((h1.2 (by rw [← u1 i hi]; exact dd.1)).cp c).sm m (by omega)).cg fun j hj => congrArg Int32.toInt ((dd.2 j hj).trans (t1 _ (by omega))), fun q hq => ?_⟩
      rw [k q hq, u q hq]
      refine ⟨(h.2 q hq).1, fun hz => ((((h.2 q hq).2 hz).ne c (by omega) (by omega) (by omega)).sm m (by omega)).cg fun j hj => congrArg Int32.toInt (t _ (by omega))⟩
theorem VK.beg {σ : Nat → Nat → Int32} (h1 : ∀ j : Nat, j < 7 → (σ 2 j).toInt = if j = 0 then 20 else if j = 1 then 99 else if j = 2 then -1 else 0) (h2 : ∀ j : Nat, j < 211 → (σ 389 j).toInt = if j = 3 ∨ j = 4 then 99 else 0) (h3 : ∀ i : Nat, i < 2 → (σ (29 + i) 3).toInt = 0 ∧ (σ 405 i).toInt = 0) : VK σ := by
  refine ⟨⟨⟨?_, ?_, ?_, ?_, Or.inr ⟨?_, ?_⟩⟩, fun f hf => ?_, fun f k hf => ?_, fun j g1 g2 => ?_⟩, fun i hi => ⟨(h3 i hi).1.trans (h3 i hi).2.symm, fun hz => absurd (h3 i hi).2 hz⟩⟩
  · rw [h1 4 (by omega)]; show _ = (σ 389 0).toInt; rw [h2 0 (by omega)]; rfl
  · rw [h1 5 (by omega)]; show _ = (σ 389 1).toInt; rw [h2 1 (by omega)]; rfl
  · rw [h1 6 (by omega)]; show _ = (σ 389 2).toInt; rw [h2 2 (by omega)]; rfl
  · rw [h1 1 (by omega)]; show _ = (σ 389 4).toInt; rw [h2 4 (by omega)]; rfl
  · rw [h1 0 (by omega)]; rfl
  · show (σ 389 3).toInt = 99; rw [h2 3 (by omega)]; rfl
  · exfalso
    have e : (σ 389 2).toInt = 0 := h2 2 (by omega)
    have hf : (f : Int) < (σ 389 2).toInt := hf
    omega
  · exfalso
    have e : (σ 389 2).toInt = 0 := h2 2 (by omega)
    have hf : (f : Int) < (σ 389 2).toInt := hf
    omega
  · show (σ 389 j).toInt ≤ 20
    rw [h2 j (by omega), if_neg (by omega)]
    omega
theorem coM {σ : Nat → Nat → Int32} {w sz : Int} {j : Nat} (ej : w = (j : Int)) (hj : j ≤ 2) : (σ 389 j).toInt = coH (fun j : Nat => (σ 389 j).toInt) sz w := by
  subst ej
  rcases (show j = 0 ∨ j = 1 ∨ j = 2 by omega) with rfl | rfl | rfl
  · exact coH_of (Or.inl ⟨rfl, rfl⟩)
  · exact coH_of (Or.inr (Or.inl ⟨rfl, rfl⟩))
  · exact coH_of (Or.inr (Or.inr (Or.inl ⟨rfl, rfl⟩)))
theorem SI.chb {σ : Nat → Nat → Int32} (h : SI σ) : ∀ f : Nat, f < 4 → 0 ≤ (σ 389 (79 + f)).toInt ∧ (σ 389 (79 + f)).toInt ≤ 9 := by
  intro f hf
  rcases (show f = 0 ∨ f = 1 ∨ f = 2 ∨ f = 3 by omega) with rfl | rfl | rfl | rfl
  · have g := h.ch (x := 0) (j := 79 + 0) (by decide) (by decide) (by decide)
    exact ⟨g.1, g.2.1⟩
  · have g := h.ch (x := 1) (j := 79 + 1) (by decide) (by decide) (by decide)
    exact ⟨g.1, g.2.1⟩
  · have g := h.ch (x := 2) (j := 79 + 2) (by decide) (by decide) (by decide)
    exact ⟨g.1, g.2.1⟩
  · have g := h.ch (x := 3) (j := 79 + 3) (by decide) (by decide) (by decide)
    exact ⟨g.1, g.2.1⟩
