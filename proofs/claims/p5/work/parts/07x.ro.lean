/-! ## men's names in the model -/
def WK (σ : Nat → Nat → Int32) (τ : Nat → Nat → Int64) (mm : Nat → Int) (mc : Nat) : Prop := (σ 389 1).toInt = (mc : Int) ∧ mc ≤ 8 ∧ ∀ i : Nat, i < mc → (τ 392 (8 + i)).toInt = mm i
abbrev Gd_WK : List Rc := [(389, 389, 1, 1)]
abbrev GdL_WK : List Rc := [(392, 392, 8, 15)]
theorem WK.ag {σ σ1 : Nat → Nat → Int32} {τ : Nat → Nat → Int64} {mm : Nat → Int} {mc : Nat} (g : WK σ τ mm mc) (a : Agr Gd_WK σ σ1) : WK σ1 τ mm mc := ⟨by rw [a 389 1 (rc_in 0 rfl (by decide) (by decide) (by decide) (by decide))]; exact g.1, g.2.1, g.2.2⟩
theorem WK.agL {σ : Nat → Nat → Int32} {τ τ1 : Nat → Nat → Int64} {mm : Nat → Int} {mc : Nat} (g : WK σ τ mm mc) (a : AgrL GdL_WK τ τ1) : WK σ τ1 mm mc := ⟨g.1, g.2.1, fun i hi => by
  have h8 := g.2.1
  rw [a 392 (8 + i) (rc_in 0 rfl (by decide) (by decide) (by omega) (by omega))]
  exact g.2.2 i hi⟩
theorem WK.fa {σ σ1 : Nat → Nat → Int32} {τ : Nat → Nat → Int64} {b : Nat → Int} {N mo q : Nat} {nm mm lk : Nat → Int} {hc mc n0 oo o m0 : Nat} {r y : Int} (g : WJ σ τ nm hc) (w : WK σ τ mm mc) (k : MK σ1 τ b N mo q) (h47 : tkq b N mo q = 47) (c : (oo = 0 ∧ lk = nm ∧ n0 = hc ∧ y = (hc : Int)) ∨ (oo = 8 ∧ lk = mm ∧ n0 = mc ∧ y = (mc : Int))) (ho : o = oo) (hm : m0 = y.toNat) (h : r = fndq (fun i => τ 392 (o + i)) (τ 387 17) m0) : r = fndq lk (wdq b N q) n0 := by
  subst ho hm
  rw [h]
  rcases c with ⟨rfl, rfl, rfl, rfl⟩ | ⟨rfl, rfl, rfl, rfl⟩
  · refine fndq_cg fun i hi => ?_
    have hi : i < n0 := hi
    show τ 392 (0 + i) = τ 387 17 ↔ lk i = wdq b N q
    rw [Nat.zero_add, ← g.2.2 i hi, ← k.wq h47]
    exact ⟨fun e => by rw [e], fun e => Int64.toInt_inj.mp e⟩
  · refine fndq_cg fun i hi => ?_
    have hi : i < n0 := hi
    show τ 392 (8 + i) = τ 387 17 ↔ lk i = wdq b N q
    rw [← w.2.2 i hi, ← k.wq h47]
    exact ⟨fun e => by rw [e], fun e => Int64.toInt_inj.mp e⟩
theorem VN.wm {σ : Nat → Nat → Int32} {τ : Nat → Nat → Int64} (h : VN σ τ) (k : VK σ) (h8 : 0 ≤ (σ 389 1).toInt ∧ (σ 389 1).toInt ≤ 8) : WM σ τ (fun i : Nat => (τ 392 (8 + i)).toInt) (σ 389 1).toInt.toNat := ⟨k.1.1.2.1.trans (by show (σ 389 1).toInt = _; omega), by omega, fun i hi => (h.1 i (by omega)).2 (by omega)⟩
theorem WK.rf {σ : Nat → Nat → Int32} {τ : Nat → Nat → Int64} (h8 : 0 ≤ (σ 389 1).toInt ∧ (σ 389 1).toInt ≤ 8) : WK σ τ (fun i : Nat => (τ 392 (8 + i)).toInt) (σ 389 1).toInt.toNat := ⟨by omega, by omega, fun i _ => rfl⟩
