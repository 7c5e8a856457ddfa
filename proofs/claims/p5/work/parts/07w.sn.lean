/-! ## the model's stack of a SENTENCE -/
def SK (f : Nat → Int) : Nat → List Bool → Prop
  | 0, K => K = []
  | t + 1, K => (f t = 20 ∧ ∃ K1 : List Bool, K = false :: K1 ∧ SK f t K1) ∨ (f t = 23 ∧ ∃ K1 : List Bool, K = true :: K1 ∧ SK f t K1) ∨ ((f t = 21 ∨ f t = 22) ∧ pnt K = K ∧ SK f t K)
theorem SK.cg {f g : Nat → Int} : ∀ {t : Nat} {K : List Bool}, (∀ j : Nat, j < t → g j = f j) → SK f t K → SK g t K
  | 0, _, _, h => h
  | t + 1, K, e, h => by
    have e1 := e t (Nat.lt_succ_self t)
    rcases h with ⟨h1, K1, h2, h3⟩ | ⟨h1, K1, h2, h3⟩ | ⟨h1, h2, h3⟩
    · exact Or.inl ⟨e1.trans h1, K1, h2, SK.cg (fun j hj => e j (by omega)) h3⟩
    · exact Or.inr (Or.inl ⟨e1.trans h1, K1, h2, SK.cg (fun j hj => e j (by omega)) h3⟩)
    · exact Or.inr (Or.inr ⟨by rw [e1]; exact h1, h2, SK.cg (fun j hj => e j (by omega)) h3⟩)
theorem SK.nt {f : Nat → Int} {t : Nat} {K : List Bool} (h : SK f (t + 1) K) (e : f t = 20) : ∃ K1 : List Bool, K = false :: K1 ∧ SK f t K1 := by
  rcases h with ⟨_, h⟩ | ⟨h1, _⟩ | ⟨h1, _⟩
  · exact h
  · omega
  · omega
theorem SK.op {f : Nat → Int} {t : Nat} {K : List Bool} (h : SK f (t + 1) K) (e : f t ≠ 20 ∧ f t ≠ 21 ∧ f t ≠ 22) : ∃ K1 : List Bool, K = true :: K1 ∧ SK f t K1 := by
  rcases h with ⟨h1, _⟩ | ⟨_, h⟩ | ⟨h1, _⟩
  · omega
  · exact h
  · omega
theorem SK.jn {f : Nat → Int} {t : Nat} {K : List Bool} (h : SK f (t + 1) K) (e : f t = 21 ∨ f t = 22) : pnt K = K ∧ SK f t K := by
  rcases h with ⟨h1, _⟩ | ⟨h1, _⟩ | ⟨_, h⟩
  · omega
  · omega
  · exact h
theorem SK.pn {f : Nat → Int} : ∀ {t : Nat} {K : List Bool}, SK f t K → (∀ u : Nat, t = u + 1 → f u ≠ 20) → pnt K = K
  | 0, K, h, _ => by
    have h : K = [] := h
    rw [h]
    rfl
  | t + 1, K, h, e => by
    rcases h with ⟨h1, _⟩ | ⟨_, K1, h2, _⟩ | ⟨_, h2, _⟩
    · exact absurd h1 (e t rfl)
    · rw [h2]
      rfl
    · exact h2
theorem pnt_pn : ∀ K : List Bool, pnt (pnt K) = pnt K
  | [] => rfl
  | false :: K => pnt_pn K
  | true :: _ => rfl
/-- what the model holds of what is not closed yet -/
def SN (σ : Nat → Nat → Int32) (K : List Bool) : Prop := (0 ≤ (σ 387 40).toInt ∧ (σ 387 40).toInt ≤ 45) ∧ SK (fun j : Nat => (σ 401 j).toInt) (σ 387 40).toInt.toNat K ∧ (σ 387 41).toInt = 1 + (K.length : Int)
abbrev Gd_SN : List Rc := [(387, 387, 40, 41), (401, 401, 0, 44)]
theorem SK.len {f : Nat → Int} : ∀ {t : Nat} {K : List Bool}, SK f t K → K.length ≤ t
  | 0, K, h => by
    have h : K = [] := h
    rw [h]
    exact Nat.le_refl _
  | t + 1, K, h => by
    rcases h with ⟨_, K1, rfl, h⟩ | ⟨_, K1, rfl, h⟩ | ⟨_, _, h⟩
    · have := SK.len h
      rw [List.length_cons]
      omega
    · have := SK.len h
      rw [List.length_cons]
      omega
    · have := SK.len h
      omega
theorem SN.dl {σ : Nat → Nat → Int32} {K : List Bool} (g : SN σ K) : 1 ≤ (σ 387 41).toInt ∧ (σ 387 41).toInt ≤ 46 := by
  have h := g.2.1.len
  have h1 := g.1
  have h2 := g.2.2
  omega
theorem SN.nots {σ σ1 σ2 : Nat → Nat → Int32} {K : List Bool} {t : Nat} (g : SN σ K) (et : (σ 387 40).toInt = (t : Int) + 1) (e20 : (σ 401 t).toInt = 20) (u : Up1 σ σ1 387 40) (v : (σ1 387 40).toInt = (t : Int)) (u2 : Up1 σ1 σ2 387 41) (v2 : (σ2 387 41).toInt = (σ1 387 41).toInt - 1) : ∃ K1 : List Bool, pnt K1 = pnt K ∧ SN σ2 K1 := by
  obtain ⟨g0, g1, g2⟩ := g
  rw [show (σ 387 40).toInt.toNat = t + 1 by omega] at g1
  obtain ⟨K1, rfl, h⟩ := g1.nt e20
  refine ⟨K1, rfl, ?_, ?_, ?_⟩
  · rw [u2 387 40 (by omega)]; omega
  · rw [u2 387 40 (by omega), show (σ1 387 40).toInt.toNat = t by omega]
    exact SK.cg (fun j _ => by show (σ2 401 j).toInt = (σ 401 j).toInt; rw [u2 401 j (by omega), u 401 j (by omega)]) h
  · rw [v2, u 387 41 (by omega), g2, List.length_cons]
    omega
theorem SN.pn {σ : Nat → Nat → Int32} {K : List Bool} (g : SN σ K) (h : ∀ t : Nat, (σ 387 40).toInt = (t : Int) + 1 → (σ 401 t).toInt ≠ 20) : pnt K = K := g.2.1.pn fun u hu => h u (by have := g.1; omega)
theorem SN.join {σ σ1 : Nat → Nat → Int32} {K : List Bool} {t : Nat} (g : SN σ K) (et : (σ 387 40).toInt = (t : Int) + 1) (ej : (σ 401 t).toInt = 21 ∨ (σ 401 t).toInt = 22) (u : Up1 σ σ1 387 40) (v : (σ1 387 40).toInt = (t : Int)) : SN σ1 K := by
  obtain ⟨g0, g1, g2⟩ := g
  rw [show (σ 387 40).toInt.toNat = t + 1 by omega] at g1
  refine ⟨by omega, ?_, ?_⟩
  · rw [show (σ1 387 40).toInt.toNat = t by omega]
    exact SK.cg (fun j _ => by show (σ1 401 j).toInt = (σ 401 j).toInt; rw [u 401 j (by omega)]) (g1.jn ej).2
  · rw [u 387 41 (by omega)]
    exact g2
theorem SN.push {σ σ1 σ2 : Nat → Nat → Int32} {K : List Bool} {t : Nat} (g : SN σ K) (hK : pnt K = K) (ht : t < 45) (et : (σ 387 40).toInt = (t : Int)) (u : Up1 σ σ1 401 t) (v : (σ1 401 t).toInt = 21 ∨ (σ1 401 t).toInt = 22) (u2 : Up1 σ1 σ2 387 40) (v2 : (σ2 387 40).toInt = (t : Int) + 1) : SN σ2 K := by
  obtain ⟨g0, g1, g2⟩ := g
  rw [show (σ 387 40).toInt.toNat = t by omega] at g1
  refine ⟨by omega, ?_, ?_⟩
  · rw [show (σ2 387 40).toInt.toNat = t + 1 by omega]
    refine Or.inr (Or.inr ⟨?_, hK, SK.cg (fun j hj => by show (σ2 401 j).toInt = (σ 401 j).toInt; rw [u2 401 j (by omega), u 401 j (by omega)]) g1⟩)
    show (σ2 401 t).toInt = 21 ∨ (σ2 401 t).toInt = 22
    rw [u2 401 t (by omega)]
    exact v
  · rw [u2 387 41 (by omega), u 387 41 (by omega)]
    exact g2
theorem SN.deep {σ σ1 σ2 σ3 : Nat → Nat → Int32} {K : List Bool} {t : Nat} {x : Bool} (g : SN σ K) (ht : t < 45) (et : (σ 387 40).toInt = (t : Int)) (u : Up1 σ σ1 401 t) (v : (σ1 401 t).toInt = if x = true then 23 else 20) (u2 : Up1 σ1 σ2 387 40) (v2 : (σ2 387 40).toInt = (t : Int) + 1) (u3 : Up1 σ2 σ3 387 41) (v3 : (σ3 387 41).toInt = (σ2 387 41).toInt + 1) : SN σ3 (x :: K) := by
  obtain ⟨g0, g1, g2⟩ := g
  rw [show (σ 387 40).toInt.toNat = t by omega] at g1
  have c : SK (fun j : Nat => (σ3 401 j).toInt) t K := SK.cg (fun j hj => by show (σ3 401 j).toInt = (σ 401 j).toInt; rw [u3 401 j (by omega), u2 401 j (by omega), u 401 j (by omega)]) g1
  have e : (σ3 401 t).toInt = (σ1 401 t).toInt := by rw [u3 401 t (by omega), u2 401 t (by omega)]
  have e4 : (σ3 387 40).toInt = (t : Int) + 1 := by rw [u3 387 40 (by omega), v2]
  refine ⟨by omega, ?_, ?_⟩
  · rw [show (σ3 387 40).toInt.toNat = t + 1 by omega]
    cases x with
    | true => exact Or.inr (Or.inl ⟨e.trans v, K, rfl, c⟩)
    | false => exact Or.inl ⟨e.trans v, K, rfl, c⟩
  · rw [v3, u2 387 41 (by omega), u 387 41 (by omega), g2, List.length_cons]
    omega
theorem SN.close {σ σ1 σ2 : Nat → Nat → Int32} {K : List Bool} {t : Nat} (g : SN σ K) (hK : pnt K = K) (et : (σ 387 40).toInt = (t : Int) + 1) (e : (σ 401 t).toInt ≠ 21 ∧ (σ 401 t).toInt ≠ 22) (u : Up1 σ σ1 387 40) (v : (σ1 387 40).toInt = (t : Int)) (u2 : Up1 σ1 σ2 387 41) (v2 : (σ2 387 41).toInt = (σ1 387 41).toInt - 1) : ∃ K1 : List Bool, K = true :: K1 ∧ SN σ2 K1 := by
  obtain ⟨g0, g1, g2⟩ := g
  rw [show (σ 387 40).toInt.toNat = t + 1 by omega] at g1
  have h20 : (σ 401 t).toInt ≠ 20 := fun h => by
    obtain ⟨K1, rfl, _⟩ := g1.nt h
    have h1 : (pnt K1).length = (false :: K1).length := congrArg List.length hK
    have h2 : ∀ K : List Bool, (pnt K).length ≤ K.length := fun K => by
      induction K with
      | nil => exact Nat.le_refl _
      | cons a K ih =>
        cases a with
        | false => exact Nat.le_succ_of_le ih
        | true => exact Nat.le_refl _
    have h3 := h2 K1
    rw [List.length_cons] at h1
    omega
  obtain ⟨K1, rfl, h⟩ := g1.op ⟨h20, e.1, e.2⟩
  refine ⟨K1, rfl, ?_, ?_, ?_⟩
  · rw [u2 387 40 (by omega)]; omega
  · rw [u2 387 40 (by omega), show (σ1 387 40).toInt.toNat = t by omega]
    exact SK.cg (fun j _ => by show (σ2 401 j).toInt = (σ 401 j).toInt; rw [u2 401 j (by omega), u 401 j (by omega)]) h
  · rw [v2, u 387 41 (by omega), g2, List.length_cons]
    omega
theorem SN.emp {σ : Nat → Nat → Int32} {K : List Bool} (g : SN σ K) (h : (σ 387 40).toInt = 0) : K = [] := by
  have g1 := g.2.1
  rw [show (σ 387 40).toInt.toNat = 0 by omega] at g1
  exact g1
theorem SN.ne {σ : Nat → Nat → Int32} {K : List Bool} {t : Nat} (g : SN σ K) (hK : pnt K = K) (et : (σ 387 40).toInt = (t : Int) + 1) (e : (σ 401 t).toInt ≠ 21 ∧ (σ 401 t).toInt ≠ 22) : K ≠ [] := by
  obtain ⟨g0, g1, g2⟩ := g
  rw [show (σ 387 40).toInt.toNat = t + 1 by omega] at g1
  rcases g1 with ⟨_, K1, h, _⟩ | ⟨_, K1, h, _⟩ | ⟨h, _⟩
  · rw [h]; exact fun c => by cases c
  · rw [h]; exact fun c => by cases c
  · have h : (σ 401 t).toInt = 21 ∨ (σ 401 t).toInt = 22 := h
    omega
theorem SN.ag {σ σ1 : Nat → Nat → Int32} {K : List Bool} (g : SN σ K) (a : Agr Gd_SN σ σ1) : SN σ1 K := by
  have h45 := g.1
  have e40 : σ1 387 40 = σ 387 40 := a 387 40 (rc_in 0 rfl (by decide) (by decide) (by decide) (by decide))
  have e41 : σ1 387 41 = σ 387 41 := a 387 41 (rc_in 0 rfl (by decide) (by decide) (by decide) (by decide))
  refine ⟨by rw [e40]; exact g.1, ?_, by rw [e41]; exact g.2.2⟩
  rw [e40]
  exact SK.cg (fun j hj => congrArg Int32.toInt (a 401 j (rc_in 1 rfl (by decide) (by decide) (by omega) (by omega)))) g.2.1
theorem sgT_44 {c : Int} (h : sgT c = 44) : c = 40 := by
  unfold sgT at h
  split at h
  · omega
  · split at h
    · omega
    · split at h
      · omega
      · split at h
        · omega
        · split at h
          · omega
          · split at h <;> omega
theorem sgT_45 {c : Int} (h : sgT c = 45) : c = 41 := by
  unfold sgT at h
  split at h
  · omega
  · split at h
    · omega
    · split at h
      · omega
      · split at h
        · omega
        · split at h
          · omega
          · split at h <;> omega
theorem sgT_ms {c : Int} (h : 41 ≤ sgT c ∧ sgT c ≤ 43) : 60 ≤ c ∧ c ≤ 62 := by
  unfold sgT at h
  split at h
  · omega
  · split at h
    · omega
    · split at h
      · omega
      · split at h
        · omega
        · split at h
          · omega
          · split at h <;> omega
theorem MK.sgc {σ : Nat → Nat → Int32} {τ : Nat → Nat → Int64} {b : Nat → Int} {N mo q : Nat} {c k : Int} (h : MK σ τ b N mo q) (hc : (c = 40 ∧ k = 44) ∨ (c = 41 ∧ k = 45)) : ((σ 387 11).toInt = 3 ∧ (σ 387 14).toInt = c) ↔ tkq b N mo q = k := by
  have hw := wdK_rg (wdq b N q)
  have e0 : sgT 40 = 44 := rfl
  have e1 : sgT 41 = 45 := rfl
  constructor
  · rintro ⟨h1, h2⟩
    rcases h.2.2 with g | g | g | g | g
    · omega
    · omega
    · omega
    · rw [g.2.1, h2]
      rcases hc with ⟨rfl, rfl⟩ | ⟨rfl, rfl⟩
      · exact e0
      · exact e1
    · omega
  · intro h1
    rcases h.2.2 with g | g | g | g | g
    · omega
    · omega
    · omega
    · refine ⟨g.1, ?_⟩
      have h2 := g.2.1
      rw [h1] at h2
      rcases hc with ⟨rfl, rfl⟩ | ⟨rfl, rfl⟩
      · exact sgT_44 h2.symm
      · exact sgT_45 h2.symm
    · omega
theorem MK.ms {σ : Nat → Nat → Int32} {τ : Nat → Nat → Int64} {b : Nat → Int} {N mo q : Nat} (h : MK σ τ b N mo q) : ((σ 387 11).toInt = 3 ∧ 60 ≤ (σ 387 14).toInt ∧ (σ 387 14).toInt ≤ 62) ↔ (41 ≤ tkq b N mo q ∧ tkq b N mo q ≤ 43) := by
  have hw := wdK_rg (wdq b N q)
  constructor
  · rintro ⟨h1, h2, h3⟩
    rcases h.2.2 with g | g | g | g | g
    · omega
    · omega
    · omega
    · rw [g.2.1]
      rcases (show (σ 387 14).toInt = 60 ∨ (σ 387 14).toInt = 61 ∨ (σ 387 14).toInt = 62 by omega) with e | e | e <;> rw [e] <;> decide
    · omega
  · intro h1
    rcases h.2.2 with g | g | g | g | g
    · omega
    · omega
    · omega
    · have h2 := sgT_ms (c := (σ 387 14).toInt) (by rw [← g.2.1]; exact h1)
      exact ⟨g.1, h2.1, h2.2⟩
    · omega
/-- the model's reader of a SENTENCE stands so -/
def MS (σ : Nat → Nat → Int32) (τ : Nat → Nat → Int64) (b : Nat → Int) (N mo : Nat) (z : Ms) : Prop := MK σ τ b N mo z.2.1 ∧ (σ 387 39).toInt = (z.2.2.1 : Int) ∧ SN σ z.2.2.2 ∧ (σ 387 42).toInt = if z.1 = true then 1 else 0
/-- hills' names in the model -/
def WJ (σ : Nat → Nat → Int32) (τ : Nat → Nat → Int64) (nm : Nat → Int) (hc : Nat) : Prop := (σ 389 0).toInt = (hc : Int) ∧ hc ≤ 8 ∧ ∀ i : Nat, i < hc → (τ 392 i).toInt = nm i
abbrev Gd_WJ : List Rc := [(389, 389, 0, 0)]
abbrev GdL_WJ : List Rc := [(392, 392, 0, 7)]
theorem WJ.ag {σ σ1 : Nat → Nat → Int32} {τ : Nat → Nat → Int64} {nm : Nat → Int} {hc : Nat} (g : WJ σ τ nm hc) (a : Agr Gd_WJ σ σ1) : WJ σ1 τ nm hc := ⟨by rw [a 389 0 (rc_in 0 rfl (by decide) (by decide) (by decide) (by decide))]; exact g.1, g.2.1, g.2.2⟩
theorem WJ.agL {σ : Nat → Nat → Int32} {τ τ1 : Nat → Nat → Int64} {nm : Nat → Int} {hc : Nat} (g : WJ σ τ nm hc) (a : AgrL GdL_WJ τ τ1) : WJ σ τ1 nm hc := ⟨g.1, g.2.1, fun i hi => by
  have h8 := g.2.1
  rw [a 392 i (rc_in 0 rfl (by decide) (by decide) (by omega) (by omega))]
  exact g.2.2 i hi⟩
theorem WJ.fa {σ σ1 : Nat → Nat → Int32} {τ : Nat → Nat → Int64} {b : Nat → Int} {N mo q : Nat} {nm : Nat → Int} {hc : Nat} {r : Int} {o n0 : Nat} (g : WJ σ τ nm hc) (k : MK σ1 τ b N mo q) (h47 : tkq b N mo q = 47) (ho : o = 0) (hn : n0 = hc) (h : r = fndq (fun i => τ 392 (o + i)) (τ 387 17) n0) : r = fndq nm (wdq b N q) hc := by
  subst ho hn
  rw [h]
  refine fndq_cg fun i hi => ?_
  show τ 392 (0 + i) = τ 387 17 ↔ nm i = wdq b N q
  rw [Nat.zero_add, ← g.2.2 i hi, ← k.wq h47]
  exact ⟨fun e => by rw [e], fun e => Int64.toInt_inj.mp e⟩
theorem ope_x {b : Nat → Int} {N mo : Nat} {nm : Nat → Int} {hc q n : Nat} {K : List Bool} (h : ¬ begq (tkq b N mo q)) : opeP b N mo nm hc q n K = .inl (1, (q : Int)) := if_pos h
theorem ope_4 {b : Nat → Int} {N mo : Nat} {nm : Nat → Int} {hc q n : Nat} {K : List Bool} (h : begq (tkq b N mo q)) (h2 : 20 ≤ n ∨ 8 ≤ K.length) : opeP b N mo nm hc q n K = .inl (4, (q : Int)) := (if_neg (fun c => c h)).trans (if_pos h2)
theorem ope_n {b : Nat → Int} {N mo : Nat} {nm : Nat → Int} {hc q n : Nat} {K : List Bool} (h : tkq b N mo q = 22) (h2 : n < 20) (h3 : K.length < 8) : opeP b N mo nm hc q n K = .inr (false, nxq b N mo q, n + 1, false :: K) := (ope_go (by omega) h2 h3).trans (if_pos h)
theorem ope_o {b : Nat → Int} {N mo : Nat} {nm : Nat → Int} {hc q n : Nat} {K : List Bool} (h : tkq b N mo q = 44) (h2 : n < 20) (h3 : K.length < 8) : opeP b N mo nm hc q n K = .inr (false, nxq b N mo q, n + 1, true :: K) := (ope_go (by omega) h2 h3).trans ((if_neg (by omega)).trans (if_pos h))
theorem ope_l {b : Nat → Int} {N mo : Nat} {nm : Nat → Int} {hc q n : Nat} {K : List Bool} {x : Fq ⊕ Sq} (h : begq (tkq b N mo q)) (h2 : n < 20) (h3 : K.length < 8) (h4 : tkq b N mo q ≠ 22) (h5 : tkq b N mo q ≠ 44) (e : leaP b N mo nm hc (tkq b N mo q) (nxq b N mo q) (n + 1) = x) : opeP b N mo nm hc q n K = leaS K x := by
  rw [ope_go h h2 h3, if_neg h4, if_neg h5, e]
theorem lea_on {b : Nat → Int} {N mo : Nat} {nm : Nat → Int} {hc q n : Nat} {k : Int} (h : k = 25) : leaP b N mo nm hc k q n = bnd (lokP b N mo nm hc q) fun _ => .inr (nxq b N mo q, n) := if_pos h
theorem lea_onr {b : Nat → Int} {N mo : Nat} {nm : Nat → Int} {hc q n : Nat} {k y : Int} (h : k = 25) (e : lokP b N mo nm hc q = .inr y) : leaP b N mo nm hc k q n = .inr (nxq b N mo q, n) := by
  rw [lea_on h, e, bnd_r]
theorem lea_onl {b : Nat → Int} {N mo : Nat} {nm : Nat → Int} {hc q n : Nat} {k : Int} {f : Fq} (h : k = 25) (e : lokP b N mo nm hc q = .inl f) : leaP b N mo nm hc k q n = .inl f := by
  rw [lea_on h, e, bnd_l]
theorem lea_m1 {b : Nat → Int} {N mo : Nat} {nm : Nat → Int} {hc q n : Nat} {k : Int} (h : 27 ≤ k) (h2 : tkq b N mo q < 41 ∨ 43 < tkq b N mo q) : leaP b N mo nm hc k q n = .inl (1, (q : Int)) := (if_neg (by omega)).trans ((if_pos h).trans (if_pos h2))
theorem lea_m2 {b : Nat → Int} {N mo : Nat} {nm : Nat → Int} {hc q n : Nat} {k : Int} (h : 27 ≤ k) (h2 : 41 ≤ tkq b N mo q ∧ tkq b N mo q ≤ 43) (h3 : tkq b N mo (nxq b N mo q) ≠ 46) : leaP b N mo nm hc k q n = .inl (1, (nxq b N mo q : Int)) := by
  refine (if_neg (by omega)).trans ((if_pos h).trans ((if_neg (by omega)).trans ?_))
  unfold numP
  rw [if_pos h3, bnd_l]
theorem nuq_rg {b : Nat → Int} {N mo q : Nat} (h : tkq b N mo q = 46) : 0 ≤ nuq b N q ∧ nuq b N q ≤ 999 := by
  by_cases c : endq N mo q
  · rcases c with c | c
    · rw [tkq_lim c] at h
      omega
    · by_cases c2 : mo < N ∧ mo ≤ q
      · rw [tkq_lim c2] at h
        omega
      · rw [tkq_end c2 c] at h
        omega
  · by_cases c3 : isRn (b q)
    · rw [tkq_rn c c3] at h
      have hw := wdK_rg (fd 256 0 b q (runE b N q - q))
      unfold rnK at h
      split at h
      · rename_i c4
        exact fd_999 c4.2 c4.1
      · split at h <;> omega
    · rw [tkq_sg c c3] at h
      have g := sgT_rg (b q)
      omega
theorem lea_m3 {b : Nat → Int} {N mo : Nat} {nm : Nat → Int} {hc q n : Nat} {k : Int} (h : 27 ≤ k) (h2 : 41 ≤ tkq b N mo q ∧ tkq b N mo q ≤ 43) (h3 : tkq b N mo (nxq b N mo q) = 46) : leaP b N mo nm hc k q n = .inr (nxq b N mo (nxq b N mo q), n) := by
  refine (if_neg (by omega)).trans ((if_pos h).trans ((if_neg (by omega)).trans ?_))
  have g := nuq_rg h3
  unfold numP
  rw [if_neg (fun c => c h3), if_neg (by omega), bnd_r]
theorem beh_j {b : Nat → Int} {N mo q n : Nat} {K : List Bool} (h : tkq b N mo q = 20 ∨ tkq b N mo q = 21) : behP b N mo q n K = .inr (false, nxq b N mo q, n, K) := if_pos h
theorem beh_x {b : Nat → Int} {N mo q n : Nat} {K : List Bool} (h : tkq b N mo q ≠ 20 ∧ tkq b N mo q ≠ 21) (h2 : tkq b N mo q ≠ 45 ∨ K = []) : behP b N mo q n K = .inl (1, (q : Int)) := by
  refine (if_neg (by omega)).trans ?_
  rcases h2 with h2 | h2
  · exact if_neg h2
  · subst h2
    by_cases c : tkq b N mo q = 45
    · exact if_pos c
    · exact if_neg c
theorem beh_c {b : Nat → Int} {N mo q n : Nat} {x : Bool} {K : List Bool} (h : tkq b N mo q = 45) : behP b N mo q n (x :: K) = .inr (true, nxq b N mo q, n, K) := (if_neg (by omega)).trans (if_pos h)
section SM
variable {b : Nat → Int} {N mo : Nat} {nm : Nat → Int} {hc : Nat} {q n : Nat} {K : List Bool} {R : Fq ⊕ Nat}
theorem RnS.bef {f : Fq} (g : RnS b N mo nm hc (true, q, n, K) R) (h : tkq b N mo q ≠ 48) (e : behP b N mo q n (pnt K) = .inl f) : R = .inl f := (RnS.en (z := (true, q, n, K)) (r := .inl f) ((if_neg h).trans (congrArg lft e))).mp g
theorem RnS.beg {z : Ms} (g : RnS b N mo nm hc (true, q, n, K) R) (h : tkq b N mo q ≠ 48) (e : behP b N mo q n (pnt K) = .inr z) : RnS b N mo nm hc z R := (RnS.go (z := (true, q, n, K)) ((if_neg h).trans (congrArg lft e))).mp g
theorem RnS.opf {f : Fq} (g : RnS b N mo nm hc (false, q, n, K) R) (e : opeP b N mo nm hc q n K = .inl f) : R = .inl f := (RnS.en (z := (false, q, n, K)) (r := .inl f) (congrArg lft e)).mp g
theorem RnS.opg {z : Ms} (g : RnS b N mo nm hc (false, q, n, K) R) (e : opeP b N mo nm hc q n K = .inr z) : RnS b N mo nm hc z R := (RnS.go (z := (false, q, n, K)) (congrArg lft e)).mp g
theorem RnS.fi0 (g : RnS b N mo nm hc (true, q, n, K) R) (h : tkq b N mo q = 48) (e : pnt K = []) : R = .inr n := (RnS.en (z := (true, q, n, K)) (r := .inr n) ((if_pos h).trans (if_pos e))).mp g
theorem RnS.fi1 (g : RnS b N mo nm hc (true, q, n, K) R) (h : tkq b N mo q = 48) (e : pnt K ≠ []) : R = .inl (1, (q : Int)) := (RnS.en (z := (true, q, n, K)) (r := .inl (1, (q : Int))) ((if_pos h).trans (if_neg e))).mp g
end SM
theorem SN.zero {σ : Nat → Nat → Int32} (h : (σ 387 40).toInt = 0) (h2 : (σ 387 41).toInt = 1) : SN σ [] := ⟨by omega, by rw [show (σ 387 40).toInt.toNat = 0 by omega]; rfl, by rw [h2]; rfl⟩
theorem wh_t {wh : Bool} {x : Int} (h : x = if wh = true then 1 else 0) (h1 : x ≠ 0) : wh = true := by
  cases wh with
  | true => rfl
  | false => exact absurd h h1
theorem wh_f {wh : Bool} {x : Int} (h : x = if wh = true then 1 else 0) (h1 : x = 0) : wh = false := by
  cases wh with
  | false => rfl
  | true =>
    have h2 : x = 1 := h
    omega
/-! ## the model's names -/
def SB (τ τ0 : Nat → Nat → Int64) : Prop := ∀ j : Nat, j < 16 → τ 392 j = τ0 392 j
abbrev GdL_SB : List Rc := [(392, 392, 0, 15)]
theorem SB.agL {τ τ1 τ0 : Nat → Nat → Int64} (g : SB τ τ0) (a : AgrL GdL_SB τ τ1) : SB τ1 τ0 := fun j hj => (a 392 j (rc_in 0 rfl (by decide) (by decide) (by omega) (by omega))).trans (g j hj)
theorem SB.rf {τ : Nat → Nat → Int64} : SB τ τ := fun _ _ => rfl
def VM (τ : Nat → Nat → Int64) (b : Nat → Int) (N : Nat) : Prop := ∃ y : Nat × Zt, valP b N 900 941 0 (z00 b N 900) = .inr y ∧ MN τ y.2.2.1 y.2.2.2.1
abbrev GdL_VM : List Rc := [(392, 392, 16, 31)]
theorem VM.agL {τ τ1 : Nat → Nat → Int64} {b : Nat → Int} {N : Nat} (g : VM τ b N) (a : AgrL GdL_VM τ τ1) : VM τ1 b N := by
  obtain ⟨y, e, h⟩ := g
  exact ⟨y, e, h.agL a⟩
theorem VM.of {τ : Nat → Nat → Int64} {b : Nat → Int} {N nl q : Nat} {h nm : Nat → Int} {x y : Int32} (e : valP b N 900 941 0 (z00 b N 900) = .inr (nl, q, h, nm, x, y)) (g : MN τ h nm) : VM τ b N := ⟨_, e, g⟩
def VQ (τ : Nat → Nat → Int64) (b : Nat → Int) (N : Nat) : Prop := ∃ y : Nat × Zt, valP b N 900 941 0 (z00 b N 900) = .inr y ∧ ∀ i : Nat, i < 8 → ((i : Int) < y.2.2.1 0 → (τ 392 i).toInt = y.2.2.2.1 i) ∧ ((i : Int) < y.2.2.1 1 → (τ 392 (8 + i)).toInt = y.2.2.2.1 (8 + i))
abbrev GdL_VQ : List Rc := [(392, 392, 0, 15)]
theorem VQ.agL {τ τ1 : Nat → Nat → Int64} {b : Nat → Int} {N : Nat} (g : VQ τ b N) (a : AgrL GdL_VQ τ τ1) : VQ τ1 b N := by
  obtain ⟨y, e, h⟩ := g
  refine ⟨y, e, fun i hi => ?_⟩
  rw [a 392 i (rc_in 0 rfl (by decide) (by decide) (by omega) (by omega)), a 392 (8 + i) (rc_in 0 rfl (by decide) (by decide) (by omega) (by omega))]
  exact h i hi
theorem VM.vq {τ : Nat → Nat → Int64} {b : Nat → Int} {N : Nat} (g : VM τ b N) (e : ∀ k : Nat, k < 16 → τ 392 k = τ 392 (16 + k)) : VQ τ b N := by
  obtain ⟨y, e1, h⟩ := g
  refine ⟨y, e1, fun i hi => ⟨fun h1 => ?_, fun h1 => ?_⟩⟩
  · rw [e i (by omega)]
    exact h.1 i h1 hi
  · rw [e (8 + i) (by omega), show 16 + (8 + i) = 24 + i by omega]
    exact h.2 i h1 hi
theorem Vk_s {τ τ1 : Nat → Nat → Int64} {x y : Int} {j i : Nat} (h : ∀ k : Nat, (k : Int) < x → τ 392 k = τ 392 (16 + k)) (u : Up1L τ τ1 392 j) (v : τ1 392 j = τ 392 i) (ej : x = (j : Int)) (ei : i = 16 + j) (h16 : j < 16) (ey : y = x + 1) : ∀ k : Nat, (k : Int) < y → τ1 392 k = τ1 392 (16 + k) := by
  subst ei
  intro k hk
  rw [u 392 (16 + k) (by omega)]
  by_cases c : k = j
  · subst c
    exact v
  · rw [u 392 k (by omega)]
    exact h k (by omega)
def VNm (τ0 τ : Nat → Nat → Int64) (b : Nat → Int) (N : Nat) : Prop := ((∃ f : Fq, valP b N 900 941 0 (z00 b N 900) = .inl f) ∧ SB τ τ0) ∨ VQ τ b N
theorem VNm.no {τ0 τ : Nat → Nat → Int64} {b : Nat → Int} {N : Nat} {f : Fq} (e : valP b N 900 941 0 (z00 b N 900) = .inl f) (g : SB τ τ0) : VNm τ0 τ b N := Or.inl ⟨⟨f, e⟩, g⟩
/-- image() -/
def INm (τ0 τ : Nat → Nat → Int64) (a : Int32) : Prop := ((a.toInt < 0 ∨ 1 < a.toInt) ∧ ∀ j : Nat, τ 404 j = τ0 404 j) ∨ ∃ i : Nat, i < 2 ∧ a.toInt = (i : Int) ∧ (∀ j : Nat, j < 16 → τ 404 (16 * i + j) = τ0 392 j) ∧ ∀ k j : Nat, k < 2 → k ≠ i → j < 16 → τ 404 (16 * k + j) = τ0 404 (16 * k + j)
theorem In_s {τ0 τ τ1 : Nat → Nat → Int64} {a : Int32} {x y : Int} {c j : Nat} (h : ∀ i j : Nat, a.toInt = (i : Int) → (j : Int) < x → τ 404 (16 * i + j) = τ0 392 j) (hn : τ 392 j = τ0 392 j) (u : Up1L τ τ1 404 c) (v : τ1 404 c = τ 392 j) (ec : (c : Int) = 16 * a.toInt + x) (ej : x = (j : Int)) (ey : y = x + 1) : ∀ i j : Nat, a.toInt = (i : Int) → (j : Int) < y → τ1 404 (16 * i + j) = τ0 392 j := by
  intro i k hi hk
  by_cases q : k = j
  · subst q
    rw [show 16 * i + k = c by omega, v, hn]
  · rw [u 404 _ (by omega)]
    exact h i k hi (by omega)
theorem In_o {τ0 τ τ1 : Nat → Nat → Int64} {a : Int32} {x : Int} {c : Nat} (h : ∀ k j : Nat, k < 2 → j < 16 → a.toInt ≠ (k : Int) → τ 404 (16 * k + j) = τ0 404 (16 * k + j)) (u : Up1L τ τ1 404 c) (ec : (c : Int) = 16 * a.toInt + x) (hx : 0 ≤ x ∧ x < 16) (ha : 0 ≤ a.toInt) : ∀ k j : Nat, k < 2 → j < 16 → a.toInt ≠ (k : Int) → τ1 404 (16 * k + j) = τ0 404 (16 * k + j) := by
  intro k j h1 h2 h3
  rw [u 404 _ (by omega)]
  exact h k j h1 h2 h3
theorem INm.of {τ0 τ : Nat → Nat → Int64} {a : Int32} {i : Nat} (ea : a.toInt = (i : Int)) (hi : i ≤ 1) (h : ∀ i j : Nat, a.toInt = (i : Int) → j < 16 → τ 404 (16 * i + j) = τ0 392 j) (g : ∀ k j : Nat, k < 2 → j < 16 → a.toInt ≠ (k : Int) → τ 404 (16 * k + j) = τ0 404 (16 * k + j)) : INm τ0 τ a := Or.inr ⟨i, by omega, ea, fun j hj => h i j ea hj, fun k j hk hn hj => g k j hk hj (by omega)⟩
/-- restore() -/
def RNm (σ0 : Nat → Nat → Int32) (τ0 τ : Nat → Nat → Int64) (a : Int32) : Prop := ((a.toInt < 0 ∨ 1 < a.toInt ∨ ∃ i : Nat, i < 2 ∧ a.toInt = (i : Int) ∧ (σ0 405 i).toInt = 0) ∧ SB τ τ0) ∨ (0 ≤ a.toInt ∧ a.toInt ≤ 1 ∧ ∀ i : Nat, a.toInt = (i : Int) → (σ0 405 i).toInt ≠ 0 ∧ ∀ j : Nat, j < 16 → τ 392 j = τ0 404 (16 * i + j))
theorem Rn_s {τ0 τ τ1 : Nat → Nat → Int64} {a : Int32} {x y : Int} {c j : Nat} (h : ∀ i j : Nat, a.toInt = (i : Int) → (j : Int) < x → τ 392 j = τ0 404 (16 * i + j)) (hn : τ 404 c = τ0 404 c) (u : Up1L τ τ1 392 j) (v : τ1 392 j = τ 404 c) (ec : (c : Int) = 16 * a.toInt + x) (ej : x = (j : Int)) (ey : y = x + 1) : ∀ i j : Nat, a.toInt = (i : Int) → (j : Int) < y → τ1 392 j = τ0 404 (16 * i + j) := by
  intro i k hi hk
  by_cases q : k = j
  · subst q
    rw [v, hn, show c = 16 * i + k by omega]
  · rw [u 392 k (by omega)]
    exact h i k hi (by omega)
theorem RNm.no {σ0 σ : Nat → Nat → Int32} {τ0 : Nat → Nat → Int64} {a : Int32} (h : a.toInt < 0 ∨ 1 < a.toInt) : RNm σ0 τ0 τ0 a := Or.inl ⟨by omega, SB.rf⟩
theorem RNm.n0 {σ0 σ : Nat → Nat → Int32} {τ0 : Nat → Nat → Int64} {a : Int32} {i : Nat} (u : Up1 σ0 σ 387 0) (ei : a.toInt = (i : Int)) (hi : i ≤ 1) (h : (σ 405 i).toInt = 0) : RNm σ0 τ0 τ0 a := Or.inl ⟨Or.inr (Or.inr ⟨i, by omega, ei, by rw [← u 405 i (by omega)]; exact h⟩), SB.rf⟩
theorem RNm.of {σ0 σ : Nat → Nat → Int32} {τ0 τ : Nat → Nat → Int64} {a : Int32} (g : RT σ σ0 a) (h0 : 0 ≤ a.toInt) (h1 : a.toInt ≤ 1) (h : ∀ i j : Nat, a.toInt = (i : Int) → j < 16 → τ 392 j = τ0 404 (16 * i + j)) : RNm σ0 τ0 τ a := Or.inr ⟨h0, h1, fun i hi => ⟨(g i hi).1, fun j hj => h i j hi hj⟩⟩
/-! ## class and model hold the same names, call by call -/
abbrev GdL_VN : List Rc := [(40, 40, 0, 7), (42, 44, 0, 7), (46, 47, 0, 7), (392, 392, 0, 15), (404, 404, 0, 31)]
abbrev Gd_VN : List Rc := [(389, 389, 0, 1), (403, 403, 0, 853), (405, 405, 0, 1)]
theorem VN.go {σ σ1 : Nat → Nat → Int32} {τ τ1 : Nat → Nat → Int64} (h : VN σ τ) (a : SmN τ τ1) (s : SB τ1 τ) (t : ∀ j : Nat, j < 32 → τ1 404 j = τ 404 j) (e0 : σ1 389 0 = σ 389 0) (e1 : σ1 389 1 = σ 389 1) (e3 : ∀ j : Nat, j < 854 → σ1 403 j = σ 403 j) (e5 : ∀ j : Nat, j < 2 → σ1 405 j = σ 405 j) : VN σ1 τ1 := by
  refine ⟨fun i hi => ?_, fun k i hk hi => ?_⟩
  · rw [e0, e1, a 40 i (by omega) hi, a 44 i (by omega) hi, s i (by omega), s (8 + i) (by omega)]
    exact h.1 i hi
  · rw [e5 k hk, e3 (427 * k) (by omega), e3 (427 * k + 1) (by omega), a (42 + k) i (by omega) hi, a (46 + k) i (by omega) hi, t (16 * k + i) (by omega), t (16 * k + (8 + i)) (by omega)]
    exact h.2 k i hk hi
theorem VN.fr {L LL : List Rc} {σ σ1 : Nat → Nat → Int32} {τ τ1 : Nat → Nat → Int64} (h : VN σ τ) (f : Fr L σ σ1) (hL : disRc L Gd_VN = true) (fL : FrL LL τ τ1) (hLL : disRc LL GdL_VN = true) : VN σ1 τ1 := h.go (SmN.of fL (dis_sub hLL (by decide))) (fun j hj => fL.dis hLL (rc_in 3 rfl (by decide) (by decide) (by omega) (by omega))) (fun j hj => fL.dis hLL (rc_in 4 rfl (by decide) (by decide) (by omega) (by omega))) (f.dis hL (rc_in 0 rfl (by decide) (by decide) (by decide) (by decide))) (f.dis hL (rc_in 0 rfl (by decide) (by decide) (by decide) (by decide))) (fun j hj => f.dis hL (rc_in 1 rfl (by decide) (by decide) (by omega) (by omega))) (fun j hj => f.dis hL (rc_in 2 rfl (by decide) (by decide) (by omega) (by omega)))
abbrev Gd_Vm : List Rc := [(389, 389, 0, 426), (403, 403, 0, 853), (405, 405, 0, 1)]
abbrev GdL_Vm : List Rc := [(392, 392, 0, 15), (404, 404, 0, 31)]
abbrev GdL_Vc : List Rc := [(40, 40, 0, 7), (42, 44, 0, 7), (46, 47, 0, 7), (404, 404, 0, 31)]
theorem VN.val {L LL M ML : List Rc} {σ σ1 σ2 : Nat → Nat → Int32} {τ τ1 τ2 : Nat → Nat → Int64} {b : Nat → Int} {N : Nat} (h : VN σ τ) (c : VNc τ τ1 b N) (f : Fr L σ σ1) (hL : disRc L Gd_Vm = true) (fL : FrL LL τ τ1) (hLL : disRc LL GdL_Vm = true) (dm : VPm σ1 σ2 b N) (d : VNm τ1 τ2 b N) (g : Fr M σ1 σ2) (hM : disRc M [(403, 403, 0, 853), (405, 405, 0, 1)] = true) (gL : FrL ML τ1 τ2) (hML : disRc ML GdL_Vc = true) : VN σ2 τ2 := by
  have e3 : ∀ j : Nat, j < 854 → σ2 403 j = σ 403 j := fun j hj => (g.dis hM (rc_in 0 rfl (by decide) (by decide) (by omega) (by omega))).trans (f.dis hL (rc_in 1 rfl (by decide) (by decide) (by omega) (by omega)))
  have e5 : ∀ j : Nat, j < 2 → σ2 405 j = σ 405 j := fun j hj => (g.dis hM (rc_in 1 rfl (by decide) (by decide) (by omega) (by omega))).trans (f.dis hL (rc_in 2 rfl (by decide) (by decide) (by omega) (by omega)))
  have t : ∀ j : Nat, j < 32 → τ2 404 j = τ 404 j := fun j hj => (gL.dis hML (rc_in 3 rfl (by decide) (by decide) (by omega) (by omega))).trans (fL.dis hLL (rc_in 1 rfl (by decide) (by decide) (by omega) (by omega)))
  have m : SmN τ1 τ2 := SmN.of gL (dis_sub hML (by decide))
  have s1 : SB τ1 τ := fun j hj => fL.dis hLL (rc_in 0 rfl (by decide) (by decide) (by omega) (by omega))
  have a1 : ∀ j : Nat, j < 2 → σ1 389 j = σ 389 j := fun j hj => f.dis hL (rc_in 0 rfl (by decide) (by decide) (by omega) (by omega))
  rcases c with ⟨⟨x, hx⟩, c⟩ | ⟨y, hy, c1, c2⟩
  · rcases d with ⟨_, d⟩ | ⟨y, hy, _⟩
    · rcases dm with ⟨_, dm⟩ | ⟨y, hy, _⟩
      · exact h.go (c.tr m) (fun j hj => (d j hj).trans (s1 j hj)) t ((dm 0 (by omega)).trans (a1 0 (by omega))) ((dm 1 (by omega)).trans (a1 1 (by omega))) e3 e5
      · rw [hx] at hy
        cases hy
    · rw [hx] at hy
      cases hy
  · rcases d with ⟨⟨x, hx⟩, _⟩ | ⟨y2, hy2, d⟩
    · rw [hx] at hy
      cases hy
    · rcases dm with ⟨⟨x, hx⟩, _⟩ | ⟨y3, hy3, dm⟩
      · rw [hx] at hy
        cases hy
      · rw [hy] at hy2 hy3
        cases hy2
        cases hy3
        refine ⟨fun i hi => ⟨fun q => ?_, fun q => ?_⟩, fun k i hk hi => ?_⟩
        · rw [dm 0 (by omega)] at q
          rw [m 40 i (by omega) hi, (d i hi).1 q]
          exact (c1 i hi).1 q
        · rw [dm 1 (by omega)] at q
          rw [m 44 i (by omega) hi, (d i hi).2 q]
          exact (c1 i hi).2 q
        · rw [e5 k hk, e3 (427 * k) (by omega), e3 (427 * k + 1) (by omega), m (42 + k) i (by omega) hi, m (46 + k) i (by omega) hi, c2 (42 + k) i (by omega) hi, c2 (46 + k) i (by omega) hi, t (16 * k + i) (by omega), t (16 * k + (8 + i)) (by omega)]
          exact h.2 k i hk hi
theorem VN.im {L LL M ML : List Rc} {σ σ1 σ2 : Nat → Nat → Int32} {τ τ1 τ2 : Nat → Nat → Int64} {a : Int32} (h : VN σ τ) (c : INc τ τ1 a) (f : Fr L σ σ1) (hL : disRc L Gd_Vm = true) (fL : FrL LL τ τ1) (hLL : disRc LL GdL_Vm = true) (dm : IMm σ1 σ2 a) (d : INm τ1 τ2 a) (g : Fr M σ1 σ2) (hM : disRc M [(389, 389, 0, 1)] = true) (gL : FrL ML τ1 τ2) (hML : disRc ML [(40, 40, 0, 7), (42, 44, 0, 7), (46, 47, 0, 7), (392, 392, 0, 15)] = true) : VN σ2 τ2 := by
  have m : SmN τ1 τ2 := SmN.of gL (dis_sub hML (by decide))
  have s1 : SB τ1 τ := fun j hj => fL.dis hLL (rc_in 0 rfl (by decide) (by decide) (by omega) (by omega))
  have s2 : SB τ2 τ1 := fun j hj => gL.dis hML (rc_in 3 rfl (by decide) (by decide) (by omega) (by omega))
  have t1 : ∀ j : Nat, j < 32 → τ1 404 j = τ 404 j := fun j hj => fL.dis hLL (rc_in 1 rfl (by decide) (by decide) (by omega) (by omega))
  have a1 : ∀ j : Nat, j < 427 → σ1 389 j = σ 389 j := fun j hj => f.dis hL (rc_in 0 rfl (by decide) (by decide) (by omega) (by omega))
  have a2 : ∀ j : Nat, j < 2 → σ2 389 j = σ1 389 j := fun j hj => g.dis hM (rc_in 0 rfl (by decide) (by decide) (by omega) (by omega))
  have b3 : ∀ j : Nat, j < 854 → σ1 403 j = σ 403 j := fun j hj => f.dis hL (rc_in 1 rfl (by decide) (by decide) (by omega) (by omega))
  have b5 : ∀ j : Nat, j < 2 → σ1 405 j = σ 405 j := fun j hj => f.dis hL (rc_in 2 rfl (by decide) (by decide) (by omega) (by omega))
  rcases c with ⟨ha, rfl⟩ | ⟨i, hi, ei, c⟩
  · rcases d with ⟨_, d⟩ | ⟨i2, hi2, ei2, _⟩
    · rcases dm with ⟨_, dm1, dm2⟩ | ⟨i2, hi2, ei2, _⟩
      · exact h.go m (fun j hj => s2 j hj) (fun j _ => d j) ((a2 0 (by omega)).trans (a1 0 (by omega))) ((a2 1 (by omega)).trans (a1 1 (by omega))) (fun j hj => (dm1 j).trans (b3 j hj)) (fun j hj => (dm2 j).trans (b5 j hj))
      · exfalso; omega
    · exfalso; omega
  · rcases d with ⟨ha, _⟩ | ⟨i2, hi2, ei2, d1, d2⟩
    · exfalso; omega
    · rcases dm with ⟨ha, _⟩ | ⟨i3, hi3, ei3, n1, n2, n3, n4⟩
      · exfalso; omega
      · have q2 : i2 = i := by omega
        have q3 : i3 = i := by omega
        subst q2 q3
        refine ⟨fun j hj => ?_, fun k j hk hj => ?_⟩
        · rw [a2 0 (by omega), a2 1 (by omega), a1 0 (by omega), a1 1 (by omega), m 40 j (by omega) hj, m 44 j (by omega) hj, c.2 40 j (by omega) (by omega) (by omega), c.2 44 j (by omega) (by omega) (by omega), s2 j (by omega), s2 (8 + j) (by omega), s1 j (by omega), s1 (8 + j) (by omega)]
          exact h.1 j hj
        · by_cases ck : k = i3
          · subst ck
            intro _
            have e0 := n1 0 (by omega)
            have e1 := n1 1 (by omega)
            rw [Nat.add_zero] at e0
            have w1 := (c.1 j hj).1
            have w2 := (c.1 j hj).2
            rw [show 4 + k + 38 = 42 + k by omega] at w1
            rw [show 4 + k + 42 = 46 + k by omega] at w2
            rw [e0, e1, a1 0 (by omega), a1 1 (by omega), m (42 + k) j (by omega) hj, m (46 + k) j (by omega) hj, w1, w2, d1 j (by omega), d1 (8 + j) (by omega), s1 j (by omega), s1 (8 + j) (by omega)]
            exact h.1 j hj
          · have e0 := n2 k 0 hk ck (by omega)
            have e1 := n2 k 1 hk ck (by omega)
            rw [Nat.add_zero] at e0
            rw [n4 k hk ck, b5 k hk, e0, e1, b3 (427 * k) (by omega), b3 (427 * k + 1) (by omega), m (42 + k) j (by omega) hj, m (46 + k) j (by omega) hj, c.2 (42 + k) j (by omega) (by omega) (by omega), c.2 (46 + k) j (by omega) (by omega) (by omega), d2 k j hk ck (by omega), d2 k (8 + j) hk ck (by omega), t1 (16 * k + j) (by omega), t1 (16 * k + (8 + j)) (by omega)]
            exact h.2 k j hk hj
theorem VN.rs {L LL M ML : List Rc} {σ σ1 σ2 : Nat → Nat → Int32} {τ τ1 τ2 : Nat → Nat → Int64} {a : Int32} (h : VN σ τ) (hk : ∀ i : Nat, i < 2 → (σ (29 + i) 3).toInt = (σ 405 i).toInt) (c : RNc σ τ τ1 a) (f : Fr L σ σ1) (hL : disRc L Gd_Vm = true) (fL : FrL LL τ τ1) (hLL : disRc LL GdL_Vm = true) (dm : RSm σ1 σ2 a) (d : RNm σ1 τ1 τ2 a) (g : Fr M σ1 σ2) (hM : disRc M [(403, 403, 0, 853), (405, 405, 0, 1)] = true) (gL : FrL ML τ1 τ2) (hML : disRc ML GdL_Vc = true) : VN σ2 τ2 := by
  have e3 : ∀ j : Nat, j < 854 → σ2 403 j = σ 403 j := fun j hj => (g.dis hM (rc_in 0 rfl (by decide) (by decide) (by omega) (by omega))).trans (f.dis hL (rc_in 1 rfl (by decide) (by decide) (by omega) (by omega)))
  have e5 : ∀ j : Nat, j < 2 → σ2 405 j = σ 405 j := fun j hj => (g.dis hM (rc_in 1 rfl (by decide) (by decide) (by omega) (by omega))).trans (f.dis hL (rc_in 2 rfl (by decide) (by decide) (by omega) (by omega)))
  have b3 : ∀ j : Nat, j < 854 → σ1 403 j = σ 403 j := fun j hj => f.dis hL (rc_in 1 rfl (by decide) (by decide) (by omega) (by omega))
  have b5 : ∀ j : Nat, j < 2 → σ1 405 j = σ 405 j := fun j hj => f.dis hL (rc_in 2 rfl (by decide) (by decide) (by omega) (by omega))
  have t1 : ∀ j : Nat, j < 32 → τ1 404 j = τ 404 j := fun j hj => fL.dis hLL (rc_in 1 rfl (by decide) (by decide) (by omega) (by omega))
  have t : ∀ j : Nat, j < 32 → τ2 404 j = τ 404 j := fun j hj => (gL.dis hML (rc_in 3 rfl (by decide) (by decide) (by omega) (by omega))).trans (t1 j hj)
  have m : SmN τ1 τ2 := SmN.of gL (dis_sub hML (by decide))
  have s1 : SB τ1 τ := fun j hj => fL.dis hLL (rc_in 0 rfl (by decide) (by decide) (by omega) (by omega))
  have a1 : ∀ j : Nat, j < 2 → σ1 389 j = σ 389 j := fun j hj => f.dis hL (rc_in 0 rfl (by decide) (by decide) (by omega) (by omega))
  rcases c with ⟨ha, rfl⟩ | ⟨i, hi, ei, hz, c⟩
  · rcases d with ⟨_, d⟩ | ⟨x0, x1, d⟩
    · rcases dm with ⟨_, dm⟩ | ⟨x0, x1, dm⟩
      · exact h.go m d t ((dm 0 (by omega)).trans (a1 0 (by omega))) ((dm 1 (by omega)).trans (a1 1 (by omega))) e3 e5
      · exfalso
        rcases ha with ha | ha | ⟨i, hi, ei, hz⟩
        · omega
        · omega
        · have h1 := hk i hi
          have h2 := (dm i ei).1
          rw [b5 i hi] at h2
          omega
    · exfalso
      rcases ha with ha | ha | ⟨i, hi, ei, hz⟩
      · omega
      · omega
      · have h1 := hk i hi
        have h2 := (d i ei).1
        rw [b5 i hi] at h2
        omega
  · have h1 := hk i hi
    rcases d with ⟨ha, _⟩ | ⟨x0, x1, d⟩
    · exfalso
      rcases ha with ha | ha | ⟨i2, hi2, ei2, hz2⟩
      · omega
      · omega
      · have e : i2 = i := by omega
        subst e
        rw [b5 i2 hi2] at hz2
        omega
    · rcases dm with ⟨ha, _⟩ | ⟨x0, x1, dm⟩
      · exfalso
        rcases ha with ha | ha | ⟨i2, hi2, ei2, hz2⟩
        · omega
        · omega
        · have e : i2 = i := by omega
          subst e
          rw [b5 i2 hi2] at hz2
          omega
      · have hi0 : (σ 405 i).toInt ≠ 0 := by omega
        have n0 := (dm i ei).2 0 (by omega)
        have n1 := (dm i ei).2 1 (by omega)
        have dd := (d i ei).2
        rw [Nat.add_zero] at n0
        refine ⟨fun j hj => ?_, fun k j hkk hj => ?_⟩
        · have w1 := (c.1 j hj).1
          have w2 := (c.1 j hj).2
          rw [show 4 + i + 38 = 42 + i by omega] at w1
          rw [show 4 + i + 42 = 46 + i by omega] at w2
          rw [n0, n1, b3 (427 * i) (by omega), b3 (427 * i + 1) (by omega), m 40 j (by omega) hj, m 44 j (by omega) hj, w1, w2, dd j (by omega), dd (8 + j) (by omega), t1 (16 * i + j) (by omega), t1 (16 * i + (8 + j)) (by omega)]
          exact h.2 i j hi hj hi0
        · rw [e5 k hkk, e3 (427 * k) (by omega), e3 (427 * k + 1) (by omega), m (42 + k) j (by omega) hj, m (46 + k) j (by omega) hj, c.2 (42 + k) j (by omega) (by omega) (by omega), c.2 (46 + k) j (by omega) (by omega) (by omega), t (16 * k + j) (by omega), t (16 * k + (8 + j)) (by omega)]
          exact h.2 k j hkk hj
/-- from there: what both readers of a SENTENCE look names up in -/
theorem VN.wh {σ : Nat → Nat → Int32} {τ : Nat → Nat → Int64} (h : VN σ τ) (k : VK σ) (h8 : 0 ≤ (σ 389 0).toInt ∧ (σ 389 0).toInt ≤ 8) : WH σ τ (fun i : Nat => (τ 392 i).toInt) (σ 389 0).toInt.toNat := ⟨k.1.1.1.trans (by show (σ 389 0).toInt = _; omega), by omega, fun i hi => (h.1 i (by omega)).1 (by omega)⟩
theorem WJ.rf {σ : Nat → Nat → Int32} {τ : Nat → Nat → Int64} (h8 : 0 ≤ (σ 389 0).toInt ∧ (σ 389 0).toInt ≤ 8) : WJ σ τ (fun i : Nat => (τ 392 i).toInt) (σ 389 0).toInt.toNat := ⟨by omega, by omega, fun i _ => rfl⟩
theorem VN.beg {σ : Nat → Nat → Int32} {τ : Nat → Nat → Int64} (h0 : (σ 389 0).toInt = 0) (h1 : (σ 389 1).toInt = 0) (h5 : ∀ k : Nat, k < 2 → (σ 405 k).toInt = 0) : VN σ τ := ⟨fun i _ => ⟨fun h => absurd h (by omega), fun h => absurd h (by omega)⟩, fun k i hk _ h => absurd (h5 k hk) h⟩
