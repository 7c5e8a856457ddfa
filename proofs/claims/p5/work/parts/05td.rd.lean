/-! ## the reader of a VALLEY, pure -/
abbrev Fq : Type := Int × Int
def bnd {A B : Type} (x : Fq ⊕ A) (f : A → Fq ⊕ B) : Fq ⊕ B := match x with
  | .inl e => .inl e
  | .inr a => f a
theorem bnd_l {A B : Type} (e : Fq) (f : A → Fq ⊕ B) : bnd (.inl e) f = .inl e := rfl
theorem bnd_r {A B : Type} (a : A) (f : A → Fq ⊕ B) : bnd (.inr a) f = f a := rfl
def takP (b : Nat → Int) (N mo : Nat) (k : Int) (q : Nat) : Fq ⊕ Nat := if tkq b N mo q ≠ k then .inl (1, (q : Int)) else .inr (nxq b N mo q)
def numP (b : Nat → Int) (N mo : Nat) (lo hi : Int) (q : Nat) : Fq ⊕ (Nat × Int) := if tkq b N mo q ≠ 46 then .inl (1, (q : Int)) else if nuq b N q < lo ∨ hi < nuq b N q then .inl (2, (q : Int)) else .inr (nxq b N mo q, nuq b N q)
def n8 (nm : Nat → Int) : Nat → Int := fun i => nm (8 + i)
def newP (b : Nat → Int) (N mo : Nat) (h nm : Nat → Int) (q : Nat) : Fq ⊕ Unit := if tkq b N mo q ≠ 47 then .inl (1, (q : Int)) else if fndq nm (wdq b N q) (h 0).toNat ≠ -1 ∨ fndq (n8 nm) (wdq b N q) (h 1).toNat ≠ -1 then .inl (3, (q : Int)) else .inr ()
def lokP (b : Nat → Int) (N mo : Nat) (f : Nat → Int) (n : Nat) (q : Nat) : Fq ⊕ Int := if tkq b N mo q ≠ 47 then .inl (1, (q : Int)) else if fndq f (wdq b N q) n = -1 then .inl (3, (q : Int)) else .inr (fndq f (wdq b N q) n)
def uh (h : Nat → Int) (k : Nat) (v : Int) : Nat → Int := fun j => if j = k then v else h j
theorem uh_s (h : Nat → Int) (k : Nat) (v : Int) : uh h k v k = v := if_pos rfl
theorem uh_n (h : Nat → Int) {k j : Nat} (v : Int) (e : j ≠ k) : uh h k v j = h j := if_neg e
abbrev tbq (w : Int32) (k : Nat) : Prop := (w >>> (nI k &&& 31)) &&& 1 = 1
def sbq (w : Int32) (k : Nat) : Int32 := w ||| ((1 : Int32) <<< (nI k &&& 31))
/-- place, numbers told (as the model lays them), names, words told once, falls told -/
abbrev Zt : Type := Nat × (Nat → Int) × (Nat → Int) × Int32 × Int32
def oncP (b : Nat → Int) (N mo : Nat) (on : Int32) (k : Nat) (q : Nat) : Fq ⊕ Nat := if tbq on k then .inl (3, (q : Int)) else .inr (nxq b N mo q)
def ridP (b : Nat → Int) (N mo : Nat) (z : Zt) : Fq ⊕ Zt := bnd (oncP b N mo z.2.2.2.1 0 z.1) fun q1 => bnd (numP b N mo 0 20 q1) fun y => .inr (y.1, uh z.2.1 3 y.2, z.2.2.1, sbq z.2.2.2.1 0, z.2.2.2.2)
def wheP (b : Nat → Int) (N mo : Nat) (z : Zt) : Fq ⊕ Zt := bnd (oncP b N mo z.2.2.2.1 1 z.1) fun q1 => bnd (numP b N mo 0 999 q1) fun y => .inr (y.1, uh z.2.1 4 y.2, z.2.2.1, sbq z.2.2.2.1 1, z.2.2.2.2)
def winP (b : Nat → Int) (N mo : Nat) (z : Zt) : Fq ⊕ Zt := bnd (oncP b N mo z.2.2.2.1 2 z.1) fun q1 => if tkq b N mo q1 < 3 ∨ 6 < tkq b N mo q1 then .inl (1, (q1 : Int)) else bnd (numP b N mo 0 9 (nxq b N mo q1)) fun y => .inr (y.1, uh (uh z.2.1 5 (tkq b N mo q1 - 3)) 6 y.2, z.2.2.1, sbq z.2.2.2.1 2, z.2.2.2.2)
def hilP (b : Nat → Int) (N mo : Nat) (z : Zt) : Fq ⊕ Zt := if z.2.1 0 = 8 then .inl (4, (z.1 : Int)) else bnd (newP b N mo z.2.1 z.2.2.1 (nxq b N mo z.1)) fun _ => bnd (numP b N mo 0 20 (nxq b N mo (nxq b N mo z.1))) fun y => bnd (numP b N mo 0 20 y.1) fun w => .inr (w.1, uh (uh (uh z.2.1 (7 + (z.2.1 0).toNat) y.2) (15 + (z.2.1 0).toNat) w.2) 0 (z.2.1 0 + 1), uh z.2.2.1 (z.2.1 0).toNat (wdq b N (nxq b N mo z.1)), z.2.2.2.1, z.2.2.2.2)
def falP (b : Nat → Int) (N mo : Nat) (z : Zt) : Fq ⊕ Zt := bnd (lokP b N mo z.2.2.1 (z.2.1 0).toNat (nxq b N mo z.1)) fun k => if tbq z.2.2.2.2 k.toNat then .inl (3, (nxq b N mo z.1 : Int)) else bnd (numP b N mo 0 9 (nxq b N mo (nxq b N mo z.1))) fun y => .inr (y.1, uh z.2.1 (23 + k.toNat) y.2, z.2.2.1, z.2.2.2.1, sbq z.2.2.2.2 k.toNat)
def manP (b : Nat → Int) (N mo : Nat) (z : Zt) : Fq ⊕ Zt := if z.2.1 1 = 8 then .inl (4, (z.1 : Int)) else bnd (newP b N mo z.2.1 z.2.2.1 (nxq b N mo z.1)) fun _ => bnd (lokP b N mo z.2.2.1 (z.2.1 0).toNat (nxq b N mo (nxq b N mo z.1))) fun k => bnd (numP b N mo 0 9 (nxq b N mo (nxq b N mo (nxq b N mo z.1)))) fun y => bnd (numP b N mo 0 9 y.1) fun w => .inr (w.1, uh (uh (uh (uh z.2.1 (31 + (z.2.1 1).toNat) k) (39 + (z.2.1 1).toNat) y.2) (47 + (z.2.1 1).toNat) w.2) 1 (z.2.1 1 + 1), uh z.2.2.1 (8 + (z.2.1 1).toNat) (wdq b N (nxq b N mo z.1)), z.2.2.2.1, z.2.2.2.2)
/-- a MAN of whom something is told that may be told once: o is where the model lays it -/
def mnoP (b : Nat → Int) (N mo : Nat) (o : Nat) (h nm : Nat → Int) (q : Nat) : Fq ⊕ Int := bnd (lokP b N mo (n8 nm) (h 1).toNat (nxq b N mo q)) fun k => if 0 < h (o + k.toNat) then .inl (3, (nxq b N mo q : Int)) else .inr k
def oldP (b : Nat → Int) (N mo : Nat) (z : Zt) : Fq ⊕ Zt := bnd (mnoP b N mo 55 z.2.1 z.2.2.1 z.1) fun k => .inr (nxq b N mo (nxq b N mo z.1), uh z.2.1 (55 + k.toNat) 1, z.2.2.1, z.2.2.2.1, z.2.2.2.2)
def neeP (b : Nat → Int) (N mo : Nat) (z : Zt) : Fq ⊕ Zt := bnd (mnoP b N mo 71 z.2.1 z.2.2.1 z.1) fun k => bnd (numP b N mo 0 999 (nxq b N mo (nxq b N mo z.1))) fun y => .inr (y.1, uh z.2.1 (71 + k.toNat) (y.2 + 1), z.2.2.1, z.2.2.2.1, z.2.2.2.2)
def deaP (b : Nat → Int) (N mo : Nat) (z : Zt) : Fq ⊕ Zt := bnd (mnoP b N mo 63 z.2.1 z.2.2.1 z.1) fun k => bnd (lokP b N mo (n8 z.2.2.1) (z.2.1 1).toNat (nxq b N mo (nxq b N mo z.1))) fun k2 => if k2 = k then .inl (3, (nxq b N mo (nxq b N mo z.1) : Int)) else .inr (nxq b N mo (nxq b N mo (nxq b N mo z.1)), uh z.2.1 (63 + k.toNat) (k2 + 1), z.2.2.1, z.2.2.2.1, z.2.2.2.2)
/-- the CALLS of a FLIGHT, from the n-th on: place, how many, numbers told -/
def calP (b : Nat → Int) (N mo f : Nat) : Nat → Nat → Int → Nat → (Nat → Int) → Fq ⊕ (Nat × Nat × (Nat → Int))
  | 0, n, _, q, h => .inr (q, n, h)
  | fu + 1, n, fr, q, h => if tkq b N mo q ≠ 46 then .inr (q, n, h) else if n = 10 then .inl (4, (q : Int)) else bnd (numP b N mo fr 99 q) fun y => bnd (numP b N mo 0 20 y.1) fun x => bnd (numP b N mo 0 20 x.1) fun w => calP b N mo f fu (n + 1) (y.2 + 1) w.1 (uh (uh (uh h (91 + (10 * f + n)) y.2) (131 + (10 * f + n)) x.2) (171 + (10 * f + n)) w.2)
def fliP (b : Nat → Int) (N mo : Nat) (z : Zt) : Fq ⊕ Zt := if z.2.1 2 = 4 then .inl (4, (z.1 : Int)) else bnd (numP b N mo 1 9 (nxq b N mo z.1)) fun c => bnd (numP b N mo 0 20 c.1) fun l => bnd (calP b N mo (z.2.1 2).toNat 11 0 0 l.1 (uh (uh z.2.1 (79 + (z.2.1 2).toNat) c.2) (83 + (z.2.1 2).toNat) l.2)) fun s => .inr (s.1, uh (uh s.2.2 (87 + (z.2.1 2).toNat) (s.2.1 : Int)) 2 (z.2.1 2 + 1), z.2.2.1, z.2.2.2.1, z.2.2.2.2)
def linP (b : Nat → Int) (N mo : Nat) (z : Zt) : Fq ⊕ Zt := if tkq b N mo z.1 = 0 then ridP b N mo z else if tkq b N mo z.1 = 1 then wheP b N mo z else if tkq b N mo z.1 = 2 then winP b N mo z else if tkq b N mo z.1 = 7 then hilP b N mo z else if tkq b N mo z.1 = 8 then falP b N mo z else if tkq b N mo z.1 = 9 then manP b N mo z else if tkq b N mo z.1 = 10 then oldP b N mo z else if tkq b N mo z.1 = 11 then deaP b N mo z else if tkq b N mo z.1 = 12 then neeP b N mo z else if tkq b N mo z.1 = 13 then fliP b N mo z else .inl (1, (z.1 : Int))
def stpP (b : Nat → Int) (N mo : Nat) (z : Zt) : Fq ⊕ Zt := bnd (linP b N mo z) fun z1 => bnd (takP b N mo 40 z1.1) fun q => .inr (q, z1.2)
/-- lines from z on, n read already -/
def valP (b : Nat → Int) (N mo : Nat) : Nat → Nat → Zt → Fq ⊕ (Nat × Zt)
  | 0, n, z => .inr (n, z)
  | fu + 1, n, z => if tkq b N mo z.1 = 48 then .inr (n, z) else bnd (stpP b N mo z) fun z1 => valP b N mo fu (n + 1) z1
def h00 : Nat → Int := fun j => if j = 3 ∨ j = 4 then 99 else 0
def z00 (b : Nat → Int) (N mo : Nat) : Zt := (posq b N mo 0, h00, fun _ => 0, 0, 0)
/-! ## what a reader of the class answers -/
def RO {A : Type} (r : Int32) (σ : Nat → Nat → Int32) (x : Fq ⊕ A) (Q : A → Prop) : Prop := match x with
  | .inl f => r.toInt = 0 ∧ (σ 1 13).toInt = f.1 ∧ (σ 1 14).toInt = f.2
  | .inr a => r.toInt = 1 ∧ Q a
theorem RO.ofl {A : Type} {r : Int32} {σ : Nat → Nat → Int32} {x : Fq ⊕ A} {Q : A → Prop} {f : Fq} (e : x = .inl f) (h0 : r.toInt = 0) (h1 : (σ 1 13).toInt = f.1) (h2 : (σ 1 14).toInt = f.2) : RO r σ x Q := by
  subst e
  exact ⟨h0, h1, h2⟩
theorem RO.ofk {A : Type} {r : Int32} {σ : Nat → Nat → Int32} {x : Fq ⊕ A} {Q : A → Prop} {k p : Int} (e : x = .inl (k, p)) (h0 : r.toInt = 0) (h1 : (σ 1 13).toInt = k) (h2 : (σ 1 14).toInt = p) : RO r σ x Q := RO.ofl e h0 h1 h2
theorem RO.ofr {A : Type} {r : Int32} {σ : Nat → Nat → Int32} {x : Fq ⊕ A} {Q : A → Prop} {a : A} (e : x = .inr a) (h0 : r.toInt = 1) (h1 : Q a) : RO r σ x Q := by
  subst e
  exact ⟨h0, h1⟩
theorem RO.no {A : Type} {r : Int32} {σ : Nat → Nat → Int32} {x : Fq ⊕ A} {Q : A → Prop} (h : RO r σ x Q) (h0 : r.toInt = 0) : ∃ f : Fq, x = .inl f ∧ (σ 1 13).toInt = f.1 ∧ (σ 1 14).toInt = f.2 := by
  cases x with
  | inl f => exact ⟨f, rfl, h.2.1, h.2.2⟩
  | inr a =>
    have h1 : r.toInt = 1 := h.1
    omega
theorem RO.ye {A : Type} {r : Int32} {σ : Nat → Nat → Int32} {x : Fq ⊕ A} {Q : A → Prop} (h : RO r σ x Q) (h0 : r.toInt ≠ 0) : ∃ a : A, x = .inr a ∧ Q a := by
  cases x with
  | inl f => exact absurd h.1 h0
  | inr a => exact ⟨a, rfl, h.2⟩
theorem RO.r01 {A : Type} {r : Int32} {σ : Nat → Nat → Int32} {x : Fq ⊕ A} {Q : A → Prop} (h : RO r σ x Q) : r.toInt = 0 ∨ r.toInt = 1 := by
  cases x with
  | inl f => exact Or.inl h.1
  | inr a => exact Or.inr h.1
/-- the same of one who answers a number, NONE where it is a fault -/
def RH (r : Int32) (σ : Nat → Nat → Int32) (x : Fq ⊕ Int) (Q : Prop) : Prop := match x with
  | .inl f => r.toInt = -1 ∧ (σ 1 13).toInt = f.1 ∧ (σ 1 14).toInt = f.2
  | .inr a => r.toInt = a ∧ 0 ≤ a ∧ a ≤ 7 ∧ Q
theorem RH.ofl {r : Int32} {σ : Nat → Nat → Int32} {x : Fq ⊕ Int} {Q : Prop} {f : Fq} (e : x = .inl f) (h0 : r.toInt = -1) (h1 : (σ 1 13).toInt = f.1) (h2 : (σ 1 14).toInt = f.2) : RH r σ x Q := by
  subst e
  exact ⟨h0, h1, h2⟩
theorem RH.ofk {r : Int32} {σ : Nat → Nat → Int32} {x : Fq ⊕ Int} {Q : Prop} {k p : Int} (e : x = .inl (k, p)) (h0 : r.toInt = -1) (h1 : (σ 1 13).toInt = k) (h2 : (σ 1 14).toInt = p) : RH r σ x Q := RH.ofl e h0 h1 h2
theorem RH.ofr {r : Int32} {σ : Nat → Nat → Int32} {x : Fq ⊕ Int} {Q : Prop} {a : Int} (e : x = .inr a) (h0 : r.toInt = a) (h1 : 0 ≤ a ∧ a ≤ 7) (h2 : Q) : RH r σ x Q := by
  subst e
  exact ⟨h0, h1.1, h1.2, h2⟩
theorem RH.no {r : Int32} {σ : Nat → Nat → Int32} {x : Fq ⊕ Int} {Q : Prop} (h : RH r σ x Q) (h0 : r.toInt = -1) : ∃ f : Fq, x = .inl f ∧ (σ 1 13).toInt = f.1 ∧ (σ 1 14).toInt = f.2 := by
  cases x with
  | inl f => exact ⟨f, rfl, h.2.1, h.2.2⟩
  | inr a =>
    have h1 : r.toInt = a := h.1
    have h2 : 0 ≤ a := h.2.1
    omega
theorem RH.ye {r : Int32} {σ : Nat → Nat → Int32} {x : Fq ⊕ Int} {Q : Prop} (h : RH r σ x Q) (h0 : r.toInt ≠ -1) : x = .inr r.toInt ∧ 0 ≤ r.toInt ∧ r.toInt ≤ 7 ∧ Q := by
  cases x with
  | inl f => exact absurd h.1 h0
  | inr a =>
    have h1 : r.toInt = a := h.1
    rw [h1]
    exact ⟨rfl, h.2⟩
/-! ## the class's tape and its reader -/
/-- the tape holds the text b of N bytes -/
def BY (σ : Nat → Nat → Int32) (b : Nat → Int) (N : Nat) : Prop := (σ 1 5).toInt = (N : Int) ∧ N ≤ 940 ∧ ∀ j : Nat, j < N → bC σ j = b j
abbrev Gd_BY : List Rc := [(1, 1, 5, 5), (35, 35, 0, 939)]
theorem BY.ag {σ σ1 : Nat → Nat → Int32} {b : Nat → Int} {N : Nat} (h : BY σ b N) (a : Agr Gd_BY σ σ1) : BY σ1 b N := by
  have e5 : σ1 1 5 = σ 1 5 := a 1 5 (rc_in 0 rfl (by decide) (by decide) (by decide) (by decide))
  refine ⟨by rw [e5]; exact h.1, h.2.1, fun j hj => ?_⟩
  have h2 := h.2.1
  have e : σ1 35 j = σ 35 j := a 35 j (rc_in 1 rfl (by decide) (by decide) (by omega) (by omega))
  unfold bC
  rw [e]
  exact h.2.2 j hj
theorem BY.rd {σ : Nat → Nat → Int32} {b : Nat → Int} {N j : Nat} {x r : Int32} (h : BY σ b N) (hr : (0 ≤ x.toInt ∧ x.toInt < 940 ∧ r.toInt = bC σ x.toInt.toNat) ∨ ((x.toInt < 0 ∨ 940 ≤ x.toInt) ∧ r.toInt = 0)) (ex : x.toInt = (j : Int)) (hj : j < N) : r.toInt = b j := by
  have h2 := h.2.1
  rcases hr with ⟨_, _, h3⟩ | ⟨h3, _⟩
  · rw [h3, show x.toInt.toNat = j by omega]
    exact h.2.2 j hj
  · omega
/-- the tokens noted so far -/
def TL (σ : Nat → Nat → Int32) (τ : Nat → Nat → Int64) (b : Nat → Int) (N mo : Nat) : Prop := ∀ i : Nat, (i : Int) < (σ 1 6).toInt → i ≤ 940 → TV b N mo (posq b N mo i) (σ 36 i).toInt (σ 37 i).toInt (σ 38 i).toInt (τ 39 i)
abbrev Gd_TL : List Rc := [(1, 1, 6, 6), (36, 38, 0, 940)]
abbrev GdL_TL : List Rc := [(39, 39, 0, 940)]
theorem TL.ag {σ σ1 : Nat → Nat → Int32} {τ : Nat → Nat → Int64} {b : Nat → Int} {N mo : Nat} (h : TL σ τ b N mo) (a : Agr Gd_TL σ σ1) : TL σ1 τ b N mo := by
  have e6 : σ1 1 6 = σ 1 6 := a 1 6 (rc_in 0 rfl (by decide) (by decide) (by decide) (by decide))
  intro i h1 h2
  rw [e6] at h1
  rw [a 36 i (rc_in 1 rfl (by decide) (by decide) (by omega) (by omega)), a 37 i (rc_in 1 rfl (by decide) (by decide) (by omega) (by omega)), a 38 i (rc_in 1 rfl (by decide) (by decide) (by omega) (by omega))]
  exact h i h1 h2
theorem TL.agL {σ : Nat → Nat → Int32} {τ τ1 : Nat → Nat → Int64} {b : Nat → Int} {N mo : Nat} (h : TL σ τ b N mo) (a : AgrL GdL_TL τ τ1) : TL σ τ1 b N mo := by
  intro i h1 h2
  rw [a 39 i (rc_in 0 rfl (by decide) (by decide) (by omega) (by omega))]
  exact h i h1 h2
theorem TL.zero {σ : Nat → Nat → Int32} {τ : Nat → Nat → Int64} {b : Nat → Int} {N mo : Nat} (h : (σ 1 6).toInt = 0) : TL σ τ b N mo := fun i h1 _ => absurd h1 (by omega)
theorem TL.note {σ0 σ1 σ2 σ3 σ5 : Nat → Nat → Int32} {τ0 τ1 : Nat → Nat → Int64} {b : Nat → Int} {N mo j : Nat} {k p n : Int} {x : Int64} (h : TL σ0 τ0 b N mo) (u1 : Up1 σ0 σ1 36 j) (v1 : (σ1 36 j).toInt = k) (u2 : Up1 σ1 σ2 37 j) (v2 : (σ2 37 j).toInt = p) (u3 : Up1 σ2 σ3 38 j) (v3 : (σ3 38 j).toInt = n) (uL : Up1L τ0 τ1 39 j) (vL : τ1 39 j = x) (u5 : Up1 σ3 σ5 1 6) (ej : (σ0 1 6).toInt = (j : Int)) (v5 : (σ5 1 6).toInt = (j : Int) + 1) (ht : TV b N mo (posq b N mo (σ0 1 6).toInt.toNat) k p n x) : TL σ5 τ1 b N mo := by
  intro i h1 h2
  rw [show (σ0 1 6).toInt.toNat = j by omega] at ht
  rw [u5 36 i (by omega), u5 37 i (by omega), u5 38 i (by omega)]
  by_cases c : i = j
  · subst c
    rw [u3 36 i (by omega), u2 36 i (by omega), u3 37 i (by omega), v1, v2, v3, vL]
    exact ht
  · rw [u3 36 i (by omega), u2 36 i (by omega), u1 36 i (by omega), u3 37 i (by omega), u2 37 i (by omega), u1 37 i (by omega), u3 38 i (by omega), u2 38 i (by omega), u1 38 i (by omega), uL 39 i (by omega)]
    exact h i (by omega) h2
/-- the reader stands at the token of place q -/
def CT (σ : Nat → Nat → Int32) (τ : Nat → Nat → Int64) (b : Nat → Int) (N mo q : Nat) : Prop := TL σ τ b N mo ∧ (∀ e : Nat, (σ 1 6).toInt = (e : Int) + 1 → endq N mo (posq b N mo e)) ∧ (∃ t : Nat, (σ 1 7).toInt = (t : Int) + 1 ∧ (t : Int) < (σ 1 6).toInt ∧ (σ 1 6).toInt ≤ 941 ∧ q = posq b N mo t) ∧ TV b N mo q (σ 1 9).toInt (σ 1 8).toInt (σ 1 10).toInt (τ 1 11)
abbrev Gd_CT : List Rc := [(1, 1, 6, 10), (36, 38, 0, 940)]
abbrev GdL_CT : List Rc := [(1, 1, 11, 11), (39, 39, 0, 940)]
theorem CT.ag {σ σ1 : Nat → Nat → Int32} {τ : Nat → Nat → Int64} {b : Nat → Int} {N mo q : Nat} (h : CT σ τ b N mo q) (a : Agr Gd_CT σ σ1) : CT σ1 τ b N mo q := by
  have e6 : σ1 1 6 = σ 1 6 := a 1 6 (rc_in 0 rfl (by decide) (by decide) (by decide) (by decide))
  have e7 : σ1 1 7 = σ 1 7 := a 1 7 (rc_in 0 rfl (by decide) (by decide) (by decide) (by decide))
  have e8 : σ1 1 8 = σ 1 8 := a 1 8 (rc_in 0 rfl (by decide) (by decide) (by decide) (by decide))
  have e9 : σ1 1 9 = σ 1 9 := a 1 9 (rc_in 0 rfl (by decide) (by decide) (by decide) (by decide))
  have e10 : σ1 1 10 = σ 1 10 := a 1 10 (rc_in 0 rfl (by decide) (by decide) (by decide) (by decide))
  refine ⟨h.1.ag fun k j hin => a k j ?_, ?_⟩
  · obtain ⟨r, hr, h1, h2, h3, h4⟩ := hin
    simp only [Gd_TL, List.mem_cons, List.not_mem_nil, or_false] at hr
    rcases hr with rfl | rfl
    · dsimp only at h1 h2 h3 h4
      exact rc_in 0 rfl h1 h2 h3 (by omega)
    · exact rc_in 1 rfl h1 h2 h3 h4
  · rw [e6, e7, e8, e9, e10]
    exact h.2
theorem CT.agL {σ : Nat → Nat → Int32} {τ τ1 : Nat → Nat → Int64} {b : Nat → Int} {N mo q : Nat} (h : CT σ τ b N mo q) (a : AgrL GdL_CT τ τ1) : CT σ τ1 b N mo q := by
  have e11 : τ1 1 11 = τ 1 11 := a 1 11 (rc_in 0 rfl (by decide) (by decide) (by decide) (by decide))
  refine ⟨h.1.agL fun k j hin => a k j ?_, ?_⟩
  · obtain ⟨r, hr, h1, h2, h3, h4⟩ := hin
    simp only [GdL_TL, List.mem_cons, List.not_mem_nil, or_false] at hr
    subst hr
    exact rc_in 1 rfl h1 h2 h3 h4
  · rw [e11]
    exact h.2
theorem CT.tk {σ : Nat → Nat → Int32} {τ : Nat → Nat → Int64} {b : Nat → Int} {N mo q : Nat} (h : CT σ τ b N mo q) : (σ 1 9).toInt = tkq b N mo q := h.2.2.2.1
theorem CT.pl {σ : Nat → Nat → Int32} {τ : Nat → Nat → Int64} {b : Nat → Int} {N mo q : Nat} (h : CT σ τ b N mo q) : (σ 1 8).toInt = (q : Int) := h.2.2.2.2.1
theorem CT.nu {σ : Nat → Nat → Int32} {τ : Nat → Nat → Int64} {b : Nat → Int} {N mo q : Nat} (h : CT σ τ b N mo q) : tkq b N mo q ≠ 46 ∨ (σ 1 10).toInt = nuq b N q := by
  have h1 := h.tk
  by_cases c : tkq b N mo q = 46
  · exact Or.inr (h.2.2.2.2.2.1 (by omega))
  · exact Or.inl c
theorem CT.nr {σ : Nat → Nat → Int32} {τ : Nat → Nat → Int64} {b : Nat → Int} {N mo q : Nat} (h : CT σ τ b N mo q) (c : tkq b N mo q = 47) : NR b (τ 1 11) (wdq b N q) := h.2.2.2.2.2.2 (h.tk.trans c)
theorem CT.nxt {σ0 σ1 σ2 σ3 σ5 : Nat → Nat → Int32} {τ0 τ1 : Nat → Nat → Int64} {b : Nat → Int} {N mo q j : Nat} (h : CT σ0 τ0 b N mo q) (u1 : Up1 σ0 σ1 1 9) (v1 : (σ1 1 9).toInt = (σ0 36 j).toInt) (u2 : Up1 σ1 σ2 1 8) (v2 : (σ2 1 8).toInt = (σ1 37 j).toInt) (u3 : Up1 σ2 σ3 1 10) (v3 : (σ3 1 10).toInt = (σ2 38 j).toInt) (uL : Up1L τ0 τ1 1 11) (vL : τ1 1 11 = τ0 39 j) (u5 : Up1 σ3 σ5 1 7) (ej : (σ0 1 7).toInt = (j : Int)) (v5 : (σ5 1 7).toInt = (j : Int) + 1) (hj : (j : Int) < (σ0 1 6).toInt) (hj2 : j ≤ 940) : CT σ5 τ1 b N mo (nxq b N mo q) := by
  obtain ⟨h1, h2, ⟨t, h3, h4, h5, h6⟩, h7⟩ := h
  have et : j = t + 1 := by omega
  have e6 : σ5 1 6 = σ0 1 6 := by rw [u5 1 6 (by omega), u3 1 6 (by omega), u2 1 6 (by omega), u1 1 6 (by omega)]
  have ea : ∀ k i : Nat, 36 ≤ k → σ5 k i = σ0 k i := fun k i hk => by rw [u5 k i (by omega), u3 k i (by omega), u2 k i (by omega), u1 k i (by omega)]
  have hn : nxq b N mo q = posq b N mo j := by rw [h6, et]; rfl
  refine ⟨?_, ?_, ⟨j, v5, by rw [e6]; exact hj, by rw [e6]; exact h5, hn⟩, ?_⟩
  · intro i g1 g2
    rw [e6] at g1
    rw [ea 36 i (by omega), ea 37 i (by omega), ea 38 i (by omega), uL 39 i (by omega)]
    exact h1 i g1 g2
  · rw [e6]
    exact h2
  · have g := h1 j hj hj2
    rw [hn, u5 1 9 (by omega), u3 1 9 (by omega), u2 1 9 (by omega), v1, u5 1 8 (by omega), u3 1 8 (by omega), v2, u1 37 j (by omega), u5 1 10 (by omega), v3, u2 38 j (by omega), u1 38 j (by omega), vL]
    exact g
theorem CT.stay {σ : Nat → Nat → Int32} {τ : Nat → Nat → Int64} {b : Nat → Int} {N mo q : Nat} (h : CT σ τ b N mo q) (hh : (σ 1 6).toInt ≤ (σ 1 7).toInt ∨ 941 ≤ (σ 1 7).toInt) : CT σ τ b N mo (nxq b N mo q) := by
  obtain ⟨h1, h2, ⟨t, h3, h4, h5, h6⟩, h7⟩ := id h
  have e := h2 t (by omega)
  rw [← h6] at e
  rw [nxq_end e]
  exact h
theorem CT.frs {σ0 σ1 σ2 σ3 σ5 : Nat → Nat → Int32} {τ0 τ1 : Nat → Nat → Int64} {b : Nat → Int} {N mo j : Nat} (h1 : TL σ0 τ0 b N mo) (h2 : ∀ e : Nat, (σ0 1 6).toInt = (e : Int) + 1 → endq N mo (posq b N mo e)) (u1 : Up1 σ0 σ1 1 9) (v1 : (σ1 1 9).toInt = (σ0 36 j).toInt) (u2 : Up1 σ1 σ2 1 8) (v2 : (σ2 1 8).toInt = (σ1 37 j).toInt) (u3 : Up1 σ2 σ3 1 10) (v3 : (σ3 1 10).toInt = (σ2 38 j).toInt) (uL : Up1L τ0 τ1 1 11) (vL : τ1 1 11 = τ0 39 j) (u5 : Up1 σ3 σ5 1 7) (ej : j = 0) (v5 : (σ5 1 7).toInt = 1) (hj : 0 < (σ0 1 6).toInt) (hj2 : (σ0 1 6).toInt ≤ 941) : CT σ5 τ1 b N mo (posq b N mo 0) := by
  subst ej
  have e6 : σ5 1 6 = σ0 1 6 := by rw [u5 1 6 (by omega), u3 1 6 (by omega), u2 1 6 (by omega), u1 1 6 (by omega)]
  have ea : ∀ k i : Nat, 36 ≤ k → σ5 k i = σ0 k i := fun k i hk => by rw [u5 k i (by omega), u3 k i (by omega), u2 k i (by omega), u1 k i (by omega)]
  refine ⟨?_, ?_, ⟨0, v5, by rw [e6]; exact hj, by rw [e6]; exact hj2, rfl⟩, ?_⟩
  · intro i g1 g2
    rw [e6] at g1
    rw [ea 36 i (by omega), ea 37 i (by omega), ea 38 i (by omega), uL 39 i (by omega)]
    exact h1 i g1 g2
  · rw [e6]
    exact h2
  · have g := h1 0 hj (by omega)
    rw [u5 1 9 (by omega), u3 1 9 (by omega), u2 1 9 (by omega), v1, u5 1 8 (by omega), u3 1 8 (by omega), v2, u1 37 0 (by omega), u5 1 10 (by omega), v3, u2 38 0 (by omega), u1 38 0 (by omega), vL]
    exact g
/-! ## the class's scan -/
theorem sc_here {b : Nat → Int} {N mo x : Nat} (h1 : x < N) (h2 : x < mo) (h3 : ¬ isBl (b x)) : lmq N mo (skpE b N x) = x := by
  rw [skpE_self (fun c => h3 c.2), lmq_id (by omega)]
theorem sc_run {b : Nat → Int} {N mo x k : Nat} (hk : posq b N mo k = x) (h1 : x < N) (h2 : x < mo) (h3 : isRn (b x)) : posq b N mo (k + 1) = lmq N mo (skpE b N (runE b N x)) := by
  show nxq b N mo (posq b N mo k) = _
  rw [hk, nxq_go (by omega), tEnd_rn h3]
theorem sc_sgn {b : Nat → Int} {N mo x k : Nat} (hk : posq b N mo k = x) (h1 : x < N) (h2 : x < mo) (h3 : ¬ isRn (b x)) : posq b N mo (k + 1) = lmq N mo (skpE b N (x + 1)) := by
  show nxq b N mo (posq b N mo k) = _
  rw [hk, nxq_go (by omega), tEnd_sg h3]
theorem tv_sg {b : Nat → Int} {N mo q Q : Nat} (hq : Q = q) (h1 : q < N) (h2 : q < mo) (h3 : ¬ isRn (b q)) {k p n c : Int} {x : Int64} (hk : k = sgT c) (hc : c = b q) (hp : p = (q : Int)) : TV b N mo Q k p n x := by
  subst hq
  have e := tkq_sg (b := b) (N := N) (mo := mo) (q := Q) (by omega) h3
  have g := sgT_rg (b Q)
  subst hc
  exact ⟨hk.trans e.symm, hp, fun h => by omega, fun h => by omega⟩
theorem sc_end {b : Nat → Int} {N mo x : Nat} (hx : ¬ (x < N ∧ x < mo)) (hN : x ≤ N) : (mo < N → lmq N mo (skpE b N x) = mo) ∧ (N ≤ mo → lmq N mo (skpE b N x) = N) := by
  have h1 := skpE_ge b N x
  have h2 := skpE_le b hN
  constructor
  · intro h
    exact lmq_lim ⟨h, by omega⟩
  · intro h
    rw [lmq_id (by omega)]
    omega
theorem tv_end {b : Nat → Int} {N mo Q x : Nat} (hq : Q = lmq N mo (skpE b N x)) (hx : ¬ (x < N ∧ x < mo)) (hN : x ≤ N) {k p n : Int} {y : Int64} (hk : (mo < N ∧ k = 49 ∧ p = (mo : Int)) ∨ (N ≤ mo ∧ k = 48 ∧ p = (N : Int))) : TV b N mo Q k p n y := by
  have h := sc_end (b := b) hx hN
  rcases hk with ⟨h1, h2, h3⟩ | ⟨h1, h2, h3⟩
  · have e : Q = mo := hq.trans (h.1 h1)
    subst e
    exact ⟨by rw [h2, tkq_lim ⟨h1, Nat.le_refl _⟩], h3, fun g => by omega, fun g => by omega⟩
  · have e : Q = N := hq.trans (h.2 h1)
    subst e
    exact ⟨by rw [h2, tkq_end (by omega) (Nat.le_refl _)], h3, fun g => by omega, fun g => by omega⟩
theorem en_end {b : Nat → Int} {N mo Q x : Nat} (hq : Q = lmq N mo (skpE b N x)) (hx : ¬ (x < N ∧ x < mo)) (hN : x ≤ N) : endq N mo Q := by
  have h := sc_end (b := b) hx hN
  by_cases c : mo < N
  · rw [hq, h.1 c]
    exact Or.inl ⟨c, Nat.le_refl _⟩
  · rw [hq, h.2 (by omega)]
    exact Or.inr (Nat.le_refl _)
theorem run_at {b : Nat → Int} {N q n : Nat} (h2 : ∀ i : Nat, i < n → isRn (b (q + i))) (hN : q + n ≤ N) (h3 : ¬ (q + n < N ∧ isRn (b (q + n)))) : runE b N q = q + n := by
  refine runE_eq (by omega) (fun i g1 g2 => ?_) h3
  have e := h2 (i - q) (by omega)
  rw [show q + (i - q) = i by omega] at e
  exact ⟨by omega, e⟩
theorem lt_of {b : Nat → Int} {q n : Nat} (h : ∀ i : Nat, i < n → isRn (b (q + i))) (hd : dgc b q n = 0) : ∀ i : Nat, i < n → isLt (b (q + i)) := by
  intro i hi
  have h1 := h i hi
  have h2 := dgc_none hd i hi
  omega
theorem rn_s {b : Nat → Int} {q n : Nat} (h : ∀ i : Nat, i < n → isRn (b (q + i))) (h1 : isRn (b (q + n))) : ∀ i : Nat, i < n + 1 → isRn (b (q + i)) := by
  intro i hi
  by_cases c : i = n
  · subst c; exact h1
  · exact h i (by omega)
theorem fd_dg {b : Nat → Int} {q : Nat} : ∀ {n : Nat}, n ≤ 3 → dgc b q n = n → 0 ≤ fd 10 48 b q n ∧ fd 10 48 b q n ≤ (if n = 0 then 0 else if n = 1 then 9 else if n = 2 then 99 else 999)
  | 0, _, _ => by
    show 0 ≤ (0 : Int) ∧ (0 : Int) ≤ _
    rw [if_pos rfl]
    omega
  | 1, _, h => by
    have h1 := dgc_all h 0 (by omega)
    show 0 ≤ (0 : Int) * 10 + (b (q + 0) - 48) ∧ (0 : Int) * 10 + (b (q + 0) - 48) ≤ _
    rw [if_neg (by decide), if_pos rfl]
    omega
  | 2, _, h => by
    have h1 := dgc_all h 0 (by omega)
    have h2 := dgc_all h 1 (by omega)
    show 0 ≤ ((0 : Int) * 10 + (b (q + 0) - 48)) * 10 + (b (q + 1) - 48) ∧ ((0 : Int) * 10 + (b (q + 0) - 48)) * 10 + (b (q + 1) - 48) ≤ _
    rw [if_neg (by decide), if_neg (by decide), if_pos rfl]
    omega
  | 3, _, h => by
    have h1 := dgc_all h 0 (by omega)
    have h2 := dgc_all h 1 (by omega)
    have h3 := dgc_all h 2 (by omega)
    show 0 ≤ (((0 : Int) * 10 + (b (q + 0) - 48)) * 10 + (b (q + 1) - 48)) * 10 + (b (q + 2) - 48) ∧ (((0 : Int) * 10 + (b (q + 0) - 48)) * 10 + (b (q + 1) - 48)) * 10 + (b (q + 2) - 48) ≤ _
    rw [if_neg (by decide), if_neg (by decide), if_neg (by decide)]
    omega
  | n + 4, h, _ => by omega
theorem fd_999 {b : Nat → Int} {q n : Nat} (h : n ≤ 3) (hd : dgc b q n = n) : 0 ≤ fd 10 48 b q n ∧ fd 10 48 b q n ≤ 999 := by
  have h1 := fd_dg h hd
  refine ⟨h1.1, Int.le_trans h1.2 ?_⟩
  split
  · decide
  · split
    · decide
    · split <;> decide
theorem NUs {b : Nat → Int} {q n : Nat} {x r : Int32} (h : dgc b q n ≠ n ∨ 3 < n ∨ x.toInt = fd 10 48 b q n) (hb : r.toInt = b (q + n)) (hd : isDg (b (q + n))) : dgc b q (n + 1) ≠ n + 1 ∨ 3 < n + 1 ∨ (x * 10 + r - 48).toInt = fd 10 48 b q (n + 1) := by
  have h1 := dgc_y hd
  by_cases c1 : dgc b q n = n
  · by_cases c2 : n + 1 ≤ 3
    · refine Or.inr (Or.inr ?_)
      have e : x.toInt = fd 10 48 b q n := by
        rcases h with h | h | h
        · exact absurd c1 h
        · omega
        · exact h
      have h2 := fd_999 (b := b) (q := q) (n := n) (by omega) c1
      have k10 : (10 : Int32).toInt = 10 := rfl
      have k48 : (48 : Int32).toInt = 48 := rfl
      have m1 : (x * 10).toInt = x.toInt * 10 := by
        rw [ti_mul (by rw [k10]; omega), k10]
      have m2 : (x * 10 + r).toInt = x.toInt * 10 + r.toInt := by rw [ti_add (by omega), m1]
      have m3 : (x * 10 + r - 48).toInt = x.toInt * 10 + r.toInt - 48 := by rw [ti_sub (by omega), m2, k48]
      rw [m3]
      show _ = fd 10 48 b q n * 10 + (b (q + n) - 48)
      omega
    · exact Or.inr (Or.inl (by omega))
  · exact Or.inl (by omega)
theorem NUn {b : Nat → Int} {q n : Nat} {x : Int} (hd : ¬ isDg (b (q + n))) : dgc b q (n + 1) ≠ n + 1 ∨ 3 < n + 1 ∨ x = fd 10 48 b q (n + 1) := by
  have h1 := dgc_n hd
  have h2 := dgc_le b q n
  exact Or.inl (by omega)
theorem fd_27 {b : Nat → Int} {q : Nat} : ∀ {n : Nat}, (∀ i : Nat, i < n → isLt (b (q + i))) → 0 ≤ fd 27 96 b q n ∧ fd 27 96 b q n < 27 ^ n
  | 0, _ => by
    show 0 ≤ (0 : Int) ∧ (0 : Int) < 27 ^ 0
    omega
  | n + 1, h => by
    have h1 := fd_27 (n := n) (fun i hi => h i (by omega))
    have h2 := h n (by omega)
    show 0 ≤ fd 27 96 b q n * 27 + (b (q + n) - 96) ∧ fd 27 96 b q n * 27 + (b (q + n) - 96) < 27 ^ (n + 1)
    rw [Int.pow_succ]
    omega
theorem fd_27b {b : Nat → Int} {q n : Nat} (hn : n ≤ 7) (h : ∀ i : Nat, i < n → isLt (b (q + i))) : 0 ≤ fd 27 96 b q n ∧ fd 27 96 b q n < 10460353203 := by
  have h1 := fd_27 h
  refine ⟨h1.1, Int.lt_of_lt_of_le h1.2 ?_⟩
  rcases (show n = 0 ∨ n = 1 ∨ n = 2 ∨ n = 3 ∨ n = 4 ∨ n = 5 ∨ n = 6 ∨ n = 7 by omega) with rfl | rfl | rfl | rfl | rfl | rfl | rfl | rfl <;> decide
theorem NAs {b : Nat → Int} {q n : Nat} {y : Int64} {r : Int32} (h : dgc b q n ≠ 0 ∨ 7 < n ∨ y.toInt = fd 27 96 b q n) (hr : ∀ i : Nat, i < n → isRn (b (q + i))) (hb : r.toInt = b (q + n)) (h1 : isRn (b (q + n))) (hd : ¬ isDg (b (q + n))) : dgc b q (n + 1) ≠ 0 ∨ 7 < n + 1 ∨ (y * 27 + r.toInt64 - 97 + 1).toInt = fd 27 96 b q (n + 1) := by
  have h2 := dgc_n hd
  by_cases c1 : dgc b q n = 0
  · by_cases c2 : n + 1 ≤ 7
    · refine Or.inr (Or.inr ?_)
      have e : y.toInt = fd 27 96 b q n := by
        rcases h with h | h | h
        · exact absurd c1 h
        · omega
        · exact h
      have h3 := fd_27b (b := b) (q := q) (n := n) (by omega) (lt_of hr c1)
      have hl : isLt (b (q + n)) := by omega
      have k27 : (27 : Int64).toInt = 27 := rfl
      have k97 : (97 : Int64).toInt = 97 := rfl
      have k1 : (1 : Int64).toInt = 1 := rfl
      have kr := tl_of r
      have m1 : (y * 27).toInt = y.toInt * 27 := by rw [tl_mul (by rw [k27]; omega), k27]
      have m2 : (y * 27 + r.toInt64).toInt = y.toInt * 27 + r.toInt := by rw [tl_add (by omega), m1, kr]
      have m3 : (y * 27 + r.toInt64 - 97).toInt = y.toInt * 27 + r.toInt - 97 := by rw [tl_sub (by omega), m2, k97]
      have m4 : (y * 27 + r.toInt64 - 97 + 1).toInt = y.toInt * 27 + r.toInt - 97 + 1 := by rw [tl_add (by omega), m3, k1]
      rw [m4]
      show _ = fd 27 96 b q n * 27 + (b (q + n) - 96)
      omega
    · exact Or.inr (Or.inl (by omega))
  · exact Or.inl (by omega)
theorem NAd {b : Nat → Int} {q n : Nat} {x : Int} (hd : isDg (b (q + n))) : dgc b q (n + 1) ≠ 0 ∨ 7 < n + 1 ∨ x = fd 27 96 b q (n + 1) := Or.inl (by rw [dgc_y hd]; omega)
theorem tv_rn {b : Nat → Int} {N mo q n Q : Nat} (hq : Q = q) (h1 : q < N) (h2 : q < mo) (h3 : isRn (b q)) (hr : ∀ i : Nat, i < n → isRn (b (q + i))) (en : runE b N q = q + n) {k p m : Int} {x : Int64} (hp : p = (q : Int)) (hk : (k = 46 ∧ dgc b q n = n ∧ n ≤ 3) ∨ (k = wdK (fd 256 0 b q n) ∧ dgc b q n = 0 ∧ n ≤ 7) ∨ (k = 49 ∧ ¬ (dgc b q n = n ∧ n ≤ 3) ∧ ¬ (dgc b q n = 0 ∧ n ≤ 7))) (i5 : dgc b q n ≠ n ∨ 3 < n ∨ m = fd 10 48 b q n) (i6 : dgc b q n ≠ 0 ∨ 7 < n ∨ x.toInt = fd 27 96 b q n) : TV b N mo Q k p m x := by
  subst hq
  have hn : 0 < n := by
    have := runE_gt h1 h3
    omega
  have e := tkq_rn (b := b) (N := N) (mo := mo) (q := Q) (by omega) h3
  have el : runE b N Q - Q = n := by omega
  rw [el] at e
  unfold TV nuq wdq
  rw [el, e]
  unfold rnK
  have hw := wdK_rg (fd 256 0 b Q n)
  rcases hk with ⟨g1, g2, g3⟩ | ⟨g1, g2, g3⟩ | ⟨g1, g2, g3⟩
  · rw [if_pos ⟨g2, g3⟩]
    refine ⟨g1, hp, fun _ => ?_, fun h => by omega⟩
    rcases i5 with i | i | i
    · exact absurd g2 i
    · omega
    · exact i
  · rw [if_neg (by omega), if_pos ⟨g2, g3⟩]
    refine ⟨g1, hp, fun h => by omega, fun _ => ?_⟩
    rcases i6 with i | i | i
    · exact absurd g2 i
    · omega
    · exact ⟨Q, n, lt_of hr g2, g3, i, rfl⟩
  · rw [if_neg g2, if_neg g3]
    exact ⟨g1, hp, fun h => by omega, fun h => by omega⟩
theorem wt_a {w : Int} {o k : Nat} {r : Int} (h : w = RWl.getD (o + k) 0) (hk : o + k < 31) (hr : r = ((o + k : Nat) : Int)) : r = wdK w := by
  rw [hr]
  exact ((wdK_at hk).mpr h).symm
theorem wt_n {w : Int} (h0 : ∀ i : Nat, i < 14 → w ≠ RWl.getD (0 + i) 0) (h1 : ∀ i : Nat, i < 6 → w ≠ RWl.getD (14 + i) 0) (h2 : ∀ i : Nat, i < 11 → w ≠ RWl.getD (20 + i) 0) : wdK w = 47 := by
  refine wdK_nm.mpr fun i hi e => ?_
  by_cases c0 : i < 14
  · exact h0 i c0 (by rw [Nat.zero_add]; exact e.symm)
  · by_cases c1 : i < 20
    · exact h1 (i - 14) (by omega) (by rw [show 14 + (i - 14) = i by omega]; exact e.symm)
    · exact h2 (i - 20) (by omega) (by rw [show 20 + (i - 20) = i by omega]; exact e.symm)
/-! ## names, and what is told in the class's spare VALLEY -/
def CN (τ : Nat → Nat → Int64) (b : Nat → Int) (h nm : Nat → Int) : Prop := (∀ i : Nat, (i : Int) < h 0 → i < 8 → NR b (τ 41 i) (nm i)) ∧ ∀ i : Nat, (i : Int) < h 1 → i < 8 → NR b (τ 45 i) (nm (8 + i))
abbrev GdL_CN : List Rc := [(41, 41, 0, 7), (45, 45, 0, 7)]
theorem CN.agL {τ τ1 : Nat → Nat → Int64} {b : Nat → Int} {h nm : Nat → Int} (g : CN τ b h nm) (a : AgrL GdL_CN τ τ1) : CN τ1 b h nm := by
  refine ⟨fun i h1 h2 => ?_, fun i h1 h2 => ?_⟩
  · rw [a 41 i (rc_in 0 rfl (by decide) (by decide) (by omega) (by omega))]
    exact g.1 i h1 h2
  · rw [a 45 i (rc_in 1 rfl (by decide) (by decide) (by omega) (by omega))]
    exact g.2 i h1 h2
theorem CN.h {τ : Nat → Nat → Int64} {b : Nat → Int} {h h' nm : Nat → Int} (g : CN τ b h nm) (e0 : h' 0 = h 0) (e1 : h' 1 = h 1) : CN τ b h' nm := ⟨fun i h1 => g.1 i (by omega), fun i h1 => g.2 i (by omega)⟩
theorem CN.f0 {τ : Nat → Nat → Int64} {b : Nat → Int} {h nm : Nat → Int} {x : Int64} {w : Int} (g : CN τ b h nm) (h8 : h 0 ≤ 8) (r : NR b x w) : fndq (τ 41) x (h 0).toNat = fndq nm w (h 0).toNat := fndq_cg fun i hi => (g.1 i (by omega) (by omega)).iff r
theorem CN.f1 {τ : Nat → Nat → Int64} {b : Nat → Int} {h nm : Nat → Int} {x : Int64} {w : Int} (g : CN τ b h nm) (h8 : h 1 ≤ 8) (r : NR b x w) : fndq (τ 45) x (h 1).toNat = fndq (n8 nm) w (h 1).toNat := fndq_cg fun i hi => (g.2 i (by omega) (by omega)).iff r
theorem CN.hil {τ τ1 : Nat → Nat → Int64} {b : Nat → Int} {h h' nm : Nat → Int} {x : Int64} {w : Int} {k : Nat} (g : CN τ b h nm) (u : Up1L τ τ1 41 k) (v : τ1 41 k = x) (r : NR b x w) (hk : h 0 = (k : Int)) (hk8 : k < 8) (e0 : h' 0 = h 0 + 1) (e1 : h' 1 = h 1) : CN τ1 b h' (uh nm k w) := by
  refine ⟨fun i h1 h2 => ?_, fun i h1 h2 => ?_⟩
  · by_cases c : i = k
    · subst c
      rw [v, uh_s]
      exact r
    · rw [u 41 i (by omega), uh_n _ _ c]
      exact g.1 i (by omega) h2
  · rw [u 45 i (by omega)]
    rw [uh_n _ _ (by omega)]
    exact g.2 i (by omega) h2
def CS (σ : Nat → Nat → Int32) (h : Nat → Int) : Prop := (σ 3 4).toInt = h 0 ∧ (σ 3 5).toInt = h 1 ∧ (σ 3 6).toInt = h 2 ∧ (σ 3 1).toInt = h 4 ∧ (((σ 3 0).toInt = h 3 ∧ h 3 ≤ 20) ∨ ((σ 3 0).toInt = 20 ∧ h 3 = 99))
abbrev Gd_CS : List Rc := [(3, 3, 0, 1), (3, 3, 4, 6)]
theorem CS.ag {σ σ1 : Nat → Nat → Int32} {h : Nat → Int} (g : CS σ h) (a : Agr Gd_CS σ σ1) : CS σ1 h := by
  have e0 : σ1 3 0 = σ 3 0 := a 3 0 (rc_in 0 rfl (by decide) (by decide) (by decide) (by decide))
  have e1 : σ1 3 1 = σ 3 1 := a 3 1 (rc_in 0 rfl (by decide) (by decide) (by decide) (by decide))
  have e4 : σ1 3 4 = σ 3 4 := a 3 4 (rc_in 1 rfl (by decide) (by decide) (by decide) (by decide))
  have e5 : σ1 3 5 = σ 3 5 := a 3 5 (rc_in 1 rfl (by decide) (by decide) (by decide) (by decide))
  have e6 : σ1 3 6 = σ 3 6 := a 3 6 (rc_in 1 rfl (by decide) (by decide) (by decide) (by decide))
  unfold CS
  rw [e0, e1, e4, e5, e6]
  exact g
def CM (σ : Nat → Nat → Int32) (h : Nat → Int) : Prop := (∀ i : Nat, (i : Int) < h 1 → i < 8 → (σ (108 + i) 3).toInt = h (55 + i) ∧ (σ (108 + i) 4).toInt = h (63 + i) - 1 ∧ (σ (108 + i) 5).toInt = h (71 + i) - 1 ∧ 0 ≤ h (55 + i) ∧ 0 ≤ h (63 + i) ∧ 0 ≤ h (71 + i)) ∧ ∀ i : Nat, h 1 ≤ (i : Int) → i < 8 → h (55 + i) = 0 ∧ h (63 + i) = 0 ∧ h (71 + i) = 0
abbrev Gd_CM : List Rc := [(108, 115, 3, 5)]
theorem CM.ag {σ σ1 : Nat → Nat → Int32} {h : Nat → Int} (g : CM σ h) (a : Agr Gd_CM σ σ1) : CM σ1 h := by
  refine ⟨fun i h1 h2 => ?_, g.2⟩
  rw [a (108 + i) 3 (rc_in 0 rfl (by omega) (by omega) (by decide) (by decide)), a (108 + i) 4 (rc_in 0 rfl (by omega) (by omega) (by decide) (by decide)), a (108 + i) 5 (rc_in 0 rfl (by omega) (by omega) (by decide) (by decide))]
  exact g.1 i h1 h2
theorem CM.h {σ : Nat → Nat → Int32} {h h' : Nat → Int} (g : CM σ h) (e1 : h' 1 = h 1) (e : ∀ j : Nat, 55 ≤ j → j ≤ 78 → h' j = h j) : CM σ h' := by
  refine ⟨fun i h1 h2 => ?_, fun i h1 h2 => ?_⟩
  · rw [e (55 + i) (by omega) (by omega), e (63 + i) (by omega) (by omega), e (71 + i) (by omega) (by omega)]
    exact g.1 i (by omega) h2
  · rw [e (55 + i) (by omega) (by omega), e (63 + i) (by omega) (by omega), e (71 + i) (by omega) (by omega)]
    exact g.2 i (by omega) h2
def CF (σ : Nat → Nat → Int32) (h : Nat → Int) : Prop := (∀ f : Nat, (f : Int) < h 2 → f < 4 → (σ (136 + f) 0).toInt = h (79 + f) ∧ (σ (136 + f) 1).toInt = h (83 + f) ∧ (σ (136 + f) 2).toInt = h (87 + f)) ∧ ∀ f k : Nat, (f : Int) < h 2 → f < 4 → (k : Int) < h (87 + f) → k < 10 → (σ (188 + (10 * f + k)) 0).toInt = h (91 + (10 * f + k)) ∧ (σ (188 + (10 * f + k)) 1).toInt = h (131 + (10 * f + k)) ∧ (σ (188 + (10 * f + k)) 2).toInt = h (171 + (10 * f + k))
abbrev Gd_CF : List Rc := [(136, 139, 0, 2), (188, 227, 0, 2)]
theorem CF.ag {σ σ1 : Nat → Nat → Int32} {h : Nat → Int} (g : CF σ h) (a : Agr Gd_CF σ σ1) : CF σ1 h := by
  refine ⟨fun f h1 h2 => ?_, fun f k h1 h2 h3 h4 => ?_⟩
  · rw [a (136 + f) 0 (rc_in 0 rfl (by omega) (by omega) (by decide) (by decide)), a (136 + f) 1 (rc_in 0 rfl (by omega) (by omega) (by decide) (by decide)), a (136 + f) 2 (rc_in 0 rfl (by omega) (by omega) (by decide) (by decide))]
    exact g.1 f h1 h2
  · rw [a (188 + (10 * f + k)) 0 (rc_in 1 rfl (by omega) (by omega) (by decide) (by decide)), a (188 + (10 * f + k)) 1 (rc_in 1 rfl (by omega) (by omega) (by decide) (by decide)), a (188 + (10 * f + k)) 2 (rc_in 1 rfl (by omega) (by omega) (by decide) (by decide))]
    exact g.2 f k h1 h2 h3 h4
theorem CF.h {σ : Nat → Nat → Int32} {h h' : Nat → Int} (g : CF σ h) (e2 : h' 2 = h 2) (e : ∀ j : Nat, 79 ≤ j → h' j = h j) : CF σ h' := by
  refine ⟨fun f h1 h2 => ?_, fun f k h1 h2 h3 h4 => ?_⟩
  · rw [e (79 + f) (by omega), e (83 + f) (by omega), e (87 + f) (by omega)]
    exact g.1 f (by omega) h2
  · rw [e (87 + f) (by omega)] at h3
    rw [e (91 + (10 * f + k)) (by omega), e (131 + (10 * f + k)) (by omega), e (171 + (10 * f + k)) (by omega)]
    exact g.2 f k (by omega) h2 h3 h4
/-- the class's reader and what it has read are at z -/
def CR (σ : Nat → Nat → Int32) (τ : Nat → Nat → Int64) (b : Nat → Int) (N mo : Nat) (z : Zt) : Prop := CT σ τ b N mo z.1 ∧ CN τ b z.2.1 z.2.2.1 ∧ CS σ z.2.1 ∧ CM σ z.2.1 ∧ CF σ z.2.1 ∧ σ 6 3 = z.2.2.2.1 ∧ σ 6 4 = z.2.2.2.2
