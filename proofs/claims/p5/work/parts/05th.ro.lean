/-! ## the reader of a ROLL, pure -/
def actP (b : Nat → Int) (N mo : Nat) (nm : Nat → Int) (hc : Nat) (mm : Nat → Int) (mc q : Nat) : Fq ⊕ Nat := if tkq b N mo q < 16 ∨ 18 < tkq b N mo q then .inl (1, (q : Int)) else if tkq b N mo q = 17 then bnd (numP b N mo 0 9 (nxq b N mo q)) fun y => .inr y.1 else if tkq b N mo q = 16 then bnd (lokP b N mo nm hc (nxq b N mo q)) fun _ => .inr (nxq b N mo (nxq b N mo q)) else bnd (lokP b N mo mm mc (nxq b N mo q)) fun _ => .inr (nxq b N mo (nxq b N mo q))
def rolL (b : Nat → Int) (N mo : Nat) (nm : Nat → Int) (hc : Nat) (mm : Nat → Int) (mc n q : Nat) : Fq ⊕ Nat := if tkq b N mo q = 14 ∨ tkq b N mo q = 15 ∨ tkq b N mo q = 19 then (if 40 ≤ n then .inl (4, (q : Int)) else if tkq b N mo q = 19 then .inr (nxq b N mo q) else if tkq b N mo q = 14 then bnd (numP b N mo 0 3 (nxq b N mo q)) fun y => .inr y.1 else bnd (numP b N mo 1 99 (nxq b N mo q)) fun y => .inr y.1) else bnd (lokP b N mo mm mc q) fun _ => if 40 ≤ n then .inl (4, (q : Int)) else actP b N mo nm hc mm mc (nxq b N mo q)
def rolP (b : Nat → Int) (N mo : Nat) (nm : Nat → Int) (hc : Nat) (mm : Nat → Int) (mc : Nat) : Nat → Nat → Nat → Fq ⊕ Nat
  | 0, n, _ => .inr n
  | fu + 1, n, q => if tkq b N mo q = 48 then .inr n else bnd (rolL b N mo nm hc mm mc n q) fun q1 => bnd (takP b N mo 40 q1) fun q2 => rolP b N mo nm hc mm mc fu (n + 1) q2
section RL
variable {b : Nat → Int} {N mo : Nat} {nm : Nat → Int} {hc : Nat} {mm : Nat → Int} {mc q n : Nat}
theorem act_x (h : tkq b N mo q < 16 ∨ 18 < tkq b N mo q) : actP b N mo nm hc mm mc q = .inl (1, (q : Int)) := if_pos h
theorem act_17 (h : tkq b N mo q = 17) : actP b N mo nm hc mm mc q = bnd (numP b N mo 0 9 (nxq b N mo q)) fun y => .inr y.1 := (if_neg (by omega)).trans (if_pos h)
theorem act_16 (h : tkq b N mo q = 16) : actP b N mo nm hc mm mc q = bnd (lokP b N mo nm hc (nxq b N mo q)) fun _ => .inr (nxq b N mo (nxq b N mo q)) := (if_neg (by omega)).trans ((if_neg (by omega)).trans (if_pos h))
theorem act_18 (h : tkq b N mo q = 18) : actP b N mo nm hc mm mc q = bnd (lokP b N mo mm mc (nxq b N mo q)) fun _ => .inr (nxq b N mo (nxq b N mo q)) := (if_neg (by omega)).trans ((if_neg (by omega)).trans (if_neg (by omega)))
theorem rol_4 (h : tkq b N mo q = 14 ∨ tkq b N mo q = 15 ∨ tkq b N mo q = 19) (h2 : 40 ≤ n) : rolL b N mo nm hc mm mc n q = .inl (4, (q : Int)) := (if_pos h).trans (if_pos h2)
theorem rol_19 (h : tkq b N mo q = 19) (h2 : n < 40) : rolL b N mo nm hc mm mc n q = .inr (nxq b N mo q) := (if_pos (by omega)).trans ((if_neg (by omega)).trans (if_pos h))
theorem rol_14 (h : tkq b N mo q = 14) (h2 : n < 40) : rolL b N mo nm hc mm mc n q = bnd (numP b N mo 0 3 (nxq b N mo q)) fun y => .inr y.1 := (if_pos (by omega)).trans ((if_neg (by omega)).trans ((if_neg (by omega)).trans (if_pos h)))
theorem rol_15 (h : tkq b N mo q = 15) (h2 : n < 40) : rolL b N mo nm hc mm mc n q = bnd (numP b N mo 1 99 (nxq b N mo q)) fun y => .inr y.1 := (if_pos (by omega)).trans ((if_neg (by omega)).trans ((if_neg (by omega)).trans (if_neg (by omega))))
theorem rol_m (h : tkq b N mo q ≠ 14 ∧ tkq b N mo q ≠ 15 ∧ tkq b N mo q ≠ 19) : rolL b N mo nm hc mm mc n q = bnd (lokP b N mo mm mc q) fun _ => if 40 ≤ n then .inl (4, (q : Int)) else actP b N mo nm hc mm mc (nxq b N mo q) := if_neg (by omega)
theorem rolP_e {fu : Nat} (h : tkq b N mo q = 48) : rolP b N mo nm hc mm mc fu n q = .inr n := by
  cases fu with
  | zero => rfl
  | succ fu => rw [rolP, if_pos h]
theorem rolP_f {fu : Nat} {e : Fq} (hf : 0 < fu) (h : tkq b N mo q ≠ 48) (e1 : rolL b N mo nm hc mm mc n q = .inl e) : rolP b N mo nm hc mm mc fu n q = .inl e := by
  obtain ⟨x, rfl⟩ : ∃ x, fu = x + 1 := ⟨fu - 1, by omega⟩
  rw [rolP, if_neg h, e1, bnd_l]
theorem rolP_t {fu q1 : Nat} {e : Fq} (hf : 0 < fu) (h : tkq b N mo q ≠ 48) (e1 : rolL b N mo nm hc mm mc n q = .inr q1) (e2 : takP b N mo 40 q1 = .inl e) : rolP b N mo nm hc mm mc fu n q = .inl e := by
  obtain ⟨x, rfl⟩ : ∃ x, fu = x + 1 := ⟨fu - 1, by omega⟩
  rw [rolP, if_neg h, e1, bnd_r, e2, bnd_l]
theorem rolP_s {fu q1 q2 : Nat} (hf : 0 < fu) (h : tkq b N mo q ≠ 48) (e1 : rolL b N mo nm hc mm mc n q = .inr q1) (e2 : takP b N mo 40 q1 = .inr q2) : rolP b N mo nm hc mm mc fu n q = rolP b N mo nm hc mm mc (fu - 1) (n + 1) q2 := by
  obtain ⟨x, rfl⟩ : ∃ x, fu = x + 1 := ⟨fu - 1, by omega⟩
  rw [rolP, if_neg h, e1, bnd_r, e2, bnd_r]
  rfl
theorem rol_lt {q1 : Nat} (e : rolL b N mo nm hc mm mc n q = .inr q1) : n < 40 := by
  unfold rolL at e
  split at e
  · split at e
    · cases e
    · omega
  · obtain ⟨_, _, e⟩ := bnd_inr e
    split at e
    · cases e
    · omega
end RL
/-! the faults' kinds -/
def kndP {A : Type} : Fq ⊕ A → Int
  | .inl f => f.1
  | .inr _ => 0
theorem kndP_l {A : Type} {x : Fq ⊕ A} {f : Fq} (e : x = .inl f) : kndP x = f.1 := by rw [e]; rfl
theorem kndP_r {A : Type} {x : Fq ⊕ A} {a : A} (e : x = .inr a) : kndP x = 0 := by rw [e]; rfl
theorem numP_cg {b : Nat → Int} {N mo q : Nat} {lo hi lo1 hi1 : Int} {x : Fq ⊕ (Nat × Int)} (e : numP b N mo lo1 hi1 q = x) (h1 : lo1 = lo) (h2 : hi1 = hi) : numP b N mo lo hi q = x := by
  subst h1 h2
  exact e
