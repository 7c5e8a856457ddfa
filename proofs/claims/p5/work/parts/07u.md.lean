/-! ## what a reader of the model answers -/
def MO {A : Type} (r : Int32) (σ : Nat → Nat → Int32) (x : Fq ⊕ A) (Q : A → Prop) : Prop := match x with
  | .inl f => r.toInt = 0 ∧ (σ 387 15).toInt = f.1 ∧ (σ 387 16).toInt = f.2
  | .inr a => r.toInt = 1 ∧ Q a
theorem MO.ofl {A : Type} {r : Int32} {σ : Nat → Nat → Int32} {x : Fq ⊕ A} {Q : A → Prop} {f : Fq} (e : x = .inl f) (h0 : r.toInt = 0) (h1 : (σ 387 15).toInt = f.1) (h2 : (σ 387 16).toInt = f.2) : MO r σ x Q := by
  subst e
  exact ⟨h0, h1, h2⟩
theorem MO.ofk {A : Type} {r : Int32} {σ : Nat → Nat → Int32} {x : Fq ⊕ A} {Q : A → Prop} {k p : Int} (e : x = .inl (k, p)) (h0 : r.toInt = 0) (h1 : (σ 387 15).toInt = k) (h2 : (σ 387 16).toInt = p) : MO r σ x Q := MO.ofl e h0 h1 h2
theorem MO.ofr {A : Type} {r : Int32} {σ : Nat → Nat → Int32} {x : Fq ⊕ A} {Q : A → Prop} {a : A} (e : x = .inr a) (h0 : r.toInt = 1) (h1 : Q a) : MO r σ x Q := by
  subst e
  exact ⟨h0, h1⟩
theorem MO.no {A : Type} {r : Int32} {σ : Nat → Nat → Int32} {x : Fq ⊕ A} {Q : A → Prop} (h : MO r σ x Q) (h0 : r.toInt = 0) : ∃ f : Fq, x = .inl f ∧ (σ 387 15).toInt = f.1 ∧ (σ 387 16).toInt = f.2 := by
  cases x with
  | inl f => exact ⟨f, rfl, h.2.1, h.2.2⟩
  | inr a =>
    have h1 : r.toInt = 1 := h.1
    omega
theorem MO.ye {A : Type} {r : Int32} {σ : Nat → Nat → Int32} {x : Fq ⊕ A} {Q : A → Prop} (h : MO r σ x Q) (h0 : r.toInt ≠ 0) : ∃ a : A, x = .inr a ∧ Q a := by
  cases x with
  | inl f => exact absurd h.1 h0
  | inr a => exact ⟨a, rfl, h.2⟩
theorem MO.r01 {A : Type} {r : Int32} {σ : Nat → Nat → Int32} {x : Fq ⊕ A} {Q : A → Prop} (h : MO r σ x Q) : r.toInt = 0 ∨ r.toInt = 1 := by
  cases x with
  | inl f => exact Or.inl h.1
  | inr a => exact Or.inr h.1
/-! ## the model's tape and its reader -/
def MT (σ : Nat → Nat → Int32) (b : Nat → Int) (N mo : Nat) : Prop := (σ 387 3).toInt = (N : Int) ∧ (σ 387 5).toInt = (mo : Int) ∧ N ≤ 940 ∧ ∀ j : Nat, j < N → bM σ j = b j
abbrev Gd_MT : List Rc := [(387, 387, 3, 3), (387, 387, 5, 5), (388, 388, 0, 939)]
theorem MT.ag {σ σ1 : Nat → Nat → Int32} {b : Nat → Int} {N mo : Nat} (h : MT σ b N mo) (a : Agr Gd_MT σ σ1) : MT σ1 b N mo := by
  have e3 : σ1 387 3 = σ 387 3 := a 387 3 (rc_in 0 rfl (by decide) (by decide) (by decide) (by decide))
  have e5 : σ1 387 5 = σ 387 5 := a 387 5 (rc_in 1 rfl (by decide) (by decide) (by decide) (by decide))
  refine ⟨by rw [e3]; exact h.1, by rw [e5]; exact h.2.1, h.2.2.1, fun j hj => ?_⟩
  have h2 := h.2.2.1
  have e : σ1 388 j = σ 388 j := a 388 j (rc_in 2 rfl (by decide) (by decide) (by omega) (by omega))
  unfold bM
  rw [e]
  exact h.2.2.2 j hj
theorem MT.rd {σ : Nat → Nat → Int32} {b : Nat → Int} {N mo j p : Nat} (h : MT σ b N mo) (ej : j = p) (hp : p < N) : ((σ 388 j) &&& 255).toInt = b p ∧ p < N ∧ 0 ≤ ((σ 388 j) &&& 255).toInt ∧ ((σ 388 j) &&& 255).toInt ≤ 255 := by
  subst ej
  have g := ti_and (n := 8) (x := σ 388 j) (y := 255) (by decide)
  exact ⟨h.2.2.2 j hp, hp, g.1, g.2⟩
/-- the token that comes next is at q -/
def MP (σ : Nat → Nat → Int32) (b : Nat → Int) (N mo q : Nat) : Prop := ∃ p : Nat, (σ 387 4).toInt = (p : Int) ∧ p ≤ N ∧ lmq N mo (skpE b N p) = q
/-- the model's reader stands at the token of place q -/
def MK (σ : Nat → Nat → Int32) (τ : Nat → Nat → Int64) (b : Nat → Int) (N mo q : Nat) : Prop := MP σ b N mo (nxq b N mo q) ∧ (σ 387 12).toInt = (q : Int) ∧ (((σ 387 11).toInt = 0 ∧ tkq b N mo q = 48) ∨ ((σ 387 11).toInt = 1 ∧ tkq b N mo q = wdK (wdq b N q) ∧ (τ 387 17).toInt = wdq b N q) ∨ ((σ 387 11).toInt = 2 ∧ tkq b N mo q = 46 ∧ (σ 387 14).toInt = nuq b N q) ∨ ((σ 387 11).toInt = 3 ∧ tkq b N mo q = sgT (σ 387 14).toInt ∧ 40 ≤ tkq b N mo q ∧ tkq b N mo q ≤ 45) ∨ ((σ 387 11).toInt = 4 ∧ tkq b N mo q = 49))
abbrev Gd_MK : List Rc := [(387, 387, 4, 4), (387, 387, 11, 12), (387, 387, 14, 14)]
abbrev GdL_MK : List Rc := [(387, 387, 17, 17)]
theorem MK.ag {σ σ1 : Nat → Nat → Int32} {τ : Nat → Nat → Int64} {b : Nat → Int} {N mo q : Nat} (h : MK σ τ b N mo q) (a : Agr Gd_MK σ σ1) : MK σ1 τ b N mo q := by
  have e4 : σ1 387 4 = σ 387 4 := a 387 4 (rc_in 0 rfl (by decide) (by decide) (by decide) (by decide))
  have e11 : σ1 387 11 = σ 387 11 := a 387 11 (rc_in 1 rfl (by decide) (by decide) (by decide) (by decide))
  have e12 : σ1 387 12 = σ 387 12 := a 387 12 (rc_in 1 rfl (by decide) (by decide) (by decide) (by decide))
  have e14 : σ1 387 14 = σ 387 14 := a 387 14 (rc_in 2 rfl (by decide) (by decide) (by decide) (by decide))
  unfold MK MP
  rw [e4, e11, e12, e14]
  exact h
theorem MK.agL {σ : Nat → Nat → Int32} {τ τ1 : Nat → Nat → Int64} {b : Nat → Int} {N mo q : Nat} (h : MK σ τ b N mo q) (a : AgrL GdL_MK τ τ1) : MK σ τ1 b N mo q := by
  have e17 : τ1 387 17 = τ 387 17 := a 387 17 (rc_in 0 rfl (by decide) (by decide) (by decide) (by decide))
  unfold MK
  rw [e17]
  exact h
theorem MK.mp {σ : Nat → Nat → Int32} {τ : Nat → Nat → Int64} {b : Nat → Int} {N mo q : Nat} (h : MK σ τ b N mo q) : MP σ b N mo (nxq b N mo q) := h.1
theorem MK.pl {σ : Nat → Nat → Int32} {τ : Nat → Nat → Int64} {b : Nat → Int} {N mo q : Nat} (h : MK σ τ b N mo q) : (σ 387 12).toInt = (q : Int) := h.2.1
/-- what the model's kind of token says -/
theorem MK.kd {σ : Nat → Nat → Int32} {τ : Nat → Nat → Int64} {b : Nat → Int} {N mo q : Nat} (h : MK σ τ b N mo q) : ((σ 387 11).toInt = 0 ↔ tkq b N mo q = 48) ∧ ((σ 387 11).toInt = 2 ↔ tkq b N mo q = 46) ∧ ((σ 387 11).toInt ≠ 2 ∨ (σ 387 14).toInt = nuq b N q) := by
  have hw := wdK_rg (wdq b N q)
  rcases h.2.2 with g | g | g | g | g <;> omega
theorem MK.sg {σ : Nat → Nat → Int32} {τ : Nat → Nat → Int64} {b : Nat → Int} {N mo q : Nat} (h : MK σ τ b N mo q) : ((σ 387 11).toInt = 3 ∧ (σ 387 14).toInt = 59) ↔ tkq b N mo q = 40 := by
  have hw := wdK_rg (wdq b N q)
  have e : sgT 59 = 40 := rfl
  constructor
  · rintro ⟨h1, h2⟩
    rcases h.2.2 with g | g | g | g | g
    · omega
    · omega
    · omega
    · rw [g.2.1, h2]; exact e
    · omega
  · intro h1
    rcases h.2.2 with g | g | g | g | g
    · omega
    · omega
    · omega
    · refine ⟨g.1, ?_⟩
      have h2 := g.2.1
      rw [h1] at h2
      unfold sgT at h2
      split at h2
      · assumption
      · split at h2
        · omega
        · split at h2
          · omega
          · split at h2
            · omega
            · split at h2
              · omega
              · split at h2 <;> omega
    · omega
theorem MK.wd {σ : Nat → Nat → Int32} {τ : Nat → Nat → Int64} {b : Nat → Int} {N mo q k : Nat} {x : Int64} (h : MK σ τ b N mo q) (hx : x.toInt = RWl.getD k 0) (hk : k < 31) : ((σ 387 11).toInt = 1 ∧ τ 387 17 = x) ↔ tkq b N mo q = (k : Int) := by
  rcases h.2.2 with g | g | g | g | g
  · exact ⟨fun h => by omega, fun h => by omega⟩
  · rw [g.2.1, wdK_at hk, ← hx, ← g.2.2]
    exact ⟨fun h => by rw [h.2], fun h => ⟨g.1, Int64.toInt_inj.mp h⟩⟩
  · exact ⟨fun h => by omega, fun h => by omega⟩
  · exact ⟨fun h => by omega, fun h => by omega⟩
  · exact ⟨fun h => by omega, fun h => by omega⟩
def RV (τ : Nat → Nat → Int64) : Prop := ∀ i : Nat, i < 31 → (τ 393 i).toInt = RWl.getD i 0
abbrev GdL_RV : List Rc := [(393, 393, 0, 30)]
theorem RV.agL {τ τ1 : Nat → Nat → Int64} (h : RV τ) (a : AgrL GdL_RV τ τ1) : RV τ1 := by
  intro i hi
  rw [a 393 i (rc_in 0 rfl (by decide) (by decide) (by omega) (by omega))]
  exact h i hi
theorem MK.nm1 {σ : Nat → Nat → Int32} {τ : Nat → Nat → Int64} {b : Nat → Int} {N mo q : Nat} (h : MK σ τ b N mo q) (h1 : (σ 387 11).toInt = 1) (hn : ∀ i : Nat, i < 31 → (τ 387 17).toInt ≠ RWl.getD i 0) : tkq b N mo q = 47 := by
  rcases h.2.2 with g | g | g | g | g
  · omega
  · rw [g.2.1]
    refine wdK_nm.mpr fun i hi e => hn i hi ?_
    rw [g.2.2]
    exact e.symm
  · omega
  · omega
  · omega
theorem MK.nm0 {σ : Nat → Nat → Int32} {τ : Nat → Nat → Int64} {b : Nat → Int} {N mo q : Nat} (h : MK σ τ b N mo q) (h1 : (σ 387 11).toInt ≠ 1 ∨ ∃ i : Nat, i < 31 ∧ (τ 387 17).toInt = RWl.getD i 0) : tkq b N mo q ≠ 47 := by
  intro e
  have hw := wdK_rg (wdq b N q)
  rcases h.2.2 with g | g | g | g | g
  · omega
  · rcases h1 with h1 | ⟨i, hi, h2⟩
    · exact h1 g.1
    · rw [g.2.1] at e
      exact wdK_nm.mp e i hi (by rw [← h2, g.2.2])
  · omega
  · omega
  · omega
theorem MK.wq {σ : Nat → Nat → Int32} {τ : Nat → Nat → Int64} {b : Nat → Int} {N mo q : Nat} (h : MK σ τ b N mo q) (e : tkq b N mo q = 47) : (τ 387 17).toInt = wdq b N q := by
  rcases h.2.2 with g | g | g | g | g
  · omega
  · exact g.2.2
  · omega
  · omega
  · omega
-- the ends of next()
theorem MK.lim {σ : Nat → Nat → Int32} {τ : Nat → Nat → Int64} {b : Nat → Int} {N mo p q : Nat} (hp : (σ 387 4).toInt = (p : Int)) (hN : p ≤ N) (hs : skpE b N p = p) (hq : lmq N mo p = q) (hm : mo < N ∧ mo ≤ p) (ha : (σ 387 12).toInt = (mo : Int)) (ht : (σ 387 11).toInt = 4) : MK σ τ b N mo q := by
  rw [lmq_lim hm] at hq
  subst hq
  refine ⟨⟨p, hp, hN, ?_⟩, ha, Or.inr (Or.inr (Or.inr (Or.inr ⟨ht, tkq_lim ⟨hm.1, Nat.le_refl _⟩⟩)))⟩
  rw [hs, lmq_lim hm, nxq_end (Or.inl ⟨hm.1, Nat.le_refl _⟩)]
theorem MK.stop {σ : Nat → Nat → Int32} {τ : Nat → Nat → Int64} {b : Nat → Int} {N mo p q : Nat} (hp : (σ 387 4).toInt = (p : Int)) (hN : p ≤ N) (hs : skpE b N p = p) (hq : lmq N mo p = q) (hm : ¬ (mo < N ∧ mo ≤ p)) (he : N ≤ p) (ha : (σ 387 12).toInt = (p : Int)) (ht : (σ 387 11).toInt = 0) : MK σ τ b N mo q := by
  rw [lmq_id hm] at hq
  subst hq
  refine ⟨⟨p, hp, hN, ?_⟩, ha, Or.inl ⟨ht, tkq_end hm he⟩⟩
  rw [hs, lmq_id hm, nxq_end (Or.inr he)]
theorem MK.sgn {σ : Nat → Nat → Int32} {τ : Nat → Nat → Int64} {b : Nat → Int} {N mo p q : Nat} (hp : (σ 387 4).toInt = (p : Int) + 1) (hN : p < N) (hq : lmq N mo p = q) (hm : ¬ (mo < N ∧ mo ≤ p)) (hr : ¬ isRn (b p)) (ha : (σ 387 12).toInt = (p : Int)) (hn : (σ 387 14).toInt = b p) (ht : ((σ 387 11).toInt = 3 ∧ (b p = 59 ∨ b p = 40 ∨ b p = 41 ∨ (60 ≤ b p ∧ b p ≤ 62))) ∨ ((σ 387 11).toInt = 4 ∧ b p ≠ 59 ∧ b p ≠ 40 ∧ b p ≠ 41 ∧ (b p < 60 ∨ 62 < b p))) : MK σ τ b N mo q := by
  rw [lmq_id hm] at hq
  subst hq
  have e := tkq_sg (b := b) (N := N) (mo := mo) (q := p) (by omega) hr
  refine ⟨⟨p + 1, by omega, by omega, ?_⟩, ha, Or.inr (Or.inr (Or.inr ?_))⟩
  · rw [nxq_go (by omega), tEnd_sg hr]
  · rw [e, hn]
    rcases ht with ⟨h1, h2⟩ | ⟨h1, h2, h3, h4, h5⟩
    · refine Or.inl ⟨h1, rfl, ?_⟩
      rcases (show b p = 59 ∨ b p = 40 ∨ b p = 41 ∨ b p = 60 ∨ b p = 61 ∨ b p = 62 by omega) with g | g | g | g | g | g <;> rw [g] <;> decide
    · refine Or.inr ⟨h1, ?_⟩
      unfold sgT
      rw [if_neg (by omega), if_neg (by omega), if_neg (by omega), if_neg (by omega), if_neg (by omega), if_neg (by omega)]
theorem MK.run {σ : Nat → Nat → Int32} {τ : Nat → Nat → Int64} {b : Nat → Int} {N mo q n : Nat} (hp : (σ 387 4).toInt = (q : Int) + n) (hN : q + n ≤ N) (hm : ¬ endq N mo q) (hr : isRn (b q)) (en : runE b N q = q + n) (ha : (σ 387 12).toInt = (q : Int)) (hw : 7 < n ∨ (τ 387 17).toInt = fd 256 0 b q n) (hn : 3 < n ∨ (σ 387 14).toInt = fd 10 48 b q n) (ht : ((σ 387 11).toInt = 1 ∧ dgc b q n = 0 ∧ n ≤ 7) ∨ ((σ 387 11).toInt = 2 ∧ dgc b q n = n ∧ n ≤ 3) ∨ ((σ 387 11).toInt = 4 ∧ ¬ (dgc b q n = n ∧ n ≤ 3) ∧ ¬ (dgc b q n = 0 ∧ n ≤ 7))) : MK σ τ b N mo q := by
  have hn0 : 0 < n := by
    have := runE_gt (b := b) (N := N) (s := q) (by omega) hr
    omega
  have e := tkq_rn (b := b) (N := N) (mo := mo) (q := q) hm hr
  have el : runE b N q - q = n := by omega
  rw [el] at e
  refine ⟨⟨q + n, by omega, hN, ?_⟩, ha, ?_⟩
  · rw [nxq_go hm, tEnd_rn hr, en]
  · rw [e]
    unfold wdq nuq rnK
    rw [el]
    rcases ht with ⟨h1, h2, h3⟩ | ⟨h1, h2, h3⟩ | ⟨h1, h2, h3⟩
    · refine Or.inr (Or.inl ⟨h1, ?_, ?_⟩)
      · rw [if_neg (by omega), if_pos ⟨h2, h3⟩]
      · rcases hw with hw | hw
        · omega
        · exact hw
    · refine Or.inr (Or.inr (Or.inl ⟨h1, ?_, ?_⟩))
      · rw [if_pos ⟨h2, h3⟩]
      · rcases hn with hn | hn
        · omega
        · exact hn
    · refine Or.inr (Or.inr (Or.inr (Or.inr ⟨h1, ?_⟩)))
      rw [if_neg h2, if_neg h3]
theorem fd_r3 {b : Nat → Int} {q : Nat} : ∀ {n : Nat}, n ≤ 3 → (∀ i : Nat, i < n → isRn (b (q + i))) → 0 ≤ fd 10 48 b q n ∧ fd 10 48 b q n ≤ 9999
  | 0, _, _ => by
    show 0 ≤ (0 : Int) ∧ (0 : Int) ≤ 9999
    omega
  | 1, _, h => by
    have h1 := h 0 (by omega)
    show 0 ≤ (0 : Int) * 10 + (b (q + 0) - 48) ∧ (0 : Int) * 10 + (b (q + 0) - 48) ≤ 9999
    omega
  | 2, _, h => by
    have h1 := h 0 (by omega)
    have h2 := h 1 (by omega)
    show 0 ≤ ((0 : Int) * 10 + (b (q + 0) - 48)) * 10 + (b (q + 1) - 48) ∧ ((0 : Int) * 10 + (b (q + 0) - 48)) * 10 + (b (q + 1) - 48) ≤ 9999
    omega
  | 3, _, h => by
    have h1 := h 0 (by omega)
    have h2 := h 1 (by omega)
    have h3 := h 2 (by omega)
    show 0 ≤ (((0 : Int) * 10 + (b (q + 0) - 48)) * 10 + (b (q + 1) - 48)) * 10 + (b (q + 2) - 48) ∧ (((0 : Int) * 10 + (b (q + 0) - 48)) * 10 + (b (q + 1) - 48)) * 10 + (b (q + 2) - 48) ≤ 9999
    omega
  | n + 4, h, _ => by omega
theorem fd_256 {b : Nat → Int} {q : Nat} : ∀ {n : Nat}, (∀ i : Nat, i < n → isRn (b (q + i))) → 0 ≤ fd 256 0 b q n ∧ fd 256 0 b q n < 256 ^ n
  | 0, _ => by
    show 0 ≤ (0 : Int) ∧ (0 : Int) < 256 ^ 0
    omega
  | n + 1, h => by
    have h1 := fd_256 (n := n) (fun i hi => h i (by omega))
    have h2 := h n (by omega)
    show 0 ≤ fd 256 0 b q n * 256 + (b (q + n) - 0) ∧ fd 256 0 b q n * 256 + (b (q + n) - 0) < 256 ^ (n + 1)
    rw [Int.pow_succ]
    omega
theorem fd_256b {b : Nat → Int} {q n : Nat} (hn : n ≤ 6) (h : ∀ i : Nat, i < n → isRn (b (q + i))) : 0 ≤ fd 256 0 b q n ∧ fd 256 0 b q n < 281474976710656 := by
  have h1 := fd_256 h
  refine ⟨h1.1, Int.lt_of_lt_of_le h1.2 ?_⟩
  rcases (show n = 0 ∨ n = 1 ∨ n = 2 ∨ n = 3 ∨ n = 4 ∨ n = 5 ∨ n = 6 by omega) with rfl | rfl | rfl | rfl | rfl | rfl | rfl <;> decide
theorem MWs {b : Nat → Int} {q n : Nat} {y : Int64} {r k : Int32} (h : 7 < n ∨ y.toInt = fd 256 0 b q n) (hn : n < 7) (hr : ∀ i : Nat, i < n → isRn (b (q + i))) (hb : r.toInt = b (q + n)) (h1 : isRn (b (q + n))) (hk : k.toInt = 8) : 7 < n + 1 ∨ ((y <<< (k.toInt64 &&& 63)) ||| r.toInt64).toInt = fd 256 0 b q (n + 1) := by
  have e : y.toInt = fd 256 0 b q n := by
    rcases h with h | h
    · omega
    · exact h
  have h2 := fd_256b (b := b) (q := q) (n := n) (by omega) hr
  have kr := tl_of r
  refine Or.inr ?_
  rw [tl_shor hk (by omega) (by omega) (by omega) (by omega), kr]
  show _ = fd 256 0 b q n * 256 + (b (q + n) - 0)
  omega
theorem MNs {b : Nat → Int} {q n : Nat} {x r : Int32} (h : 3 < n ∨ x.toInt = fd 10 48 b q n) (hn : n < 3) (hr : ∀ i : Nat, i < n → isRn (b (q + i))) (hb : r.toInt = b (q + n)) (h1 : isRn (b (q + n))) : 3 < n + 1 ∨ (10 * x + r - 48).toInt = fd 10 48 b q (n + 1) := by
  have e : x.toInt = fd 10 48 b q n := by
    rcases h with h | h
    · omega
    · exact h
  have h2 := fd_r3 (b := b) (q := q) (n := n) (by omega) hr
  refine Or.inr ?_
  have k10 : (10 : Int32).toInt = 10 := rfl
  have k48 : (48 : Int32).toInt = 48 := rfl
  have m1 : (10 * x).toInt = 10 * x.toInt := by
    rw [ti_mul (by rw [k10]; omega), k10]
  have m2 : (10 * x + r).toInt = 10 * x.toInt + r.toInt := by rw [ti_add (by omega), m1]
  have m3 : (10 * x + r - 48).toInt = 10 * x.toInt + r.toInt - 48 := by rw [ti_sub (by omega), m2, k48]
  rw [m3]
  show _ = fd 10 48 b q n * 10 + (b (q + n) - 48)
  omega
/-- how the small letters and digits of a run go on -/
theorem MAs {b : Nat → Int} {q n : Nat} {x2 x3 y : Int} (h : (x3 = 1 ∧ ((x2 = 1 ∧ dgc b q n = 0) ∨ (x2 = 0 ∧ dgc b q n = n))) ∨ (x3 = 0 ∧ dgc b q n ≠ 0 ∧ dgc b q n ≠ n)) (h0 : (x2 = 1 ∧ isLt (b q)) ∨ (x2 = 0 ∧ isDg (b q))) (hr : isRn (b (q + n))) (hy : (y = 1 ∧ x3 = 1 ∧ ((x2 = 1 ∧ isLt (b (q + n))) ∨ (x2 = 0 ∧ isDg (b (q + n))))) ∨ (y = 0 ∧ (x3 = 0 ∨ (x2 = 1 ∧ isDg (b (q + n))) ∨ (x2 = 0 ∧ isLt (b (q + n)))))) : (y = 1 ∧ ((x2 = 1 ∧ dgc b q (n + 1) = 0) ∨ (x2 = 0 ∧ dgc b q (n + 1) = n + 1))) ∨ (y = 0 ∧ dgc b q (n + 1) ≠ 0 ∧ dgc b q (n + 1) ≠ n + 1) := by
  have hl := dgc_le b q n
  have h00 : n ≠ 0 ∨ b (q + n) = b q := by
    by_cases c : n = 0
    · subst c; exact Or.inr rfl
    · exact Or.inl c
  by_cases c : isDg (b (q + n))
  · rw [dgc_y c]; omega
  · rw [dgc_n c]; omega
/-- what the model has read -/
def MH (σ : Nat → Nat → Int32) (h : Nat → Int) : Prop := ∀ j : Nat, j < 211 → (σ 390 j).toInt = h j
abbrev Gd_MH : List Rc := [(390, 390, 0, 210)]
theorem MH.ag {σ σ1 : Nat → Nat → Int32} {h : Nat → Int} (g : MH σ h) (a : Agr Gd_MH σ σ1) : MH σ1 h := by
  intro j hj
  rw [a 390 j (rc_in 0 rfl (by decide) (by decide) (by omega) (by omega))]
  exact g j hj
theorem MH.up {σ σ1 : Nat → Nat → Int32} {h : Nat → Int} {k : Nat} {v : Int} (g : MH σ h) (u : Up1 σ σ1 390 k) (e : (σ1 390 k).toInt = v) : MH σ1 (uh h k v) := by
  intro j hj
  by_cases c : j = k
  · subst c
    rw [e, uh_s]
  · rw [u 390 j (by omega), uh_n _ _ c]
    exact g j hj
def MN (τ : Nat → Nat → Int64) (h nm : Nat → Int) : Prop := (∀ i : Nat, (i : Int) < h 0 → i < 8 → (τ 392 (16 + i)).toInt = nm i) ∧ ∀ i : Nat, (i : Int) < h 1 → i < 8 → (τ 392 (24 + i)).toInt = nm (8 + i)
abbrev GdL_MN : List Rc := [(392, 392, 16, 31)]
theorem MN.agL {τ τ1 : Nat → Nat → Int64} {h nm : Nat → Int} (g : MN τ h nm) (a : AgrL GdL_MN τ τ1) : MN τ1 h nm := by
  refine ⟨fun i h1 h2 => ?_, fun i h1 h2 => ?_⟩
  · rw [a 392 (16 + i) (rc_in 0 rfl (by decide) (by decide) (by omega) (by omega))]
    exact g.1 i h1 h2
  · rw [a 392 (24 + i) (rc_in 0 rfl (by decide) (by decide) (by omega) (by omega))]
    exact g.2 i h1 h2
theorem MN.h {τ : Nat → Nat → Int64} {h h' nm : Nat → Int} (g : MN τ h nm) (e0 : h' 0 = h 0) (e1 : h' 1 = h 1) : MN τ h' nm := ⟨fun i h1 => g.1 i (by omega), fun i h1 => g.2 i (by omega)⟩
theorem MN.f0 {τ : Nat → Nat → Int64} {h nm : Nat → Int} {x : Int64} {w : Int} (g : MN τ h nm) (h8 : h 0 ≤ 8) (e : x.toInt = w) : fndq (fun i => τ 392 (16 + i)) x (h 0).toNat = fndq nm w (h 0).toNat := fndq_cg fun i hi => by
  rw [← g.1 i (by omega) (by omega), ← e]
  exact ⟨fun q => by rw [q], fun q => Int64.toInt_inj.mp q⟩
theorem MN.f1 {τ : Nat → Nat → Int64} {h nm : Nat → Int} {x : Int64} {w : Int} (g : MN τ h nm) (h8 : h 1 ≤ 8) (e : x.toInt = w) : fndq (fun i => τ 392 (24 + i)) x (h 1).toNat = fndq (n8 nm) w (h 1).toNat := fndq_cg fun i hi => by
  show _ ↔ nm (8 + i) = w
  rw [← g.2 i (by omega) (by omega), ← e]
  exact ⟨fun q => by rw [q], fun q => Int64.toInt_inj.mp q⟩
theorem MN.hil {τ τ1 : Nat → Nat → Int64} {h nm : Nat → Int} {k : Nat} {w : Int} (g : MN τ h nm) (u : Up1L τ τ1 392 (16 + k)) (v : (τ1 392 (16 + k)).toInt = w) (hk : h 0 = (k : Int)) (hk8 : k < 8) : MN τ1 (uh h 0 (h 0 + 1)) (uh nm (h 0).toNat w) := by
  rw [show (h 0).toNat = k by omega]
  refine ⟨fun i h1 h2 => ?_, fun i h1 h2 => ?_⟩
  · rw [uh_s] at h1
    by_cases c : i = k
    · subst c
      rw [v, uh_s]
    · rw [u 392 (16 + i) (by omega), uh_n _ _ c]
      exact g.1 i (by omega) h2
  · rw [uh_n _ _ (by omega)] at h1
    rw [u 392 (24 + i) (by omega), uh_n _ _ (by omega)]
    exact g.2 i h1 h2
theorem MN.man {τ τ1 : Nat → Nat → Int64} {h nm : Nat → Int} {k : Nat} {w : Int} (g : MN τ h nm) (u : Up1L τ τ1 392 (24 + k)) (v : (τ1 392 (24 + k)).toInt = w) (hk : h 1 = (k : Int)) (hk8 : k < 8) : MN τ1 (uh h 1 (h 1 + 1)) (uh nm (8 + (h 1).toNat) w) := by
  rw [show (h 1).toNat = k by omega]
  refine ⟨fun i h1 h2 => ?_, fun i h1 h2 => ?_⟩
  · rw [uh_n _ _ (by omega)] at h1
    rw [u 392 (16 + i) (by omega), uh_n _ _ (by omega)]
    exact g.1 i h1 h2
  · rw [uh_s] at h1
    by_cases c : i = k
    · subst c
      rw [v, uh_s]
    · rw [u 392 (24 + i) (by omega), uh_n _ _ (by omega)]
      exact g.2 i (by omega) h2
/-- the model's reader and what it has read are at z -/
def MR (σ : Nat → Nat → Int32) (τ : Nat → Nat → Int64) (b : Nat → Int) (N mo : Nat) (z : Zt) : Prop := MK σ τ b N mo z.1 ∧ MH σ z.2.1 ∧ MN τ z.2.1 z.2.2.1 ∧ σ 387 20 = z.2.2.2.1 ∧ σ 387 21 = z.2.2.2.2
theorem MR.mk {σ : Nat → Nat → Int32} {τ : Nat → Nat → Int64} {b : Nat → Int} {N mo q : Nat} {h nm : Nat → Int} {on fa : Int32} (g1 : MK σ τ b N mo q) (g2 : MH σ h) (g3 : MN τ h nm) (g4 : σ 387 20 = on) (g5 : σ 387 21 = fa) : MR σ τ b N mo (q, h, nm, on, fa) := ⟨g1, g2, g3, g4, g5⟩
theorem MN.hil2 {τ τ1 : Nat → Nat → Int64} {h nm : Nat → Int} {k : Nat} {w : Int} (g : MN τ h nm) (u : ∀ j : Nat, j ≠ 16 + k → τ1 392 j = τ 392 j) (v : (τ1 392 (16 + k)).toInt = w) (hk : h 0 = (k : Int)) (hk8 : k < 8) : MN τ1 (uh h 0 (h 0 + 1)) (uh nm (h 0).toNat w) := by
  rw [show (h 0).toNat = k by omega]
  refine ⟨fun i h1 h2 => ?_, fun i h1 h2 => ?_⟩
  · rw [uh_s] at h1
    by_cases c : i = k
    · subst c
      rw [v, uh_s]
    · rw [u (16 + i) (by omega), uh_n _ _ c]
      exact g.1 i (by omega) h2
  · rw [uh_n _ _ (by omega)] at h1
    rw [u (24 + i) (by omega), uh_n _ _ (by omega)]
    exact g.2 i h1 h2
theorem MN.man2 {τ τ1 : Nat → Nat → Int64} {h nm : Nat → Int} {k : Nat} {w : Int} (g : MN τ h nm) (u : ∀ j : Nat, j ≠ 24 + k → τ1 392 j = τ 392 j) (v : (τ1 392 (24 + k)).toInt = w) (hk : h 1 = (k : Int)) (hk8 : k < 8) : MN τ1 (uh h 1 (h 1 + 1)) (uh nm (8 + (h 1).toNat) w) := by
  rw [show (h 1).toNat = k by omega]
  refine ⟨fun i h1 h2 => ?_, fun i h1 h2 => ?_⟩
  · rw [uh_n _ _ (by omega)] at h1
    rw [u (16 + i) (by omega), uh_n _ _ (by omega)]
    exact g.1 i h1 h2
  · rw [uh_s] at h1
    by_cases c : i = k
    · subst c
      rw [v, uh_s]
    · rw [u (24 + i) (by omega), uh_n _ _ (by omega)]
      exact g.2 i (by omega) h2
/-- a FLIGHT's line as the model reads it: what comes behind is looked at -/
def fliM (b : Nat → Int) (N mo : Nat) (z : Zt) : Fq ⊕ Zt := bnd (fliP b N mo z) fun z1 => if tkq b N mo z1.1 = 40 then .inr z1 else .inl (1, (z1.1 : Int))
def linM (b : Nat → Int) (N mo : Nat) (z : Zt) : Fq ⊕ Zt := if tkq b N mo z.1 = 13 then fliM b N mo z else linP b N mo z
theorem linM_r {b : Nat → Int} {N mo : Nat} {z z1 : Zt} (e : linM b N mo z = .inr z1) : linP b N mo z = .inr z1 := by
  unfold linM at e
  split at e
  · rename_i c
    obtain ⟨z2, e1, e2⟩ := bnd_inr e
    split at e2
    · cases e2
      rw [lin_13 c]
      exact e1
    · cases e2
  · exact e
theorem stpM_f {b : Nat → Int} {N mo : Nat} {z : Zt} {f : Fq} (e : linM b N mo z = .inl f) : stpP b N mo z = .inl f := by
  unfold linM at e
  split at e
  · rename_i c
    have e0 := lin_13 c
    unfold fliM at e
    cases h : fliP b N mo z with
    | inl g =>
      rw [h, bnd_l] at e
      cases e
      exact stp_f1 (e0.trans h)
    | inr z2 =>
      rw [h, bnd_r] at e
      split at e
      · cases e
      · rename_i c2
        cases e
        refine stp_f2 (e0.trans h) ?_
        unfold takP
        rw [if_pos c2]
  · exact stp_f1 e
theorem MH.z00 {σ σ1 σ2 : Nat → Nat → Int32} (h : ∀ j : Nat, j < 211 → (σ 390 j).toInt = 0) (u1 : Up1 σ σ1 390 3) (v1 : (σ1 390 3).toInt = 99) (u2 : Up1 σ1 σ2 390 4) (v2 : (σ2 390 4).toInt = 99) : MH σ2 h00 := by
  intro j hj
  unfold h00
  by_cases c4 : j = 4
  · subst c4
    rw [v2, if_pos (by omega)]
  · by_cases c3 : j = 3
    · subst c3
      rw [u2 390 3 (by omega), v1, if_pos (by omega)]
    · rw [u2 390 j (by omega), u1 390 j (by omega), if_neg (by omega)]
      exact h j hj
theorem MN.z00 {τ : Nat → Nat → Int64} : MN τ h00 (fun _ => 0) := ⟨fun i h1 _ => absurd h1 (by rw [h00_0 (by omega) (by omega)]; omega), fun i h1 _ => absurd h1 (by rw [h00_0 (by omega) (by omega)]; omega)⟩
theorem MN.fa {τ : Nat → Nat → Int64} {σ : Nat → Nat → Int32} {b : Nat → Int} {N mo q oo n0 : Nat} {h nm lk : Nat → Int} {a1 a2 : Int32} {r : Int} (g : MN τ h nm) (gk : MK σ τ b N mo q) (hl : (oo = 16 ∧ lk = nm ∧ n0 = (h 0).toNat ∧ a2.toInt = h 0) ∨ (oo = 24 ∧ lk = n8 nm ∧ n0 = (h 1).toNat ∧ a2.toInt = h 1)) (ho : a1.toInt = (oo : Int)) (h8 : a2.toInt ≤ 8) (ht : tkq b N mo q = 47) (hr : r = fndq (fun i => τ 392 (a1.toInt.toNat + i)) (τ 387 17) a2.toInt.toNat) : r = fndq lk (wdq b N q) n0 := by
  have hw := gk.wq ht
  rcases hl with ⟨rfl, rfl, rfl, e⟩ | ⟨rfl, rfl, rfl, e⟩
  · rw [hr, show a1.toInt.toNat = 16 by omega, e]
    exact g.f0 (by omega) hw
  · rw [hr, show a1.toInt.toNat = 24 by omega, e]
    exact g.f1 (by omega) hw
theorem MN.fb {τ : Nat → Nat → Int64} {h nm : Nat → Int} {a1 a2 : Int32} {r w : Int} (g : MN τ h nm) (ho : a1.toInt = 16) (e : a2.toInt = h 0 ∧ h 0 ≤ 8) (hw : (τ 387 17).toInt = w) (hr : r = fndq (fun i => τ 392 (a1.toInt.toNat + i)) (τ 387 17) a2.toInt.toNat) : r = fndq nm w (h 0).toNat := by
  rw [hr, show a1.toInt.toNat = 16 by omega, e.1]
  exact g.f0 e.2 hw
theorem MN.fc {τ : Nat → Nat → Int64} {h nm : Nat → Int} {a1 a2 : Int32} {r w : Int} (g : MN τ h nm) (ho : a1.toInt = 24) (e : a2.toInt = h 1 ∧ h 1 ≤ 8) (hw : (τ 387 17).toInt = w) (hr : r = fndq (fun i => τ 392 (a1.toInt.toNat + i)) (τ 387 17) a2.toInt.toNat) : r = fndq (n8 nm) w (h 1).toNat := by
  rw [hr, show a1.toInt.toNat = 24 by omega, e.1]
  exact g.f1 e.2 hw
theorem FrL.at2 {L : List Rc} {τ τ' : Nat → Nat → Int64} (h : FrL L τ τ') (k j : Nat) (ho : (L.all fun q => decide (k < q.1 ∨ q.2.1 < k)) = true) : τ' k j = τ k j := by
  refine h k j fun q hq hin => ?_
  have hd := of_decide_eq_true (List.all_eq_true.mp ho q hq)
  obtain ⟨h1, h2, h3, h4⟩ := hin
  omega
theorem BT.y {w x r : Int32} {k : Nat} (h : r.toInt = BT w x) (e : x.toInt = (k : Int)) (hk : k < 32) (hr : r.toInt ≠ 0) : tbq w k := by
  unfold BT at h
  split at h
  · rename_i c
    exact tb_y2 e hk c
  · omega
theorem BT.n {w x r : Int32} {k : Nat} (h : r.toInt = BT w x) (e : x.toInt = (k : Int)) (hk : k < 32) (hr : r.toInt = 0) : ¬ tbq w k := by
  unfold BT at h
  split at h
  · omega
  · rename_i c
    exact tb_n2 e hk c
theorem linM_n {b : Nat → Int} {N mo : Nat} {z : Zt} (h : tkq b N mo z.1 ≠ 13) : linM b N mo z = linP b N mo z := if_neg h
theorem linM_0 {b : Nat → Int} {N mo : Nat} {z : Zt} (h : tkq b N mo z.1 = 0) : linM b N mo z = ridP b N mo z := by rw [linM_n (by omega), lin_0 h]
theorem linM_1 {b : Nat → Int} {N mo : Nat} {z : Zt} (h : tkq b N mo z.1 = 1) : linM b N mo z = wheP b N mo z := by rw [linM_n (by omega), lin_1 h]
theorem linM_2 {b : Nat → Int} {N mo : Nat} {z : Zt} (h : tkq b N mo z.1 = 2) : linM b N mo z = winP b N mo z := by rw [linM_n (by omega), lin_2 h]
theorem linM_7 {b : Nat → Int} {N mo : Nat} {z : Zt} (h : tkq b N mo z.1 = 7) : linM b N mo z = hilP b N mo z := by rw [linM_n (by omega), lin_7 h]
theorem linM_8 {b : Nat → Int} {N mo : Nat} {z : Zt} (h : tkq b N mo z.1 = 8) : linM b N mo z = falP b N mo z := by rw [linM_n (by omega), lin_8 h]
theorem linM_9 {b : Nat → Int} {N mo : Nat} {z : Zt} (h : tkq b N mo z.1 = 9) : linM b N mo z = manP b N mo z := by rw [linM_n (by omega), lin_9 h]
theorem linM_10 {b : Nat → Int} {N mo : Nat} {z : Zt} (h : tkq b N mo z.1 = 10) : linM b N mo z = oldP b N mo z := by rw [linM_n (by omega), lin_10 h]
theorem linM_11 {b : Nat → Int} {N mo : Nat} {z : Zt} (h : tkq b N mo z.1 = 11) : linM b N mo z = deaP b N mo z := by rw [linM_n (by omega), lin_11 h]
theorem linM_12 {b : Nat → Int} {N mo : Nat} {z : Zt} (h : tkq b N mo z.1 = 12) : linM b N mo z = neeP b N mo z := by rw [linM_n (by omega), lin_12 h]
theorem linM_13 {b : Nat → Int} {N mo : Nat} {z : Zt} (h : tkq b N mo z.1 = 13) : linM b N mo z = fliM b N mo z := if_pos h
theorem linM_x {b : Nat → Int} {N mo : Nat} {z : Zt} (h : tkq b N mo z.1 < 0 ∨ (2 < tkq b N mo z.1 ∧ tkq b N mo z.1 < 7) ∨ 13 < tkq b N mo z.1) : linM b N mo z = .inl (1, (z.1 : Int)) := by rw [linM_n (by omega), lin_x h]
/-- a MAN of whom k is the number and of whom the thing isn't told yet -/
def mnoK (b : Nat → Int) (N mo : Nat) (h nm : Nat → Int) (q : Nat) (k : Int) : Prop := (tkq b N mo q = 10 → mnoP b N mo 55 h nm q = .inr k) ∧ (tkq b N mo q = 11 → mnoP b N mo 63 h nm q = .inr k) ∧ (tkq b N mo q = 12 → mnoP b N mo 71 h nm q = .inr k)
theorem mnoK.of {b : Nat → Int} {N mo q j : Nat} {h nm : Nat → Int} {k : Int} (e : lokP b N mo (n8 nm) (h 1).toNat (nxq b N mo q) = .inr k) (hn : ¬ 0 < h j) (hj : ((j : Int) = 55 + k ∧ tkq b N mo q = 10) ∨ ((j : Int) = 63 + k ∧ tkq b N mo q = 11) ∨ ((j : Int) = 71 + k ∧ tkq b N mo q = 12)) (hk : 0 ≤ k) : mnoK b N mo h nm q k := by
  refine ⟨fun g => ?_, fun g => ?_, fun g => ?_⟩
  · unfold mnoP
    rw [e, bnd_r, if_neg (by rw [show 55 + k.toNat = j by omega]; exact hn)]
  · unfold mnoP
    rw [e, bnd_r, if_neg (by rw [show 63 + k.toNat = j by omega]; exact hn)]
  · unfold mnoP
    rw [e, bnd_r, if_neg (by rw [show 71 + k.toNat = j by omega]; exact hn)]
theorem MT.of {L : List Rc} {σ0 σ1 σ2 : Nat → Nat → Int32} {b : Nat → Int} {N mo : Nat} {k j : Nat} (u : Up1 σ0 σ1 k j) (f : Fr L σ1 σ2) (hk : k ≠ 388) (hd : disRc L [(388, 388, 0, 939)] = true) (h3 : (σ2 387 3).toInt = (N : Int)) (h5 : (σ2 387 5).toInt = (mo : Int)) (hN : N ≤ 940) (hb : ∀ j : Nat, j < N → bM σ0 j = b j) : MT σ2 b N mo := by
  refine ⟨h3, h5, hN, fun i hi => ?_⟩
  rw [← hb i hi]
  unfold bM
  rw [f.dis hd (rc_in 0 rfl (by decide) (by decide) (by omega) (by omega)), u 388 i (by omega)]
/-! tapes that are the same go on so -/
theorem TE.fr {L : List Rc} {σ σ1 : Nat → Nat → Int32} (h : TE σ) (f : Fr L σ σ1) (hd : disRc L [(35, 35, 0, 939), (388, 388, 0, 939)] = true) (hs : (σ1 1 5).toInt ≤ (σ 1 5).toInt) (h9 : (σ 1 5).toInt ≤ 940) : TE σ1 := by
  intro j hj
  rw [f.dis hd (rc_in 0 rfl (by decide) (by decide) (by omega) (by omega)), f.dis hd (rc_in 1 rfl (by decide) (by decide) (by omega) (by omega))]
  exact h j (by omega)
theorem TE.b {σ σ1 : Nat → Nat → Int32} {L : List Rc} (h : TE σ) (f : Fr L σ σ1) (hd : disRc L [(388, 388, 0, 939)] = true) (h9 : (σ 1 5).toInt ≤ 940) {j : Nat} (hj : j < (σ 1 5).toInt.toNat) : bM σ1 j = bC σ j := by
  unfold bM bC
  rw [f.dis hd (rc_in 0 rfl (by decide) (by decide) (by omega) (by omega)), h j (by omega)]
theorem TE.fd {σ σ1 σ2 : Nat → Nat → Int32} {L L2 : List Rc} {a b c d e : Int32} (h : TE σ) (f : Fr L σ σ1) (hd : disRc L [(388, 388, 0, 939)] = true) (f2 : Fr L2 σ1 σ2) (hd2 : disRc L2 [(1, 1, 5, 5), (35, 35, 0, 939)] = true) (h9 : (σ 1 5).toInt ≤ 920) (h0 : 0 ≤ (σ 1 5).toInt) (hs : (σ1 1 5).toInt ≤ (σ 1 5).toInt + 20) (hc : B20 σ σ1 35 (σ 1 5).toInt.toNat a b c d e) (hm : B20 σ1 σ2 388 (σ1 387 2).toInt.toNat a b c d e) (hn : (σ1 387 2).toInt = (σ 1 5).toInt) : TE σ2 := by
  have e5 : σ2 1 5 = σ1 1 5 := f2.dis hd2 (rc_in 0 rfl (by decide) (by decide) (by decide) (by decide))
  rw [show (σ1 387 2).toInt.toNat = (σ 1 5).toInt.toNat by omega] at hm
  intro j hj
  rw [e5] at hj
  have k35 : σ2 35 j = σ1 35 j := f2.dis hd2 (rc_in 1 rfl (by decide) (by decide) (by omega) (by omega))
  have k388 : σ1 388 j = σ 388 j := f.dis hd (rc_in 0 rfl (by decide) (by decide) (by omega) (by omega))
  rw [k35]
  by_cases q : j < (σ 1 5).toInt.toNat
  · rw [hc.2 j q, hm.2 j q, k388]
    exact h j (by omega)
  · obtain ⟨i, hi⟩ : ∃ i : Nat, j = (σ 1 5).toInt.toNat + i := ⟨j - (σ 1 5).toInt.toNat, by omega⟩
    subst hi
    rcases (show i < 4 ∨ (4 ≤ i ∧ i < 8) ∨ (8 ≤ i ∧ i < 12) ∨ (12 ≤ i ∧ i < 16) ∨ (16 ≤ i ∧ i < 20) by omega) with g | g | g | g | g
    · rw [(hc.1 i g).1, (hm.1 i g).1]
    · rw [show (σ 1 5).toInt.toNat + i = (σ 1 5).toInt.toNat + 4 + (i - 4) by omega, (hc.1 (i - 4) (by omega)).2.1, (hm.1 (i - 4) (by omega)).2.1]
    · rw [show (σ 1 5).toInt.toNat + i = (σ 1 5).toInt.toNat + 8 + (i - 8) by omega, (hc.1 (i - 8) (by omega)).2.2.1, (hm.1 (i - 8) (by omega)).2.2.1]
    · rw [show (σ 1 5).toInt.toNat + i = (σ 1 5).toInt.toNat + 12 + (i - 12) by omega, (hc.1 (i - 12) (by omega)).2.2.2.1, (hm.1 (i - 12) (by omega)).2.2.2.1]
    · rw [show (σ 1 5).toInt.toNat + i = (σ 1 5).toInt.toNat + 16 + (i - 16) by omega, (hc.1 (i - 16) (by omega)).2.2.2.2, (hm.1 (i - 16) (by omega)).2.2.2.2]
theorem TE.same {σ σ1 σ2 : Nat → Nat → Int32} {L L2 : List Rc} (h : TE σ) (f : Fr L σ σ1) (hd : disRc L [(388, 388, 0, 939)] = true) (hc : ∀ j : Nat, σ1 35 j = σ 35 j) (f2 : Fr L2 σ1 σ2) (hd2 : disRc L2 [(1, 1, 5, 5), (35, 35, 0, 939)] = true) (hm : ∀ j : Nat, σ2 388 j = σ1 388 j) (hs : (σ1 1 5).toInt = (σ 1 5).toInt) (h9 : (σ 1 5).toInt ≤ 940) : TE σ2 := by
  have e5 : σ2 1 5 = σ1 1 5 := f2.dis hd2 (rc_in 0 rfl (by decide) (by decide) (by decide) (by decide))
  intro j hj
  rw [e5] at hj
  rw [f2.dis hd2 (rc_in 1 rfl (by decide) (by decide) (by omega) (by omega)), hc j, hm j, f.dis hd (rc_in 0 rfl (by decide) (by decide) (by omega) (by omega))]
  exact h j (by omega)
/-- what a call that writes its answer down may change of the longs -/
def LO (LL : List Rc) : List Rc := LL ++ [(406, 406, 0, 0)]
theorem LO.a {LL : List Rc} {τ τ1 : Nat → Nat → Int64} (h : FrL LL τ τ1) : FrL (LO LL) τ τ1 := fun k j hn => h k j (fun q hq => hn q (List.mem_append_left _ hq))
theorem LO.b {LL : List Rc} {τ τ1 τ2 : Nat → Nat → Int64} (h : FrL LL τ τ1) (u : Up1L τ1 τ2 406 0) : FrL (LO LL) τ τ2 := by
  intro k j hn
  have hne : ¬ (k = 406 ∧ j = 0) := by
    rintro ⟨rfl, rfl⟩
    exact hn (406, 406, 0, 0) (List.mem_append_right _ (List.mem_singleton.mpr rfl)) ⟨Nat.le_refl _, Nat.le_refl _, Nat.le_refl _, Nat.le_refl _⟩
  rw [u k j hne]
  exact LO.a h k j hn
