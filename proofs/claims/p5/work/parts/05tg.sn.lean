/-! ## the reader of a SENTENCE, pure -/
abbrev begq (k : Int) : Prop := k = 22 ∨ k = 44 ∨ k = 10 ∨ k = 11 ∨ (23 ≤ k ∧ k ≤ 30)
/-- place, ONES -/
abbrev Sq : Type := Nat × Nat
def lopP (b : Nat → Int) (N mo : Nat) (w : Int) (f : Nat → Nat → Fq ⊕ Sq) : Nat → Nat → Nat → Fq ⊕ Sq
  | 0, q, n => .inr (q, n)
  | fu + 1, q, n => if tkq b N mo q = w then bnd (f (nxq b N mo q) n) fun s => lopP b N mo w f fu s.1 s.2 else .inr (q, n)
def allP (b : Nat → Int) (N mo : Nat) (one : Nat → Nat → Fq ⊕ Sq) (q n : Nat) : Fq ⊕ Sq := bnd (one q n) fun s => lopP b N mo 21 one 200 s.1 s.2
def conP (b : Nat → Int) (N mo : Nat) (one : Nat → Nat → Fq ⊕ Sq) (q n : Nat) : Fq ⊕ Sq := bnd (allP b N mo one q n) fun s => lopP b N mo 20 (allP b N mo one) 200 s.1 s.2
/-- what stands behind the word k of a ONE; nm: the hills' names -/
def leaP (b : Nat → Int) (N mo : Nat) (nm : Nat → Int) (hc : Nat) (k : Int) (q n : Nat) : Fq ⊕ Sq := if k = 25 then bnd (lokP b N mo nm hc q) fun _ => .inr (nxq b N mo q, n) else if 27 ≤ k then (if tkq b N mo q < 41 ∨ 43 < tkq b N mo q then .inl (1, (q : Int)) else bnd (numP b N mo 0 999 (nxq b N mo q)) fun y => .inr (y.1, n)) else .inr (q, n)
def oneP (b : Nat → Int) (N mo : Nat) (nm : Nat → Int) (hc : Nat) : Nat → Nat → Nat → Fq ⊕ Sq
  | 0, q, _ => if ¬ begq (tkq b N mo q) then .inl (1, (q : Int)) else .inl (4, (q : Int))
  | k + 1, q, n => if ¬ begq (tkq b N mo q) then .inl (1, (q : Int)) else if 20 ≤ n then .inl (4, (q : Int)) else if tkq b N mo q = 22 then oneP b N mo nm hc k (nxq b N mo q) (n + 1) else if tkq b N mo q = 44 then bnd (conP b N mo (fun q n => oneP b N mo nm hc k q n) (nxq b N mo q) (n + 1)) fun s => bnd (takP b N mo 45 s.1) fun q2 => .inr (q2, s.2) else leaP b N mo nm hc (tkq b N mo q) (nxq b N mo q) (n + 1)
def senP (b : Nat → Int) (N mo : Nat) (nm : Nat → Int) (hc : Nat) : Fq ⊕ Nat := bnd (conP b N mo (fun q n => oneP b N mo nm hc 8 q n) (posq b N mo 0) 0) fun s => if tkq b N mo s.1 ≠ 48 then .inl (1, (s.1 : Int)) else .inr s.2
/-! the same, with what is not closed yet kept in a list: true a bracket, false a not -/
abbrev Ms : Type := Bool × Nat × Nat × List Bool
def pnt : List Bool → List Bool
  | [] => []
  | false :: K => pnt K
  | true :: K => true :: K
def lft : Fq ⊕ Ms → (Fq ⊕ Nat) ⊕ Ms
  | .inl f => .inl (.inl f)
  | .inr z => .inr z
def clsP (b : Nat → Int) (N mo q n : Nat) : List Bool → Fq ⊕ Ms
  | [] => .inl (1, (q : Int))
  | _ :: K => .inr (true, nxq b N mo q, n, K)
def behP (b : Nat → Int) (N mo q n : Nat) (K : List Bool) : Fq ⊕ Ms := if tkq b N mo q = 20 ∨ tkq b N mo q = 21 then .inr (false, nxq b N mo q, n, K) else if tkq b N mo q = 45 then clsP b N mo q n K else .inl (1, (q : Int))
def behS (b : Nat → Int) (N mo q n : Nat) (K : List Bool) : (Fq ⊕ Nat) ⊕ Ms := if tkq b N mo q = 48 then (if K = [] then .inl (.inr n) else .inl (.inl (1, (q : Int)))) else lft (behP b N mo q n K)
def leaS (K : List Bool) : Fq ⊕ Sq → Fq ⊕ Ms
  | .inl f => .inl f
  | .inr s => .inr (true, s.1, s.2, K)
def opeP (b : Nat → Int) (N mo : Nat) (nm : Nat → Int) (hc q n : Nat) (K : List Bool) : Fq ⊕ Ms := if ¬ begq (tkq b N mo q) then .inl (1, (q : Int)) else if 20 ≤ n ∨ 8 ≤ K.length then .inl (4, (q : Int)) else if tkq b N mo q = 22 then .inr (false, nxq b N mo q, n + 1, false :: K) else if tkq b N mo q = 44 then .inr (false, nxq b N mo q, n + 1, true :: K) else leaS K (leaP b N mo nm hc (tkq b N mo q) (nxq b N mo q) (n + 1))
def stpS (b : Nat → Int) (N mo : Nat) (nm : Nat → Int) (hc : Nat) : Ms → (Fq ⊕ Nat) ⊕ Ms
  | (true, q, n, K) => behS b N mo q n (pnt K)
  | (false, q, n, K) => lft (opeP b N mo nm hc q n K)
def iteS (b : Nat → Int) (N mo : Nat) (nm : Nat → Int) (hc : Nat) : Nat → Ms → Option (Fq ⊕ Nat)
  | 0, _ => none
  | fu + 1, z => match stpS b N mo nm hc z with
    | .inl r => some r
    | .inr z1 => iteS b N mo nm hc fu z1
def RnS (b : Nat → Int) (N mo : Nat) (nm : Nat → Int) (hc : Nat) (z : Ms) (R : Fq ⊕ Nat) : Prop := ∃ fu : Nat, iteS b N mo nm hc fu z = some R
section SN
variable {b : Nat → Int} {N mo : Nat} {nm : Nat → Int} {hc : Nat}
theorem RnS.go {z z1 : Ms} {R : Fq ⊕ Nat} (h : stpS b N mo nm hc z = .inr z1) : RnS b N mo nm hc z R ↔ RnS b N mo nm hc z1 R := by
  constructor
  · rintro ⟨fu, e⟩
    cases fu with
    | zero => cases e
    | succ fu =>
      rw [iteS, h] at e
      exact ⟨fu, e⟩
  · rintro ⟨fu, e⟩
    refine ⟨fu + 1, ?_⟩
    rw [iteS, h]
    exact e
theorem RnS.en {z : Ms} {r R : Fq ⊕ Nat} (h : stpS b N mo nm hc z = .inl r) : RnS b N mo nm hc z R ↔ R = r := by
  constructor
  · rintro ⟨fu, e⟩
    cases fu with
    | zero => cases e
    | succ fu =>
      rw [iteS, h] at e
      cases e
      rfl
  · rintro rfl
    refine ⟨1, ?_⟩
    rw [iteS, h]
theorem RnS.eq {z z1 : Ms} {R : Fq ⊕ Nat} (h : stpS b N mo nm hc z = stpS b N mo nm hc z1) (g : RnS b N mo nm hc z R) : RnS b N mo nm hc z1 R := by
  cases e : stpS b N mo nm hc z with
  | inl r =>
    rw [RnS.en e] at g
    rw [RnS.en (h.symm.trans e)]
    exact g
  | inr z2 =>
    rw [RnS.go e] at g
    rw [RnS.go (h.symm.trans e)]
    exact g
/-- what a reader of a part does, the rest being K -/
def PrS (b : Nat → Int) (N mo : Nat) (nm : Nat → Int) (hc : Nat) (f : Nat → Nat → Fq ⊕ Sq) (K : List Bool) : Prop := ∀ q n : Nat, (∀ e : Fq, f q n = .inl e → RnS b N mo nm hc (false, q, n, K) (.inl e)) ∧ ∀ s : Sq, f q n = .inr s → ∀ R : Fq ⊕ Nat, RnS b N mo nm hc (true, s.1, s.2, K) R → RnS b N mo nm hc (false, q, n, K) R
theorem lop_run {f : Nat → Nat → Fq ⊕ Sq} {K : List Bool} {w : Int} (hw : w = 20 ∨ w = 21) (hK : pnt K = K) (h : PrS b N mo nm hc f K) : ∀ fu q n : Nat, (∀ e : Fq, lopP b N mo w f fu q n = .inl e → RnS b N mo nm hc (true, q, n, K) (.inl e)) ∧ ∀ s : Sq, lopP b N mo w f fu q n = .inr s → ∀ R : Fq ⊕ Nat, RnS b N mo nm hc (true, s.1, s.2, K) R → RnS b N mo nm hc (true, q, n, K) R
  | 0, q, n => ⟨fun e h0 => (by cases h0), fun s h0 R g => by cases h0; exact g⟩
  | fu + 1, q, n => by
    by_cases c : tkq b N mo q = w
    · have e1 : stpS b N mo nm hc (true, q, n, K) = .inr (false, nxq b N mo q, n, K) := by
        show behS b N mo q n (pnt K) = _
        rw [hK]
        exact (if_neg (by omega)).trans (congrArg lft (if_pos (by omega)))
      have e2 : lopP b N mo w f (fu + 1) q n = bnd (f (nxq b N mo q) n) fun s => lopP b N mo w f fu s.1 s.2 := by rw [lopP, if_pos c]
      have hf := h (nxq b N mo q) n
      rw [e2]
      cases ef : f (nxq b N mo q) n with
      | inl e0 =>
        refine ⟨fun e he => ?_, fun s he => by cases he⟩
        cases he
        rw [RnS.go e1]
        exact hf.1 e0 ef
      | inr s0 =>
        have ih := lop_run hw hK h fu s0.1 s0.2
        refine ⟨fun e he => ?_, fun s he R g => ?_⟩
        · rw [RnS.go e1]
          exact hf.2 s0 ef _ (ih.1 e he)
        · rw [RnS.go e1]
          exact hf.2 s0 ef _ (ih.2 s he R g)
    · have e2 : lopP b N mo w f (fu + 1) q n = .inr (q, n) := by rw [lopP, if_neg c]
      rw [e2]
      exact ⟨fun e he => (by cases he), fun s he R g => by cases he; exact g⟩
theorem bnd_run {f g : Nat → Nat → Fq ⊕ Sq} {K : List Bool} (hf : PrS b N mo nm hc f K) (hg : ∀ q n : Nat, (∀ e : Fq, g q n = .inl e → RnS b N mo nm hc (true, q, n, K) (.inl e)) ∧ ∀ s : Sq, g q n = .inr s → ∀ R : Fq ⊕ Nat, RnS b N mo nm hc (true, s.1, s.2, K) R → RnS b N mo nm hc (true, q, n, K) R) : PrS b N mo nm hc (fun q n => bnd (f q n) fun s => g s.1 s.2) K := by
  intro q n
  have h1 := hf q n
  show (∀ e : Fq, (bnd (f q n) fun s => g s.1 s.2) = .inl e → _) ∧ ∀ s : Sq, (bnd (f q n) fun s => g s.1 s.2) = .inr s → _
  cases ef : f q n with
  | inl e0 =>
    refine ⟨fun e he => ?_, fun s he => by cases he⟩
    cases he
    exact h1.1 e0 ef
  | inr s0 =>
    have h2 := hg s0.1 s0.2
    exact ⟨fun e he => h1.2 s0 ef _ (h2.1 e he), fun s he R g => h1.2 s0 ef _ (h2.2 s he R g)⟩
theorem all_run {f : Nat → Nat → Fq ⊕ Sq} {K : List Bool} (hK : pnt K = K) (h : PrS b N mo nm hc f K) : PrS b N mo nm hc (allP b N mo f) K := bnd_run h fun q n => lop_run (Or.inr rfl) hK h 200 q n
theorem con_run {f : Nat → Nat → Fq ⊕ Sq} {K : List Bool} (hK : pnt K = K) (h : PrS b N mo nm hc f K) : PrS b N mo nm hc (conP b N mo f) K := bnd_run (all_run hK h) fun q n => lop_run (Or.inl rfl) hK (all_run hK h) 200 q n
/-- ONES go up, to 20 at most -/
def UpS (f : Nat → Nat → Fq ⊕ Sq) : Prop := ∀ (q n : Nat) (s : Sq), f q n = .inr s → n < s.2 ∧ s.2 ≤ 20
theorem lop_up {f : Nat → Nat → Fq ⊕ Sq} {w : Int} (h : UpS f) : ∀ (fu q n : Nat) (s : Sq), lopP b N mo w f fu q n = .inr s → n ≤ s.2 ∧ (n ≤ 20 → s.2 ≤ 20)
  | 0, q, n, s, e => by
    cases e
    exact ⟨Nat.le_refl _, fun h => h⟩
  | fu + 1, q, n, s, e => by
    rw [lopP] at e
    split at e
    · obtain ⟨s0, e0, e⟩ := bnd_inr e
      have h1 := h _ _ _ e0
      have h2 := lop_up h fu s0.1 s0.2 s e
      omega
    · cases e
      exact ⟨Nat.le_refl _, fun h => h⟩
theorem all_up {f : Nat → Nat → Fq ⊕ Sq} (h : UpS f) : UpS (allP b N mo f) := by
  intro q n s e
  obtain ⟨s0, e0, e⟩ := bnd_inr e
  have h1 := h _ _ _ e0
  have h2 := lop_up h 200 s0.1 s0.2 s e
  omega
theorem con_up {f : Nat → Nat → Fq ⊕ Sq} (h : UpS f) : UpS (conP b N mo f) := by
  intro q n s e
  obtain ⟨s0, e0, e⟩ := bnd_inr e
  have h1 := all_up h _ _ _ e0
  have h2 := lop_up (all_up h) 200 s0.1 s0.2 s e
  omega
theorem lea_up {k : Int} {q n : Nat} {s : Sq} (e : leaP b N mo nm hc k q n = .inr s) : s.2 = n := by
  unfold leaP at e
  split at e
  · obtain ⟨_, _, e⟩ := bnd_inr e
    cases e
    rfl
  · split at e
    · split at e
      · cases e
      · obtain ⟨_, _, e⟩ := bnd_inr e
        cases e
        rfl
    · cases e
      rfl
theorem one_up : ∀ k : Nat, UpS (fun q n => oneP b N mo nm hc k q n)
  | 0, q, n, s, e => by
    have e : oneP b N mo nm hc 0 q n = .inr s := e
    rw [oneP] at e
    split at e <;> cases e
  | k + 1, q, n, s, e => by
    have e : oneP b N mo nm hc (k + 1) q n = .inr s := e
    rw [oneP] at e
    split at e
    · cases e
    · split at e
      · cases e
      · split at e
        · have h := one_up k (nxq b N mo q) (n + 1) s e
          omega
        · split at e
          · obtain ⟨s0, e0, e⟩ := bnd_inr e
            obtain ⟨q2, _, e⟩ := bnd_inr e
            have h := con_up (one_up k) _ _ _ e0
            cases e
            show n < s0.2 ∧ s0.2 ≤ 20
            omega
          · have h := lea_up e
            omega
/-- a list of parts ends where no further word joins -/
theorem lop_end {f : Nat → Nat → Fq ⊕ Sq} {w : Int} {Q : Nat → Prop} (h : UpS f) (hQ : ∀ (q n : Nat) (s : Sq), f q n = .inr s → Q s.1) : ∀ (fu q n : Nat) (s : Sq), lopP b N mo w f fu q n = .inr s → Q q → n ≤ 20 → 20 < fu + n → tkq b N mo s.1 ≠ w ∧ Q s.1
  | 0, q, n, s, e, hq, h1, h2 => by omega
  | fu + 1, q, n, s, e, hq, h1, h2 => by
    rw [lopP] at e
    split at e
    · obtain ⟨s0, e0, e⟩ := bnd_inr e
      have h3 := h _ _ _ e0
      exact lop_end h hQ fu s0.1 s0.2 s e (hQ _ _ _ e0) (by omega) (by omega)
    · rename_i c
      cases e
      exact ⟨c, hq⟩
theorem all_end {f : Nat → Nat → Fq ⊕ Sq} (h : UpS f) (q n : Nat) (s : Sq) (e : allP b N mo f q n = .inr s) : tkq b N mo s.1 ≠ 21 := by
  obtain ⟨s0, e0, e⟩ := bnd_inr e
  have h1 := h _ _ _ e0
  exact (lop_end (Q := fun _ => True) h (fun _ _ _ _ => trivial) 200 s0.1 s0.2 s e trivial (by omega) (by omega)).1
theorem con_end {f : Nat → Nat → Fq ⊕ Sq} (h : UpS f) {q n : Nat} {s : Sq} (e : conP b N mo f q n = .inr s) : tkq b N mo s.1 ≠ 20 ∧ tkq b N mo s.1 ≠ 21 := by
  obtain ⟨s0, e0, e⟩ := bnd_inr e
  have h1 := all_up h _ _ _ e0
  exact lop_end (Q := fun q => tkq b N mo q ≠ 21) (all_up h) (fun q n s e => all_end h q n s e) 200 s0.1 s0.2 s e (all_end h _ _ _ e0) (by omega) (by omega)
theorem RnS.nt {q n : Nat} {K : List Bool} {R : Fq ⊕ Nat} (g : RnS b N mo nm hc (true, q, n, K) R) : RnS b N mo nm hc (true, q, n, false :: K) R := RnS.eq (z := (true, q, n, K)) (z1 := (true, q, n, false :: K)) rfl g
theorem ope_go {q n : Nat} {K : List Bool} (h1 : begq (tkq b N mo q)) (h2 : n < 20) (h3 : K.length < 8) : opeP b N mo nm hc q n K = if tkq b N mo q = 22 then .inr (false, nxq b N mo q, n + 1, false :: K) else if tkq b N mo q = 44 then .inr (false, nxq b N mo q, n + 1, true :: K) else leaS K (leaP b N mo nm hc (tkq b N mo q) (nxq b N mo q) (n + 1)) := by
  unfold opeP
  rw [if_neg (fun h => h h1), if_neg (by omega)]
theorem one_run : ∀ (k : Nat) (K : List Bool), k + K.length = 8 → PrS b N mo nm hc (fun q n => oneP b N mo nm hc k q n) K
  | 0, K, hk, q, n => by
    show (∀ e : Fq, oneP b N mo nm hc 0 q n = .inl e → _) ∧ ∀ s : Sq, oneP b N mo nm hc 0 q n = .inr s → _
    by_cases c : begq (tkq b N mo q)
    · have e1 : stpS b N mo nm hc (false, q, n, K) = .inl (.inl (4, (q : Int))) := by
        exact congrArg lft ((if_neg (fun h => h c)).trans (if_pos (by omega)))
      rw [oneP, if_neg (fun h => h c)]
      refine ⟨fun e he => ?_, fun s he => by cases he⟩
      cases he
      exact (RnS.en e1).mpr rfl
    · have e1 : stpS b N mo nm hc (false, q, n, K) = .inl (.inl (1, (q : Int))) := by
        exact congrArg lft (if_pos c)
      rw [oneP, if_pos c]
      refine ⟨fun e he => ?_, fun s he => by cases he⟩
      cases he
      exact (RnS.en e1).mpr rfl
  | k + 1, K, hk, q, n => by
    show (∀ e : Fq, oneP b N mo nm hc (k + 1) q n = .inl e → _) ∧ ∀ s : Sq, oneP b N mo nm hc (k + 1) q n = .inr s → _
    by_cases c : begq (tkq b N mo q)
    · by_cases c2 : 20 ≤ n
      · have e1 : stpS b N mo nm hc (false, q, n, K) = .inl (.inl (4, (q : Int))) := by
          exact congrArg lft ((if_neg (fun h => h c)).trans (if_pos (by omega)))
        rw [oneP, if_neg (fun h => h c), if_pos c2]
        refine ⟨fun e he => ?_, fun s he => by cases he⟩
        cases he
        exact (RnS.en e1).mpr rfl
      · have e0 := ope_go (b := b) (N := N) (mo := mo) (nm := nm) (hc := hc) (q := q) (n := n) (K := K) c (by omega) (by omega)
        rw [oneP, if_neg (fun h => h c), if_neg c2]
        by_cases c3 : tkq b N mo q = 22
        · have e1 : stpS b N mo nm hc (false, q, n, K) = .inr (false, nxq b N mo q, n + 1, false :: K) := congrArg lft (e0.trans (if_pos c3))
          rw [if_pos c3]
          have ih := one_run k (false :: K) (by rw [List.length_cons]; omega) (nxq b N mo q) (n + 1)
          refine ⟨fun e he => ?_, fun s he R g => ?_⟩
          · rw [RnS.go e1]
            exact ih.1 e he
          · rw [RnS.go e1]
            exact ih.2 s he R g.nt
        · rw [if_neg c3]
          rw [if_neg c3] at e0
          by_cases c4 : tkq b N mo q = 44
          · have e1 : stpS b N mo nm hc (false, q, n, K) = .inr (false, nxq b N mo q, n + 1, true :: K) := congrArg lft (e0.trans (if_pos c4))
            rw [if_pos c4]
            have hu : UpS (fun q n => oneP b N mo nm hc k q n) := one_up k
            have ih := con_run (K := true :: K) rfl (one_run k (true :: K) (by rw [List.length_cons]; omega)) (nxq b N mo q) (n + 1)
            cases ec : conP b N mo (fun q n => oneP b N mo nm hc k q n) (nxq b N mo q) (n + 1) with
            | inl e2 =>
              refine ⟨fun e he => ?_, fun s he => by cases he⟩
              cases he
              rw [RnS.go e1]
              exact ih.1 e2 ec
            | inr s0 =>
              have hn := con_end hu ec
              by_cases c5 : tkq b N mo s0.1 = 45
              · have e2 : takP b N mo 45 s0.1 = .inr (nxq b N mo s0.1) := if_neg (fun h => h c5)
                have e3 : stpS b N mo nm hc (true, s0.1, s0.2, true :: K) = .inr (true, nxq b N mo s0.1, s0.2, K) := by
                  show behS b N mo s0.1 s0.2 (true :: K) = _
                  exact (if_neg (by omega)).trans (congrArg lft ((if_neg (by omega)).trans (if_pos c5)))
                rw [bnd_r, e2, bnd_r]
                refine ⟨fun e he => (by cases he), fun s he R g => ?_⟩
                cases he
                rw [RnS.go e1]
                exact ih.2 s0 ec R ((RnS.go e3).mpr g)
              · have e2 : takP b N mo 45 s0.1 = .inl (1, (s0.1 : Int)) := if_pos c5
                have e3 : stpS b N mo nm hc (true, s0.1, s0.2, true :: K) = .inl (.inl (1, (s0.1 : Int))) := by
                  show behS b N mo s0.1 s0.2 (true :: K) = _
                  by_cases c6 : tkq b N mo s0.1 = 48
                  · exact (if_pos c6).trans (if_neg (fun h => by cases h))
                  · exact (if_neg c6).trans (congrArg lft ((if_neg (by omega)).trans (if_neg c5)))
                rw [bnd_r, e2, bnd_l]
                refine ⟨fun e he => ?_, fun s he => by cases he⟩
                cases he
                rw [RnS.go e1]
                exact ih.2 s0 ec _ ((RnS.en e3).mpr rfl)
          · rw [if_neg c4]
            rw [if_neg c4] at e0
            cases el : leaP b N mo nm hc (tkq b N mo q) (nxq b N mo q) (n + 1) with
            | inl e2 =>
              have e1 : stpS b N mo nm hc (false, q, n, K) = .inl (.inl e2) := by
                rw [el] at e0
                exact congrArg lft e0
              refine ⟨fun e he => ?_, fun s he => by cases he⟩
              cases he
              exact (RnS.en e1).mpr rfl
            | inr s0 =>
              have e1 : stpS b N mo nm hc (false, q, n, K) = .inr (true, s0.1, s0.2, K) := by
                rw [el] at e0
                exact congrArg lft e0
              refine ⟨fun e he => (by cases he), fun s he R g => ?_⟩
              cases he
              rw [RnS.go e1]
              exact g
    · have e1 : stpS b N mo nm hc (false, q, n, K) = .inl (.inl (1, (q : Int))) := by
        exact congrArg lft (if_pos c)
      rw [oneP, if_pos c]
      refine ⟨fun e he => ?_, fun s he => by cases he⟩
      cases he
      exact (RnS.en e1).mpr rfl
theorem sen_run : RnS b N mo nm hc (false, posq b N mo 0, 0, []) (senP b N mo nm hc) := by
  have hu : UpS (fun q n => oneP b N mo nm hc 8 q n) := one_up 8
  have h := con_run (K := []) rfl (one_run (b := b) (N := N) (mo := mo) (nm := nm) (hc := hc) 8 [] rfl) (posq b N mo 0) 0
  unfold senP
  cases ec : conP b N mo (fun q n => oneP b N mo nm hc 8 q n) (posq b N mo 0) 0 with
  | inl e =>
    rw [bnd_l]
    exact h.1 e ec
  | inr s =>
    have hn := con_end hu ec
    rw [bnd_r]
    by_cases c : tkq b N mo s.1 = 48
    · rw [if_neg (fun h => h c)]
      refine h.2 s ec _ ((RnS.en ?_).mpr rfl)
      show behS b N mo s.1 s.2 [] = _
      exact (if_pos c).trans (if_pos rfl)
    · rw [if_pos c]
      refine h.2 s ec _ ((RnS.en ?_).mpr rfl)
      show behS b N mo s.1 s.2 [] = _
      refine (if_neg c).trans (congrArg lft (show behP b N mo s.1 s.2 [] = .inl (1, (s.1 : Int)) from ?_))
      by_cases c5 : tkq b N mo s.1 = 45
      · exact (if_neg (by omega)).trans (if_pos c5)
      · exact (if_neg (by omega)).trans (if_neg c5)
end SN
theorem RO.map {A : Type} {r : Int32} {σ : Nat → Nat → Int32} {x : Fq ⊕ A} {Q Q1 : A → Prop} (h : RO r σ x Q) (g : ∀ a : A, x = .inr a → Q a → Q1 a) : RO r σ x Q1 := by
  cases x with
  | inl f => exact h
  | inr a => exact ⟨h.1, g a rfl h.2⟩
section SC
variable {b : Nat → Int} {N mo : Nat} {nm : Nat → Int} {hc : Nat} {q n : Nat}
theorem one_x {k : Nat} (h : ¬ begq (tkq b N mo q)) : oneP b N mo nm hc k q n = .inl (1, (q : Int)) := by
  cases k with
  | zero => rw [oneP, if_pos h]
  | succ k => rw [oneP, if_pos h]
theorem one_4 {k : Nat} (h : begq (tkq b N mo q)) (h2 : 20 ≤ n ∨ k = 0) : oneP b N mo nm hc k q n = .inl (4, (q : Int)) := by
  cases k with
  | zero => rw [oneP, if_neg (fun c => c h)]
  | succ k => rw [oneP, if_neg (fun c => c h), if_pos (by omega)]
theorem one_n {k : Nat} (h : tkq b N mo q = 22) (h2 : n < 20) : oneP b N mo nm hc (k + 1) q n = oneP b N mo nm hc k (nxq b N mo q) (n + 1) := by rw [oneP, if_neg (fun c => c (by omega)), if_neg (by omega), if_pos h]
theorem one_o {k : Nat} (h : tkq b N mo q = 44) (h2 : n < 20) : oneP b N mo nm hc (k + 1) q n = bnd (conP b N mo (fun q n => oneP b N mo nm hc k q n) (nxq b N mo q) (n + 1)) fun s => bnd (takP b N mo 45 s.1) fun q2 => .inr (q2, s.2) := by rw [oneP, if_neg (fun c => c (by omega)), if_neg (by omega), if_neg (by omega), if_pos h]
theorem one_l {k : Nat} (h : begq (tkq b N mo q)) (h2 : n < 20) (h3 : tkq b N mo q ≠ 22) (h4 : tkq b N mo q ≠ 44) : oneP b N mo nm hc (k + 1) q n = leaP b N mo nm hc (tkq b N mo q) (nxq b N mo q) (n + 1) := by rw [oneP, if_neg (fun c => c h), if_neg (by omega), if_neg h3, if_neg h4]
theorem lea_n {k : Int} (h : k ≠ 25) (h2 : k < 27) : leaP b N mo nm hc k q n = .inr (q, n) := by
  unfold leaP
  rw [if_neg h, if_neg (by omega)]
theorem all_f {f : Nat → Nat → Fq ⊕ Sq} {e : Fq} (e1 : f q n = .inl e) : allP b N mo f q n = .inl e := by
  unfold allP
  rw [e1, bnd_l]
theorem all_s {f : Nat → Nat → Fq ⊕ Sq} {s : Sq} (e1 : f q n = .inr s) : allP b N mo f q n = lopP b N mo 21 f 200 s.1 s.2 := by
  unfold allP
  rw [e1, bnd_r]
theorem con_f {f : Nat → Nat → Fq ⊕ Sq} {e : Fq} (e1 : allP b N mo f q n = .inl e) : conP b N mo f q n = .inl e := by
  unfold conP
  rw [e1, bnd_l]
theorem con_s {f : Nat → Nat → Fq ⊕ Sq} {s : Sq} (e1 : allP b N mo f q n = .inr s) : conP b N mo f q n = lopP b N mo 20 (allP b N mo f) 200 s.1 s.2 := by
  unfold conP
  rw [e1, bnd_r]
theorem lop_s {f : Nat → Nat → Fq ⊕ Sq} {w : Int} {fu : Nat} {s : Sq} (h : tkq b N mo q = w) (hf : 0 < fu) (e : f (nxq b N mo q) n = .inr s) : lopP b N mo w f fu q n = lopP b N mo w f (fu - 1) s.1 s.2 := by
  obtain ⟨x, rfl⟩ : ∃ x, fu = x + 1 := ⟨fu - 1, by omega⟩
  rw [lopP, if_pos h, e, bnd_r]
  rfl
theorem lop_f {f : Nat → Nat → Fq ⊕ Sq} {w : Int} {fu : Nat} {e : Fq} (h : tkq b N mo q = w) (hf : 0 < fu) (e1 : f (nxq b N mo q) n = .inl e) : lopP b N mo w f fu q n = .inl e := by
  obtain ⟨x, rfl⟩ : ∃ x, fu = x + 1 := ⟨fu - 1, by omega⟩
  rw [lopP, if_pos h, e1, bnd_l]
theorem lop_e {f : Nat → Nat → Fq ⊕ Sq} {w : Int} {fu : Nat} (h : tkq b N mo q ≠ w ∨ fu = 0) : lopP b N mo w f fu q n = .inr (q, n) := by
  cases fu with
  | zero => rfl
  | succ fu => rw [lopP, if_neg (by omega)]
end SC
/-- what sentence() answers -/
def senA (b : Nat → Int) (N : Nat) (nm : Nat → Int) (hc : Nat) : Int := match senP b N 200 nm hc with
  | .inl f => -1 - f.2
  | .inr k => (k : Int)
theorem senA_l {b : Nat → Int} {N : Nat} {nm : Nat → Int} {hc : Nat} {f : Fq} (e : senP b N 200 nm hc = .inl f) : senA b N nm hc = -1 - f.2 := by
  unfold senA
  rw [e]
theorem senA_r {b : Nat → Int} {N : Nat} {nm : Nat → Int} {hc k : Nat} (e : senP b N 200 nm hc = .inr k) : senA b N nm hc = (k : Int) := by
  unfold senA
  rw [e]
/-! ## names that stay from text to text -/
theorem fd_cg {m o : Int} {b c : Nat → Int} {s t : Nat} : ∀ {n : Nat}, (∀ i : Nat, i < n → b (s + i) = c (t + i)) → fd m o b s n = fd m o c t n
  | 0, _ => rfl
  | n + 1, h => by
    show fd m o b s n * m + (b (s + n) - o) = fd m o c t n * m + (c (t + n) - o)
    rw [fd_cg (n := n) (fun i hi => h i (by omega)), h n (by omega)]
/-- class's and model's number of one NAME, of whatever text -/
def NZ (x : Int64) (w : Int) : Prop := ∃ b : Nat → Int, NR b x w
theorem NZ.of {b : Nat → Int} {x : Int64} {w : Int} (h : NR b x w) : NZ x w := ⟨b, h⟩
theorem NZ.iff {x x' : Int64} {w w' : Int} (h : NZ x w) (h' : NZ x' w') : x = x' ↔ w = w' := by
  obtain ⟨b, s, n, h1, h2, h3, h4⟩ := h
  obtain ⟨b', s', n', h1', h2', h3', h4'⟩ := h'
  have e1 : ∀ i : Nat, i < n → b (s + i) = (fun i : Nat => if i < n then b (s + i) else b' (s' + (i - n))) (0 + i) := fun i hi => by
    show _ = if 0 + i < n then b (s + (0 + i)) else _
    rw [if_pos (by omega), Nat.zero_add]
  have e2 : ∀ i : Nat, i < n' → b' (s' + i) = (fun i : Nat => if i < n then b (s + i) else b' (s' + (i - n))) (n + i) := fun i hi => by
    show _ = if n + i < n then _ else b' (s' + (n + i - n))
    rw [if_neg (by omega), show n + i - n = i by omega]
  have g : NR (fun i : Nat => if i < n then b (s + i) else b' (s' + (i - n))) x w := ⟨0, n, fun i hi => by rw [← e1 i hi]; exact h1 i hi, h2, h3.trans (fd_cg e1), h4.trans (fd_cg e1)⟩
  have g' : NR (fun i : Nat => if i < n then b (s + i) else b' (s' + (i - n))) x' w' := ⟨n, n', fun i hi => by rw [← e2 i hi]; exact h1' i hi, h2', h3'.trans (fd_cg e2), h4'.trans (fd_cg e2)⟩
  exact g.iff g'
/-- the names of hills (o = 40, c = 4) or men (o = 44, c = 5) in the class's VALLEY at the place 2 -/
def WN (σ : Nat → Nat → Int32) (τ : Nat → Nat → Int64) (o c : Nat) (nm : Nat → Int) (hc : Nat) : Prop := (σ 2 c).toInt = (hc : Int) ∧ hc ≤ 8 ∧ ∀ i : Nat, i < hc → NZ (τ o i) (nm i)
theorem WN.f {σ : Nat → Nat → Int32} {τ : Nat → Nat → Int64} {o c : Nat} {nm : Nat → Int} {hc : Nat} {x : Int64} {w : Int} (g : WN σ τ o c nm hc) (r : NZ x w) : fndq (τ o) x hc = fndq nm w hc := fndq_cg fun i hi => (g.2.2 i hi).iff r
/-- names copied from the place s to the place d -/
def NCp (τ0 τ : Nat → Nat → Int64) (s d : Nat) : Prop := (∀ j : Nat, j < 8 → τ (d + 38) j = τ0 (s + 38) j ∧ τ (d + 42) j = τ0 (s + 42) j) ∧ ∀ k j : Nat, 40 ≤ k ∧ k ≤ 47 → k ≠ d + 38 → k ≠ d + 42 → τ k j = τ0 k j
theorem NCp.of {t0 t1 t2 : Nat → Nat → Int64} {s d : Nat} (hs : 2 ≤ s ∧ s ≤ 5) (hd : 2 ≤ d ∧ d ≤ 5) (u : RowNL t0 t1 (d + 38) 8) (v : ∀ j : Nat, j < 8 → t1 (d + 38) j = t0 (s + 38) j) (u2 : RowNL t1 t2 (d + 42) 8) (v2 : ∀ j : Nat, j < 8 → t2 (d + 42) j = t1 (s + 42) j) : NCp t0 t2 s d := by
  refine ⟨fun j hj => ⟨?_, ?_⟩, fun k j h1 h2 h3 => ?_⟩
  · rw [u2 (d + 38) j (Or.inl (by omega)), v j hj]
  · rw [v2 j hj, u (s + 42) j (Or.inl (by omega))]
  · rw [u2 k j (Or.inl h3), u k j (Or.inl h2)]
/-- class and model hold the same names, and the images do -/
def VN (σ : Nat → Nat → Int32) (τ : Nat → Nat → Int64) : Prop := (∀ i : Nat, i < 8 → ((i : Int) < (σ 389 0).toInt → NZ (τ 40 i) (τ 392 i).toInt) ∧ ((i : Int) < (σ 389 1).toInt → NZ (τ 44 i) (τ 392 (8 + i)).toInt)) ∧ ∀ k i : Nat, k < 2 → i < 8 → (σ 405 k).toInt ≠ 0 → ((i : Int) < (σ 403 (427 * k)).toInt → NZ (τ (42 + k) i) (τ 404 (16 * k + i)).toInt) ∧ ((i : Int) < (σ 403 (427 * k + 1)).toInt → NZ (τ (46 + k) i) (τ 404 (16 * k + (8 + i))).toInt)
/-- hills' names -/
def WH (σ : Nat → Nat → Int32) (τ : Nat → Nat → Int64) (nm : Nat → Int) (hc : Nat) : Prop := WN σ τ 40 4 nm hc
abbrev Gd_WH : List Rc := [(2, 2, 4, 4)]
abbrev GdL_WH : List Rc := [(40, 40, 0, 7)]
theorem WH.ag {σ σ1 : Nat → Nat → Int32} {τ : Nat → Nat → Int64} {nm : Nat → Int} {hc : Nat} (g : WH σ τ nm hc) (a : Agr Gd_WH σ σ1) : WH σ1 τ nm hc := ⟨by rw [a 2 4 (rc_in 0 rfl (by decide) (by decide) (by decide) (by decide))]; exact g.1, g.2.1, g.2.2⟩
theorem WH.agL {σ : Nat → Nat → Int32} {τ τ1 : Nat → Nat → Int64} {nm : Nat → Int} {hc : Nat} (g : WH σ τ nm hc) (a : AgrL GdL_WH τ τ1) : WH σ τ1 nm hc := ⟨g.1, g.2.1, fun i hi => by
  have h8 := g.2.1
  rw [a 40 i (rc_in 0 rfl (by decide) (by decide) (by omega) (by omega))]
  exact g.2.2 i hi⟩
/-- men's names -/
def WM (σ : Nat → Nat → Int32) (τ : Nat → Nat → Int64) (mm : Nat → Int) (mc : Nat) : Prop := WN σ τ 44 5 mm mc
abbrev Gd_WM : List Rc := [(2, 2, 5, 5)]
abbrev GdL_WM : List Rc := [(44, 44, 0, 7)]
theorem WM.ag {σ σ1 : Nat → Nat → Int32} {τ : Nat → Nat → Int64} {mm : Nat → Int} {mc : Nat} (g : WM σ τ mm mc) (a : Agr Gd_WM σ σ1) : WM σ1 τ mm mc := ⟨by rw [a 2 5 (rc_in 0 rfl (by decide) (by decide) (by decide) (by decide))]; exact g.1, g.2.1, g.2.2⟩
theorem WM.agL {σ : Nat → Nat → Int32} {τ τ1 : Nat → Nat → Int64} {mm : Nat → Int} {mc : Nat} (g : WM σ τ mm mc) (a : AgrL GdL_WM τ τ1) : WM σ τ1 mm mc := ⟨g.1, g.2.1, fun i hi => by
  have h8 := g.2.1
  rw [a 44 i (rc_in 0 rfl (by decide) (by decide) (by omega) (by omega))]
  exact g.2.2 i hi⟩
/-! what the calls do to the names -/
abbrev GdL_SmN : List Rc := [(40, 40, 0, 7), (42, 44, 0, 7), (46, 47, 0, 7)]
def SmN (τ0 τ : Nat → Nat → Int64) : Prop := ∀ k j : Nat, k = 40 ∨ (42 ≤ k ∧ k ≤ 44) ∨ k = 46 ∨ k = 47 → j < 8 → τ k j = τ0 k j
theorem SmN.of {L : List Rc} {τ0 τ : Nat → Nat → Int64} (f : FrL L τ0 τ) (hL : disRc L GdL_SmN = true) : SmN τ0 τ := fun k j hk hj => f.dis hL (by
  rcases hk with hk | hk | hk
  · exact rc_in 0 rfl (by omega) (by omega) (by omega) (by omega)
  · exact rc_in 1 rfl (by omega) (by omega) (by omega) (by omega)
  · exact rc_in 2 rfl (by omega) (by omega) (by omega) (by omega))
theorem SmN.tr {a c d : Nat → Nat → Int64} (h : SmN a c) (g : SmN c d) : SmN a d := fun k j hk hj => (g k j hk hj).trans (h k j hk hj)
def VNc (τ0 τ : Nat → Nat → Int64) (b : Nat → Int) (N : Nat) : Prop := ((∃ f : Fq, valP b N 900 941 0 (z00 b N 900) = .inl f) ∧ SmN τ0 τ) ∨ ∃ y : Nat × Zt, valP b N 900 941 0 (z00 b N 900) = .inr y ∧ (∀ i : Nat, i < 8 → ((i : Int) < y.2.2.1 0 → NZ (τ 40 i) (y.2.2.2.1 i)) ∧ ((i : Int) < y.2.2.1 1 → NZ (τ 44 i) (y.2.2.2.1 (8 + i)))) ∧ ∀ k j : Nat, (42 ≤ k ∧ k ≤ 43) ∨ (46 ≤ k ∧ k ≤ 47) → j < 8 → τ k j = τ0 k j
theorem VNc.no {L1 L2 : List Rc} {τ0 t1 t2 : Nat → Nat → Int64} {b : Nat → Int} {N : Nat} {f : Fq} (f1 : FrL L1 τ0 t1) (h1 : disRc L1 GdL_SmN = true) (f2 : FrL L2 t1 t2) (h2 : disRc L2 GdL_SmN = true) (e : valP b N 900 941 0 (z00 b N 900) = .inl f) : VNc τ0 t2 b N := Or.inl ⟨⟨f, e⟩, (SmN.of f1 h1).tr (SmN.of f2 h2)⟩
theorem VNc.ok {L1 L2 : List Rc} {σ : Nat → Nat → Int32} {τ0 t1 t2 t3 : Nat → Nat → Int64} {b : Nat → Int} {N : Nat} {y : Nat × Zt} (f1 : FrL L1 τ0 t1) (h1 : disRc L1 GdL_SmN = true) (f2 : FrL L2 t1 t2) (h2 : disRc L2 GdL_SmN = true) (e : valP b N 900 941 0 (z00 b N 900) = .inr y) (g : CR σ t2 b N 900 y.2) (c : NCp t2 t3 3 2) : VNc τ0 t3 b N := by
  have a := (SmN.of f1 h1).tr (SmN.of f2 h2)
  refine Or.inr ⟨y, e, fun i hi => ⟨fun h => ?_, fun h => ?_⟩, fun k j hk hj => ?_⟩
  · rw [(c.1 i hi).1]
    exact NZ.of (g.2.1.1 i h hi)
  · rw [(c.1 i hi).2]
    exact NZ.of (g.2.1.2 i h hi)
  · rw [c.2 k j (by omega) (by omega) (by omega)]
    exact a k j (by omega) hj
def INc (τ0 τ : Nat → Nat → Int64) (a : Int32) : Prop := ((a.toInt < 0 ∨ 1 < a.toInt) ∧ τ = τ0) ∨ ∃ i : Nat, i < 2 ∧ a.toInt = (i : Int) ∧ NCp τ0 τ 2 (4 + i)
theorem INc.of {τ0 τ : Nat → Nat → Int64} {a : Int32} {j : Nat} (ej : a.toInt = (j : Int)) (h : j ≤ 1) (c : NCp τ0 τ 2 (29 + j - 25)) : INc τ0 τ a := by
  rw [show 29 + j - 25 = 4 + j by omega] at c
  exact Or.inr ⟨j, by omega, ej, c⟩
def RNc (σ0 : Nat → Nat → Int32) (τ0 τ : Nat → Nat → Int64) (a : Int32) : Prop := ((a.toInt < 0 ∨ 1 < a.toInt ∨ ∃ i : Nat, i < 2 ∧ a.toInt = (i : Int) ∧ (σ0 (29 + i) 3).toInt = 0) ∧ τ = τ0) ∨ ∃ i : Nat, i < 2 ∧ a.toInt = (i : Int) ∧ (σ0 (29 + i) 3).toInt ≠ 0 ∧ NCp τ0 τ (4 + i) 2
theorem RNc.of {σ0 : Nat → Nat → Int32} {τ0 τ : Nat → Nat → Int64} {a : Int32} {j : Nat} (ej : a.toInt = (j : Int)) (h : j ≤ 1) (hz : (σ0 (29 + j) 3).toInt ≠ 0) (c : NCp τ0 τ (29 + j - 25) 2) : RNc σ0 τ0 τ a := by
  rw [show 29 + j - 25 = 4 + j by omega] at c
  exact Or.inr ⟨j, by omega, ej, hz, c⟩
theorem RNc.no {σ0 : Nat → Nat → Int32} {τ0 : Nat → Nat → Int64} {a : Int32} {j : Nat} (ej : a.toInt = (j : Int)) (h : j ≤ 1) (hz : (σ0 (29 + j) 3).toInt = 0) : RNc σ0 τ0 τ0 a := Or.inl ⟨Or.inr (Or.inr ⟨j, by omega, ej, hz⟩), rfl⟩
