set_option maxRecDepth 100000 in
theorem nest_in : ∀ w ∈ nestWs, w ∈ lw_tbl := by decide +kernel
/-! the law's entry: classes, array classes, String constants -/
theorem en_K {s : State} {A : Array Value} (hts : ∀ w ∈ lw_tbl, w.before A s = true) : ∃ D : va_G, ∀ (k : Nat) (q : vw_C), vwCl[k]? = some q → u_Kn s q.1 q.2.1 q.2.2 (D.1 k) (D.2 k) := by
  have h : ∀ k : Nat, ∃ ci : ClassId × (Nat → Nat), ∀ q : vw_C, vwCl[k]? = some q → u_Kn s q.1 q.2.1 q.2.2 ci.1 ci.2 := by
    intro k
    match k with
    | 0 =>
      obtain ⟨c0, iS0, h0⟩ := u_known (C := RX0) (T := TX0) (N := 3) (n := 3) hts inX0 (hts (.instantiable RX0 3) (by decide +kernel))
      exact ⟨(c0, iS0), fun q hq => by cases hq; exact h0⟩
    | 1 =>
      obtain ⟨c0, iS0, h0⟩ := u_known (C := RX1) (T := TX1) (N := 9) (n := 9) hts inX1 (hts (.instantiable RX1 9) (by decide +kernel))
      exact ⟨(c0, iS0), fun q hq => by cases hq; exact h0⟩
    | 2 =>
      obtain ⟨c0, iS0, h0⟩ := u_known (C := RX2) (T := TX2) (N := 7) (n := 7) hts inX2 (hts (.instantiable RX2 7) (by decide +kernel))
      exact ⟨(c0, iS0), fun q hq => by cases hq; exact h0⟩
    | 3 =>
      obtain ⟨c0, iS0, h0⟩ := u_known (C := RX3) (T := TX3) (N := 3) (n := 3) hts inX3 (hts (.instantiable RX3 3) (by decide +kernel))
      exact ⟨(c0, iS0), fun q hq => by cases hq; exact h0⟩
    | 4 =>
      obtain ⟨c0, iS0, h0⟩ := u_known (C := RX4) (T := TX4) (N := 4) (n := 4) hts inX4 (hts (.instantiable RX4 4) (by decide +kernel))
      exact ⟨(c0, iS0), fun q hq => by cases hq; exact h0⟩
    | 5 =>
      obtain ⟨c0, iS0, h0⟩ := u_known (C := RX5) (T := TX5) (N := 8) (n := 8) hts inX5 (hts (.instantiable RX5 8) (by decide +kernel))
      exact ⟨(c0, iS0), fun q hq => by cases hq; exact h0⟩
    | 6 =>
      obtain ⟨c0, iS0, h0⟩ := u_known (C := RX6) (T := TX6) (N := 7) (n := 7) hts inX6 (hts (.instantiable RX6 7) (by decide +kernel))
      exact ⟨(c0, iS0), fun q hq => by cases hq; exact h0⟩
    | 7 =>
      obtain ⟨c0, iS0, h0⟩ := u_known (C := RX7) (T := TX7) (N := 3) (n := 3) hts inX7 (hts (.instantiable RX7 3) (by decide +kernel))
      exact ⟨(c0, iS0), fun q hq => by cases hq; exact h0⟩
    | 8 =>
      obtain ⟨c0, iS0, h0⟩ := u_known (C := RX8) (T := TX8) (N := 15) (n := 15) hts inX8 (hts (.instantiable RX8 15) (by decide +kernel))
      exact ⟨(c0, iS0), fun q hq => by cases hq; exact h0⟩
    | 9 =>
      obtain ⟨c0, iS0, h0⟩ := u_known (C := RX9) (T := TX9) (N := 14) (n := 14) hts inX9 (hts (.instantiable RX9 14) (by decide +kernel))
      exact ⟨(c0, iS0), fun q hq => by cases hq; exact h0⟩
    | 10 =>
      obtain ⟨c0, iS0, h0⟩ := u_known (C := RX10) (T := TX10) (N := 5) (n := 5) hts inX10 (hts (.instantiable RX10 5) (by decide +kernel))
      exact ⟨(c0, iS0), fun q hq => by cases hq; exact h0⟩
    | 11 =>
      obtain ⟨c0, iS0, h0⟩ := u_known (C := RX11) (T := TX11) (N := 19) (n := 19) hts inX11 (hts (.instantiable RX11 19) (by decide +kernel))
      exact ⟨(c0, iS0), fun q hq => by cases hq; exact h0⟩
    | 12 =>
      obtain ⟨c0, iS0, h0⟩ := u_known (C := RX12) (T := TX12) (N := 47) (n := 47) hts inX12 (hts (.instantiable RX12 47) (by decide +kernel))
      exact ⟨(c0, iS0), fun q hq => by cases hq; exact h0⟩
    | k + 13 => exact ⟨(0, fun _ => 0), fun q hq => by simp [vwCl] at hq⟩
  obtain ⟨f, hf⟩ := Classical.axiomOfChoice h
  exact ⟨(fun k => (f k).1, fun k => (f k).2), hf⟩
theorem en_arr {s : State} {A : Array Value} {ty : FieldType} (h : (Cond.arrayClass ty).before A s = true) : ∃ c : ClassId, ArrOfT s c ty ∧ s.vm.findClass ("[" ++ ty.toString) = some c := by
  obtain ⟨c, k, comp, h1, h2, h3⟩ := Cond.arrayClass_spec h
  exact ⟨c, fun n z => ⟨fun k h => (by cases h), k, h2, comp, h3⟩, h1⟩
theorem en_obj {s : State} {C : String} (h : AOv (.object C) s) : ∃ c : ClassId, ArrOfT s c (.object C) ∧ va_RA s c (.object C) := by
  obtain ⟨comp, c, k, h1, -, h3, h4, h5⟩ := Cond.arrayOver_spec h
  exact ⟨c, fun n z => ⟨fun k h => (by cases h), k, h3, comp, h4⟩, k, comp, h3, h4, h1, h5⟩
theorem en_arr2 {s : State} (h : AOv (.array .int) s) : ∃ c : ClassId, ArrOfT s c (.array .int) ∧ va_RA s c (.array .int) := by
  obtain ⟨comp, c, k, h1, h3, h4, h5⟩ := Cond.arrayOver_specA h
  exact ⟨c, fun n z => ⟨fun k h => (by cases h), k, h3, comp, h4⟩, h5⟩
theorem en_EX {s : State} {A : Array Value} (hts : ∀ w ∈ lw_tbl, w.before A s = true) : EX s := ⟨AOv.of (hts _ (by decide +kernel)), AOv.of (hts _ (by decide +kernel)), AOv.of (hts _ (by decide +kernel)), va_Nw.of rfl (hts _ (by decide +kernel)), va_Nw.of rfl (hts _ (by decide +kernel)), va_Nw.of rfl (hts _ (by decide +kernel)), va_Nw.of rfl (hts _ (by decide +kernel))⟩
theorem en_tys {s : State} {A : Array Value} {D : va_G} (hts : ∀ w ∈ lw_tbl, w.before A s = true) (hD : ∀ (k : Nat) (q : vw_C), vwCl[k]? = some q → u_Kn s q.1 q.2.1 q.2.2 (D.1 k) (D.2 k)) (hE : EX s) : ∃ cA : Nat → ClassId, va_K D vwCl (tys cA) s := by
  obtain ⟨c0, g0, f0⟩ := en_arr (hts (.arrayClass .int) (by decide +kernel))
  obtain ⟨c1, g1, f1⟩ := en_arr (hts (.arrayClass .byte) (by decide +kernel))
  obtain ⟨c2, g2, f2⟩ := en_arr (hts (.arrayClass .boolean) (by decide +kernel))
  obtain ⟨c3, g3, f3⟩ := en_arr (hts (.arrayClass .long) (by decide +kernel))
  obtain ⟨c4, g4, f4⟩ := en_arr2 hE.2.2.1
  obtain ⟨c5, g5, f5⟩ := en_obj hE.1
  obtain ⟨c6, g6, f6⟩ := en_obj hE.2.1
  refine ⟨fun k => match k with | 0 => c0 | 1 => c1 | 2 => c2 | 3 => c3 | 4 => c4 | 5 => c5 | _ => c6, hD, fun k q hk => ?_⟩
  match k, hk with
  | 0, hk => cases hk; exact ⟨g0, f0⟩
  | 1, hk => cases hk; exact ⟨g1, f1⟩
  | 2, hk => cases hk; exact ⟨g2, f2⟩
  | 3, hk => cases hk; exact ⟨g3, f3⟩
  | 4, hk => cases hk; exact ⟨g4, f4⟩
  | 5, hk => cases hk; exact ⟨g5, f5⟩
  | 6, hk => cases hk; exact ⟨g6, f6⟩
  | k + 7, hk => simp [tys] at hk
/-- a String constant of n bytes -/
theorem en_str {args : Array Value} {s : State} {t : Term} {n : Nat} {byt : List Int32} {A : Nat → Prop} (hn : n < 2 ^ 31) (hex : (Cond.exactly t "java/lang/String").before args s = true) (hco : (Cond.eq (.field t "java/lang/String" "coder" "B") (.int 0)).before args s = true) (har : (Cond.arrayOf (.field t "java/lang/String" "value" "[B") .byte).before args s = true) (hle : (Cond.eq (.length (.field t "java/lang/String" "value" "[B")) (.int (Int32.ofNat n))).before args s = true) (hel : ∀ j : Nat, j < n → (Cond.eq (.elem (.field t "java/lang/String" "value" "[B") (.int (Int32.ofNat j))) (.int (byt.getD j 0))).before args s = true) (hA : ∀ a : Nat, a < s.heap.size → ¬ A a) : ∃ a q : Nat, t.eval args s none [] s = some (.ref a) ∧ va_O "java/lang/String" a A s s.heap ∧ va_OF "java/lang/String" "coder" "B" (.int 0) a A s s.heap ∧ va_OF "java/lang/String" "value" "[B" (.ref q) a A s s.heap ∧ ∃ g : Nat → Int32, (∀ j : Nat, j < n → g j = byt.getD j 0) ∧ va_T .byte q n (fun j => .int (g j)) A s s.heap := by
  obtain ⟨a, c, cA, kA, q1, q2, q3, q4, q5, q6, -⟩ := Cond.exactly_spec (args := args) (first := s) (o := none) (s := s) (idx := []) (t := t) (cls := "java/lang/String") hex
  obtain ⟨q, ht, hT⟩ := va_Tof (f := fun j => .int (byt.getD j 0)) (A := A) hn har (va_eqt hle) (fun j hj => va_eqt (hel j hj)) hA
  exact ⟨a, q, q1, ⟨cA, q3, q5, by rw [q6]; exact q2, hA a (Array.getElem?_eq_some_iff.mp q3).1⟩, vk_OFof q1 (va_eqt hco) hA, vk_OFof q1 ht hA, fun j => byt.getD j 0, fun _ _ => rfl, hT⟩
theorem en_ref {args : Array Value} {s : State} {t : Term} (hex : (Cond.exactly t "java/lang/String").before args s = true) : ∃ a : Nat, t.eval args s none [] s = some (.ref a) := by
  obtain ⟨a, c, cA, kA, q1, -⟩ := Cond.exactly_spec (args := args) (first := s) (o := none) (s := s) (idx := []) (t := t) (cls := "java/lang/String") hex
  exact ⟨a, q1⟩
abbrev enF : List Cond := flatC (Jvm.Cond.and given_1 narrow_1)
def enB0 : List Int32 := [114, 105, 100, 103, 101, 32, 32, 119, 104, 101, 97, 116, 32, 32, 119, 105, 110, 100, 32, 32, 32, 110, 111, 114, 116, 104, 32, 32, 101, 97, 115, 116, 32, 32, 32, 115, 111, 117, 116, 104, 32, 32, 119, 101, 115, 116, 32, 32, 32, 104, 105, 108, 108, 32, 32, 32, 102, 97, 108, 108, 32, 32, 32, 109, 97, 110, 32, 32, 32, 32, 111, 108, 100, 32, 32, 32, 32, 100, 101, 97, 102, 32, 32, 32, 110, 101, 101, 100, 115, 32, 32, 102, 108, 105, 103, 104, 116, 32]
set_option maxRecDepth 100000 in
theorem en_ix0 : ∀ j : Nat, j < 98 → enF[58 + j]? = some (Cond.eq (.elem (.field (.string "CuckooShares$Tape" 98) "java/lang/String" "value" "[B") (.int (Int32.ofNat j))) (.int (enB0.getD j 0))) := by decide +kernel
theorem en_rw0 : ∀ j : Nat, j < 98 → enB0.getD j 0 = rowl.getD (rof 0 + j) 0 := by decide +kernel
theorem en_el0 : ∀ j : Nat, j < 98 → Cond.eq (.elem (.field (.string "CuckooShares$Tape" 98) "java/lang/String" "value" "[B") (.int (Int32.ofNat j))) (.int (enB0.getD j 0)) ∈ enF := fun j hj => List.mem_of_getElem? (en_ix0 j hj)
def enB1 : List Int32 := [99, 111, 109, 101, 115, 32, 32, 104, 111, 117, 114, 32, 32, 32, 109, 111, 118, 101, 115, 32, 32, 115, 119, 101, 97, 114, 115, 32, 99, 97, 108, 108, 115, 32, 32, 115, 104, 97, 114, 101, 115, 32]
set_option maxRecDepth 100000 in
theorem en_ix1 : ∀ j : Nat, j < 42 → enF[160 + j]? = some (Cond.eq (.elem (.field (.string "CuckooShares$Tape" 104) "java/lang/String" "value" "[B") (.int (Int32.ofNat j))) (.int (enB1.getD j 0))) := by decide +kernel
theorem en_rw1 : ∀ j : Nat, j < 42 → enB1.getD j 0 = rowl.getD (rof 1 + j) 0 := by decide +kernel
theorem en_el1 : ∀ j : Nat, j < 42 → Cond.eq (.elem (.field (.string "CuckooShares$Tape" 104) "java/lang/String" "value" "[B") (.int (Int32.ofNat j))) (.int (enB1.getD j 0)) ∈ enF := fun j hj => List.mem_of_getElem? (en_ix1 j hj)
def enB2 : List Int32 := [111, 114, 32, 32, 32, 32, 32, 97, 110, 100, 32, 32, 32, 32, 110, 111, 116, 32, 32, 32, 32, 115, 119, 111, 114, 110, 32, 32, 108, 105, 101, 100, 32, 32, 32, 111, 110, 32, 32, 32, 32, 32, 104, 101, 97, 114, 100, 32, 32, 99, 111, 105, 110, 32, 32, 32, 115, 116, 111, 114, 101, 32, 32, 101, 97, 114, 32, 32, 32, 32, 110, 117, 109, 98, 101, 114, 32]
set_option maxRecDepth 100000 in
theorem en_ix2 : ∀ j : Nat, j < 77 → enF[207 + j]? = some (Cond.eq (.elem (.field (.string "CuckooShares$Tape" 106) "java/lang/String" "value" "[B") (.int (Int32.ofNat j))) (.int (enB2.getD j 0))) := by decide +kernel
theorem en_rw2 : ∀ j : Nat, j < 77 → enB2.getD j 0 = rowl.getD (rof 2 + j) 0 := by decide +kernel
theorem en_el2 : ∀ j : Nat, j < 77 → Cond.eq (.elem (.field (.string "CuckooShares$Tape" 106) "java/lang/String" "value" "[B") (.int (Int32.ofNat j))) (.int (enB2.getD j 0)) ∈ enF := fun j hj => List.mem_of_getElem? (en_ix2 j hj)
/-- the world's environment at the law's entry, for places that are all new -/
theorem en_XV {s : State} {b : Nat} (hts : ∀ w ∈ lw_tbl, w.before #[Value.ref b] s = true) (hgv : (Jvm.Cond.and given_1 narrow_1).before #[Value.ref b] s = true) : ∃ str : Nat → Nat, ∀ ad : Nat → Nat, (∀ k, k < 407 → s.heap.size ≤ ad k) → (∀ k, 407 ≤ k → ad k = str k) → XV ad s := by
  have hs := flat_of_before _ hgv
  obtain ⟨a0, b0, e0, hz0⟩ : ∃ a q : Nat, (Term.string "CuckooShares$Tape" 98).eval #[Value.ref b] s none [] s = some (.ref a) ∧ ∀ A : Nat → Prop, (∀ a : Nat, a < s.heap.size → ¬ A a) → va_O "java/lang/String" a A s s.heap ∧ va_OF "java/lang/String" "coder" "B" (.int 0) a A s s.heap ∧ va_OF "java/lang/String" "value" "[B" (.ref q) a A s s.heap ∧ ∃ g : Nat → Int32, (∀ j : Nat, j < 98 → g j = rowl.getD (rof 0 + j) 0) ∧ va_T .byte q 98 (fun j => .int (g j)) A s s.heap := by
    have base : ∀ A : Nat → Prop, (∀ a : Nat, a < s.heap.size → ¬ A a) → _ := fun A hA => en_str (t := .string "CuckooShares$Tape" 98) (n := 98) (byt := enB0) (A := A) (by decide) (hs _ (by decide +kernel)) (hs _ (by decide +kernel)) (hs _ (by decide +kernel)) (hs (.eq (.length (.field (.string "CuckooShares$Tape" 98) "java/lang/String" "value" "[B")) (.int 98)) (by decide +kernel)) (fun j hj => hs _ (en_el0 j hj)) hA
    obtain ⟨a, q, h1, h2, h3, h4, h5⟩ := base (fun _ => False) (fun _ _ h => h)
    refine ⟨a, q, h1, fun A hA => ?_⟩
    obtain ⟨a2, q2, g1, g2, g3, g4, g5⟩ := base A hA
    have ea : a2 = a := by have h9 := g1.symm.trans h1; cases h9; rfl
    subst ea
    have eq : q2 = q := by
      obtain ⟨cf, k, i, f, cell, r1, r2, r3, r4, r5, r6⟩ := g4
      obtain ⟨cf2, k2, i2, f2, cell2, u1, u2, u3, u4, u5, u6⟩ := h4
      cases Option.some.inj (r1.symm.trans u1)
      cases Option.some.inj (r3.symm.trans u3)
      have h9 := r5.symm.trans u5
      cases h9; rfl
    subst eq
    obtain ⟨g, hg, hT⟩ := g5
    exact ⟨g2, g3, g4, g, fun j hj => (hg j hj).trans (en_rw0 j hj), hT⟩
  obtain ⟨a1, b1, e1, hz1⟩ : ∃ a q : Nat, (Term.string "CuckooShares$Tape" 104).eval #[Value.ref b] s none [] s = some (.ref a) ∧ ∀ A : Nat → Prop, (∀ a : Nat, a < s.heap.size → ¬ A a) → va_O "java/lang/String" a A s s.heap ∧ va_OF "java/lang/String" "coder" "B" (.int 0) a A s s.heap ∧ va_OF "java/lang/String" "value" "[B" (.ref q) a A s s.heap ∧ ∃ g : Nat → Int32, (∀ j : Nat, j < 42 → g j = rowl.getD (rof 1 + j) 0) ∧ va_T .byte q 42 (fun j => .int (g j)) A s s.heap := by
    have base : ∀ A : Nat → Prop, (∀ a : Nat, a < s.heap.size → ¬ A a) → _ := fun A hA => en_str (t := .string "CuckooShares$Tape" 104) (n := 42) (byt := enB1) (A := A) (by decide) (hs _ (by decide +kernel)) (hs _ (by decide +kernel)) (hs _ (by decide +kernel)) (hs (.eq (.length (.field (.string "CuckooShares$Tape" 104) "java/lang/String" "value" "[B")) (.int 42)) (by decide +kernel)) (fun j hj => hs _ (en_el1 j hj)) hA
    obtain ⟨a, q, h1, h2, h3, h4, h5⟩ := base (fun _ => False) (fun _ _ h => h)
    refine ⟨a, q, h1, fun A hA => ?_⟩
    obtain ⟨a2, q2, g1, g2, g3, g4, g5⟩ := base A hA
    have ea : a2 = a := by have h9 := g1.symm.trans h1; cases h9; rfl
    subst ea
    have eq : q2 = q := by
      obtain ⟨cf, k, i, f, cell, r1, r2, r3, r4, r5, r6⟩ := g4
      obtain ⟨cf2, k2, i2, f2, cell2, u1, u2, u3, u4, u5, u6⟩ := h4
      cases Option.some.inj (r1.symm.trans u1)
      cases Option.some.inj (r3.symm.trans u3)
      have h9 := r5.symm.trans u5
      cases h9; rfl
    subst eq
    obtain ⟨g, hg, hT⟩ := g5
    exact ⟨g2, g3, g4, g, fun j hj => (hg j hj).trans (en_rw1 j hj), hT⟩
  obtain ⟨a2, b2, e2, hz2⟩ : ∃ a q : Nat, (Term.string "CuckooShares$Tape" 106).eval #[Value.ref b] s none [] s = some (.ref a) ∧ ∀ A : Nat → Prop, (∀ a : Nat, a < s.heap.size → ¬ A a) → va_O "java/lang/String" a A s s.heap ∧ va_OF "java/lang/String" "coder" "B" (.int 0) a A s s.heap ∧ va_OF "java/lang/String" "value" "[B" (.ref q) a A s s.heap ∧ ∃ g : Nat → Int32, (∀ j : Nat, j < 77 → g j = rowl.getD (rof 2 + j) 0) ∧ va_T .byte q 77 (fun j => .int (g j)) A s s.heap := by
    have base : ∀ A : Nat → Prop, (∀ a : Nat, a < s.heap.size → ¬ A a) → _ := fun A hA => en_str (t := .string "CuckooShares$Tape" 106) (n := 77) (byt := enB2) (A := A) (by decide) (hs _ (by decide +kernel)) (hs _ (by decide +kernel)) (hs _ (by decide +kernel)) (hs (.eq (.length (.field (.string "CuckooShares$Tape" 106) "java/lang/String" "value" "[B")) (.int 77)) (by decide +kernel)) (fun j hj => hs _ (en_el2 j hj)) hA
    obtain ⟨a, q, h1, h2, h3, h4, h5⟩ := base (fun _ => False) (fun _ _ h => h)
    refine ⟨a, q, h1, fun A hA => ?_⟩
    obtain ⟨a2, q2, g1, g2, g3, g4, g5⟩ := base A hA
    have ea : a2 = a := by have h9 := g1.symm.trans h1; cases h9; rfl
    subst ea
    have eq : q2 = q := by
      obtain ⟨cf, k, i, f, cell, r1, r2, r3, r4, r5, r6⟩ := g4
      obtain ⟨cf2, k2, i2, f2, cell2, u1, u2, u3, u4, u5, u6⟩ := h4
      cases Option.some.inj (r1.symm.trans u1)
      cases Option.some.inj (r3.symm.trans u3)
      have h9 := r5.symm.trans u5
      cases h9; rfl
    subst eq
    obtain ⟨g, hg, hT⟩ := g5
    exact ⟨g2, g3, g4, g, fun j hj => (hg j hj).trans (en_rw2 j hj), hT⟩
  obtain ⟨a3, e3⟩ := en_ref (hs (.exactly (.string "CuckooShares" 179) "java/lang/String") (by decide +kernel))
  obtain ⟨a4, e4⟩ := en_ref (hs (.exactly (.string "CuckooShares" 198) "java/lang/String") (by decide +kernel))
  obtain ⟨a5, e5⟩ := en_ref (hs (.exactly (.string "CuckooShares" 313) "java/lang/String") (by decide +kernel))
  obtain ⟨a6, e6⟩ := en_ref (hs (.exactly (.string "CuckooShares" 338) "java/lang/String") (by decide +kernel))
  refine ⟨fun k => if k = 407 then a0 else if k = 408 then a1 else if k = 409 then a2 else if k = 410 then a3 else if k = 411 then a4 else if k = 412 then a5 else if k = 413 then a6 else if k = 414 then b0 else if k = 415 then b1 else b2, fun ad h1 h2 => ?_⟩
  have w407 : ad 407 = a0 := h2 407 (by decide)
  have w408 : ad 408 = a1 := h2 408 (by decide)
  have w409 : ad 409 = a2 := h2 409 (by decide)
  have w410 : ad 410 = a3 := h2 410 (by decide)
  have w411 : ad 411 = a4 := h2 411 (by decide)
  have w412 : ad 412 = a5 := h2 412 (by decide)
  have w413 : ad 413 = a6 := h2 413 (by decide)
  have w414 : ad 414 = b0 := h2 414 (by decide)
  have w415 : ad 415 = b1 := h2 415 (by decide)
  have w416 : ad 416 = b2 := h2 416 (by decide)
  have hA : ∀ a : Nat, a < s.heap.size → ¬ AA ad a := fun a ha h => by obtain ⟨k, hk, e⟩ := h; have := h1 k hk; omega
  have nw : NW s := fun w hw => va_Nw.of (nest_on (nest_all w hw)) (hts w (nest_in w hw))
  refine ⟨⟨nw, ⟨?_, ?_, ?_, va_Zof (hts _ (by decide +kernel)) (hts _ (by decide +kernel)) (va_eqt (hs (.eq (.static "java/lang/String" "COMPACT_STRINGS" "Z") (.int 1)) (by decide +kernel))) hA, va_Zqof (hts _ (by decide +kernel)) (hts _ (by decide +kernel)) (hs _ (by decide +kernel)) hA⟩, ?_⟩, ⟨va_Nw.of rfl (hts _ (by decide +kernel)), va_Nw.of rfl (hts _ (by decide +kernel)), va_Nw.of rfl (hts _ (by decide +kernel)), va_Nw.of rfl (hts _ (by decide +kernel))⟩, ⟨vx_Zqof (hts _ (by decide +kernel)) (hts _ (by decide +kernel)) (hs _ (by decide +kernel)) hA, vx_Zqof (hts _ (by decide +kernel)) (hts _ (by decide +kernel)) (hs _ (by decide +kernel)) hA⟩⟩
  · unfold Str1
    rw [show 407 + 0 = 407 from rfl, show 414 + 0 = 414 from rfl, w407, w414]
    exact hz0 _ hA
  · unfold Str1
    rw [show 407 + 1 = 408 from rfl, show 414 + 1 = 415 from rfl, w408, w415]
    exact hz1 _ hA
  · unfold Str1
    rw [show 407 + 2 = 409 from rfl, show 414 + 2 = 416 from rfl, w409, w416]
    exact hz2 _ hA
  · unfold SR
    rw [w407, w408, w409, w410, w411, w412, w413]
    exact ⟨vk_R.of (hts _ (by decide +kernel)) e0, vk_R.of (hts _ (by decide +kernel)) e1, vk_R.of (hts _ (by decide +kernel)) e2, vk_R.of (hts _ (by decide +kernel)) e3, vk_R.of (hts _ (by decide +kernel)) e4, vk_R.of (hts _ (by decide +kernel)) e5, vk_R.of (hts _ (by decide +kernel)) e6⟩
