section TCe
variable {p : Program} {l : Launch} {e : Env} {R : Room} {s : State} {m : MethodId} {args : Array Value} {below : List Frame} {meth : Method} {c : Code} {H : Heap} {locs : List Loc} {cells slots : Nat} {Q : State → Prop}
variable {cc : ByteArray} {pc : Nat} {ls : Array Slot} {rest : List Value} {D : va_G} {cA : Nat → ClassId} {ad : Nat → Nat} {σ : Nat → Nat → Int32} {τ : Nat → Nat → Int64} {H0 : Heap}
theorem cpi_at (σ : Nat → Nat → Int32) (k q : Nat) {n j : Nat} (hj : j < n) : ur σ k (va_cpy (σ q) (σ k) 0 0 n) k j = σ q j := by
  rw [ur_self, pk_cpy_in (Nat.zero_le _) (by omega)]
  congr 1
  omega
theorem cpE_flightR (hx : p.tables.exec = Jvm.exec) (hb : c.code = cc) (hml : c.maxLocals = ls.size) {own : String} {index : Nat} (hown : s.vm.findClass own = some m.cls) (hlink : (Cond.methodLink own index arraycopyName).before args s = true) (hnat : (Cond.native arraycopyName).before args s = true) (hstat : (Cond.static arraycopyName).before args s = true) (hini : (Cond.initialized "java/lang/System").before args s = true) (hK : va_K D vwCl (tys cA) s) (hP : va_P D vwCl (gw cA ad σ τ) H) (hI : Inj ad) (hR : Rg σ) (hS : va_S (AA ad) H0 H locs) {k q : Nat} (h1 : 132 ≤ k) (h2 : k ≤ 147) (h3 : 132 ≤ q) (h4 : q ≤ 147) {sp dp n : Int32} (e1 : sp.toInt = 0) (e2 : dp.toInt = 0) (e3 : n.toInt = 3) (hf : 1 ≤ R.frames) (hlo : (rest.map fun v => v.category).sum + (nativeFrameWords "java/lang/System" "arraycopy" 5 + 11) ≤ R.locals) (hd : decode cc pc = .ok (.invokestatic index, 3)) (kk : ∀ (σ1 : Nat → Nat → Int32) (H1 : Heap) (locs1 : List Loc), RowN σ σ1 k 3 → (∀ j : Nat, j < 3 → σ1 k j = σ q j) → Rg σ1 → va_P D vwCl (gw cA ad σ1 τ) H1 → va_S (AA ad) H0 H1 locs1 → W p l e R s m args below meth c H1 locs1 cells slots Q (F0 m (pc + 3) ls rest)) : W p l e R s m args below meth c H locs cells slots Q (F0 m pc ls (.int n :: .int dp :: .ref (ad k) :: .int sp :: .ref (ad q) :: rest)) := by
  have n1 : ¬ sp < 0 := by rw [Int32.lt_iff_toInt_lt, Int32.toInt_zero]; omega
  have n2 : ¬ dp < 0 := by rw [Int32.lt_iff_toInt_lt, Int32.toInt_zero]; omega
  have n3 : ¬ n < 0 := by rw [Int32.lt_iff_toInt_lt, Int32.toInt_zero]; omega
  have c1 : sp.toNatClampNeg = 0 := ti_cl e1
  have c2 : dp.toNatClampNeg = 0 := ti_cl e2
  have c3 : n.toNatClampNeg = 3 := ti_cl e3
  refine va_copyi hx hb hml hown hlink hnat hstat hini hK hP (gw_D hI) hS q k 0 0 (cl_flightR h3 h4) (cl_flightR h1 h2) rfl rfl rfl n1 n2 n3 (by omega) (by omega) (fun _ _ => rfl) hf hlo hd (fun H1 locs1 hP1 _ hS1 => kk (ur σ k (va_cpy (σ q) (σ k) 0 0 3)) H1 locs1 (fun k2 j2 h => ?_) (fun j hj => cpi_at σ k q hj) (hR.row fun j => ?_) ?_ hS1)
  · by_cases ek : k2 = k
    · subst ek
      rw [ur_self]
      unfold va_cpy
      rw [if_neg (by rcases h with h | h <;> omega)]
    · rw [ur_ne _ _ ek]
  · unfold va_cpy
    split
    · have h := hR q (0 + (j - 0))
      have ej : 0 + (j - 0) = j := by omega
      rw [ej] at h ⊢
      rw [rl_flightR h3 h4, rh_flightR h3 h4] at h
      rw [rl_flightR h1 h2, rh_flightR h1 h2]
      exact h
    · exact hR k j
  · rw [c1, c2, c3] at hP1
    rw [← gw_seti (cA := cA) (ad := ad) (σ := σ) (τ := τ) (k := k) (f := va_cpy (σ q) (σ k) 0 0 3) (gc_flightR h1 h2)]
    exact hP1
theorem cpE_callR (hx : p.tables.exec = Jvm.exec) (hb : c.code = cc) (hml : c.maxLocals = ls.size) {own : String} {index : Nat} (hown : s.vm.findClass own = some m.cls) (hlink : (Cond.methodLink own index arraycopyName).before args s = true) (hnat : (Cond.native arraycopyName).before args s = true) (hstat : (Cond.static arraycopyName).before args s = true) (hini : (Cond.initialized "java/lang/System").before args s = true) (hK : va_K D vwCl (tys cA) s) (hP : va_P D vwCl (gw cA ad σ τ) H) (hI : Inj ad) (hR : Rg σ) (hS : va_S (AA ad) H0 H locs) {k q : Nat} (h1 : 148 ≤ k) (h2 : k ≤ 307) (h3 : 148 ≤ q) (h4 : q ≤ 307) {sp dp n : Int32} (e1 : sp.toInt = 0) (e2 : dp.toInt = 0) (e3 : n.toInt = 3) (hf : 1 ≤ R.frames) (hlo : (rest.map fun v => v.category).sum + (nativeFrameWords "java/lang/System" "arraycopy" 5 + 11) ≤ R.locals) (hd : decode cc pc = .ok (.invokestatic index, 3)) (kk : ∀ (σ1 : Nat → Nat → Int32) (H1 : Heap) (locs1 : List Loc), RowN σ σ1 k 3 → (∀ j : Nat, j < 3 → σ1 k j = σ q j) → Rg σ1 → va_P D vwCl (gw cA ad σ1 τ) H1 → va_S (AA ad) H0 H1 locs1 → W p l e R s m args below meth c H1 locs1 cells slots Q (F0 m (pc + 3) ls rest)) : W p l e R s m args below meth c H locs cells slots Q (F0 m pc ls (.int n :: .int dp :: .ref (ad k) :: .int sp :: .ref (ad q) :: rest)) := by
  have n1 : ¬ sp < 0 := by rw [Int32.lt_iff_toInt_lt, Int32.toInt_zero]; omega
  have n2 : ¬ dp < 0 := by rw [Int32.lt_iff_toInt_lt, Int32.toInt_zero]; omega
  have n3 : ¬ n < 0 := by rw [Int32.lt_iff_toInt_lt, Int32.toInt_zero]; omega
  have c1 : sp.toNatClampNeg = 0 := ti_cl e1
  have c2 : dp.toNatClampNeg = 0 := ti_cl e2
  have c3 : n.toNatClampNeg = 3 := ti_cl e3
  refine va_copyi hx hb hml hown hlink hnat hstat hini hK hP (gw_D hI) hS q k 0 0 (cl_callR h3 h4) (cl_callR h1 h2) rfl rfl rfl n1 n2 n3 (by omega) (by omega) (fun _ _ => rfl) hf hlo hd (fun H1 locs1 hP1 _ hS1 => kk (ur σ k (va_cpy (σ q) (σ k) 0 0 3)) H1 locs1 (fun k2 j2 h => ?_) (fun j hj => cpi_at σ k q hj) (hR.row fun j => ?_) ?_ hS1)
  · by_cases ek : k2 = k
    · subst ek
      rw [ur_self]
      unfold va_cpy
      rw [if_neg (by rcases h with h | h <;> omega)]
    · rw [ur_ne _ _ ek]
  · unfold va_cpy
    split
    · have h := hR q (0 + (j - 0))
      have ej : 0 + (j - 0) = j := by omega
      rw [ej] at h ⊢
      unfold rlo rhi
      repeat (first | rw [if_pos (by omega)] | rw [if_neg (by omega)])
      exact ⟨ti_lo _, ti_hi _⟩
    · exact hR k j
  · rw [c1, c2, c3] at hP1
    rw [← gw_seti (cA := cA) (ad := ad) (σ := σ) (τ := τ) (k := k) (f := va_cpy (σ q) (σ k) 0 0 3) (gc_callR h1 h2)]
    exact hP1
end TCe
/-! ## what is told of the calls' places, by the pure reader -/
def XB (h : Nat → Int) : Prop := h 0 ≤ 8 ∧ h 1 ≤ 8 ∧ h 2 ≤ 4 ∧ ∀ j : Nat, 131 ≤ j → j < 171 → h j ≤ 20
theorem XB.u {h : Nat → Int} {k : Nat} {v : Int} (g : XB h) (h1 : 3 ≤ k) (h2 : k < 131 ∨ 171 ≤ k ∨ v ≤ 20) : XB (uh h k v) := by
  obtain ⟨g0, g1, g2, g3⟩ := g
  refine ⟨?_, ?_, ?_, fun j ha hb => ?_⟩
  · rw [uh_n _ _ (by omega)]; exact g0
  · rw [uh_n _ _ (by omega)]; exact g1
  · rw [uh_n _ _ (by omega)]; exact g2
  · by_cases c : j = k
    · subst c
      rw [uh_s]
      omega
    · rw [uh_n _ _ c]
      exact g3 j ha hb
theorem XB.u0 {h : Nat → Int} {v : Int} (g : XB h) (hv : v ≤ 8) : XB (uh h 0 v) := by
  obtain ⟨g0, g1, g2, g3⟩ := g
  refine ⟨?_, ?_, ?_, fun j ha hb => ?_⟩
  · rw [uh_s]; exact hv
  · rw [uh_n _ _ (by omega)]; exact g1
  · rw [uh_n _ _ (by omega)]; exact g2
  · rw [uh_n _ _ (by omega)]; exact g3 j ha hb
theorem XB.u1 {h : Nat → Int} {v : Int} (g : XB h) (hv : v ≤ 8) : XB (uh h 1 v) := by
  obtain ⟨g0, g1, g2, g3⟩ := g
  refine ⟨?_, ?_, ?_, fun j ha hb => ?_⟩
  · rw [uh_n _ _ (by omega)]; exact g0
  · rw [uh_s]; exact hv
  · rw [uh_n _ _ (by omega)]; exact g2
  · rw [uh_n _ _ (by omega)]; exact g3 j ha hb
theorem XB.u2 {h : Nat → Int} {v : Int} (g : XB h) (hv : v ≤ 4) : XB (uh h 2 v) := by
  obtain ⟨g0, g1, g2, g3⟩ := g
  refine ⟨?_, ?_, ?_, fun j ha hb => ?_⟩
  · rw [uh_n _ _ (by omega)]; exact g0
  · rw [uh_n _ _ (by omega)]; exact g1
  · rw [uh_s]; exact hv
  · rw [uh_n _ _ (by omega)]; exact g3 j ha hb
theorem XB.cal {b : Nat → Int} {N mo f : Nat} (hf : f < 4) : ∀ {fu n q : Nat} {fr : Int} {h : Nat → Int} {s : Nat × Nat × (Nat → Int)}, n ≤ 10 → calP b N mo f fu n fr q h = .inr s → XB h → XB s.2.2
  | 0, n, q, fr, h, s, _, e, g => by
    cases e
    exact g
  | fu + 1, n, q, fr, h, s, hn, e, g => by
    unfold calP at e
    split at e
    · cases e
      exact g
    · split at e
      · cases e
      · rename_i c10
        obtain ⟨y, e1, e⟩ := bnd_inr e
        obtain ⟨x, e2, e⟩ := bnd_inr e
        obtain ⟨w, e3, e⟩ := bnd_inr e
        have hx := (num_ok e2).2.2.2.2
        exact XB.cal hf (by omega) e (((g.u (by omega) (Or.inl (by omega))).u (by omega) (Or.inr (Or.inr hx))).u (by omega) (Or.inr (Or.inl (by omega))))
theorem mno_rg {b : Nat → Int} {N mo o q : Nat} {h nm : Nat → Int} {k : Int} (e : mnoP b N mo o h nm q = .inr k) : 0 ≤ k ∧ k < ((h 1).toNat : Int) := by
  unfold mnoP at e
  obtain ⟨k1, e1, e⟩ := bnd_inr e
  split at e
  · cases e
  · cases e
    exact (lok_ok e1).2
theorem XB.lin {b : Nat → Int} {N mo : Nat} {z z1 : Zt} (e : linP b N mo z = .inr z1) (g : XB z.2.1) : XB z1.2.1 := by
  have g0 := g.1
  have g1 := g.2.1
  have g2 := g.2.2.1
  unfold linP at e
  split at e
  · obtain ⟨q1, e1, e⟩ := bnd_inr e
    obtain ⟨y, e2, e⟩ := bnd_inr e
    cases e
    exact g.u (by omega) (Or.inl (by omega))
  · split at e
    · obtain ⟨q1, e1, e⟩ := bnd_inr e
      obtain ⟨y, e2, e⟩ := bnd_inr e
      cases e
      exact g.u (by omega) (Or.inl (by omega))
    · split at e
      · obtain ⟨q1, e1, e⟩ := bnd_inr e
        split at e
        · cases e
        · obtain ⟨y, e2, e⟩ := bnd_inr e
          cases e
          exact (g.u (by omega) (Or.inl (by omega))).u (by omega) (Or.inl (by omega))
      · split at e
        · unfold hilP at e
          split at e
          · cases e
          · obtain ⟨_, e1, e⟩ := bnd_inr e
            obtain ⟨y, e2, e⟩ := bnd_inr e
            obtain ⟨w, e3, e⟩ := bnd_inr e
            cases e
            exact ((g.u (by omega) (Or.inl (by omega))).u (by omega) (Or.inl (by omega))).u0 (by omega)
        · split at e
          · obtain ⟨k, e1, e⟩ := bnd_inr e
            split at e
            · cases e
            · obtain ⟨y, e2, e⟩ := bnd_inr e
              have hk := (lok_ok e1).2
              cases e
              exact g.u (by omega) (Or.inl (by omega))
          · split at e
            · unfold manP at e
              split at e
              · cases e
              · obtain ⟨_, e1, e⟩ := bnd_inr e
                obtain ⟨k, e2, e⟩ := bnd_inr e
                obtain ⟨y, e3, e⟩ := bnd_inr e
                obtain ⟨w, e4, e⟩ := bnd_inr e
                cases e
                exact (((g.u (by omega) (Or.inl (by omega))).u (by omega) (Or.inl (by omega))).u (by omega) (Or.inl (by omega))).u1 (by omega)
            · split at e
              · obtain ⟨k, e1, e⟩ := bnd_inr e
                have hk := mno_rg e1
                cases e
                exact g.u (by omega) (Or.inl (by omega))
              · split at e
                · obtain ⟨k, e1, e⟩ := bnd_inr e
                  have hk := mno_rg e1
                  obtain ⟨k2, e2, e⟩ := bnd_inr e
                  split at e
                  · cases e
                  · cases e
                    exact g.u (by omega) (Or.inl (by omega))
                · split at e
                  · obtain ⟨k, e1, e⟩ := bnd_inr e
                    have hk := mno_rg e1
                    obtain ⟨y, e2, e⟩ := bnd_inr e
                    cases e
                    exact g.u (by omega) (Or.inl (by omega))
                  · split at e
                    · unfold fliP at e
                      split at e
                      · cases e
                      · rename_i c4
                        obtain ⟨c, e1, e⟩ := bnd_inr e
                        obtain ⟨l, e2, e⟩ := bnd_inr e
                        obtain ⟨s, e3, e⟩ := bnd_inr e
                        have gs := XB.cal (by omega) (by omega) e3 ((g.u (by omega) (Or.inl (by omega))).u (by omega) (Or.inl (by omega)))
                        cases e
                        exact (gs.u (by omega) (Or.inl (by omega))).u2 (by omega)
                    · cases e
theorem XB.val {b : Nat → Int} {N mo : Nat} : ∀ {fu n : Nat} {z : Zt} {y : Nat × Zt}, valP b N mo fu n z = .inr y → XB z.2.1 → XB y.2.2.1
  | 0, n, z, y, e, g => by
    cases e
    exact g
  | fu + 1, n, z, y, e, g => by
    unfold valP at e
    split at e
    · cases e
      exact g
    · obtain ⟨z1, e1, e⟩ := bnd_inr e
      unfold stpP at e1
      obtain ⟨z2, e2, e1⟩ := bnd_inr e1
      obtain ⟨q, e3, e1⟩ := bnd_inr e1
      cases e1
      exact XB.val e (show XB z2.2.1 from XB.lin e2 g)
theorem XB.z00 : XB h00 := ⟨by decide, by decide, by decide, fun j h1 h2 => by rw [h00_0 (by omega) (by omega)]; omega⟩
/-! ## rows that are copied -/
def RCp (σ0 σ : Nat → Nat → Int32) (s d n : Nat) : Prop := (∀ i j : Nat, i < n → j < 3 → σ (d + i) j = σ0 (s + i) j) ∧ ∀ k j : Nat, ¬ (d ≤ k ∧ k < d + n ∧ j < 3) → σ k j = σ0 k j
theorem RCp.rf {σ : Nat → Nat → Int32} {s d : Nat} : RCp σ σ s d 0 := ⟨fun i j h _ => absurd h (Nat.not_lt_zero i), fun _ _ _ => rfl⟩
theorem RCp.step {σ0 σ σ1 : Nat → Nat → Int32} {s d m j : Nat} {x y : Int} (h : RCp σ0 σ s d x.toNat) (u : RowN σ σ1 (d + j) 3) (v : ∀ q : Nat, q < 3 → σ1 (d + j) q = σ (s + j) q) (ej : x = (j : Int)) (hm : j < m) (hd : s = d ∨ s + m ≤ d ∨ d + m ≤ s) (ey : y = x + 1) : RCp σ0 σ1 s d y.toNat := by
  have e : x.toNat = j := by omega
  have e1 : y.toNat = j + 1 := by omega
  rw [e] at h
  rw [e1]
  refine ⟨fun i q hi hq => ?_, fun k q hk => ?_⟩
  · by_cases c : i = j
    · subst c
      rw [v q hq]
      exact h.2 _ _ (by omega)
    · rw [u (d + i) q (Or.inl (by omega))]
      exact h.1 i q (by omega) hq
  · rw [u k q (by omega)]
    exact h.2 k q (by omega)
/-- all that is told of a VALLEY is copied from the place s to the place d -/
def VCp (σ0 σ : Nat → Nat → Int32) (s d : Nat) : Prop := (∀ j : Nat, j < 7 → (σ d j).toInt = (σ0 s j).toInt) ∧ (∀ i j : Nat, i < (σ0 s 6).toInt.toNat → i < 4 → j < 3 → σ (4 * (d - 2) + 132 + i) j = σ0 (4 * (s - 2) + 132 + i) j) ∧ (∀ i j : Nat, i < 10 * (σ0 s 6).toInt.toNat → i < 40 → j < 3 → σ (40 * (d - 2) + 148 + i) j = σ0 (40 * (s - 2) + 148 + i) j) ∧ ∀ k j : Nat, (2 ≤ k ∧ k ≤ 5) ∨ (132 ≤ k ∧ k ≤ 307) → k ≠ d → ¬ (4 * (d - 2) + 132 ≤ k ∧ k < 4 * (d - 2) + 136) → ¬ (40 * (d - 2) + 148 ≤ k ∧ k < 40 * (d - 2) + 188) → j ≤ 6 → σ k j = σ0 k j
abbrev Gd_VC : List Rc := [(2, 5, 0, 6), (132, 307, 0, 6)]
theorem VCp.fr {L : List Rc} {σ0 σ σ1 : Nat → Nat → Int32} {s d : Nat} (h : VCp σ0 σ s d) (hd : 2 ≤ d ∧ d ≤ 5) (f : Fr L σ σ1) (hL : disRc L Gd_VC = true) : VCp σ0 σ1 s d := by
  have a : ∀ k j : Nat, (2 ≤ k ∧ k ≤ 5) ∨ (132 ≤ k ∧ k ≤ 307) → j ≤ 6 → σ1 k j = σ k j := fun k j hk hj => f.dis hL (by
    rcases hk with hk | hk
    · exact rc_in 0 rfl hk.1 hk.2 (Nat.zero_le _) hj
    · exact rc_in 1 rfl hk.1 hk.2 (Nat.zero_le _) hj)
  refine ⟨fun j hj => ?_, fun i j h1 h2 h3 => ?_, fun i j h1 h2 h3 => ?_, fun k j h1 h2 h3 h4 h5 => ?_⟩
  · rw [a d j (by omega) (by omega)]
    exact h.1 j hj
  · rw [a _ j (by omega) (by omega)]
    exact h.2.1 i j h1 h2 h3
  · rw [a _ j (by omega) (by omega)]
    exact h.2.2.1 i j h1 h2 h3
  · rw [a k j h1 h5]
    exact h.2.2.2 k j h1 h2 h3 h4 h5
theorem VCp.up {σ0 σ σ1 : Nat → Nat → Int32} {s d p q : Nat} (h : VCp σ0 σ s d) (hd : 2 ≤ d ∧ d ≤ 5) (u : Up1 σ σ1 p q) (hp : 5 < p ∧ p < 132) : VCp σ0 σ1 s d := by
  have a : ∀ k j : Nat, (2 ≤ k ∧ k ≤ 5) ∨ (132 ≤ k ∧ k ≤ 307) → σ1 k j = σ k j := fun k j hk => u k j (by omega)
  refine ⟨fun j hj => ?_, fun i j h1 h2 h3 => ?_, fun i j h1 h2 h3 => ?_, fun k j h1 h2 h3 h4 h5 => ?_⟩
  · rw [a d j (by omega)]
    exact h.1 j hj
  · rw [a _ j (by omega)]
    exact h.2.1 i j h1 h2 h3
  · rw [a _ j (by omega)]
    exact h.2.2.1 i j h1 h2 h3
  · rw [a k j h1]
    exact h.2.2.2 k j h1 h2 h3 h4 h5
theorem VCp.of {s0 s1 s2 s3 s4 s5 s6 s7 s8 s9 sa sb sc : Nat → Nat → Int32} {s d e : Nat} {z : Int32} (hs : 2 ≤ s ∧ s ≤ 5) (hd : 2 ≤ d ∧ d ≤ 5) (u0 : Up1 s0 s1 d 0) (v0 : (s1 d 0).toInt = (s0 s 0).toInt) (u1 : Up1 s1 s2 d 1) (v1 : (s2 d 1).toInt = (s1 s 1).toInt) (u2 : Up1 s2 s3 d 2) (v2 : (s3 d 2).toInt = (s2 s 2).toInt) (u3 : Up1 s3 s4 d 3) (v3 : (s4 d 3).toInt = (s3 s 3).toInt) (u4 : Up1 s4 s5 d 4) (v4 : (s5 d 4).toInt = (s4 s 4).toInt) (u5 : Up1 s5 s6 d 5) (v5 : (s6 d 5).toInt = (s5 s 5).toInt) (u6 : Up1 s6 s7 d 6) (v6 : (s7 d 6).toInt = (s6 s 6).toInt) (ue : RowN s7 s8 e 8) (he : 64 ≤ e ∧ e ≤ 67) (fh : Fr [(68, 99, 0, 3)] s8 s9) (fm : Fr [(100, 131, 0, 6)] s9 sa) (rf : RCp sa sb (4 * (s + 54 - 56) + 132) (4 * (d + 54 - 56) + 132) (sa d 6).toInt.toNat) (rc : RCp sb sc (40 * (s + 58 - 60) + 148) (40 * (d + 58 - 60) + 148) z.toInt.toNat) (ez : z.toInt = 10 * (sb d 6).toInt) (h4 : (s0 s 6).toInt ≤ 4) : VCp s0 sc s d := by
  have a : ∀ k j : Nat, k ≤ 5 ∨ 132 ≤ k → sa k j = s7 k j := fun k j hk => by
    rw [fm.atV k j (fun q hq => by rcases List.mem_singleton.mp hq with rfl; dsimp only; omega), fh.atV k j (fun q hq => by rcases List.mem_singleton.mp hq with rfl; dsimp only; omega), ue k j (Or.inl (by omega))]
  have b : ∀ k j : Nat, k ≠ d → s7 k j = s0 k j := fun k j hk => by
    rw [u6 k j (by omega), u5 k j (by omega), u4 k j (by omega), u3 k j (by omega), u2 k j (by omega), u1 k j (by omega), u0 k j (by omega)]
  have g : ∀ j : Nat, j < 7 → (s7 d j).toInt = (s0 s j).toInt := fun j hj => by
    rcases (show j = 0 ∨ j = 1 ∨ j = 2 ∨ j = 3 ∨ j = 4 ∨ j = 5 ∨ j = 6 by omega) with rfl | rfl | rfl | rfl | rfl | rfl | rfl
    · rw [u6 d 0 (by omega), u5 d 0 (by omega), u4 d 0 (by omega), u3 d 0 (by omega), u2 d 0 (by omega), u1 d 0 (by omega), v0]
    · rw [u6 d 1 (by omega), u5 d 1 (by omega), u4 d 1 (by omega), u3 d 1 (by omega), u2 d 1 (by omega), v1, u0 s 1 (by omega)]
    · rw [u6 d 2 (by omega), u5 d 2 (by omega), u4 d 2 (by omega), u3 d 2 (by omega), v2, u1 s 2 (by omega), u0 s 2 (by omega)]
    · rw [u6 d 3 (by omega), u5 d 3 (by omega), u4 d 3 (by omega), v3, u2 s 3 (by omega), u1 s 3 (by omega), u0 s 3 (by omega)]
    · rw [u6 d 4 (by omega), u5 d 4 (by omega), v4, u3 s 4 (by omega), u2 s 4 (by omega), u1 s 4 (by omega), u0 s 4 (by omega)]
    · rw [u6 d 5 (by omega), v5, u4 s 5 (by omega), u3 s 5 (by omega), u2 s 5 (by omega), u1 s 5 (by omega), u0 s 5 (by omega)]
    · rw [v6, u5 s 6 (by omega), u4 s 6 (by omega), u3 s 6 (by omega), u2 s 6 (by omega), u1 s 6 (by omega), u0 s 6 (by omega)]
  rw [show 4 * (s + 54 - 56) + 132 = 4 * (s - 2) + 132 by omega, show 4 * (d + 54 - 56) + 132 = 4 * (d - 2) + 132 by omega, a d 6 (by omega), g 6 (by omega)] at rf
  have e6 : (sb d 6).toInt = (s0 s 6).toInt := by rw [rf.2 d 6 (by omega), a d 6 (by omega), g 6 (by omega)]
  rw [show 40 * (s + 58 - 60) + 148 = 40 * (s - 2) + 148 by omega, show 40 * (d + 58 - 60) + 148 = 40 * (d - 2) + 148 by omega, show z.toInt.toNat = 10 * (s0 s 6).toInt.toNat by omega] at rc
  refine ⟨fun j hj => ?_, fun i j h1 h2 h3 => ?_, fun i j h1 h2 h3 => ?_, fun k j h1 h2 h3 h5 h6 => ?_⟩
  · rw [rc.2 d j (by omega), rf.2 d j (by omega), a d j (by omega)]
    exact g j hj
  · rw [rc.2 _ j (by omega), rf.1 i j h1 h3, a _ j (by omega), b _ j (by omega)]
  · rw [rc.1 i j h1 h3, rf.2 _ j (by omega), a _ j (by omega), b _ j (by omega)]
  · rw [rc.2 k j (by omega), rf.2 k j (by omega), a k j (by omega), b k j h2]
/-! ## what is told in the VALLEY at the place v -/
abbrev inV (v k j : Nat) : Prop := (k = v ∧ j ≤ 6) ∨ (4 * (v - 2) + 132 ≤ k ∧ k < 4 * (v - 2) + 136 ∧ j ≤ 2) ∨ (40 * (v - 2) + 148 ≤ k ∧ k < 40 * (v - 2) + 188 ∧ j ≤ 2)
def CV (σ : Nat → Nat → Int32) (v : Nat) (h : Nat → Int) : Prop := ((σ v 4).toInt = h 0 ∧ (σ v 5).toInt = h 1 ∧ (σ v 6).toInt = h 2 ∧ (σ v 1).toInt = h 4 ∧ (((σ v 0).toInt = h 3 ∧ h 3 ≤ 20) ∨ ((σ v 0).toInt = 20 ∧ h 3 = 99))) ∧ (∀ f : Nat, (f : Int) < h 2 → f < 4 → (σ (4 * (v - 2) + 132 + f) 0).toInt = h (79 + f) ∧ (σ (4 * (v - 2) + 132 + f) 1).toInt = h (83 + f) ∧ (σ (4 * (v - 2) + 132 + f) 2).toInt = h (87 + f)) ∧ (∀ f k : Nat, (f : Int) < h 2 → f < 4 → (k : Int) < h (87 + f) → k < 10 → (σ (40 * (v - 2) + 148 + (10 * f + k)) 0).toInt = h (91 + (10 * f + k)) ∧ (σ (40 * (v - 2) + 148 + (10 * f + k)) 1).toInt = h (131 + (10 * f + k)) ∧ (σ (40 * (v - 2) + 148 + (10 * f + k)) 2).toInt = h (171 + (10 * f + k))) ∧ ∀ j : Nat, 131 ≤ j → j < 171 → h j ≤ 20
theorem CV.fr {σ σ1 : Nat → Nat → Int32} {v : Nat} {h : Nat → Int} (g : CV σ v h) (a : ∀ k j : Nat, inV v k j → σ1 k j = σ k j) : CV σ1 v h := by
  refine ⟨?_, fun f h1 h2 => ?_, fun f k h1 h2 h3 h4 => ?_, g.2.2.2⟩
  · rw [a v 4 (by omega), a v 5 (by omega), a v 6 (by omega), a v 1 (by omega), a v 0 (by omega)]
    exact g.1
  · rw [a (4 * (v - 2) + 132 + f) 0 (by omega), a (4 * (v - 2) + 132 + f) 1 (by omega), a (4 * (v - 2) + 132 + f) 2 (by omega)]
    exact g.2.1 f h1 h2
  · rw [a (40 * (v - 2) + 148 + (10 * f + k)) 0 (by omega), a (40 * (v - 2) + 148 + (10 * f + k)) 1 (by omega), a (40 * (v - 2) + 148 + (10 * f + k)) 2 (by omega)]
    exact g.2.2.1 f k h1 h2 h3 h4
theorem CV.cg {σ : Nat → Nat → Int32} {v : Nat} {h h' : Nat → Int} (g : CV σ v h) (e : ∀ j : Nat, j < 211 → h' j = h j) : CV σ v h' := by
  refine ⟨?_, fun f h1 h2 => ?_, fun f k h1 h2 h3 h4 => ?_, fun j h1 h2 => ?_⟩
  · rw [e 0 (by omega), e 1 (by omega), e 2 (by omega), e 3 (by omega), e 4 (by omega)]
    exact g.1
  · rw [e 2 (by omega)] at h1
    rw [e (79 + f) (by omega), e (83 + f) (by omega), e (87 + f) (by omega)]
    exact g.2.1 f h1 h2
  · rw [e 2 (by omega)] at h1
    rw [e (87 + f) (by omega)] at h3
    rw [e (91 + (10 * f + k)) (by omega), e (131 + (10 * f + k)) (by omega), e (171 + (10 * f + k)) (by omega)]
    exact g.2.2.1 f k h1 h2 h3 h4
  · rw [e j (by omega)]
    exact g.2.2.2 j h1 h2
theorem CV.of3 {σ : Nat → Nat → Int32} {h : Nat → Int} (g1 : CS σ h) (g2 : CF σ h) (g3 : XB h) : CV σ 3 h := by
  refine ⟨g1, fun f h1 h2 => ?_, fun f k h1 h2 h3 h4 => ?_, g3.2.2.2⟩
  · rw [show 4 * (3 - 2) + 132 + f = 136 + f by omega]
    exact g2.1 f h1 h2
  · rw [show 40 * (3 - 2) + 148 + (10 * f + k) = 188 + (10 * f + k) by omega]
    exact g2.2 f k h1 h2 h3 h4
theorem CV.cp {σ0 σ : Nat → Nat → Int32} {s d : Nat} {h : Nat → Int} (g : CV σ0 s h) (c : VCp σ0 σ s d) : CV σ d h := by
  have g2 := g.1.2.2.1
  refine ⟨?_, fun f h1 h2 => ?_, fun f k h1 h2 h3 h4 => ?_, g.2.2.2⟩
  · rw [c.1 4 (by omega), c.1 5 (by omega), c.1 6 (by omega), c.1 1 (by omega), c.1 0 (by omega)]
    exact g.1
  · rw [c.2.1 f 0 (by omega) h2 (by omega), c.2.1 f 1 (by omega) h2 (by omega), c.2.1 f 2 (by omega) h2 (by omega)]
    exact g.2.1 f h1 h2
  · rw [c.2.2.1 (10 * f + k) 0 (by omega) (by omega) (by omega), c.2.2.1 (10 * f + k) 1 (by omega) (by omega) (by omega), c.2.2.1 (10 * f + k) 2 (by omega) (by omega) (by omega)]
    exact g.2.2.1 f k h1 h2 h3 h4
theorem VCp.ne {σ0 σ : Nat → Nat → Int32} {s d v : Nat} (c : VCp σ0 σ s d) (hv : 2 ≤ v ∧ v ≤ 5) (hd : 2 ≤ d ∧ d ≤ 5) (hn : v ≠ d) : ∀ k j : Nat, inV v k j → σ k j = σ0 k j := fun k j hk => c.2.2.2 k j (by omega) (by omega) (by omega) (by omega) (by omega)
theorem CV.ne {σ0 σ : Nat → Nat → Int32} {s d v : Nat} {h : Nat → Int} (g : CV σ0 v h) (c : VCp σ0 σ s d) (hv : 2 ≤ v ∧ v ≤ 5) (hd : 2 ≤ d ∧ d ≤ 5) (hn : v ≠ d) : CV σ v h := g.fr (c.ne hv hd hn)
abbrev Gd_S3 : List Rc := [(3, 3, 0, 6), (136, 139, 0, 2), (188, 227, 0, 2)]
theorem CV.f3 {L : List Rc} {σ σ1 : Nat → Nat → Int32} {h : Nat → Int} (g : CV σ 3 h) (f : Fr L σ σ1) (hL : disRc L Gd_S3 = true) : CV σ1 3 h := g.fr fun k j hk => f.dis hL (by
    rcases hk with hk | hk | hk
    · exact rc_in 0 rfl (by omega) (by omega) (by omega) (by omega)
    · exact rc_in 1 rfl (by omega) (by omega) (by omega) (by omega)
    · exact rc_in 2 rfl (by omega) (by omega) (by omega) (by omega))
abbrev Gd_SV : List Rc := [(2, 2, 0, 6), (4, 5, 0, 6), (132, 135, 0, 2), (140, 147, 0, 2), (148, 187, 0, 2), (228, 307, 0, 2)]
/-- the VALLEYS that are kept, at the places 2, 4 and 5, stand as they were -/
def SmV (σ0 σ : Nat → Nat → Int32) : Prop := ∀ v k j : Nat, v = 2 ∨ v = 4 ∨ v = 5 → inV v k j → σ k j = σ0 k j
theorem SmV.of {L : List Rc} {σ σ1 : Nat → Nat → Int32} (f : Fr L σ σ1) (hL : disRc L Gd_SV = true) : SmV σ σ1 := fun v k j hv hk => f.dis hL (by
    rcases hv with rfl | rfl | rfl
    · rcases hk with hk | hk | hk
      · exact rc_in 0 rfl (by omega) (by omega) (by omega) (by omega)
      · exact rc_in 2 rfl (by omega) (by omega) (by omega) (by omega)
      · exact rc_in 4 rfl (by omega) (by omega) (by omega) (by omega)
    · rcases hk with hk | hk | hk
      · exact rc_in 1 rfl (by omega) (by omega) (by omega) (by omega)
      · exact rc_in 3 rfl (by omega) (by omega) (by omega) (by omega)
      · exact rc_in 5 rfl (by omega) (by omega) (by omega) (by omega)
    · rcases hk with hk | hk | hk
      · exact rc_in 1 rfl (by omega) (by omega) (by omega) (by omega)
      · exact rc_in 3 rfl (by omega) (by omega) (by omega) (by omega)
      · exact rc_in 5 rfl (by omega) (by omega) (by omega) (by omega))
theorem SmV.tr {σ σ1 σ2 : Nat → Nat → Int32} (a : SmV σ σ1) (c : SmV σ1 σ2) : SmV σ σ2 := fun v k j hv hk => (c v k j hv hk).trans (a v k j hv hk)
theorem CV.sm {σ σ1 : Nat → Nat → Int32} {v : Nat} {h : Nat → Int} (g : CV σ v h) (a : SmV σ σ1) (hv : v = 2 ∨ v = 4 ∨ v = 5) : CV σ1 v h := g.fr fun k j hk => a v k j hv hk
/-- what valley() does to the VALLEYS of the class -/
def VZc (σ0 σ : Nat → Nat → Int32) (b : Nat → Int) (N : Nat) : Prop := ((∃ f : Fq, valP b N 900 941 0 (z00 b N 900) = .inl f) ∧ SmV σ0 σ) ∨ ∃ y : Nat × Zt, valP b N 900 941 0 (z00 b N 900) = .inr y ∧ CV σ 2 y.2.2.1 ∧ ∀ v k j : Nat, v = 4 ∨ v = 5 → inV v k j → σ k j = σ0 k j
theorem VZc.ok {L1 L2 L3 L4 L5 L6 : List Rc} {σ0 s1 s2 s3 s4 s5 s6 s7 : Nat → Nat → Int32} {τ : Nat → Nat → Int64} {b : Nat → Int} {N : Nat} {y : Nat × Zt} (f1 : Fr L1 σ0 s1) (h1 : disRc L1 Gd_SV = true) (f2 : Fr L2 s1 s2) (h2 : disRc L2 Gd_SV = true) (e : valP b N 900 941 0 (z00 b N 900) = .inr y) (g : CR s2 τ b N 900 y.2) (f3 : Fr L3 s2 s3) (h3 : disRc L3 Gd_SV = true) (h3b : disRc L3 Gd_S3 = true) (c : VCp s3 s4 3 2) (f4 : Fr L4 s4 s5) (h4 : disRc L4 Gd_SV = true) (f5 : Fr L5 s5 s6) (h5 : disRc L5 Gd_SV = true) (f6 : Fr L6 s6 s7) (h6 : disRc L6 Gd_SV = true) : VZc σ0 s7 b N := by
  have a : SmV σ0 s3 := ((SmV.of f1 h1).tr (SmV.of f2 h2)).tr (SmV.of f3 h3)
  have d : SmV s4 s7 := ((SmV.of f4 h4).tr (SmV.of f5 h5)).tr (SmV.of f6 h6)
  have g3 : CV s3 3 y.2.2.1 := (CV.of3 g.2.2.1 g.2.2.2.2.1 (XB.val e XB.z00)).f3 f3 h3b
  refine Or.inr ⟨y, e, (g3.cp c).sm d (by omega), fun v k j hv hk => ?_⟩
  rw [d v k j (by omega) hk, c.ne (v := v) (by omega) (by omega) (by omega) k j hk, a v k j (by omega) hk]
theorem VZc.no {L1 L2 L3 : List Rc} {σ0 s1 s2 s3 : Nat → Nat → Int32} {b : Nat → Int} {N : Nat} {f : Fq} (f1 : Fr L1 σ0 s1) (h1 : disRc L1 Gd_SV = true) (f2 : Fr L2 s1 s2) (h2 : disRc L2 Gd_SV = true) (e : valP b N 900 941 0 (z00 b N 900) = .inl f) (f3 : Fr L3 s2 s3) (h3 : disRc L3 Gd_SV = true) : VZc σ0 s3 b N := Or.inl ⟨⟨f, e⟩, ((SmV.of f1 h1).tr (SmV.of f2 h2)).tr (SmV.of f3 h3)⟩
/-! ## images -/
def KO (σ0 σ : Nat → Nat → Int32) (k : Nat) : Prop := ∀ q : Nat, 29 ≤ q → q ≤ 30 → q ≠ k → σ q 3 = σ0 q 3
theorem KO.of3 {La Lb Lc : List Rc} {σ0 σ1 σ2 σ3 σ4 : Nat → Nat → Int32} {k : Nat} (fa : Fr La σ0 σ1) (ha : disRc La [(29, 30, 3, 3)] = true) (fb : Fr Lb σ1 σ2) (hb : disRc Lb [(29, 30, 3, 3)] = true) (fc : Fr Lc σ2 σ3) (hc : disRc Lc [(29, 30, 3, 3)] = true) (u : Up1 σ3 σ4 k 3) : KO σ0 σ4 k := fun q h1 h2 hn => by
  rw [u q 3 (by omega), fc.dis hc ⟨_, List.mem_of_getElem? (i := 0) rfl, h1, h2, by decide, by decide⟩, fb.dis hb ⟨_, List.mem_of_getElem? (i := 0) rfl, h1, h2, by decide, by decide⟩, fa.dis ha ⟨_, List.mem_of_getElem? (i := 0) rfl, h1, h2, by decide, by decide⟩]
def ICp (σ0 σ : Nat → Nat → Int32) (i : Nat) : Prop := VCp σ0 σ 2 (4 + i) ∧ (σ (29 + i) 3).toInt = 1 ∧ KO σ0 σ (29 + i)
/-- what image() does in the class -/
def IMc (σ0 σ : Nat → Nat → Int32) (a : Int32) : Prop := ((a.toInt < 0 ∨ 1 < a.toInt) ∧ σ = σ0) ∨ ∃ i : Nat, i < 2 ∧ a.toInt = (i : Int) ∧ ICp σ0 σ i
theorem IMc.of {σ0 σ : Nat → Nat → Int32} {a : Int32} {j : Nat} (ej : a.toInt = (j : Int)) (h : j ≤ 1) (c : VCp σ0 σ 2 (29 + j - 25)) (k1 : (σ (29 + j) 3).toInt = 1) (ko : KO σ0 σ (29 + j)) : IMc σ0 σ a := by
  rw [show 29 + j - 25 = 4 + j by omega] at c
  exact Or.inr ⟨j, by omega, ej, c, k1, ko⟩
/-- what restore() does in the class -/
def RSc (σ0 σ : Nat → Nat → Int32) (a : Int32) : Prop := ((a.toInt < 0 ∨ 1 < a.toInt ∨ ∃ i : Nat, i < 2 ∧ a.toInt = (i : Int) ∧ (σ0 (29 + i) 3).toInt = 0) ∧ σ = σ0) ∨ ∃ i : Nat, i < 2 ∧ a.toInt = (i : Int) ∧ (σ0 (29 + i) 3).toInt ≠ 0 ∧ VCp σ0 σ (4 + i) 2
theorem RSc.of {L : List Rc} {σ0 σ σ1 : Nat → Nat → Int32} {a : Int32} {j : Nat} (ej : a.toInt = (j : Int)) (h : j ≤ 1) (hz : (σ0 (29 + j) 3).toInt ≠ 0) (c : VCp σ0 σ (29 + j - 25) 2) (f : Fr L σ σ1) (hL : disRc L Gd_VC = true) : RSc σ0 σ1 a := by
  rw [show 29 + j - 25 = 4 + j by omega] at c
  exact Or.inr ⟨j, by omega, ej, hz, c.fr (by omega) f hL⟩
theorem RSc.no {σ0 : Nat → Nat → Int32} {a : Int32} {j : Nat} (ej : a.toInt = (j : Int)) (h : j ≤ 1) (hz : (σ0 (29 + j) 3).toInt = 0) : RSc σ0 σ0 a := Or.inl ⟨Or.inr (Or.inr ⟨j, by omega, ej, hz⟩), rfl⟩
/-! ## what flight(), call() and count() answer of numbers told -/
def flH (h : Nat → Int) (f w : Int) : Int := if 0 ≤ f ∧ f < h 2 ∧ 0 ≤ w ∧ w < 3 then (if w = 0 then h (79 + f.toNat) else if w = 1 then h (83 + f.toNat) else h (87 + f.toNat)) else -1
theorem flH_no {h : Nat → Int} {f w : Int} (hn : f < 0 ∨ h 2 ≤ f ∨ w < 0 ∨ 2 < w) : flH h f w = -1 := if_neg (by omega)
theorem flH_0 {h : Nat → Int} {f : Int} (h1 : 0 ≤ f) (h2 : f < h 2) : flH h f 0 = h (79 + f.toNat) := (if_pos ⟨h1, h2, by omega, by omega⟩).trans (if_pos rfl)
theorem flH_1 {h : Nat → Int} {f : Int} (h1 : 0 ≤ f) (h2 : f < h 2) : flH h f 1 = h (83 + f.toNat) := (if_pos ⟨h1, h2, by omega, by omega⟩).trans ((if_neg (by omega)).trans (if_pos rfl))
theorem flH_2 {h : Nat → Int} {f : Int} (h1 : 0 ≤ f) (h2 : f < h 2) : flH h f 2 = h (87 + f.toNat) := (if_pos ⟨h1, h2, by omega, by omega⟩).trans ((if_neg (by omega)).trans (if_neg (by omega)))
theorem flC {σ : Nat → Nat → Int32} {h : Nat → Int} {f w : Int} {i j : Nat} (g : CV σ 2 h) (ei : f = (i : Int)) (ej : w = (j : Int)) (h2 : f < h 2) (hi : i < 4) (hj : j < 3) : (σ (132 + i) j).toInt = flH h f w := by
  have g2 := g.2.1 i (by omega) hi
  rw [show 4 * (2 - 2) + 132 + i = 132 + i by omega] at g2
  subst ei ej
  rcases (show j = 0 ∨ j = 1 ∨ j = 2 by omega) with rfl | rfl | rfl
  · rw [show ((0 : Nat) : Int) = 0 from rfl, flH_0 (by omega) h2, show ((i : Int)).toNat = i from rfl]
    exact g2.1
  · rw [show ((1 : Nat) : Int) = 1 from rfl, flH_1 (by omega) h2, show ((i : Int)).toNat = i from rfl]
    exact g2.2.1
  · rw [show ((2 : Nat) : Int) = 2 from rfl, flH_2 (by omega) h2, show ((i : Int)).toNat = i from rfl]
    exact g2.2.2
theorem CV.n2 {σ : Nat → Nat → Int32} {h : Nat → Int} (g : CV σ 2 h) : (σ 2 6).toInt = h 2 := g.1.2.2.1
theorem CV.c2 {σ : Nat → Nat → Int32} {h : Nat → Int} {f : Int} {i : Nat} (g : CV σ 2 h) (ei : f = (i : Int)) (h2 : f < h 2) (hi : i < 4) : (σ (132 + i) 2).toInt = h (87 + f.toNat) := by
  have g2 := g.2.1 i (by omega) hi
  rw [show 4 * (2 - 2) + 132 + i = 132 + i by omega] at g2
  subst ei
  exact g2.2.2
def caH (h : Nat → Int) (f k w : Int) : Int := if 0 ≤ f ∧ f < h 2 ∧ 0 ≤ k ∧ k < h (87 + f.toNat) ∧ 0 ≤ w ∧ w < 4 then (if w = 0 then h (91 + (10 * f.toNat + k.toNat)) else if w = 1 then h (131 + (10 * f.toNat + k.toNat)) else if w = 2 then h (171 + (10 * f.toNat + k.toNat)) else if h 3 < h (131 + (10 * f.toNat + k.toNat)) then 1 else 0) else -1
theorem caH_no {h : Nat → Int} {f k w : Int} (hn : f < 0 ∨ h 2 ≤ f ∨ k < 0 ∨ h (87 + f.toNat) ≤ k ∨ w < 0 ∨ 3 < w) : caH h f k w = -1 := if_neg (by omega)
theorem caH_0 {h : Nat → Int} {f k : Int} (h1 : 0 ≤ f) (h2 : f < h 2) (h3 : 0 ≤ k) (h4 : k < h (87 + f.toNat)) : caH h f k 0 = h (91 + (10 * f.toNat + k.toNat)) := (if_pos ⟨h1, h2, h3, h4, by omega, by omega⟩).trans (if_pos rfl)
theorem caH_1 {h : Nat → Int} {f k : Int} (h1 : 0 ≤ f) (h2 : f < h 2) (h3 : 0 ≤ k) (h4 : k < h (87 + f.toNat)) : caH h f k 1 = h (131 + (10 * f.toNat + k.toNat)) := (if_pos ⟨h1, h2, h3, h4, by omega, by omega⟩).trans ((if_neg (by omega)).trans (if_pos rfl))
theorem caH_2 {h : Nat → Int} {f k : Int} (h1 : 0 ≤ f) (h2 : f < h 2) (h3 : 0 ≤ k) (h4 : k < h (87 + f.toNat)) : caH h f k 2 = h (171 + (10 * f.toNat + k.toNat)) := (if_pos ⟨h1, h2, h3, h4, by omega, by omega⟩).trans ((if_neg (by omega)).trans ((if_neg (by omega)).trans (if_pos rfl)))
theorem caH_3 {h : Nat → Int} {f k r : Int} (h1 : 0 ≤ f) (h2 : f < h 2) (h3 : 0 ≤ k) (h4 : k < h (87 + f.toNat)) (hr : (r = 1 ∧ h 3 < h (131 + (10 * f.toNat + k.toNat))) ∨ (r = 0 ∧ h (131 + (10 * f.toNat + k.toNat)) ≤ h 3)) : r = caH h f k 3 := by
  refine Eq.symm ((if_pos ⟨h1, h2, h3, h4, by omega, by omega⟩).trans ((if_neg (by omega)).trans ((if_neg (by omega)).trans ((if_neg (by omega)).trans ?_))))
  rcases hr with ⟨e, c⟩ | ⟨e, c⟩
  · rw [if_pos c, e]
  · rw [if_neg (by omega), e]
theorem caC {σ : Nat → Nat → Int32} {h : Nat → Int} {f k w : Int} {q j : Nat} (g : CV σ 2 h) (h1 : 0 ≤ f) (hf : f ≤ 3) (h2 : f < h 2) (h3 : 0 ≤ k) (hk : k ≤ 9) (h4 : k < h (87 + f.toNat)) (eq : q = 148 + (10 * f.toNat + k.toNat)) (ej : w = (j : Int)) (hj : j < 3) : (σ q j).toInt = caH h f k w := by
  have g2 := g.2.2.1 f.toNat k.toNat (by omega) (by omega) (by omega) (by omega)
  rw [show 40 * (2 - 2) + 148 + (10 * f.toNat + k.toNat) = q by omega] at g2
  subst ej
  rcases (show j = 0 ∨ j = 1 ∨ j = 2 by omega) with rfl | rfl | rfl
  · rw [show ((0 : Nat) : Int) = 0 from rfl, caH_0 h1 h2 h3 h4]
    exact g2.1
  · rw [show ((1 : Nat) : Int) = 1 from rfl, caH_1 h1 h2 h3 h4]
    exact g2.2.1
  · rw [show ((2 : Nat) : Int) = 2 from rfl, caH_2 h1 h2 h3 h4]
    exact g2.2.2
theorem caC3 {σ : Nat → Nat → Int32} {h : Nat → Int} {f k w r : Int} {q : Nat} (g : CV σ 2 h) (h1 : 0 ≤ f) (hf : f ≤ 3) (h2 : f < h 2) (h3 : 0 ≤ k) (hk : k ≤ 9) (h4 : k < h (87 + f.toNat)) (eq : q = 148 + (10 * f.toNat + k.toNat)) (ew : w = 3) (hr : (r = 1 ∧ (σ 2 0).toInt < (σ q 1).toInt) ∨ (r = 0 ∧ (σ q 1).toInt ≤ (σ 2 0).toInt)) : r = caH h f k w := by
  have g2 := g.2.2.1 f.toNat k.toNat (by omega) (by omega) (by omega) (by omega)
  rw [show 40 * (2 - 2) + 148 + (10 * f.toNat + k.toNat) = q by omega] at g2
  have g5 := g.1.2.2.2.2
  have g6 := g.2.2.2 (131 + (10 * f.toNat + k.toNat)) (by omega) (by omega)
  have g7 := g2.2.1
  subst ew
  exact caH_3 h1 h2 h3 h4 (by omega)
def chS (h : Nat → Int) : Nat → Int
  | 0 => 0
  | n + 1 => chS h n + h (79 + n)
theorem chS_s {h : Nat → Int} {x y : Int} (hx : 0 ≤ x) (ey : y = x + 1) : chS h y.toNat = chS h x.toNat + h (79 + x.toNat) := by
  rw [show y.toNat = x.toNat + 1 by omega]
  rfl
theorem CV.ch {σ : Nat → Nat → Int32} {h : Nat → Int} {f : Int} {i : Nat} (g : CV σ 2 h) (ei : f = (i : Int)) (h2 : f < h 2) (hi : i < 4) : (σ (132 + i) 0).toInt = h (79 + f.toNat) := by
  have g2 := g.2.1 i (by omega) hi
  rw [show 4 * (2 - 2) + 132 + i = 132 + i by omega] at g2
  subst ei
  exact g2.1
def coH (h : Nat → Int) (sz w : Int) : Int := if w = 0 then h 0 else if w = 1 then h 1 else if w = 2 then h 2 else if w = 3 then chS h (h 2).toNat else if w = 4 then h 4 else if w = 5 then sz else -1
theorem coH_of {h : Nat → Int} {sz w r : Int} (hr : (w = 0 ∧ r = h 0) ∨ (w = 1 ∧ r = h 1) ∨ (w = 2 ∧ r = h 2) ∨ (w = 3 ∧ r = chS h (h 2).toNat) ∨ (w = 4 ∧ r = h 4) ∨ (w = 5 ∧ r = sz) ∨ ((w < 0 ∨ 5 < w) ∧ r = -1)) : r = coH h sz w := by
  unfold coH
  rcases hr with ⟨e, hr⟩ | ⟨e, hr⟩ | ⟨e, hr⟩ | ⟨e, hr⟩ | ⟨e, hr⟩ | ⟨e, hr⟩ | ⟨e, hr⟩
  · rw [if_pos e, hr]
  · rw [if_neg (by omega), if_pos e, hr]
  · rw [if_neg (by omega), if_neg (by omega), if_pos e, hr]
  · rw [if_neg (by omega), if_neg (by omega), if_neg (by omega), if_pos e, hr]
  · rw [if_neg (by omega), if_neg (by omega), if_neg (by omega), if_neg (by omega), if_pos e, hr]
  · rw [if_neg (by omega), if_neg (by omega), if_neg (by omega), if_neg (by omega), if_neg (by omega), if_pos e, hr]
  · rw [if_neg (by omega), if_neg (by omega), if_neg (by omega), if_neg (by omega), if_neg (by omega), if_neg (by omega), hr]
