/-! ## lines of the class's reader -/
def xb (x : Int32) (i : Nat) : Bool := x.toBitVec.getLsbD i
theorem xb_ext {x y : Int32} (h : ∀ i, i < 32 → xb x i = xb y i) : x = y := Int32.toBitVec_inj.mp (BitVec.eq_of_getLsbD_eq (fun i hi => h i hi))
theorem xb_and (x y : Int32) (i : Nat) : xb (x &&& y) i = (xb x i && xb y i) := by unfold xb; rw [Int32.toBitVec_and, BitVec.getLsbD_and]
theorem xb_0 (i : Nat) : xb 0 i = false := BitVec.getLsbD_zero
theorem xb_1 : ∀ i, i < 32 → xb 1 i = decide (i = 0) := by decide +kernel
theorem xs_l : ∀ n, n < 32 → ((nI n &&& 31).toBitVec.smod 32).toNat = n := by decide +kernel
theorem xb_shl (n : Nat) (hn : n < 32) (x : Int32) {i : Nat} (hi : i < 32) : xb (x <<< (nI n &&& 31)) i = (decide (n ≤ i) && xb x (i - n)) := by
  unfold xb
  rw [Int32.toBitVec_shiftLeft]
  show (x.toBitVec <<< ((nI n &&& 31).toBitVec.smod 32).toNat).getLsbD i = _
  rw [xs_l n hn, BitVec.getLsbD_shiftLeft]
  rcases Nat.lt_or_ge i n with h | h
  · simp [h, Nat.not_le.mpr h]
  · simp [hi, h, Nat.not_lt.mpr h]
theorem xb_sshr (n : Nat) (hn : n < 32) (x : Int32) {i : Nat} (hi : i < 32) : xb (x >>> (nI n &&& 31)) i = if n + i < 32 then xb x (n + i) else xb x 31 := by
  unfold xb
  rw [Int32.toBitVec_shiftRight]
  show (x.toBitVec.sshiftRight ((nI n &&& 31).toBitVec.smod 32).toNat).getLsbD i = _
  rw [xs_l n hn, BitVec.getLsbD_sshiftRight, BitVec.msb_eq_getLsbD_last]
  simp [hi]
theorem tbq_xb {w : Int32} {k : Nat} (hk : k < 32) : tbq w k ↔ xb w k = true := by
  constructor
  · intro h
    have h1 : xb ((w >>> (nI k &&& 31)) &&& 1) 0 = xb 1 0 := congrArg (fun x => xb x 0) h
    rw [xb_and, xb_sshr k hk w (by omega), if_pos (by omega), xb_1 0 (by omega)] at h1
    simpa using h1
  · intro h
    refine xb_ext fun i hi => ?_
    rw [xb_and, xb_1 i hi]
    by_cases c : i = 0
    · subst c
      rw [xb_sshr k hk w (by omega), if_pos (by omega)]
      simp [h]
    · simp [c]
theorem and_xb {w : Int32} {k : Nat} (hk : k < 32) : w &&& ((1 : Int32) <<< (nI k &&& 31)) = 0 ↔ xb w k = false := by
  constructor
  · intro h
    have h1 : xb (w &&& ((1 : Int32) <<< (nI k &&& 31))) k = xb 0 k := congrArg (fun x => xb x k) h
    rw [xb_and, xb_shl k hk 1 hk, xb_0, Nat.sub_self, xb_1 0 (by omega)] at h1
    simpa using h1
  · intro h
    refine xb_ext fun i hi => ?_
    rw [xb_and, xb_shl k hk 1 hi, xb_0]
    by_cases c : i = k
    · subst c
      simp [h]
    · by_cases c2 : k ≤ i
      · rw [xb_1 (i - k) (by omega)]
        have : ¬ (i - k = 0) := by omega
        simp [this]
      · simp [c2]
theorem i32_of {x : Int32} {k : Nat} (h : x.toInt = (k : Int)) (hk : k < 2147483648) : x = nI k := Int32.toInt_inj.mp (by rw [h, nI_toInt (by omega)])
theorem i32_0 {x : Int32} : x.toInt = 0 ↔ x = 0 := ⟨fun h => Int32.toInt_inj.mp (by rw [h]; rfl), fun h => by rw [h]; rfl⟩
theorem i32_1 {x : Int32} : x.toInt = 1 ↔ x = 1 := ⟨fun h => Int32.toInt_inj.mp (by rw [h]; rfl), fun h => by rw [h]; rfl⟩
/-- a word told: the class asks so -/
theorem tb_y {w x : Int32} {k : Nat} (e : x.toInt = (k : Int)) (hk : k < 32) (h : ¬ (w &&& ((1 : Int32) <<< (x &&& 31))).toInt = 0) : tbq w k := by
  have e := i32_of e (by omega)
  subst e
  refine (tbq_xb hk).mpr ?_
  cases c : xb w k
  · exact absurd (i32_0.mpr ((and_xb hk).mpr c)) h
  · rfl
theorem tb_n {w x : Int32} {k : Nat} (e : x.toInt = (k : Int)) (hk : k < 32) (h : (w &&& ((1 : Int32) <<< (x &&& 31))).toInt = 0) : ¬ tbq w k := by
  have e := i32_of e (by omega)
  subst e
  intro g
  have g1 := (tbq_xb hk).mp g
  rw [(and_xb hk).mp (i32_0.mp h)] at g1
  cases g1
theorem sb_e {w x v : Int32} {k : Nat} (e : x.toInt = (k : Int)) (hk : k < 32) (h : v.toInt = (w ||| ((1 : Int32) <<< (x &&& 31))).toInt) : v = sbq w k := by
  have e := i32_of e (by omega)
  subst e
  exact Int32.toInt_inj.mp h
/-- a fall told: class and model ask so -/
theorem tb_y2 {w x : Int32} {k : Nat} (e : x.toInt = (k : Int)) (hk : k < 32) (h : ((w >>> (x &&& 31)) &&& 1).toInt = 1) : tbq w k := by
  have e := i32_of e (by omega)
  subst e
  exact i32_1.mp h
theorem tb_n2 {w x : Int32} {k : Nat} (e : x.toInt = (k : Int)) (hk : k < 32) (h : ((w >>> (x &&& 31)) &&& 1).toInt ≠ 1) : ¬ tbq w k := by
  have e := i32_of e (by omega)
  subst e
  exact fun g => h (i32_1.mpr g)
theorem ti_a255 {z : Int32} (h : 0 ≤ z.toInt ∧ z.toInt ≤ 255) : (z &&& 255).toInt = z.toInt := by
  obtain ⟨j, hj⟩ : ∃ j : Nat, z.toInt = (j : Int) := ⟨z.toInt.toNat, by omega⟩
  have e := i32_of hj (by omega)
  subst e
  rw [pk_andN (m := 255) (by omega) 8 (by decide), nI_toInt (by omega), nI_toInt (by omega)]
  omega
theorem num_ok {b : Nat → Int} {N mo q : Nat} {lo hi : Int} {y : Nat × Int} (e : numP b N mo lo hi q = .inr y) : tkq b N mo q = 46 ∧ y.1 = nxq b N mo q ∧ y.2 = nuq b N q ∧ lo ≤ y.2 ∧ y.2 ≤ hi := by
  unfold numP at e
  split at e
  · cases e
  · rename_i c
    split at e
    · cases e
    · cases e
      exact ⟨by omega, rfl, rfl, by show lo ≤ nuq b N q; omega, by show nuq b N q ≤ hi; omega⟩
theorem new_47 {b : Nat → Int} {N mo q : Nat} {h nm : Nat → Int} {u : Unit} (e : newP b N mo h nm q = .inr u) : tkq b N mo q = 47 := by
  unfold newP at e
  split at e
  · cases e
  · rename_i c
    omega
theorem lok_ok {b : Nat → Int} {N mo q n : Nat} {f : Nat → Int} {k : Int} (e : lokP b N mo f n q = .inr k) : tkq b N mo q = 47 ∧ 0 ≤ k ∧ k < (n : Int) := by
  unfold lokP at e
  split at e
  · cases e
  · rename_i c
    split at e
    · cases e
    · cases e
      have := fndq_rg f (wdq b N q) n
      exact ⟨by omega, by omega, by omega⟩
theorem Fr.r2a {L : List Rc} {σ σ1 : Nat → Nat → Int32} {k j : Nat} (f : Fr L σ σ1) (hs : subRc L [(1, 1, 7, 14)] = true) : Fr [(1, 1, 7, 14), (k, k, j, j)] σ σ1 := by
  intro a c hn
  exact (Fr.step (L' := [(1, 1, 7, 14)]) Fr.rf f hs) a c (fun q hq => hn q (by simp only [List.mem_cons, List.not_mem_nil, or_false] at hq ⊢; exact Or.inl hq))
theorem Fr.r2b {σ σ1 σ2 : Nat → Nat → Int32} {k j : Nat} (f : Fr [(1, 1, 7, 14), (k, k, j, j)] σ σ1) (u : Up1 σ1 σ2 k j) : Fr [(1, 1, 7, 14), (k, k, j, j)] σ σ2 := f.puts u 1 rfl (Nat.le_refl _) (Nat.le_refl _) (Nat.le_refl _) (Nat.le_refl _)
theorem Fr.r2t {σ σ1 : Nat → Nat → Int32} {k j : Nat} (f : Fr [(1, 1, 7, 14), (k, k, j, j)] σ σ1) {a c : Nat} (h1 : a ≠ 1) (h2 : ¬ (a = k ∧ c = j)) : σ1 a c = σ a c := by
  refine f a c fun q hq hin => ?_
  simp only [List.mem_cons, List.not_mem_nil, or_false] at hq
  rcases hq with rfl | rfl <;> dsimp only [inRc] at hin <;> omega
theorem CS.h {σ : Nat → Nat → Int32} {h h' : Nat → Int} (g : CS σ h) (e : ∀ j : Nat, j ≤ 4 → h' j = h j) : CS σ h' := by
  unfold CS
  rw [e 0 (by omega), e 1 (by omega), e 2 (by omega), e 3 (by omega), e 4 (by omega)]
  exact g
theorem CS.rid {σ σ1 : Nat → Nat → Int32} {h : Nat → Int} {v : Int} (g : CS σ h) (u : Up1 σ σ1 3 0) (e : (σ1 3 0).toInt = v) (hv : v ≤ 20) : CS σ1 (uh h 3 v) := by
  unfold CS
  rw [u 3 4 (by omega), u 3 5 (by omega), u 3 6 (by omega), u 3 1 (by omega), uh_n h v (show (0 : Nat) ≠ 3 by omega), uh_n h v (show (1 : Nat) ≠ 3 by omega), uh_n h v (show (2 : Nat) ≠ 3 by omega), uh_n h v (show (4 : Nat) ≠ 3 by omega), uh_s]
  exact ⟨g.1, g.2.1, g.2.2.1, g.2.2.2.1, Or.inl ⟨e, hv⟩⟩
theorem CS.whe {σ σ1 : Nat → Nat → Int32} {h : Nat → Int} {v : Int} (g : CS σ h) (u : Up1 σ σ1 3 1) (e : (σ1 3 1).toInt = v) : CS σ1 (uh h 4 v) := by
  unfold CS
  rw [u 3 4 (by omega), u 3 5 (by omega), u 3 6 (by omega), u 3 0 (by omega), uh_n h v (show (0 : Nat) ≠ 4 by omega), uh_n h v (show (1 : Nat) ≠ 4 by omega), uh_n h v (show (2 : Nat) ≠ 4 by omega), uh_n h v (show (3 : Nat) ≠ 4 by omega), uh_s]
  exact ⟨g.1, g.2.1, g.2.2.1, e, g.2.2.2.2⟩
theorem CS.cnt {σ σ1 : Nat → Nat → Int32} {h : Nat → Int} {o : Nat} (g : CS σ h) (ho : o ≤ 2) (u : Up1 σ σ1 3 (4 + o)) (e : (σ1 3 (4 + o)).toInt = h o + 1) : CS σ1 (uh h o (h o + 1)) := by
  obtain ⟨g0, g1, g2, g3, g4⟩ := g
  unfold CS
  rw [u 3 1 (by omega), u 3 0 (by omega), uh_n h (h o + 1) (show (4 : Nat) ≠ o by omega), uh_n h (h o + 1) (show (3 : Nat) ≠ o by omega)]
  rcases (show o = 0 ∨ o = 1 ∨ o = 2 by omega) with rfl | rfl | rfl
  · rw [u 3 5 (by omega), u 3 6 (by omega), uh_s, uh_n h _ (show (1 : Nat) ≠ 0 by omega), uh_n h _ (show (2 : Nat) ≠ 0 by omega)]
    exact ⟨e, g1, g2, g3, g4⟩
  · rw [u 3 4 (by omega), u 3 6 (by omega), uh_s, uh_n h _ (show (0 : Nat) ≠ 1 by omega), uh_n h _ (show (2 : Nat) ≠ 1 by omega)]
    exact ⟨g0, e, g2, g3, g4⟩
  · rw [u 3 4 (by omega), u 3 5 (by omega), uh_s, uh_n h _ (show (0 : Nat) ≠ 2 by omega), uh_n h _ (show (1 : Nat) ≠ 2 by omega)]
    exact ⟨g0, g1, e, g3, g4⟩
theorem CS.c0 {σ σ1 : Nat → Nat → Int32} {h : Nat → Int} (g : CS σ h) (u : Up1 σ σ1 3 4) (e : (σ1 3 4).toInt = h 0 + 1) : CS σ1 (uh h 0 (h 0 + 1)) := g.cnt (o := 0) (by omega) u e
theorem CS.c1 {σ σ1 : Nat → Nat → Int32} {h : Nat → Int} (g : CS σ h) (u : Up1 σ σ1 3 5) (e : (σ1 3 5).toInt = h 1 + 1) : CS σ1 (uh h 1 (h 1 + 1)) := g.cnt (o := 1) (by omega) u e
theorem CS.c2 {σ σ1 : Nat → Nat → Int32} {h : Nat → Int} (g : CS σ h) (u : Up1 σ σ1 3 6) (e : (σ1 3 6).toInt = h 2 + 1) : CS σ1 (uh h 2 (h 2 + 1)) := g.cnt (o := 2) (by omega) u e
theorem CN.hil2 {τ τ1 : Nat → Nat → Int64} {b : Nat → Int} {h nm : Nat → Int} {x : Int64} {w : Int} {k : Nat} (g : CN τ b h nm) (u : Up1L τ τ1 41 k) (v : τ1 41 k = x) (r : NR b x w) (hk : h 0 = (k : Int)) (hk8 : k < 8) : CN τ1 b (uh h 0 (h 0 + 1)) (uh nm (h 0).toNat w) := by
  rw [show (h 0).toNat = k by omega]
  exact g.hil u v r hk hk8 (uh_s _ _ _) (uh_n _ _ (by omega))
theorem CN.man2 {τ τ1 : Nat → Nat → Int64} {b : Nat → Int} {h nm : Nat → Int} {x : Int64} {w : Int} {k : Nat} (g : CN τ b h nm) (u : Up1L τ τ1 45 k) (v : τ1 45 k = x) (r : NR b x w) (hk : h 1 = (k : Int)) (hk8 : k < 8) : CN τ1 b (uh h 1 (h 1 + 1)) (uh nm (8 + (h 1).toNat) w) := by
  rw [show (h 1).toNat = k by omega]
  refine ⟨fun i h1 h2 => ?_, fun i h1 h2 => ?_⟩
  · rw [uh_n _ _ (by omega)] at h1
    rw [u 41 i (by omega), uh_n _ _ (by omega)]
    exact g.1 i h1 h2
  · rw [uh_s] at h1
    by_cases c : i = k
    · subst c
      rw [v, uh_s]
      exact r
    · rw [u 45 i (by omega), uh_n _ _ (by omega)]
      exact g.2 i (by omega) h2
theorem CM.at {σ : Nat → Nat → Int32} {h : Nat → Int} {i j o : Nat} {u : Int} (g : CM σ h) (hi : (i : Int) < h 1) (h8 : i < 8) (hj : (j = 3 ∧ o = 55 ∧ u = 0) ∨ (j = 4 ∧ o = 63 ∧ u = -1) ∨ (j = 5 ∧ o = 71 ∧ u = -1)) : ((σ (108 + i) j).toInt = u ∧ ¬ 0 < h (o + i)) ∨ ((σ (108 + i) j).toInt ≠ u ∧ 0 < h (o + i)) := by
  have g1 := g.1 i hi h8
  rcases hj with ⟨rfl, rfl, rfl⟩ | ⟨rfl, rfl, rfl⟩ | ⟨rfl, rfl, rfl⟩ <;> omega
theorem CM.set {σ σ1 : Nat → Nat → Int32} {h : Nat → Int} {i j o : Nat} {v : Int} (g : CM σ h) (u : Up1 σ σ1 (108 + i) j) (hi : (i : Int) < h 1) (h8 : i < 8) (hj : (j = 3 ∧ o = 55 ∧ (σ1 (108 + i) j).toInt = v) ∨ (j = 4 ∧ o = 63 ∧ (σ1 (108 + i) j).toInt = v - 1) ∨ (j = 5 ∧ o = 71 ∧ (σ1 (108 + i) j).toInt = v - 1)) (hv : 0 ≤ v) : CM σ1 (uh h (o + i) v) := by
  have ho : 55 ≤ o ∧ o ≤ 71 := by omega
  refine ⟨fun a h1 h2 => ?_, fun a h1 h2 => ?_⟩
  · rw [uh_n h v (show (1 : Nat) ≠ o + i by omega)] at h1
    have g1 := g.1 a h1 h2
    by_cases c : a = i
    · subst c
      rcases hj with ⟨rfl, rfl, e⟩ | ⟨rfl, rfl, e⟩ | ⟨rfl, rfl, e⟩
      · rw [u (108 + a) 4 (by omega), u (108 + a) 5 (by omega), uh_s, uh_n h v (show 63 + a ≠ 55 + a by omega), uh_n h v (show 71 + a ≠ 55 + a by omega)]
        omega
      · rw [u (108 + a) 3 (by omega), u (108 + a) 5 (by omega), uh_s, uh_n h v (show 55 + a ≠ 63 + a by omega), uh_n h v (show 71 + a ≠ 63 + a by omega)]
        omega
      · rw [u (108 + a) 3 (by omega), u (108 + a) 4 (by omega), uh_s, uh_n h v (show 55 + a ≠ 71 + a by omega), uh_n h v (show 63 + a ≠ 71 + a by omega)]
        omega
    · rw [u (108 + a) 3 (by omega), u (108 + a) 4 (by omega), u (108 + a) 5 (by omega), uh_n h v (show 55 + a ≠ o + i by omega), uh_n h v (show 63 + a ≠ o + i by omega), uh_n h v (show 71 + a ≠ o + i by omega)]
      exact g1
  · rw [uh_n h v (show (1 : Nat) ≠ o + i by omega)] at h1
    have g1 := g.2 a h1 h2
    rw [uh_n h v (show 55 + a ≠ o + i by omega), uh_n h v (show 63 + a ≠ o + i by omega), uh_n h v (show 71 + a ≠ o + i by omega)]
    exact g1
theorem CM.man {σ σ1 : Nat → Nat → Int32} {h h' : Nat → Int} {k : Nat} (g : CM σ h) (hk : h 1 = (k : Int)) (hk8 : k < 8) (a : ∀ i j : Nat, i < 8 → i ≠ k → σ1 (108 + i) j = σ (108 + i) j) (v3 : (σ1 (108 + k) 3).toInt = 0) (v4 : (σ1 (108 + k) 4).toInt = -1) (v5 : (σ1 (108 + k) 5).toInt = -1) (e1 : h' 1 = h 1 + 1) (e : ∀ j : Nat, 55 ≤ j → j ≤ 78 → h' j = h j) : CM σ1 h' := by
  refine ⟨fun i h1 h2 => ?_, fun i h1 h2 => ?_⟩
  · rw [e (55 + i) (by omega) (by omega), e (63 + i) (by omega) (by omega), e (71 + i) (by omega) (by omega)]
    by_cases c : i = k
    · subst c
      have g2 := g.2 i (by omega) h2
      omega
    · rw [a i 3 h2 c, a i 4 h2 c, a i 5 h2 c]
      exact g.1 i (by omega) h2
  · rw [e (55 + i) (by omega) (by omega), e (63 + i) (by omega) (by omega), e (71 + i) (by omega) (by omega)]
    exact g.2 i (by omega) h2
theorem CM.sf {σ σ1 : Nat → Nat → Int32} {h : Nat → Int} {i : Nat} {v : Int} (g : CM σ h) (f : Fr [(1, 1, 7, 14), (108 + i, 108 + i, 5, 5)] σ σ1) (hi : (i : Int) < h 1) (h8 : i < 8) (e : (σ1 (108 + i) 5).toInt = v - 1) (hv : 0 ≤ v) : CM σ1 (uh h (71 + i) v) := by
  refine ⟨fun a h1 h2 => ?_, fun a h1 h2 => ?_⟩
  · rw [uh_n h v (show (1 : Nat) ≠ 71 + i by omega)] at h1
    have g1 := g.1 a h1 h2
    rw [uh_n h v (show 55 + a ≠ 71 + i by omega), uh_n h v (show 63 + a ≠ 71 + i by omega), f.r2t (show 108 + a ≠ 1 by omega) (show ¬ (108 + a = 108 + i ∧ 3 = 5) by omega), f.r2t (show 108 + a ≠ 1 by omega) (show ¬ (108 + a = 108 + i ∧ 4 = 5) by omega)]
    by_cases c : a = i
    · subst c
      rw [uh_s]
      omega
    · rw [uh_n h v (show 71 + a ≠ 71 + i by omega), f.r2t (show 108 + a ≠ 1 by omega) (show ¬ (108 + a = 108 + i ∧ 5 = 5) by omega)]
      exact g1
  · rw [uh_n h v (show (1 : Nat) ≠ 71 + i by omega)] at h1
    have g1 := g.2 a h1 h2
    rw [uh_n h v (show 55 + a ≠ 71 + i by omega), uh_n h v (show 63 + a ≠ 71 + i by omega), uh_n h v (show 71 + a ≠ 71 + i by omega)]
    exact g1
theorem uh2 {h : Nat → Int} {a c j : Nat} {x y : Int} (e1 : j ≠ a) (e2 : j ≠ c) : uh (uh h a x) c y j = h j := by rw [uh_n _ _ e2, uh_n _ _ e1]
theorem uh3 {h : Nat → Int} {a c d j : Nat} {x y z : Int} (e1 : j ≠ a) (e2 : j ≠ c) (e3 : j ≠ d) : uh (uh (uh h a x) c y) d z j = h j := by rw [uh_n _ _ e3, uh_n _ _ e2, uh_n _ _ e1]
theorem uh4 {h : Nat → Int} {a c d g j : Nat} {x y z w : Int} (e1 : j ≠ a) (e2 : j ≠ c) (e3 : j ≠ d) (e4 : j ≠ g) : uh (uh (uh (uh h a x) c y) d z) g w j = h j := by rw [uh_n _ _ e4, uh_n _ _ e3, uh_n _ _ e2, uh_n _ _ e1]
theorem uh3e {h : Nat → Int} {a c d j : Nat} {x y z : Int} (e1 : j ≠ a) (e2 : j ≠ c) : uh (uh (uh h a x) c y) d z j = uh h d z j := by
  by_cases e : j = d
  · subst e
    rw [uh_s, uh_s]
  · rw [uh_n _ _ e, uh_n _ _ e, uh_n _ _ e2, uh_n _ _ e1]
theorem uh4e {h : Nat → Int} {a c d g j : Nat} {x y z w : Int} (e1 : j ≠ a) (e2 : j ≠ c) (e3 : j ≠ d) : uh (uh (uh (uh h a x) c y) d z) g w j = uh h g w j := by
  by_cases e : j = g
  · subst e
    rw [uh_s, uh_s]
  · rw [uh_n _ _ e, uh_n _ _ e, uh_n _ _ e3, uh_n _ _ e2, uh_n _ _ e1]
theorem bnd_inr {A B : Type} {x : Fq ⊕ A} {f : A → Fq ⊕ B} {c : B} (e : bnd x f = .inr c) : ∃ a : A, x = .inr a ∧ f a = .inr c := by
  cases x with
  | inl l => cases e
  | inr a => exact ⟨a, rfl, e⟩
theorem mno_ok {b : Nat → Int} {N mo o q : Nat} {h nm : Nat → Int} {k : Int} (e : mnoP b N mo o h nm q = .inr k) : 0 ≤ k ∧ k < ((h 1).toNat : Int) := by
  obtain ⟨a, e1, e⟩ := bnd_inr e
  split at e
  · cases e
  · cases e
    exact (lok_ok e1).2
theorem CR.mk {σ : Nat → Nat → Int32} {τ : Nat → Nat → Int64} {b : Nat → Int} {N mo q : Nat} {h nm : Nat → Int} {on fa : Int32} (g1 : CT σ τ b N mo q) (g2 : CN τ b h nm) (g3 : CS σ h) (g4 : CM σ h) (g5 : CF σ h) (g6 : σ 6 3 = on) (g7 : σ 6 4 = fa) : CR σ τ b N mo (q, h, nm, on, fa) := ⟨g1, g2, g3, g4, g5, g6, g7⟩
theorem lin_0 {b : Nat → Int} {N mo : Nat} {z : Zt} (h : tkq b N mo z.1 = 0) : linP b N mo z = ridP b N mo z := by unfold linP; rw [if_pos h]
theorem lin_1 {b : Nat → Int} {N mo : Nat} {z : Zt} (h : tkq b N mo z.1 = 1) : linP b N mo z = wheP b N mo z := by unfold linP; rw [if_neg (by omega), if_pos h]
theorem lin_2 {b : Nat → Int} {N mo : Nat} {z : Zt} (h : tkq b N mo z.1 = 2) : linP b N mo z = winP b N mo z := by unfold linP; rw [if_neg (by omega), if_neg (by omega), if_pos h]
theorem lin_7 {b : Nat → Int} {N mo : Nat} {z : Zt} (h : tkq b N mo z.1 = 7) : linP b N mo z = hilP b N mo z := by unfold linP; rw [if_neg (by omega), if_neg (by omega), if_neg (by omega), if_pos h]
theorem lin_8 {b : Nat → Int} {N mo : Nat} {z : Zt} (h : tkq b N mo z.1 = 8) : linP b N mo z = falP b N mo z := by unfold linP; rw [if_neg (by omega), if_neg (by omega), if_neg (by omega), if_neg (by omega), if_pos h]
theorem lin_9 {b : Nat → Int} {N mo : Nat} {z : Zt} (h : tkq b N mo z.1 = 9) : linP b N mo z = manP b N mo z := by unfold linP; rw [if_neg (by omega), if_neg (by omega), if_neg (by omega), if_neg (by omega), if_neg (by omega), if_pos h]
theorem lin_10 {b : Nat → Int} {N mo : Nat} {z : Zt} (h : tkq b N mo z.1 = 10) : linP b N mo z = oldP b N mo z := by unfold linP; rw [if_neg (by omega), if_neg (by omega), if_neg (by omega), if_neg (by omega), if_neg (by omega), if_neg (by omega), if_pos h]
theorem lin_11 {b : Nat → Int} {N mo : Nat} {z : Zt} (h : tkq b N mo z.1 = 11) : linP b N mo z = deaP b N mo z := by unfold linP; rw [if_neg (by omega), if_neg (by omega), if_neg (by omega), if_neg (by omega), if_neg (by omega), if_neg (by omega), if_neg (by omega), if_pos h]
theorem lin_12 {b : Nat → Int} {N mo : Nat} {z : Zt} (h : tkq b N mo z.1 = 12) : linP b N mo z = neeP b N mo z := by unfold linP; rw [if_neg (by omega), if_neg (by omega), if_neg (by omega), if_neg (by omega), if_neg (by omega), if_neg (by omega), if_neg (by omega), if_neg (by omega), if_pos h]
theorem lin_13 {b : Nat → Int} {N mo : Nat} {z : Zt} (h : tkq b N mo z.1 = 13) : linP b N mo z = fliP b N mo z := by unfold linP; rw [if_neg (by omega), if_neg (by omega), if_neg (by omega), if_neg (by omega), if_neg (by omega), if_neg (by omega), if_neg (by omega), if_neg (by omega), if_neg (by omega), if_pos h]
theorem lin_x {b : Nat → Int} {N mo : Nat} {z : Zt} (h : tkq b N mo z.1 < 0 ∨ (2 < tkq b N mo z.1 ∧ tkq b N mo z.1 < 7) ∨ 13 < tkq b N mo z.1) : linP b N mo z = .inl (1, (z.1 : Int)) := by unfold linP; rw [if_neg (by omega), if_neg (by omega), if_neg (by omega), if_neg (by omega), if_neg (by omega), if_neg (by omega), if_neg (by omega), if_neg (by omega), if_neg (by omega), if_neg (by omega)]
/-! ## a reader goes on -/
/-- q1 is q or behind it, and within the text where q is -/
def Gq (N mo q q1 : Nat) : Prop := q ≤ q1 ∧ (q ≤ N → (mo < N → q ≤ mo) → q1 ≤ N ∧ (mo < N → q1 ≤ mo))
theorem Gq.rf {N mo q : Nat} : Gq N mo q q := ⟨Nat.le_refl _, fun a b => ⟨a, b⟩⟩
theorem Gq.tr {N mo q q1 q2 : Nat} (h : Gq N mo q q1) (g : Gq N mo q1 q2) : Gq N mo q q2 := ⟨Nat.le_trans h.1 g.1, fun a b => g.2 (h.2 a b).1 (h.2 a b).2⟩
theorem Gq.nx {b : Nat → Int} {N mo q : Nat} : Gq N mo q (nxq b N mo q) := by
  by_cases c : endq N mo q
  · rw [nxq_end c]
    exact Gq.rf
  · refine ⟨Nat.le_of_lt (nxq_gt c), fun a d => ⟨nxq_le a, fun g => ?_⟩⟩
    rw [nxq_go c]
    by_cases c3 : mo < N ∧ mo ≤ skpE b N (tEnd b N q)
    · rw [lmq_lim c3]
      exact Nat.le_refl _
    · rw [lmq_id c3]
      omega
theorem Gq.num {b : Nat → Int} {N mo q : Nat} {lo hi : Int} {y : Nat × Int} (e : numP b N mo lo hi q = .inr y) : Gq N mo q y.1 := by
  rw [(num_ok e).2.1]
  exact Gq.nx
theorem Gq.onc {b : Nat → Int} {N mo q k q1 : Nat} {w : Int32} (e : oncP b N mo w k q = .inr q1) : Gq N mo q q1 := by
  unfold oncP at e
  split at e
  · cases e
  · cases e
    exact Gq.nx
theorem Gq.cal {b : Nat → Int} {N mo f : Nat} : ∀ {fu n q : Nat} {fr : Int} {h : Nat → Int} {s : Nat × Nat × (Nat → Int)}, calP b N mo f fu n fr q h = .inr s → Gq N mo q s.1
  | 0, n, q, fr, h, s, e => by
    cases e
    exact Gq.rf
  | fu + 1, n, q, fr, h, s, e => by
    unfold calP at e
    split at e
    · cases e
      exact Gq.rf
    · split at e
      · cases e
      · obtain ⟨y, e1, e⟩ := bnd_inr e
        obtain ⟨x, e2, e⟩ := bnd_inr e
        obtain ⟨w, e3, e⟩ := bnd_inr e
        exact (Gq.num e1).tr ((Gq.num e2).tr ((Gq.num e3).tr (Gq.cal e)))
theorem Gq.lin {b : Nat → Int} {N mo : Nat} {z z1 : Zt} (e : linP b N mo z = .inr z1) : Gq N mo z.1 z1.1 := by
  unfold linP at e
  split at e
  · obtain ⟨q1, e1, e⟩ := bnd_inr e
    obtain ⟨y, e2, e⟩ := bnd_inr e
    cases e
    exact (Gq.onc e1).tr (Gq.num e2)
  · split at e
    · obtain ⟨q1, e1, e⟩ := bnd_inr e
      obtain ⟨y, e2, e⟩ := bnd_inr e
      cases e
      exact (Gq.onc e1).tr (Gq.num e2)
    · split at e
      · obtain ⟨q1, e1, e⟩ := bnd_inr e
        split at e
        · cases e
        · obtain ⟨y, e2, e⟩ := bnd_inr e
          cases e
          exact (Gq.onc e1).tr (Gq.nx.tr (Gq.num e2))
      · split at e
        · unfold hilP at e
          split at e
          · cases e
          · obtain ⟨_, e1, e⟩ := bnd_inr e
            obtain ⟨y, e2, e⟩ := bnd_inr e
            obtain ⟨w, e3, e⟩ := bnd_inr e
            cases e
            exact Gq.nx.tr (Gq.nx.tr ((Gq.num e2).tr (Gq.num e3)))
        · split at e
          · obtain ⟨k, e1, e⟩ := bnd_inr e
            split at e
            · cases e
            · obtain ⟨y, e2, e⟩ := bnd_inr e
              cases e
              exact Gq.nx.tr (Gq.nx.tr (Gq.num e2))
          · split at e
            · unfold manP at e
              split at e
              · cases e
              · obtain ⟨_, e1, e⟩ := bnd_inr e
                obtain ⟨k, e2, e⟩ := bnd_inr e
                obtain ⟨y, e3, e⟩ := bnd_inr e
                obtain ⟨w, e4, e⟩ := bnd_inr e
                cases e
                exact Gq.nx.tr (Gq.nx.tr (Gq.nx.tr ((Gq.num e3).tr (Gq.num e4))))
            · split at e
              · obtain ⟨k, e1, e⟩ := bnd_inr e
                cases e
                exact Gq.nx.tr Gq.nx
              · split at e
                · obtain ⟨k, e1, e⟩ := bnd_inr e
                  obtain ⟨k2, e2, e⟩ := bnd_inr e
                  split at e
                  · cases e
                  · cases e
                    exact Gq.nx.tr (Gq.nx.tr Gq.nx)
                · split at e
                  · obtain ⟨k, e1, e⟩ := bnd_inr e
                    obtain ⟨y, e2, e⟩ := bnd_inr e
                    cases e
                    exact Gq.nx.tr (Gq.nx.tr (Gq.num e2))
                  · split at e
                    · unfold fliP at e
                      split at e
                      · cases e
                      · obtain ⟨c, e1, e⟩ := bnd_inr e
                        obtain ⟨l, e2, e⟩ := bnd_inr e
                        obtain ⟨s, e3, e⟩ := bnd_inr e
                        cases e
                        exact Gq.nx.tr ((Gq.num e1).tr ((Gq.num e2).tr (Gq.cal e3)))
                    · cases e
theorem tak_ok {b : Nat → Int} {N mo q q1 : Nat} {k : Int} (e : takP b N mo k q = .inr q1) : tkq b N mo q = k ∧ q1 = nxq b N mo q := by
  unfold takP at e
  split at e
  · cases e
  · rename_i c
    cases e
    exact ⟨by omega, rfl⟩
theorem stp_go {b : Nat → Int} {N mo q2 : Nat} {z z1 : Zt} (e1 : linP b N mo z = .inr z1) (e2 : takP b N mo 40 z1.1 = .inr q2) : stpP b N mo z = .inr (q2, z1.2) ∧ z.1 + 1 ≤ q2 ∧ (z.1 ≤ N → (mo < N → z.1 ≤ mo) → q2 ≤ N ∧ (mo < N → q2 ≤ mo)) := by
  have h := tak_ok e2
  have g := Gq.lin e1
  have g2 : Gq N mo z1.1 (nxq b N mo z1.1) := Gq.nx
  have c : z1.1 < nxq b N mo z1.1 := nxq_gt (tkq_in (b := b) (by omega) (by omega))
  refine ⟨?_, ?_, ?_⟩
  · unfold stpP
    rw [e1, bnd_r, e2, bnd_r]
  · have := g.1
    omega
  · intro a d
    rw [h.2]
    exact (g.tr g2).2 a d
theorem valP_e {b : Nat → Int} {N mo fu n : Nat} {z : Zt} (h : tkq b N mo z.1 = 48) : valP b N mo fu n z = .inr (n, z) := by
  cases fu with
  | zero => rfl
  | succ fu =>
    unfold valP
    rw [if_pos h]
theorem valP_s {b : Nat → Int} {N mo fu n : Nat} {z z1 : Zt} (h : tkq b N mo z.1 ≠ 48) (e : stpP b N mo z = .inr z1) : valP b N mo (fu + 1) n z = valP b N mo fu (n + 1) z1 := by
  rw [valP, if_neg h, e, bnd_r]
theorem valP_f {b : Nat → Int} {N mo fu n : Nat} {z : Zt} {f : Fq} (h : tkq b N mo z.1 ≠ 48) (e : stpP b N mo z = .inl f) : valP b N mo (fu + 1) n z = .inl f := by
  rw [valP, if_neg h, e, bnd_l]
theorem stp_f1 {b : Nat → Int} {N mo : Nat} {z : Zt} {f : Fq} (e1 : linP b N mo z = .inl f) : stpP b N mo z = .inl f := by
  unfold stpP
  rw [e1, bnd_l]
theorem stp_f2 {b : Nat → Int} {N mo : Nat} {z z1 : Zt} {f : Fq} (e1 : linP b N mo z = .inr z1) (e2 : takP b N mo 40 z1.1 = .inl f) : stpP b N mo z = .inl f := by
  unfold stpP
  rw [e1, bnd_r, e2, bnd_l]
/-- what valley() answers -/
def valA (b : Nat → Int) (N : Nat) : Int := match valP b N 900 941 0 (z00 b N 900) with
  | .inl f => -1 - f.2
  | .inr y => (y.1 : Int)
theorem valA_l {b : Nat → Int} {N : Nat} {f : Fq} (e : valP b N 900 941 0 (z00 b N 900) = .inl f) : valA b N = -1 - f.2 := by
  unfold valA
  rw [e]
theorem valA_r {b : Nat → Int} {N : Nat} {y : Nat × Zt} (e : valP b N 900 941 0 (z00 b N 900) = .inr y) : valA b N = (y.1 : Int) := by
  unfold valA
  rw [e]
/-! ## a FLIGHT in the class's spare VALLEY -/
abbrev erl (f j : Nat) : Prop := j < 79 ∨ (79 ≤ j ∧ j < 79 + f) ∨ (83 ≤ j ∧ j < 83 + f) ∨ (87 ≤ j ∧ j < 87 + f) ∨ (91 ≤ j ∧ j < 91 + 10 * f) ∨ (131 ≤ j ∧ j < 131 + 10 * f) ∨ (171 ≤ j ∧ j < 171 + 10 * f)
def FI (σ : Nat → Nat → Int32) (h hh : Nat → Int) (f n : Nat) : Prop := CF σ h ∧ (∀ j : Nat, erl f j → hh j = h j) ∧ ((σ (136 + f) 0).toInt = hh (79 + f) ∧ (σ (136 + f) 1).toInt = hh (83 + f) ∧ (σ (136 + f) 2).toInt = (n : Int)) ∧ ∀ k : Nat, k < n → (σ (188 + (10 * f + k)) 0).toInt = hh (91 + (10 * f + k)) ∧ (σ (188 + (10 * f + k)) 1).toInt = hh (131 + (10 * f + k)) ∧ (σ (188 + (10 * f + k)) 2).toInt = hh (171 + (10 * f + k))
theorem CF.keep {σ σ1 : Nat → Nat → Int32} {h : Nat → Int} {f : Nat} (g : CF σ h) (hf : h 2 = (f : Int)) (a : ∀ k j : Nat, (136 ≤ k ∧ k < 136 + f) ∨ (188 ≤ k ∧ k < 188 + 10 * f) → σ1 k j = σ k j) : CF σ1 h := by
  refine ⟨fun i h1 h2 => ?_, fun i k h1 h2 h3 h4 => ?_⟩
  · rw [a (136 + i) 0 (by omega), a (136 + i) 1 (by omega), a (136 + i) 2 (by omega)]
    exact g.1 i h1 h2
  · rw [a (188 + (10 * i + k)) 0 (by omega), a (188 + (10 * i + k)) 1 (by omega), a (188 + (10 * i + k)) 2 (by omega)]
    exact g.2 i k h1 h2 h3 h4
theorem FI.beg {σ σ1 σ2 σ3 : Nat → Nat → Int32} {h : Nat → Int} {f p2 : Nat} {c l : Int} (g : CF σ h) (hf : h 2 = (f : Int)) (hf4 : f < 4) (hp : p2 = 136 + f) (u : Up1 σ σ1 p2 2) (v : (σ1 p2 2).toInt = 0) (f1 : Fr [(1, 1, 7, 14), (p2, p2, 0, 0)] σ1 σ2) (v1 : (σ2 p2 0).toInt = c) (f2 : Fr [(1, 1, 7, 14), (p2, p2, 1, 1)] σ2 σ3) (v2 : (σ3 p2 1).toInt = l) : FI σ3 h (uh (uh h (79 + f) c) (83 + f) l) f 0 := by
  subst hp
  refine ⟨g.keep hf fun k j hk => ?_, fun j hj => ?_, ⟨?_, ?_, ?_⟩, fun k hk => absurd hk (Nat.not_lt_zero k)⟩
  · rw [f2.r2t (by omega) (by omega), f1.r2t (by omega) (by omega), u k j (by omega)]
  · exact uh2 (by omega) (by omega)
  · rw [f2.r2t (by omega) (by omega), v1, uh_n _ _ (by omega), uh_s]
  · rw [v2, uh_s]
  · rw [f2.r2t (by omega) (by omega), f1.r2t (by omega) (by omega), v]
    rfl
theorem FI.step {σ σ1 σ2 σ3 σ4 : Nat → Nat → Int32} {h hh : Nat → Int} {f n p2 P : Nat} {y x w : Int} (g : FI σ h hh f n) (hf : h 2 = (f : Int)) (hf4 : f < 4) (hn : n < 10) (hp : p2 = 136 + f) (hP : P = 188 + (10 * f + n)) (f1 : Fr [(1, 1, 7, 14), (P, P, 0, 0)] σ σ1) (v1 : (σ1 P 0).toInt = y) (f2 : Fr [(1, 1, 7, 14), (P, P, 1, 1)] σ1 σ2) (v2 : (σ2 P 1).toInt = x) (f3 : Fr [(1, 1, 7, 14), (P, P, 2, 2)] σ2 σ3) (v3 : (σ3 P 2).toInt = w) (u : Up1 σ3 σ4 p2 2) (v : (σ4 p2 2).toInt = (n : Int) + 1) : FI σ4 h (uh (uh (uh hh (91 + (10 * f + n)) y) (131 + (10 * f + n)) x) (171 + (10 * f + n)) w) f (n + 1) := by
  subst hp hP
  obtain ⟨g1, g2, ⟨g3, g4, g5⟩, g6⟩ := g
  have a : ∀ k j : Nat, k ≠ 1 → k ≠ 188 + (10 * f + n) → ¬ (k = 136 + f ∧ j = 2) → σ4 k j = σ k j := fun k j h1 h2 h3 => by rw [u k j (by omega), f3.r2t h1 (by omega), f2.r2t h1 (by omega), f1.r2t h1 (by omega)]
  refine ⟨g1.keep hf fun k j hk => a k j (by omega) (by omega) (by omega), fun j hj => ?_, ⟨?_, ?_, ?_⟩, fun k hk => ?_⟩
  · rw [uh3 (by omega) (by omega) (by omega)]
    exact g2 j hj
  · rw [a _ _ (by omega) (by omega) (by omega), uh3 (by omega) (by omega) (by omega)]
    exact g3
  · rw [a _ _ (by omega) (by omega) (by omega), uh3 (by omega) (by omega) (by omega)]
    exact g4
  · rw [v]
    omega
  · by_cases c : k = n
    · subst c
      rw [u _ _ (by omega), f3.r2t (by omega) (by omega), f2.r2t (by omega) (by omega), v1, u _ _ (by omega), f3.r2t (by omega) (by omega), v2, u _ _ (by omega), v3]
      rw [uh_n _ _ (show 91 + (10 * f + k) ≠ 171 + (10 * f + k) by omega), uh_n _ _ (show 91 + (10 * f + k) ≠ 131 + (10 * f + k) by omega), uh_s, uh_n _ _ (show 131 + (10 * f + k) ≠ 171 + (10 * f + k) by omega), uh_s, uh_s]
      exact ⟨rfl, rfl, rfl⟩
    · rw [a _ _ (by omega) (by omega) (by omega), a _ _ (by omega) (by omega) (by omega), a _ _ (by omega) (by omega) (by omega), uh3 (by omega) (by omega) (by omega), uh3 (by omega) (by omega) (by omega), uh3 (by omega) (by omega) (by omega)]
      exact g6 k (by omega)
theorem FI.fin {σ : Nat → Nat → Int32} {h hh : Nat → Int} {f n : Nat} (g : FI σ h hh f n) (hf : h 2 = (f : Int)) (hf4 : f < 4) (hn : n ≤ 10) : CF σ (uh (uh hh (87 + f) (n : Int)) 2 (h 2 + 1)) := by
  obtain ⟨g1, g2, ⟨g3, g4, g5⟩, g6⟩ := g
  refine ⟨fun i h1 h2 => ?_, fun i k h1 h2 h3 h4 => ?_⟩
  · rw [uh_s] at h1
    by_cases c : i = f
    · subst c
      rw [uh_n _ _ (show 79 + i ≠ 2 by omega), uh_n _ _ (show 79 + i ≠ 87 + i by omega), uh_n _ _ (show 83 + i ≠ 2 by omega), uh_n _ _ (show 83 + i ≠ 87 + i by omega), uh_n _ _ (show 87 + i ≠ 2 by omega), uh_s]
      exact ⟨g3, g4, g5⟩
    · rw [uh_n _ _ (show 79 + i ≠ 2 by omega), uh_n _ _ (show 79 + i ≠ 87 + f by omega), uh_n _ _ (show 83 + i ≠ 2 by omega), uh_n _ _ (show 83 + i ≠ 87 + f by omega), uh_n _ _ (show 87 + i ≠ 2 by omega), uh_n _ _ (show 87 + i ≠ 87 + f by omega), g2 (79 + i) (by omega), g2 (83 + i) (by omega), g2 (87 + i) (by omega)]
      exact g1.1 i (by omega) h2
  · rw [uh_s] at h1
    rw [uh_n _ _ (show 91 + (10 * i + k) ≠ 2 by omega), uh_n _ _ (show 91 + (10 * i + k) ≠ 87 + f by omega), uh_n _ _ (show 131 + (10 * i + k) ≠ 2 by omega), uh_n _ _ (show 131 + (10 * i + k) ≠ 87 + f by omega), uh_n _ _ (show 171 + (10 * i + k) ≠ 2 by omega), uh_n _ _ (show 171 + (10 * i + k) ≠ 87 + f by omega)]
    rw [uh_n _ _ (show 87 + i ≠ 2 by omega)] at h3
    by_cases c : i = f
    · subst c
      rw [uh_s] at h3
      exact g6 k (by omega)
    · rw [uh_n _ _ (show 87 + i ≠ 87 + f by omega), g2 (87 + i) (by omega)] at h3
      rw [g2 (91 + (10 * i + k)) (by omega), g2 (131 + (10 * i + k)) (by omega), g2 (171 + (10 * i + k)) (by omega)]
      exact g1.2 i k (by omega) h2 h3 h4
theorem FI.ag {σ σ1 : Nat → Nat → Int32} {h hh : Nat → Int} {f n : Nat} (g : FI σ h hh f n) (a : Agr Gd_CF σ σ1) (hf4 : f < 4) (hn : n ≤ 10) : FI σ1 h hh f n := by
  obtain ⟨g1, g2, g3, g6⟩ := g
  refine ⟨g1.ag a, g2, ?_, fun k hk => ?_⟩
  · rw [a (136 + f) 0 (rc_in 0 rfl (by omega) (by omega) (by decide) (by decide)), a (136 + f) 1 (rc_in 0 rfl (by omega) (by omega) (by decide) (by decide)), a (136 + f) 2 (rc_in 0 rfl (by omega) (by omega) (by decide) (by decide))]
    exact g3
  · rw [a (188 + (10 * f + k)) 0 (rc_in 1 rfl (by omega) (by omega) (by decide) (by decide)), a (188 + (10 * f + k)) 1 (rc_in 1 rfl (by omega) (by omega) (by decide) (by decide)), a (188 + (10 * f + k)) 2 (rc_in 1 rfl (by omega) (by omega) (by decide) (by decide))]
    exact g6 k hk
theorem calP_e {b : Nat → Int} {N mo f fu n q : Nat} {fr : Int} {h : Nat → Int} (e : tkq b N mo q ≠ 46) : calP b N mo f fu n fr q h = .inr (q, n, h) := by
  cases fu with
  | zero => rfl
  | succ fu =>
    rw [calP, if_pos e]
theorem calP_4 {b : Nat → Int} {N mo f fu n q : Nat} {fr : Int} {h : Nat → Int} (e : tkq b N mo q = 46) (hn : n = 10) (hf : 0 < fu) : calP b N mo f fu n fr q h = .inl (4, (q : Int)) := by
  obtain ⟨fu, rfl⟩ : ∃ x, fu = x + 1 := ⟨fu - 1, by omega⟩
  rw [calP, if_neg (by omega), if_pos hn]
theorem calP_s {b : Nat → Int} {N mo f fu n q : Nat} {fr : Int} {h : Nat → Int} (e : tkq b N mo q = 46) (hn : n ≠ 10) (hf : 0 < fu) : calP b N mo f fu n fr q h = bnd (numP b N mo fr 99 q) fun y => bnd (numP b N mo 0 20 y.1) fun x => bnd (numP b N mo 0 20 x.1) fun w => calP b N mo f (fu - 1) (n + 1) (y.2 + 1) w.1 (uh (uh (uh h (91 + (10 * f + n)) y.2) (131 + (10 * f + n)) x.2) (171 + (10 * f + n)) w.2) := by
  obtain ⟨fu, rfl⟩ : ∃ x, fu = x + 1 := ⟨fu - 1, by omega⟩
  rw [calP, if_neg (by omega), if_neg hn]
  rfl
/-- what is left of a FLIGHT's line -/
def flkP (nm : Nat → Int) (on fa : Int32) (h2 : Int) (f : Nat) (s : Nat × Nat × (Nat → Int)) : Fq ⊕ Zt := .inr (s.1, uh (uh s.2.2 (87 + f) (s.2.1 : Int)) 2 (h2 + 1), nm, on, fa)
theorem fliP_b {b : Nat → Int} {N mo q : Nat} {h nm : Nat → Int} {on fa : Int32} {c l : Nat × Int} (h4 : h 2 ≠ 4) (e1 : numP b N mo 1 9 (nxq b N mo q) = .inr c) (e2 : numP b N mo 0 20 c.1 = .inr l) : fliP b N mo (q, h, nm, on, fa) = bnd (calP b N mo (h 2).toNat 11 0 0 l.1 (uh (uh h (79 + (h 2).toNat) c.2) (83 + (h 2).toNat) l.2)) (flkP nm on fa (h 2) (h 2).toNat) := by
  unfold fliP
  dsimp only
  rw [if_neg h4, e1, bnd_r, e2, bnd_r]
  rfl
theorem FI.cs {σ : Nat → Nat → Int32} {h hh : Nat → Int} {f n j : Nat} (g : FI σ h hh f n) (hj : j ≤ 4) : uh (uh hh (87 + f) (n : Int)) 2 (h 2 + 1) j = uh h 2 (h 2 + 1) j := by
  by_cases c : j = 2
  · subst c
    rw [uh_s, uh_s]
  · rw [uh_n _ _ c, uh_n _ _ c, uh_n _ _ (by omega)]
    exact g.2.1 j (by omega)
theorem h00_0 {j : Nat} (h : j ≠ 3) (h' : j ≠ 4) : h00 j = 0 := if_neg (by omega)
theorem CN.z00 {τ : Nat → Nat → Int64} {b : Nat → Int} : CN τ b h00 (fun _ => 0) := ⟨fun i h1 _ => absurd h1 (by rw [h00_0 (by omega) (by omega)]; omega), fun i h1 _ => absurd h1 (by rw [h00_0 (by omega) (by omega)]; omega)⟩
theorem CM.z00 {σ : Nat → Nat → Int32} : CM σ h00 := ⟨fun i h1 _ => absurd h1 (by rw [h00_0 (by omega) (by omega)]; omega), fun i _ _ => ⟨h00_0 (by omega) (by omega), h00_0 (by omega) (by omega), h00_0 (by omega) (by omega)⟩⟩
theorem CF.z00 {σ : Nat → Nat → Int32} : CF σ h00 := ⟨fun i h1 _ => absurd h1 (by rw [h00_0 (by omega) (by omega)]; omega), fun i k h1 _ _ _ => absurd h1 (by rw [h00_0 (by omega) (by omega)]; omega)⟩
theorem posq_ok {b : Nat → Int} {N mo : Nat} : posq b N mo 0 ≤ N ∧ (mo < N → posq b N mo 0 ≤ mo) := by
  show lmq N mo (skpE b N 0) ≤ N ∧ (mo < N → lmq N mo (skpE b N 0) ≤ mo)
  have h1 := skpE_le b (Nat.zero_le N)
  by_cases c : mo < N ∧ mo ≤ skpE b N 0
  · rw [lmq_lim c]
    omega
  · rw [lmq_id c]
    omega
theorem lok_un {b : Nat → Int} {N mo q m : Nat} {h nm : Nat → Int} {w v : Int} (h8 : h 0 ≤ 8) : lokP b N mo (uh nm (8 + m) w) (uh h 1 v 0).toNat q = lokP b N mo nm (h 0).toNat q := by
  have e : uh h 1 v 0 = h 0 := uh_n _ _ (by omega)
  have e2 : fndq (uh nm (8 + m) w) (wdq b N q) (h 0).toNat = fndq nm (wdq b N q) (h 0).toNat := fndq_cg fun i hi => by rw [uh_n _ _ (by omega)]
  unfold lokP
  rw [e, e2]
