section TB
variable {p : Program} {l : Launch} {e : Env} {R : Room} {s : State} {m : MethodId} {args : Array Value} {below : List Frame} {meth : Method} {c : Code} {H : Heap} {locs : List Loc} {cells slots : Nat} {Q : State → Prop}
variable {cc : ByteArray} {pc : Nat} {ls : Array Slot} {rest : List Value} {D : va_G} {cA : Nat → ClassId} {ad : Nat → Nat} {σ : Nat → Nat → Int32} {τ : Nat → Nat → Int64} {H0 : Heap}
theorem as_bytesE (hx : p.tables.exec = Jvm.exec) (hb : c.code = cc) (hK : va_K D vwCl (tys cA) s) (hP : va_P D vwCl (gw cA ad σ τ) H) (hI : Inj ad) (hR : Rg σ) (hS : va_S (AA ad) H0 H locs) {k : Nat} (h1 : 35 ≤ k) (h2 : k ≤ 35) {i : Int32} {j : Nat} (hj : i.toInt = (j : Int)) (hn : j < 940) {v : Int32} (hd : decode cc pc = .ok (.bastore, 1)) (kk : ∀ (σ1 : Nat → Nat → Int32) (H1 : Heap) (locs1 : List Loc), Up1 σ σ1 k j → σ1 k j = vp_nar .byte v → Rg σ1 → va_P D vwCl (gw cA ad σ1 τ) H1 → va_S (AA ad) H0 H1 locs1 → W p l e R s m args below meth c H1 locs1 cells slots Q (F0 m (pc + 1) ls rest)) : W p l e R s m args below meth c H locs cells slots Q (F0 m pc ls (.int v :: .int i :: .ref (ad k) :: rest)) := by
  refine va_bast hx hb hK hP (gw_D hI) hS k 1 (cl_bytes h1 h2) rfl (ti_in hj hn) hd (fun H1 locs1 hP1 _ hS1 => kk (ur σ k (upd (σ k) j (vp_nar .byte v))) H1 locs1 (Up1.of σ k j _) (Up1.at σ k j _) (hR.up ?_) ?_ hS1)
  · unfold rlo rhi
    repeat (first | rw [if_pos (by omega)] | rw [if_neg (by omega)])
    exact ⟨ti_lo _, ti_hi _⟩
  · rw [ti_cl hj] at hP1; rw [← gw_seti (cA := cA) (ad := ad) (σ := σ) (τ := τ) (k := k) (f := upd (σ k) j (vp_nar .byte v)) (gc_bytes h1 h2)]
    exact hP1
theorem as_mtapeE (hx : p.tables.exec = Jvm.exec) (hb : c.code = cc) (hK : va_K D vwCl (tys cA) s) (hP : va_P D vwCl (gw cA ad σ τ) H) (hI : Inj ad) (hR : Rg σ) (hS : va_S (AA ad) H0 H locs) {k : Nat} (h1 : 388 ≤ k) (h2 : k ≤ 388) {i : Int32} {j : Nat} (hj : i.toInt = (j : Int)) (hn : j < 940) {v : Int32} (hd : decode cc pc = .ok (.bastore, 1)) (kk : ∀ (σ1 : Nat → Nat → Int32) (H1 : Heap) (locs1 : List Loc), Up1 σ σ1 k j → σ1 k j = vp_nar .byte v → Rg σ1 → va_P D vwCl (gw cA ad σ1 τ) H1 → va_S (AA ad) H0 H1 locs1 → W p l e R s m args below meth c H1 locs1 cells slots Q (F0 m (pc + 1) ls rest)) : W p l e R s m args below meth c H locs cells slots Q (F0 m pc ls (.int v :: .int i :: .ref (ad k) :: rest)) := by
  refine va_bast hx hb hK hP (gw_D hI) hS k 1 (cl_mtape h1 h2) rfl (ti_in hj hn) hd (fun H1 locs1 hP1 _ hS1 => kk (ur σ k (upd (σ k) j (vp_nar .byte v))) H1 locs1 (Up1.of σ k j _) (Up1.at σ k j _) (hR.up ?_) ?_ hS1)
  · unfold rlo rhi
    repeat (first | rw [if_pos (by omega)] | rw [if_neg (by omega)])
    exact ⟨ti_lo _, ti_hi _⟩
  · rw [ti_cl hj] at hP1; rw [← gw_seti (cA := cA) (ad := ad) (σ := σ) (τ := τ) (k := k) (f := upd (σ k) j (vp_nar .byte v)) (gc_mtape h1 h2)]
    exact hP1
end TB
/-- the byte that stands s bits up in v -/
def bt (v s : Int32) : Int32 := vp_nar .byte ((v >>> (s &&& 31)).toInt8.toInt32)
def sh (i : Nat) : Int32 := if i = 0 then 24 else if i = 1 then 16 else if i = 2 then 8 else 0
theorem sh_of {x : Int32} {i : Nat} (h : x.toInt = 24 - 8 * (i : Int)) (h0 : 0 ≤ x.toInt) : sh i = x := by
  apply Int32.toInt_inj.mp
  rcases (show i = 0 ∨ i = 1 ∨ i = 2 ∨ i = 3 by omega) with rfl | rfl | rfl | rfl
  · rw [h]; rfl
  · rw [h]; rfl
  · rw [h]; rfl
  · rw [h]; rfl
theorem BYs {σ σ1 σ2 : Nat → Nat → Int32} {K n j : Nat} {a x : Int32} {y : Int} (h : ∀ i : Nat, 8 * (i : Int) < 24 - x.toInt → σ K (n + i) = bt a (sh i)) (u : Up1 σ σ1 K j) (w : σ1 K j = bt a x) {k2 j2 : Nat} (u2 : Up1 σ1 σ2 k2 j2) (hk : k2 ≠ K) (ej : 8 * (j : Int) = 8 * (n : Int) + 24 - x.toInt) (hy : y = x.toInt - 8) (h0 : 0 ≤ x.toInt) : ∀ i : Nat, 8 * (i : Int) < 24 - y → σ2 K (n + i) = bt a (sh i) := by
  intro i hi
  rw [u2 K (n + i) (by omega)]
  by_cases q : n + i = j
  · rw [q, w, sh_of (x := x) (i := i) (by omega) h0]
  · rw [u K (n + i) (by omega)]
    exact h i (by omega)
theorem BYk {σ0 σ σ1 σ2 : Nat → Nat → Int32} {K n j : Nat} (h : ∀ i : Nat, i < n → σ K i = σ0 K i) (u : Up1 σ σ1 K j) {k2 j2 : Nat} (u2 : Up1 σ1 σ2 k2 j2) (hk : k2 ≠ K) (hj : n ≤ j) : ∀ i : Nat, i < n → σ2 K i = σ0 K i := by
  intro i hi
  rw [u2 K i (by omega), u K i (by omega)]
  exact h i hi
/-- four bytes of a stand behind n bytes of the tape at K -/
def B4 (σ0 σ : Nat → Nat → Int32) (K n : Nat) (a : Int32) : Prop := (∀ i : Nat, i < 4 → σ K (n + i) = bt a (sh i)) ∧ ∀ i : Nat, i < n → σ K i = σ0 K i
/-- what feed() lays behind n bytes -/
def B20 (σ0 σ : Nat → Nat → Int32) (K n : Nat) (a b c d e : Int32) : Prop := (∀ i : Nat, i < 4 → σ K (n + i) = bt a (sh i) ∧ σ K (n + 4 + i) = bt b (sh i) ∧ σ K (n + 8 + i) = bt c (sh i) ∧ σ K (n + 12 + i) = bt d (sh i) ∧ σ K (n + 16 + i) = bt e (sh i)) ∧ ∀ i : Nat, i < n → σ K i = σ0 K i
theorem B20.of {σ0 σ1 σ2 σ3 σ4 σ5 : Nat → Nat → Int32} {K n n2 n3 n4 n5 : Nat} {a b c d e : Int32} (h1 : B4 σ0 σ1 K n a) (h2 : B4 σ1 σ2 K n2 b) (h3 : B4 σ2 σ3 K n3 c) (h4 : B4 σ3 σ4 K n4 d) (h5 : B4 σ4 σ5 K n5 e) (e2 : n2 = n + 4) (e3 : n3 = n + 8) (e4 : n4 = n + 12) (e5 : n5 = n + 16) : B20 σ0 σ5 K n a b c d e := by
  subst e2 e3 e4 e5
  refine ⟨fun i hi => ⟨?_, ?_, ?_, ?_, h5.1 i hi⟩, fun i hi => ?_⟩
  · rw [h5.2 _ (by omega), h4.2 _ (by omega), h3.2 _ (by omega), h2.2 _ (by omega)]; exact h1.1 i hi
  · rw [h5.2 _ (by omega), h4.2 _ (by omega), h3.2 _ (by omega)]; exact h2.1 i hi
  · rw [h5.2 _ (by omega), h4.2 _ (by omega)]; exact h3.1 i hi
  · rw [h5.2 _ (by omega)]; exact h4.1 i hi
  · rw [h5.2 _ (by omega), h4.2 _ (by omega), h3.2 _ (by omega), h2.2 _ (by omega)]; exact h1.2 i hi
theorem B20.up {σ σ0 σ5 : Nat → Nat → Int32} {K n n1 k j : Nat} {a b c d e : Int32} (u : Up1 σ σ0 k j) (hk : k ≠ K) (h : B20 σ0 σ5 K n1 a b c d e) (en : n = n1) : B20 σ σ5 K n a b c d e := by
  subst en
  exact ⟨h.1, fun i hi => (h.2 i hi).trans (u K i (by omega))⟩
/-- the tapes of class and model hold the same bytes -/
def TE (σ : Nat → Nat → Int32) : Prop := ∀ j : Nat, (j : Int) < (σ 1 5).toInt → σ 35 j = σ 388 j
theorem TE.feed {σ σc : Nat → Nat → Int32} {n : Nat} {a b c d e : Int32} {σm : Nat → Nat → Int32} (h : ∀ j : Nat, j < n → σ 35 j = σ 388 j) (hc : B20 σ σc 35 n a b c d e) (hk : ∀ j : Nat, σc 388 j = σ 388 j) (hm : B20 σc σm 388 n a b c d e) (hk2 : ∀ j : Nat, σm 35 j = σc 35 j) (hs : (σm 1 5).toInt ≤ (n : Int) + 20) : TE σm := by
  intro j hj
  rw [hk2 j]
  by_cases q : j < n
  · rw [hc.2 j q, hm.2 j q, hk j]; exact h j q
  · obtain ⟨i, hi⟩ : ∃ i : Nat, j = n + i := ⟨j - n, by omega⟩
    subst hi
    rcases (show i < 4 ∨ (4 ≤ i ∧ i < 8) ∨ (8 ≤ i ∧ i < 12) ∨ (12 ≤ i ∧ i < 16) ∨ (16 ≤ i ∧ i < 20) by omega) with g | g | g | g | g
    · rw [(hc.1 i g).1, (hm.1 i g).1]
    · rw [show n + i = n + 4 + (i - 4) by omega, (hc.1 (i - 4) (by omega)).2.1, (hm.1 (i - 4) (by omega)).2.1]
    · rw [show n + i = n + 8 + (i - 8) by omega, (hc.1 (i - 8) (by omega)).2.2.1, (hm.1 (i - 8) (by omega)).2.2.1]
    · rw [show n + i = n + 12 + (i - 12) by omega, (hc.1 (i - 12) (by omega)).2.2.2.1, (hm.1 (i - 12) (by omega)).2.2.2.1]
    · rw [show n + i = n + 16 + (i - 16) by omega, (hc.1 (i - 16) (by omega)).2.2.2.2, (hm.1 (i - 16) (by omega)).2.2.2.2]
def Up1L (τ τ1 : Nat → Nat → Int64) (k j : Nat) : Prop := ∀ k' j' : Nat, ¬ (k' = k ∧ j' = j) → τ1 k' j' = τ k' j'
theorem Up1L.of (τ : Nat → Nat → Int64) (k j : Nat) (v : Int64) : Up1L τ (urL τ k (vp_updL (τ k) j v)) k j := by
  intro k' j' h
  by_cases e : k' = k
  · subst e
    rw [urL_self]
    unfold vp_updL
    exact if_neg (fun q => h ⟨rfl, q⟩)
  · rw [urL_ne _ _ e]
theorem Up1L.at (τ : Nat → Nat → Int64) (k j : Nat) (v : Int64) : urL τ k (vp_updL (τ k) j v) k j = v := by
  rw [urL_self]
  unfold vp_updL
  exact if_pos rfl
def FrL (L : List Rc) (τ τ' : Nat → Nat → Int64) : Prop := ∀ k j : Nat, (∀ q ∈ L, ¬ inRc q k j) → τ' k j = τ k j
theorem FrL.rf {L : List Rc} {τ : Nat → Nat → Int64} : FrL L τ τ := fun _ _ _ => rfl
theorem FrL.nil {τ τ1 : Nat → Nat → Int64} (h : FrL [] τ τ1) : τ = τ1 := funext fun k => funext fun j => (h k j (fun _ h => absurd h List.not_mem_nil)).symm
theorem FrL.put {L : List Rc} {τ τ1 τ2 : Nat → Nat → Int64} {k j : Nat} (h : FrL L τ τ1) (u : Up1L τ1 τ2 k j) (i : Nat) {q : Rc} (hi : L[i]? = some q) (hq : inRc q k j) : FrL L τ τ2 := by
  intro k' j' hn
  have hne : ¬ (k' = k ∧ j' = j) := by
    rintro ⟨rfl, rfl⟩
    exact hn q (List.mem_of_getElem? hi) hq
  rw [u k' j' hne]
  exact h k' j' hn
theorem FrL.step {L L' : List Rc} {τ τ1 τ2 : Nat → Nat → Int64} (h : FrL L' τ τ1) (u : FrL L τ1 τ2) (hs : subRc L L' = true) : FrL L' τ τ2 := by
  intro k j hn
  rw [u k j ?_]
  · exact h k j hn
  · intro q hq hin
    obtain ⟨r, hr, hd⟩ := List.any_eq_true.mp (List.all_eq_true.mp hs q hq)
    have hd := of_decide_eq_true hd
    exact hn r hr ⟨by have := hin.1; omega, by have := hin.2.1; omega, by have := hin.2.2.1; omega, by have := hin.2.2.2; omega⟩
theorem FrL.at {L : List Rc} {τ τ' : Nat → Nat → Int64} (h : FrL L τ τ') (k j : Nat) (ho : outRc L k j = true) : τ' k j = τ k j := by
  refine h k j fun q hq hin => ?_
  have hd := of_decide_eq_true (List.all_eq_true.mp ho q hq)
  obtain ⟨h1, h2, h3, h4⟩ := hin
  omega
def RowNL (τ τ1 : Nat → Nat → Int64) (k n : Nat) : Prop := ∀ k' j' : Nat, (k' ≠ k ∨ n ≤ j') → τ1 k' j' = τ k' j'
theorem RowNL.cp (τ : Nat → Nat → Int64) (k q n : Nat) : RowNL τ (urL τ k (va_cpy (τ q) (τ k) 0 0 n)) k n := by
  intro k' j' h
  by_cases e : k' = k
  · subst e
    rw [urL_self]
    exact pk_cpy_out (Or.inr (by omega))
  · rw [urL_ne _ _ e]
theorem cpl_at (τ : Nat → Nat → Int64) (k q : Nat) {n j : Nat} (hj : j < n) : urL τ k (va_cpy (τ q) (τ k) 0 0 n) k j = τ q j := by
  rw [urL_self, pk_cpy_in (Nat.zero_le _) (by omega)]
  congr 1
  omega
theorem lcmp_0 (x y : Int64) : (lg_cmp x y).toInt = 0 ↔ x = y := by
  unfold lg_cmp
  by_cases h1 : x > y
  · rw [if_pos h1]
    constructor
    · intro h; exact absurd h (by decide)
    · intro h; subst h; exact absurd h1 (Int64.lt_irrefl)
  · rw [if_neg h1]
    by_cases h2 : x = y
    · rw [if_pos h2]
      exact ⟨fun _ => h2, fun _ => rfl⟩
    · rw [if_neg h2]
      constructor
      · intro h; exact absurd h (by decide)
      · intro h; exact absurd h h2
section TLo
variable {p : Program} {l : Launch} {e : Env} {R : Room} {s : State} {m : MethodId} {args : Array Value} {below : List Frame} {meth : Method} {c : Code} {H : Heap} {locs : List Loc} {cells slots : Nat} {Q : State → Prop}
variable {cc : ByteArray} {pc : Nat} {ls : Array Slot} {rest : List Value} {D : va_G} {cA : Nat → ClassId} {ad : Nat → Nat} {σ : Nat → Nat → Int32} {τ : Nat → Nat → Int64} {H0 : Heap}
theorem adL_names (hx : p.tables.exec = Jvm.exec) (hb : c.code = cc) (hK : va_K D vwCl (tys cA) s) (hP : va_P D vwCl (gw cA ad σ τ) H) {k : Nat} (h1 : 39 ≤ k) (h2 : k ≤ 39) {i : Int32} {j : Nat} (hj : i.toInt = (j : Int)) (hn : j < 941) (hd : decode cc pc = .ok (.laload, 1)) (kk : W p l e R s m args below meth c H locs cells slots Q (F0 m (pc + 1) ls (.long (τ k j) :: rest))) : W p l e R s m args below meth c H locs cells slots Q (F0 m pc ls (.int i :: .ref (ad k) :: rest)) := va_lald hx hb hK hP k 3 (cl_names h1 h2) rfl (ti_in hj hn) hd (by rw [ti_cl hj]; exact kk)
theorem asL_names (hx : p.tables.exec = Jvm.exec) (hb : c.code = cc) (hK : va_K D vwCl (tys cA) s) (hP : va_P D vwCl (gw cA ad σ τ) H) (hI : Inj ad) (hS : va_S (AA ad) H0 H locs) {k : Nat} (h1 : 39 ≤ k) (h2 : k ≤ 39) {i : Int32} {j : Nat} (hj : i.toInt = (j : Int)) (hn : j < 941) {v : Int64} (hd : decode cc pc = .ok (.lastore, 1)) (kk : ∀ (τ1 : Nat → Nat → Int64) (H1 : Heap) (locs1 : List Loc), Up1L τ τ1 k j → τ1 k j = v → va_P D vwCl (gw cA ad σ τ1) H1 → va_S (AA ad) H0 H1 locs1 → W p l e R s m args below meth c H1 locs1 cells slots Q (F0 m (pc + 1) ls rest)) : W p l e R s m args below meth c H locs cells slots Q (F0 m pc ls (.long v :: .int i :: .ref (ad k) :: rest)) := by
  refine va_last hx hb hK hP (gw_D hI) hS k 3 (cl_names h1 h2) rfl (ti_in hj hn) hd (fun H1 locs1 hP1 _ hS1 => kk (urL τ k (vp_updL (τ k) j v)) H1 locs1 (Up1L.of τ k j v) (Up1L.at τ k j v) ?_ hS1)
  rw [ti_cl hj] at hP1; rw [← gw_setl (cA := cA) (ad := ad) (σ := σ) (τ := τ) (k := k) (g := vp_updL (τ k) j v) (gc_names h1 h2)]
  exact hP1
theorem adL_vnames (hx : p.tables.exec = Jvm.exec) (hb : c.code = cc) (hK : va_K D vwCl (tys cA) s) (hP : va_P D vwCl (gw cA ad σ τ) H) {k : Nat} (h1 : 40 ≤ k) (h2 : k ≤ 47) {i : Int32} {j : Nat} (hj : i.toInt = (j : Int)) (hn : j < 8) (hd : decode cc pc = .ok (.laload, 1)) (kk : W p l e R s m args below meth c H locs cells slots Q (F0 m (pc + 1) ls (.long (τ k j) :: rest))) : W p l e R s m args below meth c H locs cells slots Q (F0 m pc ls (.int i :: .ref (ad k) :: rest)) := va_lald hx hb hK hP k 3 (cl_vnames h1 h2) rfl (ti_in hj hn) hd (by rw [ti_cl hj]; exact kk)
theorem asL_vnames (hx : p.tables.exec = Jvm.exec) (hb : c.code = cc) (hK : va_K D vwCl (tys cA) s) (hP : va_P D vwCl (gw cA ad σ τ) H) (hI : Inj ad) (hS : va_S (AA ad) H0 H locs) {k : Nat} (h1 : 40 ≤ k) (h2 : k ≤ 47) {i : Int32} {j : Nat} (hj : i.toInt = (j : Int)) (hn : j < 8) {v : Int64} (hd : decode cc pc = .ok (.lastore, 1)) (kk : ∀ (τ1 : Nat → Nat → Int64) (H1 : Heap) (locs1 : List Loc), Up1L τ τ1 k j → τ1 k j = v → va_P D vwCl (gw cA ad σ τ1) H1 → va_S (AA ad) H0 H1 locs1 → W p l e R s m args below meth c H1 locs1 cells slots Q (F0 m (pc + 1) ls rest)) : W p l e R s m args below meth c H locs cells slots Q (F0 m pc ls (.long v :: .int i :: .ref (ad k) :: rest)) := by
  refine va_last hx hb hK hP (gw_D hI) hS k 3 (cl_vnames h1 h2) rfl (ti_in hj hn) hd (fun H1 locs1 hP1 _ hS1 => kk (urL τ k (vp_updL (τ k) j v)) H1 locs1 (Up1L.of τ k j v) (Up1L.at τ k j v) ?_ hS1)
  rw [ti_cl hj] at hP1; rw [← gw_setl (cA := cA) (ad := ad) (σ := σ) (τ := τ) (k := k) (g := vp_updL (τ k) j v) (gc_vnames h1 h2)]
  exact hP1
theorem adL_mnames (hx : p.tables.exec = Jvm.exec) (hb : c.code = cc) (hK : va_K D vwCl (tys cA) s) (hP : va_P D vwCl (gw cA ad σ τ) H) {k : Nat} (h1 : 392 ≤ k) (h2 : k ≤ 392) {i : Int32} {j : Nat} (hj : i.toInt = (j : Int)) (hn : j < 32) (hd : decode cc pc = .ok (.laload, 1)) (kk : W p l e R s m args below meth c H locs cells slots Q (F0 m (pc + 1) ls (.long (τ k j) :: rest))) : W p l e R s m args below meth c H locs cells slots Q (F0 m pc ls (.int i :: .ref (ad k) :: rest)) := va_lald hx hb hK hP k 3 (cl_mnames h1 h2) rfl (ti_in hj hn) hd (by rw [ti_cl hj]; exact kk)
theorem asL_mnames (hx : p.tables.exec = Jvm.exec) (hb : c.code = cc) (hK : va_K D vwCl (tys cA) s) (hP : va_P D vwCl (gw cA ad σ τ) H) (hI : Inj ad) (hS : va_S (AA ad) H0 H locs) {k : Nat} (h1 : 392 ≤ k) (h2 : k ≤ 392) {i : Int32} {j : Nat} (hj : i.toInt = (j : Int)) (hn : j < 32) {v : Int64} (hd : decode cc pc = .ok (.lastore, 1)) (kk : ∀ (τ1 : Nat → Nat → Int64) (H1 : Heap) (locs1 : List Loc), Up1L τ τ1 k j → τ1 k j = v → va_P D vwCl (gw cA ad σ τ1) H1 → va_S (AA ad) H0 H1 locs1 → W p l e R s m args below meth c H1 locs1 cells slots Q (F0 m (pc + 1) ls rest)) : W p l e R s m args below meth c H locs cells slots Q (F0 m pc ls (.long v :: .int i :: .ref (ad k) :: rest)) := by
  refine va_last hx hb hK hP (gw_D hI) hS k 3 (cl_mnames h1 h2) rfl (ti_in hj hn) hd (fun H1 locs1 hP1 _ hS1 => kk (urL τ k (vp_updL (τ k) j v)) H1 locs1 (Up1L.of τ k j v) (Up1L.at τ k j v) ?_ hS1)
  rw [ti_cl hj] at hP1; rw [← gw_setl (cA := cA) (ad := ad) (σ := σ) (τ := τ) (k := k) (g := vp_updL (τ k) j v) (gc_mnames h1 h2)]
  exact hP1
theorem adL_mreserved (hx : p.tables.exec = Jvm.exec) (hb : c.code = cc) (hK : va_K D vwCl (tys cA) s) (hP : va_P D vwCl (gw cA ad σ τ) H) {k : Nat} (h1 : 393 ≤ k) (h2 : k ≤ 393) {i : Int32} {j : Nat} (hj : i.toInt = (j : Int)) (hn : j < 31) (hd : decode cc pc = .ok (.laload, 1)) (kk : W p l e R s m args below meth c H locs cells slots Q (F0 m (pc + 1) ls (.long (τ k j) :: rest))) : W p l e R s m args below meth c H locs cells slots Q (F0 m pc ls (.int i :: .ref (ad k) :: rest)) := va_lald hx hb hK hP k 3 (cl_mreserved h1 h2) rfl (ti_in hj hn) hd (by rw [ti_cl hj]; exact kk)
theorem asL_mreserved (hx : p.tables.exec = Jvm.exec) (hb : c.code = cc) (hK : va_K D vwCl (tys cA) s) (hP : va_P D vwCl (gw cA ad σ τ) H) (hI : Inj ad) (hS : va_S (AA ad) H0 H locs) {k : Nat} (h1 : 393 ≤ k) (h2 : k ≤ 393) {i : Int32} {j : Nat} (hj : i.toInt = (j : Int)) (hn : j < 31) {v : Int64} (hd : decode cc pc = .ok (.lastore, 1)) (kk : ∀ (τ1 : Nat → Nat → Int64) (H1 : Heap) (locs1 : List Loc), Up1L τ τ1 k j → τ1 k j = v → va_P D vwCl (gw cA ad σ τ1) H1 → va_S (AA ad) H0 H1 locs1 → W p l e R s m args below meth c H1 locs1 cells slots Q (F0 m (pc + 1) ls rest)) : W p l e R s m args below meth c H locs cells slots Q (F0 m pc ls (.long v :: .int i :: .ref (ad k) :: rest)) := by
  refine va_last hx hb hK hP (gw_D hI) hS k 3 (cl_mreserved h1 h2) rfl (ti_in hj hn) hd (fun H1 locs1 hP1 _ hS1 => kk (urL τ k (vp_updL (τ k) j v)) H1 locs1 (Up1L.of τ k j v) (Up1L.at τ k j v) ?_ hS1)
  rw [ti_cl hj] at hP1; rw [← gw_setl (cA := cA) (ad := ad) (σ := σ) (τ := τ) (k := k) (g := vp_updL (τ k) j v) (gc_mreserved h1 h2)]
  exact hP1
theorem adL_mnamesKept (hx : p.tables.exec = Jvm.exec) (hb : c.code = cc) (hK : va_K D vwCl (tys cA) s) (hP : va_P D vwCl (gw cA ad σ τ) H) {k : Nat} (h1 : 404 ≤ k) (h2 : k ≤ 404) {i : Int32} {j : Nat} (hj : i.toInt = (j : Int)) (hn : j < 32) (hd : decode cc pc = .ok (.laload, 1)) (kk : W p l e R s m args below meth c H locs cells slots Q (F0 m (pc + 1) ls (.long (τ k j) :: rest))) : W p l e R s m args below meth c H locs cells slots Q (F0 m pc ls (.int i :: .ref (ad k) :: rest)) := va_lald hx hb hK hP k 3 (cl_mnamesKept h1 h2) rfl (ti_in hj hn) hd (by rw [ti_cl hj]; exact kk)
theorem asL_mnamesKept (hx : p.tables.exec = Jvm.exec) (hb : c.code = cc) (hK : va_K D vwCl (tys cA) s) (hP : va_P D vwCl (gw cA ad σ τ) H) (hI : Inj ad) (hS : va_S (AA ad) H0 H locs) {k : Nat} (h1 : 404 ≤ k) (h2 : k ≤ 404) {i : Int32} {j : Nat} (hj : i.toInt = (j : Int)) (hn : j < 32) {v : Int64} (hd : decode cc pc = .ok (.lastore, 1)) (kk : ∀ (τ1 : Nat → Nat → Int64) (H1 : Heap) (locs1 : List Loc), Up1L τ τ1 k j → τ1 k j = v → va_P D vwCl (gw cA ad σ τ1) H1 → va_S (AA ad) H0 H1 locs1 → W p l e R s m args below meth c H1 locs1 cells slots Q (F0 m (pc + 1) ls rest)) : W p l e R s m args below meth c H locs cells slots Q (F0 m pc ls (.long v :: .int i :: .ref (ad k) :: rest)) := by
  refine va_last hx hb hK hP (gw_D hI) hS k 3 (cl_mnamesKept h1 h2) rfl (ti_in hj hn) hd (fun H1 locs1 hP1 _ hS1 => kk (urL τ k (vp_updL (τ k) j v)) H1 locs1 (Up1L.of τ k j v) (Up1L.at τ k j v) ?_ hS1)
  rw [ti_cl hj] at hP1; rw [← gw_setl (cA := cA) (ad := ad) (σ := σ) (τ := τ) (k := k) (g := vp_updL (τ k) j v) (gc_mnamesKept h1 h2)]
  exact hP1
theorem adL_out (hx : p.tables.exec = Jvm.exec) (hb : c.code = cc) (hK : va_K D vwCl (tys cA) s) (hP : va_P D vwCl (gw cA ad σ τ) H) {k : Nat} (h1 : 406 ≤ k) (h2 : k ≤ 406) {i : Int32} {j : Nat} (hj : i.toInt = (j : Int)) (hn : j < 1) (hd : decode cc pc = .ok (.laload, 1)) (kk : W p l e R s m args below meth c H locs cells slots Q (F0 m (pc + 1) ls (.long (τ k j) :: rest))) : W p l e R s m args below meth c H locs cells slots Q (F0 m pc ls (.int i :: .ref (ad k) :: rest)) := va_lald hx hb hK hP k 3 (cl_out h1 h2) rfl (ti_in hj hn) hd (by rw [ti_cl hj]; exact kk)
theorem asL_out (hx : p.tables.exec = Jvm.exec) (hb : c.code = cc) (hK : va_K D vwCl (tys cA) s) (hP : va_P D vwCl (gw cA ad σ τ) H) (hI : Inj ad) (hS : va_S (AA ad) H0 H locs) {k : Nat} (h1 : 406 ≤ k) (h2 : k ≤ 406) {i : Int32} {j : Nat} (hj : i.toInt = (j : Int)) (hn : j < 1) {v : Int64} (hd : decode cc pc = .ok (.lastore, 1)) (kk : ∀ (τ1 : Nat → Nat → Int64) (H1 : Heap) (locs1 : List Loc), Up1L τ τ1 k j → τ1 k j = v → va_P D vwCl (gw cA ad σ τ1) H1 → va_S (AA ad) H0 H1 locs1 → W p l e R s m args below meth c H1 locs1 cells slots Q (F0 m (pc + 1) ls rest)) : W p l e R s m args below meth c H locs cells slots Q (F0 m pc ls (.long v :: .int i :: .ref (ad k) :: rest)) := by
  refine va_last hx hb hK hP (gw_D hI) hS k 3 (cl_out h1 h2) rfl (ti_in hj hn) hd (fun H1 locs1 hP1 _ hS1 => kk (urL τ k (vp_updL (τ k) j v)) H1 locs1 (Up1L.of τ k j v) (Up1L.at τ k j v) ?_ hS1)
  rw [ti_cl hj] at hP1; rw [← gw_setl (cA := cA) (ad := ad) (σ := σ) (τ := τ) (k := k) (g := vp_updL (τ k) j v) (gc_out h1 h2)]
  exact hP1
theorem fpL_8_11 (hx : p.tables.exec = Jvm.exec) (hb : c.code = cc) {own : String} {index : Nat} {Ts : List Cond} (hts : ∀ w ∈ Ts, w.before args s = true) (hin : ∀ w ∈ u_ws RX8 TX8 15, w ∈ Ts) (hown : s.vm.findClass own = some m.cls) (hK : va_K D vwCl (tys cA) s) (hP : va_P D vwCl (gw cA ad σ τ) H) {k : Nat} (h1 : 1 ≤ k) (h2 : k ≤ 1) (hlink : (Cond.fieldLink own index "CuckooShares$Tape" "name" "J").before args s = true) (hI : Inj ad) (hS : va_S (AA ad) H0 H locs) {v : Int64} (hd : decode cc pc = .ok (.putfield index, 3)) (kk : ∀ (τ1 : Nat → Nat → Int64) (H1 : Heap) (locs1 : List Loc), Up1L τ τ1 k 11 → τ1 k 11 = v → va_P D vwCl (gw cA ad σ τ1) H1 → va_S (AA ad) H0 H1 locs1 → W p l e R s m args below meth c H1 locs1 cells slots Q (F0 m (pc + 3) ls rest)) : W p l e R s m args below meth c H locs cells slots Q (F0 m pc ls (.long v :: .ref (ad k) :: rest)) := by
  refine va_put (C := RX8) (T := TX8) (N := 15) (ty := .long) hx hb hts hin tyX8 tyX8_ok nmX8 hown hK hP (gw_D hI) hS k (cl_Tape h1 h2) rfl 11 (by decide) hlink (fun _ h => h) rfl (by decide +kernel) rfl rfl (Nat.le_of_ble_eq_true rfl) hd (fun H1 locs1 hP1 _ hS1 => kk (urL τ k (vp_updL (τ k) 11 v)) H1 locs1 (Up1L.of τ k 11 v) (Up1L.at τ k 11 v) ?_ hS1)
  rw [← gw_setl (cA := cA) (ad := ad) (σ := σ) (τ := τ) (k := k) (g := vp_updL (τ k) 11 v) (gc_Tape h1 h2)]
  exact hP1
theorem fpL_12_17 (hx : p.tables.exec = Jvm.exec) (hb : c.code = cc) {own : String} {index : Nat} {Ts : List Cond} (hts : ∀ w ∈ Ts, w.before args s = true) (hin : ∀ w ∈ u_ws RX12 TX12 47, w ∈ Ts) (hown : s.vm.findClass own = some m.cls) (hK : va_K D vwCl (tys cA) s) (hP : va_P D vwCl (gw cA ad σ τ) H) {k : Nat} (h1 : 387 ≤ k) (h2 : k ≤ 387) (hlink : (Cond.fieldLink own index "CuckooSharesModel" "word" "J").before args s = true) (hI : Inj ad) (hS : va_S (AA ad) H0 H locs) {v : Int64} (hd : decode cc pc = .ok (.putfield index, 3)) (kk : ∀ (τ1 : Nat → Nat → Int64) (H1 : Heap) (locs1 : List Loc), Up1L τ τ1 k 17 → τ1 k 17 = v → va_P D vwCl (gw cA ad σ τ1) H1 → va_S (AA ad) H0 H1 locs1 → W p l e R s m args below meth c H1 locs1 cells slots Q (F0 m (pc + 3) ls rest)) : W p l e R s m args below meth c H locs cells slots Q (F0 m pc ls (.long v :: .ref (ad k) :: rest)) := by
  refine va_put (C := RX12) (T := TX12) (N := 47) (ty := .long) hx hb hts hin tyX12 tyX12_ok nmX12 hown hK hP (gw_D hI) hS k (cl_M h1 h2) rfl 17 (by decide) hlink (fun _ h => h) rfl (by decide +kernel) rfl rfl (Nat.le_of_ble_eq_true rfl) hd (fun H1 locs1 hP1 _ hS1 => kk (urL τ k (vp_updL (τ k) 17 v)) H1 locs1 (Up1L.of τ k 17 v) (Up1L.at τ k 17 v) ?_ hS1)
  rw [← gw_setl (cA := cA) (ad := ad) (σ := σ) (τ := τ) (k := k) (g := vp_updL (τ k) 17 v) (gc_M h1 h2)]
  exact hP1
theorem cpL_vnames (hx : p.tables.exec = Jvm.exec) (hb : c.code = cc) (hml : c.maxLocals = ls.size) {own : String} {index : Nat} (hown : s.vm.findClass own = some m.cls) (hlink : (Cond.methodLink own index arraycopyName).before args s = true) (hnat : (Cond.native arraycopyName).before args s = true) (hstat : (Cond.static arraycopyName).before args s = true) (hini : (Cond.initialized "java/lang/System").before args s = true) (hK : va_K D vwCl (tys cA) s) (hP : va_P D vwCl (gw cA ad σ τ) H) (hI : Inj ad) (hS : va_S (AA ad) H0 H locs) {k q : Nat} (h1 : 40 ≤ k) (h2 : k ≤ 47) (h3 : 40 ≤ q) (h4 : q ≤ 47) {sp dp n : Int32} (e1 : sp.toInt = 0) (e2 : dp.toInt = 0) (e3 : n.toInt = 8) (hf : 1 ≤ R.frames) (hlo : (rest.map fun v => v.category).sum + (nativeFrameWords "java/lang/System" "arraycopy" 5 + 11) ≤ R.locals) (hd : decode cc pc = .ok (.invokestatic index, 3)) (kk : ∀ (τ1 : Nat → Nat → Int64) (H1 : Heap) (locs1 : List Loc), RowNL τ τ1 k 8 → (∀ j : Nat, j < 8 → τ1 k j = τ q j) → va_P D vwCl (gw cA ad σ τ1) H1 → va_S (AA ad) H0 H1 locs1 → W p l e R s m args below meth c H1 locs1 cells slots Q (F0 m (pc + 3) ls rest)) : W p l e R s m args below meth c H locs cells slots Q (F0 m pc ls (.int n :: .int dp :: .ref (ad k) :: .int sp :: .ref (ad q) :: rest)) := by
  have n1 : ¬ sp < 0 := by rw [Int32.lt_iff_toInt_lt, Int32.toInt_zero]; omega
  have n2 : ¬ dp < 0 := by rw [Int32.lt_iff_toInt_lt, Int32.toInt_zero]; omega
  have n3 : ¬ n < 0 := by rw [Int32.lt_iff_toInt_lt, Int32.toInt_zero]; omega
  have c1 : sp.toNatClampNeg = 0 := ti_cl e1
  have c2 : dp.toNatClampNeg = 0 := ti_cl e2
  have c3 : n.toNatClampNeg = 8 := ti_cl e3
  refine va_copyl hx hb hml hown hlink hnat hstat hini hK hP (gw_D hI) hS q k 3 3 (cl_vnames h3 h4) (cl_vnames h1 h2) rfl rfl rfl n1 n2 n3 (by omega) (by omega) (fun _ _ => rfl) hf hlo hd (fun H1 locs1 hP1 _ hS1 => kk (urL τ k (va_cpy (τ q) (τ k) 0 0 8)) H1 locs1 (RowNL.cp τ k q 8) (fun j hj => cpl_at τ k q hj) ?_ hS1)
  rw [c1, c2, c3] at hP1
  rw [← gw_setl (cA := cA) (ad := ad) (σ := σ) (τ := τ) (k := k) (g := va_cpy (τ q) (τ k) 0 0 8) (gc_vnames h1 h2)]
  exact hP1
theorem r_lcmpE (hx : p.tables.exec = Jvm.exec) (hb : c.code = cc) {x y : Int64} (hd : decode cc pc = .ok (.lcmp, 1)) (kk : ∀ z : Int32, (z.toInt = 0 ↔ x = y) → W p l e R s m args below meth c H locs cells slots Q (F0 m (pc + 1) ls (.int z :: rest))) : W p l e R s m args below meth c H locs cells slots Q (F0 m pc ls (.long y :: .long x :: rest)) := W.lcmp hx hb hd (kk _ (lcmp_0 x y))
end TLo
/-! tokens of a text as pure functions of its bytes -/
abbrev isLt (c : Int) : Prop := 97 ≤ c ∧ c ≤ 122
abbrev isDg (c : Int) : Prop := 48 ≤ c ∧ c ≤ 57
abbrev isRn (c : Int) : Prop := isLt c ∨ isDg c
abbrev isBl (c : Int) : Prop := c = 32 ∨ c = 10
/-- where what begins at s and keeps to P ends -/
def stE (P : Nat → Bool) (N : Nat) : Nat → Nat → Nat
  | 0, s => s
  | f + 1, s => if s < N ∧ P s = true then stE P N f (s + 1) else s
theorem stE_le (P : Nat → Bool) (N : Nat) : ∀ f s : Nat, s ≤ stE P N f s ∧ stE P N f s ≤ s + f
  | 0, s => ⟨Nat.le_refl _, Nat.le_refl _⟩
  | f + 1, s => by
    unfold stE
    split
    · have := stE_le P N f (s + 1)
      omega
    · omega
theorem stE_in (P : Nat → Bool) (N : Nat) : ∀ f s i : Nat, s ≤ i → i < stE P N f s → i < N ∧ P i = true
  | 0, s, i, h1, h2 => by
    unfold stE at h2
    omega
  | f + 1, s, i, h1, h2 => by
    unfold stE at h2
    split at h2
    · rename_i q
      by_cases e : i = s
      · subst e; exact q
      · exact stE_in P N f (s + 1) i (by omega) h2
    · omega
theorem stE_out (P : Nat → Bool) (N : Nat) : ∀ f s : Nat, N ≤ s + f → ¬ (stE P N f s < N ∧ P (stE P N f s) = true)
  | 0, s, h => by
    unfold stE
    omega
  | f + 1, s, h => by
    unfold stE
    split
    · exact stE_out P N f (s + 1) (by omega)
    · assumption
theorem stE_eq {P : Nat → Bool} {N f s t : Nat} (hf : N ≤ s + f) (h1 : s ≤ t) (h2 : ∀ i, s ≤ i → i < t → i < N ∧ P i = true) (h3 : ¬ (t < N ∧ P t = true)) : stE P N f s = t := by
  have g1 := (stE_le P N f s).1
  have g2 := stE_in P N f s
  have g3 := stE_out P N f s hf
  rcases Nat.lt_trichotomy (stE P N f s) t with q | q | q
  · exact absurd (h2 _ g1 q) g3
  · exact q
  · exact absurd (g2 t h1 q) h3
def runE (b : Nat → Int) (N s : Nat) : Nat := stE (fun i => decide (isRn (b i))) N N s
def skpE (b : Nat → Int) (N s : Nat) : Nat := stE (fun i => decide (isBl (b i))) N N s
theorem runE_eq {b : Nat → Int} {N s t : Nat} (h1 : s ≤ t) (h2 : ∀ i, s ≤ i → i < t → i < N ∧ isRn (b i)) (h3 : ¬ (t < N ∧ isRn (b t))) : runE b N s = t := stE_eq (by omega) h1 (fun i a c => ⟨(h2 i a c).1, decide_eq_true (h2 i a c).2⟩) (fun h => h3 ⟨h.1, of_decide_eq_true h.2⟩)
theorem skpE_eq {b : Nat → Int} {N s t : Nat} (h1 : s ≤ t) (h2 : ∀ i, s ≤ i → i < t → i < N ∧ isBl (b i)) (h3 : ¬ (t < N ∧ isBl (b t))) : skpE b N s = t := stE_eq (by omega) h1 (fun i a c => ⟨(h2 i a c).1, decide_eq_true (h2 i a c).2⟩) (fun h => h3 ⟨h.1, of_decide_eq_true h.2⟩)
/-- a number read by its signs -/
def fd (B k : Int) (b : Nat → Int) (s : Nat) : Nat → Int
  | 0 => 0
  | n + 1 => fd B k b s n * B + (b (s + n) - k)
theorem fd_nn {B k : Int} {b : Nat → Int} {s : Nat} (hB : 0 < B) : ∀ {n : Nat}, (∀ i, i < n → 1 ≤ b (s + i) - k ∧ b (s + i) - k < B) → (0 ≤ fd B k b s n ∧ (0 < n → 1 ≤ fd B k b s n))
  | 0, _ => ⟨Int.le_refl _, fun h => absurd h (Nat.lt_irrefl _)⟩
  | n + 1, h => by
    have h1 := (fd_nn hB (n := n) (fun i hi => h i (by omega))).1
    have h2 := h n (by omega)
    have h3 : 0 ≤ fd B k b s n * B := Int.mul_nonneg h1 (by omega)
    show 0 ≤ fd B k b s n * B + (b (s + n) - k) ∧ (0 < n + 1 → 1 ≤ fd B k b s n * B + (b (s + n) - k))
    omega
theorem fd_split {B x y c d : Int} (hB : 0 < B) (hc : 0 ≤ c) (hc2 : c < B) (hd : 0 ≤ d) (hd2 : d < B) (e : x * B + c = y * B + d) : x = y ∧ c = d := by
  have h1 : (x * B + c) / B = x := by rw [Int.add_comm, Int.add_mul_ediv_right _ _ (by omega), Int.ediv_eq_zero_of_lt hc hc2]; omega
  have h2 : (y * B + d) / B = y := by rw [Int.add_comm, Int.add_mul_ediv_right _ _ (by omega), Int.ediv_eq_zero_of_lt hd hd2]; omega
  have h3 : x = y := by rw [← h1, ← h2, e]
  subst h3
  exact ⟨rfl, by omega⟩
theorem fd_inj {B k : Int} {b : Nat → Int} (hB : 0 < B) {s s' : Nat} : ∀ {n n' : Nat}, (∀ i, i < n → 1 ≤ b (s + i) - k ∧ b (s + i) - k < B) → (∀ i, i < n' → 1 ≤ b (s' + i) - k ∧ b (s' + i) - k < B) → fd B k b s n = fd B k b s' n' → n = n' ∧ ∀ i, i < n → b (s + i) = b (s' + i)
  | 0, 0, _, _, _ => ⟨rfl, fun i hi => absurd hi (Nat.not_lt_zero i)⟩
  | 0, n' + 1, _, h2, e => by
    have := (fd_nn hB h2).2 (by omega)
    rw [← e] at this
    exact absurd this (by show ¬ (1 : Int) ≤ 0; omega)
  | n + 1, 0, h1, _, e => by
    have := (fd_nn hB h1).2 (by omega)
    rw [e] at this
    exact absurd this (by show ¬ (1 : Int) ≤ 0; omega)
  | n + 1, n' + 1, h1, h2, e => by
    have a1 := h1 n (by omega)
    have a2 := h2 n' (by omega)
    have e' : fd B k b s n * B + (b (s + n) - k) = fd B k b s' n' * B + (b (s' + n') - k) := e
    obtain ⟨q1, q2⟩ := fd_split hB (by omega) a1.2 (by omega) a2.2 e'
    obtain ⟨r1, r2⟩ := fd_inj hB (n := n) (n' := n') (fun i hi => h1 i (by omega)) (fun i hi => h2 i (by omega)) q1
    subst r1
    refine ⟨rfl, fun i hi => ?_⟩
    by_cases c : i = n
    · subst c; omega
    · exact r2 i (by omega)
theorem fd_congr {B k : Int} {b : Nat → Int} {s s' : Nat} : ∀ {n : Nat}, (∀ i, i < n → b (s + i) = b (s' + i)) → fd B k b s n = fd B k b s' n
  | 0, _ => rfl
  | n + 1, h => by
    show fd B k b s n * B + (b (s + n) - k) = fd B k b s' n * B + (b (s' + n) - k)
    rw [fd_congr (n := n) (fun i hi => h i (by omega)), h n (by omega)]
/-- two words of small letters are one by base 27 where they are by base 256 -/
theorem fd_two {b : Nat → Int} {s s' n n' : Nat} (h1 : ∀ i, i < n → isLt (b (s + i))) (h2 : ∀ i, i < n' → isLt (b (s' + i))) : fd 27 96 b s n = fd 27 96 b s' n' ↔ fd 256 0 b s n = fd 256 0 b s' n' := by
  constructor
  · intro e
    obtain ⟨r1, r2⟩ := fd_inj (by decide) (fun i hi => by have := h1 i hi; omega) (fun i hi => by have := h2 i hi; omega) e
    subst r1
    exact fd_congr r2
  · intro e
    obtain ⟨r1, r2⟩ := fd_inj (by decide) (fun i hi => by have := h1 i hi; omega) (fun i hi => by have := h2 i hi; omega) e
    subst r1
    exact fd_congr r2
/-- the class's bytes; its tokens of single signs -/
def bC (σ : Nat → Nat → Int32) (j : Nat) : Int := ((σ 35 j) &&& 255).toInt
def bM (σ : Nat → Nat → Int32) (j : Nat) : Int := ((σ 388 j) &&& 255).toInt
def sgT (c : Int) : Int := if c = 59 then 40 else if c = 60 then 41 else if c = 61 then 42 else if c = 62 then 43 else if c = 40 then 44 else if c = 41 then 45 else 49
