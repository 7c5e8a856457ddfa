theorem Fr.nil {σ σ1 : Nat → Nat → Int32} (h : Fr [] σ σ1) : σ = σ1 := funext fun k => funext fun j => (h k j (fun q hq => by cases hq)).symm
theorem Fr.puts {L : List Rc} {σ σ1 σ2 : Nat → Nat → Int32} {k j a b c d : Nat} (h : Fr L σ σ1) (u : Up1 σ1 σ2 k j) (i : Nat) (hi : L[i]? = some (a, b, c, d)) (h1 : a ≤ k) (h2 : k ≤ b) (h3 : c ≤ j) (h4 : j ≤ d) : Fr L σ σ2 := h.put u i hi ⟨h1, h2, h3, h4⟩
/-- σ' is σ but in the row k -/
def Row1 (σ σ1 : Nat → Nat → Int32) (k : Nat) : Prop := ∀ k' j' : Nat, k' ≠ k → σ1 k' j' = σ k' j'
theorem Row1.of (σ : Nat → Nat → Int32) (k : Nat) (f : Nat → Int32) : Row1 σ (ur σ k f) k := fun k' j' h => by rw [ur_ne _ _ h]
/-- a row that is changed in its first n slots alone -/
def RowN (σ σ1 : Nat → Nat → Int32) (k n : Nat) : Prop := ∀ k' j' : Nat, (k' ≠ k ∨ n ≤ j') → σ1 k' j' = σ k' j'
theorem Fr.row {L : List Rc} {σ σ1 σ2 : Nat → Nat → Int32} {k n a b c d : Nat} (h : Fr L σ σ1) (u : RowN σ1 σ2 k n) (i : Nat) (hi : L[i]? = some (a, b, c, d)) (h1 : a ≤ k) (h2 : k ≤ b) (h3 : c ≤ 0) (h4 : n ≤ d) : Fr L σ σ2 := by
  intro k' j' hn
  rw [u k' j' ?_]
  · exact h k' j' hn
  · by_cases e : k' = k
    · right
      rcases Nat.lt_or_ge j' n with q | q
      · exact absurd (show inRc (a, b, c, d) k' j' from ⟨by subst e; exact h1, by subst e; exact h2, Nat.le_trans h3 (Nat.zero_le _), by show j' ≤ d; omega⟩) (hn _ (List.mem_of_getElem? hi))
      · exact q
    · exact Or.inl e
def Cx (p : Program) (s : State) (m : MethodId) (args : Array Value) (meth : Method) (c : Code) (cc : ByteArray) (nL : Nat) (Ts : List Cond) (own : String) (D : va_G) (cA : Nat → ClassId) (ad : Nat → Nat) (rt : Option FieldType) : Prop := p.tables.exec = Jvm.exec ∧ c.code = cc ∧ c.maxLocals = nL ∧ s.vm.findClass own = some m.cls ∧ (∀ w ∈ Ts, w.before args s = true) ∧ va_K D vwCl (tys cA) s ∧ meth.locks = false ∧ meth.sig.returnType = rt ∧ Inj ad
section TM
variable {p : Program} {l : Launch} {e : Env} {R : Room} {s : State} {m : MethodId} {args : Array Value} {below : List Frame} {meth : Method} {c : Code} {H : Heap} {locs : List Loc} {cells slots : Nat} {Q : State → Prop}
variable {cc : ByteArray} {pc : Nat} {ls : Array Slot} {rest : List Value} {D : va_G} {cA : Nat → ClassId} {ad : Nat → Nat} {σ : Nat → Nat → Int32} {τ : Nat → Nat → Int64} {H0 : Heap}
theorem r_mmin (hx : p.tables.exec = Jvm.exec) (hb : c.code = cc) (hml : c.maxLocals = ls.size) {own : String} {index : Nat} (hown : s.vm.findClass own = some m.cls) (hlink : (Cond.methodLink own index Lib.Math.min.name).before args s = true) (hstat : (Cond.static Lib.Math.min.name).before args s = true) (hini : (Cond.initialized "java/lang/Math").before args s = true) (hcode : (Cond.code Lib.Math.min.name Lib.Math.min.code 2 (some .int)).before args s = true) (hf : 1 ≤ R.frames) (hlo : (rest.map fun v => v.category).sum + 13 ≤ R.locals) {x y : Int32} (hcs : cells ≤ R.cells) (hsl : slots ≤ R.slots) (hd : decode cc pc = .ok (.invokestatic index, 3)) (kk : ∀ z : Int32, ((z.toInt = x.toInt ∨ z.toInt = y.toInt) ∧ z.toInt ≤ x.toInt ∧ z.toInt ≤ y.toInt) → W p l e R s m args below meth c H locs cells slots Q (F0 m (pc + 3) ls (.int z :: rest))) : W p l e R s m args below meth c H locs cells slots Q (F0 m pc ls (.int y :: .int x :: rest)) := by
  refine va_mmin hx hb hml hown hlink hstat hini hcode hf hlo hcs hsl hd (kk _ ?_)
  split <;> rename_i h <;> rw [Int32.lt_iff_toInt_lt] at h <;> omega
theorem r_mmax (hx : p.tables.exec = Jvm.exec) (hb : c.code = cc) (hml : c.maxLocals = ls.size) {own : String} {index : Nat} (hown : s.vm.findClass own = some m.cls) (hlink : (Cond.methodLink own index Lib.Math.max.name).before args s = true) (hstat : (Cond.static Lib.Math.max.name).before args s = true) (hini : (Cond.initialized "java/lang/Math").before args s = true) (hcode : (Cond.code Lib.Math.max.name Lib.Math.max.code 2 (some .int)).before args s = true) (hf : 1 ≤ R.frames) (hlo : (rest.map fun v => v.category).sum + 13 ≤ R.locals) {x y : Int32} (hcs : cells ≤ R.cells) (hsl : slots ≤ R.slots) (hd : decode cc pc = .ok (.invokestatic index, 3)) (kk : ∀ z : Int32, ((z.toInt = x.toInt ∨ z.toInt = y.toInt) ∧ x.toInt ≤ z.toInt ∧ y.toInt ≤ z.toInt) → W p l e R s m args below meth c H locs cells slots Q (F0 m (pc + 3) ls (.int z :: rest))) : W p l e R s m args below meth c H locs cells slots Q (F0 m pc ls (.int y :: .int x :: rest)) := by
  refine va_mmax hx hb hml hown hlink hstat hini hcode hf hlo hcs hsl hd (kk _ ?_)
  split <;> rename_i h <;> rw [Int32.lt_iff_toInt_lt] at h <;> omega
theorem r_mabs (hx : p.tables.exec = Jvm.exec) (hb : c.code = cc) (hml : c.maxLocals = ls.size) {own : String} {index : Nat} (hown : s.vm.findClass own = some m.cls) (hlink : (Cond.methodLink own index Lib.Math.abs.name).before args s = true) (hstat : (Cond.static Lib.Math.abs.name).before args s = true) (hini : (Cond.initialized "java/lang/Math").before args s = true) (hcode : (Cond.code Lib.Math.abs.name Lib.Math.abs.code 1 (some .int)).before args s = true) (hf : 1 ≤ R.frames) (hlo : (rest.map fun v => v.category).sum + 13 ≤ R.locals) {x : Int32} (hcs : cells ≤ R.cells) (hsl : slots ≤ R.slots) (hd : decode cc pc = .ok (.invokestatic index, 3)) (kk : ∀ z : Int32, W p l e R s m args below meth c H locs cells slots Q (F0 m (pc + 3) ls (.int z :: rest))) : W p l e R s m args below meth c H locs cells slots Q (F0 m pc ls (.int x :: rest)) := va_mabs hx hb hml hown hlink hstat hini hcode hf hlo hcs hsl hd (kk _)
theorem rlo_flightR_0 {k j : Nat} (h1 : 132 ≤ k) (h2 : k ≤ 147) (h3 : 2 ≤ j) (h4 : j ≤ 2) : rlo k j = 0 := by
  unfold rlo
  rw [if_neg (by omega), if_neg (by omega), if_neg (by omega), if_neg (by omega), if_neg (by omega), if_neg (by omega), if_neg (by omega), if_neg (by omega), if_pos (by omega), if_pos (by omega)]
theorem rhi_flightR_0 {k j : Nat} (h1 : 132 ≤ k) (h2 : k ≤ 147) (h3 : 2 ≤ j) (h4 : j ≤ 2) : rhi k j = 10 := by
  unfold rhi
  rw [if_neg (by omega), if_neg (by omega), if_neg (by omega), if_neg (by omega), if_neg (by omega), if_neg (by omega), if_neg (by omega), if_neg (by omega), if_pos (by omega), if_pos (by omega)]
theorem ra_flightR_0 {σ : Nat → Nat → Int32} (hR : Rg σ) {k j : Nat} (h1 : 132 ≤ k) (h2 : k ≤ 147) (h3 : 2 ≤ j) (h4 : j ≤ 2) : 0 ≤ (σ k j).toInt ∧ (σ k j).toInt ≤ 10 := by
  have h := hR k j
  rw [rlo_flightR_0 h1 h2 h3 h4, rhi_flightR_0 h1 h2 h3 h4] at h
  exact h
theorem rw_flightR_0 {v : Int32} {k j : Nat} (h1 : 132 ≤ k) (h2 : k ≤ 147) (h3 : 2 ≤ j) (h4 : j ≤ 2) (hv : 0 ≤ v.toInt ∧ v.toInt ≤ 10) : rlo k j ≤ v.toInt ∧ v.toInt ≤ rhi k j := by
  rw [rlo_flightR_0 h1 h2 h3 h4, rhi_flightR_0 h1 h2 h3 h4]
  exact hv
theorem rx_flightR_0 {v : Int32} {k j : Nat} (h1 : 132 ≤ k) (h2 : k ≤ 147) (h3 : 0 ≤ j) (h4 : j ≤ 1) : rlo k j ≤ v.toInt ∧ v.toInt ≤ rhi k j := by
  unfold rlo rhi
  rw [if_neg (by omega), if_neg (by omega), if_neg (by omega), if_neg (by omega), if_neg (by omega), if_neg (by omega), if_neg (by omega), if_neg (by omega), if_pos (by omega), if_neg (by omega), if_neg (by omega), if_neg (by omega), if_neg (by omega), if_neg (by omega), if_neg (by omega), if_neg (by omega), if_neg (by omega), if_neg (by omega), if_pos (by omega), if_neg (by omega)]
  exact ⟨ti_lo _, ti_hi _⟩
theorem rlo_ms_0 {k j : Nat} (h1 : 389 ≤ k) (h2 : k ≤ 389) (h3 : 0 ≤ j) (h4 : j ≤ 1) : rlo k j = 0 := by
  unfold rlo
  rw [if_neg (by omega), if_neg (by omega), if_neg (by omega), if_neg (by omega), if_neg (by omega), if_neg (by omega), if_neg (by omega), if_neg (by omega), if_neg (by omega), if_neg (by omega), if_pos (by omega), if_pos (by omega)]
theorem rhi_ms_0 {k j : Nat} (h1 : 389 ≤ k) (h2 : k ≤ 389) (h3 : 0 ≤ j) (h4 : j ≤ 1) : rhi k j = 8 := by
  unfold rhi
  rw [if_neg (by omega), if_neg (by omega), if_neg (by omega), if_neg (by omega), if_neg (by omega), if_neg (by omega), if_neg (by omega), if_neg (by omega), if_neg (by omega), if_neg (by omega), if_pos (by omega), if_pos (by omega)]
theorem ra_ms_0 {σ : Nat → Nat → Int32} (hR : Rg σ) {k j : Nat} (h1 : 389 ≤ k) (h2 : k ≤ 389) (h3 : 0 ≤ j) (h4 : j ≤ 1) : 0 ≤ (σ k j).toInt ∧ (σ k j).toInt ≤ 8 := by
  have h := hR k j
  rw [rlo_ms_0 h1 h2 h3 h4, rhi_ms_0 h1 h2 h3 h4] at h
  exact h
theorem rw_ms_0 {v : Int32} {k j : Nat} (h1 : 389 ≤ k) (h2 : k ≤ 389) (h3 : 0 ≤ j) (h4 : j ≤ 1) (hv : 0 ≤ v.toInt ∧ v.toInt ≤ 8) : rlo k j ≤ v.toInt ∧ v.toInt ≤ rhi k j := by
  rw [rlo_ms_0 h1 h2 h3 h4, rhi_ms_0 h1 h2 h3 h4]
  exact hv
theorem rlo_ms_1 {k j : Nat} (h1 : 389 ≤ k) (h2 : k ≤ 389) (h3 : 2 ≤ j) (h4 : j ≤ 2) : rlo k j = 0 := by
  unfold rlo
  rw [if_neg (by omega), if_neg (by omega), if_neg (by omega), if_neg (by omega), if_neg (by omega), if_neg (by omega), if_neg (by omega), if_neg (by omega), if_neg (by omega), if_neg (by omega), if_pos (by omega), if_neg (by omega), if_pos (by omega)]
theorem rhi_ms_1 {k j : Nat} (h1 : 389 ≤ k) (h2 : k ≤ 389) (h3 : 2 ≤ j) (h4 : j ≤ 2) : rhi k j = 4 := by
  unfold rhi
  rw [if_neg (by omega), if_neg (by omega), if_neg (by omega), if_neg (by omega), if_neg (by omega), if_neg (by omega), if_neg (by omega), if_neg (by omega), if_neg (by omega), if_neg (by omega), if_pos (by omega), if_neg (by omega), if_pos (by omega)]
theorem ra_ms_1 {σ : Nat → Nat → Int32} (hR : Rg σ) {k j : Nat} (h1 : 389 ≤ k) (h2 : k ≤ 389) (h3 : 2 ≤ j) (h4 : j ≤ 2) : 0 ≤ (σ k j).toInt ∧ (σ k j).toInt ≤ 4 := by
  have h := hR k j
  rw [rlo_ms_1 h1 h2 h3 h4, rhi_ms_1 h1 h2 h3 h4] at h
  exact h
theorem rw_ms_1 {v : Int32} {k j : Nat} (h1 : 389 ≤ k) (h2 : k ≤ 389) (h3 : 2 ≤ j) (h4 : j ≤ 2) (hv : 0 ≤ v.toInt ∧ v.toInt ≤ 4) : rlo k j ≤ v.toInt ∧ v.toInt ≤ rhi k j := by
  rw [rlo_ms_1 h1 h2 h3 h4, rhi_ms_1 h1 h2 h3 h4]
  exact hv
theorem rlo_ms_2 {k j : Nat} (h1 : 389 ≤ k) (h2 : k ≤ 389) (h3 : 31 ≤ j) (h4 : j ≤ 38) : rlo k j = 0 := by
  unfold rlo
  rw [if_neg (by omega), if_neg (by omega), if_neg (by omega), if_neg (by omega), if_neg (by omega), if_neg (by omega), if_neg (by omega), if_neg (by omega), if_neg (by omega), if_neg (by omega), if_pos (by omega), if_neg (by omega), if_neg (by omega), if_pos (by omega)]
theorem rhi_ms_2 {k j : Nat} (h1 : 389 ≤ k) (h2 : k ≤ 389) (h3 : 31 ≤ j) (h4 : j ≤ 38) : rhi k j = 7 := by
  unfold rhi
  rw [if_neg (by omega), if_neg (by omega), if_neg (by omega), if_neg (by omega), if_neg (by omega), if_neg (by omega), if_neg (by omega), if_neg (by omega), if_neg (by omega), if_neg (by omega), if_pos (by omega), if_neg (by omega), if_neg (by omega), if_pos (by omega)]
theorem ra_ms_2 {σ : Nat → Nat → Int32} (hR : Rg σ) {k j : Nat} (h1 : 389 ≤ k) (h2 : k ≤ 389) (h3 : 31 ≤ j) (h4 : j ≤ 38) : 0 ≤ (σ k j).toInt ∧ (σ k j).toInt ≤ 7 := by
  have h := hR k j
  rw [rlo_ms_2 h1 h2 h3 h4, rhi_ms_2 h1 h2 h3 h4] at h
  exact h
theorem rw_ms_2 {v : Int32} {k j : Nat} (h1 : 389 ≤ k) (h2 : k ≤ 389) (h3 : 31 ≤ j) (h4 : j ≤ 38) (hv : 0 ≤ v.toInt ∧ v.toInt ≤ 7) : rlo k j ≤ v.toInt ∧ v.toInt ≤ rhi k j := by
  rw [rlo_ms_2 h1 h2 h3 h4, rhi_ms_2 h1 h2 h3 h4]
  exact hv
theorem rlo_ms_3 {k j : Nat} (h1 : 389 ≤ k) (h2 : k ≤ 389) (h3 : 63 ≤ j) (h4 : j ≤ 70) : rlo k j = 0 := by
  unfold rlo
  rw [if_neg (by omega), if_neg (by omega), if_neg (by omega), if_neg (by omega), if_neg (by omega), if_neg (by omega), if_neg (by omega), if_neg (by omega), if_neg (by omega), if_neg (by omega), if_pos (by omega), if_neg (by omega), if_neg (by omega), if_neg (by omega), if_pos (by omega)]
theorem rhi_ms_3 {k j : Nat} (h1 : 389 ≤ k) (h2 : k ≤ 389) (h3 : 63 ≤ j) (h4 : j ≤ 70) : rhi k j = 8 := by
  unfold rhi
  rw [if_neg (by omega), if_neg (by omega), if_neg (by omega), if_neg (by omega), if_neg (by omega), if_neg (by omega), if_neg (by omega), if_neg (by omega), if_neg (by omega), if_neg (by omega), if_pos (by omega), if_neg (by omega), if_neg (by omega), if_neg (by omega), if_pos (by omega)]
theorem ra_ms_3 {σ : Nat → Nat → Int32} (hR : Rg σ) {k j : Nat} (h1 : 389 ≤ k) (h2 : k ≤ 389) (h3 : 63 ≤ j) (h4 : j ≤ 70) : 0 ≤ (σ k j).toInt ∧ (σ k j).toInt ≤ 8 := by
  have h := hR k j
  rw [rlo_ms_3 h1 h2 h3 h4, rhi_ms_3 h1 h2 h3 h4] at h
  exact h
theorem rw_ms_3 {v : Int32} {k j : Nat} (h1 : 389 ≤ k) (h2 : k ≤ 389) (h3 : 63 ≤ j) (h4 : j ≤ 70) (hv : 0 ≤ v.toInt ∧ v.toInt ≤ 8) : rlo k j ≤ v.toInt ∧ v.toInt ≤ rhi k j := by
  rw [rlo_ms_3 h1 h2 h3 h4, rhi_ms_3 h1 h2 h3 h4]
  exact hv
theorem rlo_ms_4 {k j : Nat} (h1 : 389 ≤ k) (h2 : k ≤ 389) (h3 : 87 ≤ j) (h4 : j ≤ 90) : rlo k j = 0 := by
  unfold rlo
  rw [if_neg (by omega), if_neg (by omega), if_neg (by omega), if_neg (by omega), if_neg (by omega), if_neg (by omega), if_neg (by omega), if_neg (by omega), if_neg (by omega), if_neg (by omega), if_pos (by omega), if_neg (by omega), if_neg (by omega), if_neg (by omega), if_neg (by omega), if_pos (by omega)]
theorem rhi_ms_4 {k j : Nat} (h1 : 389 ≤ k) (h2 : k ≤ 389) (h3 : 87 ≤ j) (h4 : j ≤ 90) : rhi k j = 10 := by
  unfold rhi
  rw [if_neg (by omega), if_neg (by omega), if_neg (by omega), if_neg (by omega), if_neg (by omega), if_neg (by omega), if_neg (by omega), if_neg (by omega), if_neg (by omega), if_neg (by omega), if_pos (by omega), if_neg (by omega), if_neg (by omega), if_neg (by omega), if_neg (by omega), if_pos (by omega)]
theorem ra_ms_4 {σ : Nat → Nat → Int32} (hR : Rg σ) {k j : Nat} (h1 : 389 ≤ k) (h2 : k ≤ 389) (h3 : 87 ≤ j) (h4 : j ≤ 90) : 0 ≤ (σ k j).toInt ∧ (σ k j).toInt ≤ 10 := by
  have h := hR k j
  rw [rlo_ms_4 h1 h2 h3 h4, rhi_ms_4 h1 h2 h3 h4] at h
  exact h
theorem rw_ms_4 {v : Int32} {k j : Nat} (h1 : 389 ≤ k) (h2 : k ≤ 389) (h3 : 87 ≤ j) (h4 : j ≤ 90) (hv : 0 ≤ v.toInt ∧ v.toInt ≤ 10) : rlo k j ≤ v.toInt ∧ v.toInt ≤ rhi k j := by
  rw [rlo_ms_4 h1 h2 h3 h4, rhi_ms_4 h1 h2 h3 h4]
  exact hv
theorem rlo_ms_5 {k j : Nat} (h1 : 389 ≤ k) (h2 : k ≤ 389) (h3 : 212 ≤ j) (h4 : j ≤ 212) : rlo k j = 0 := by
  unfold rlo
  rw [if_neg (by omega), if_neg (by omega), if_neg (by omega), if_neg (by omega), if_neg (by omega), if_neg (by omega), if_neg (by omega), if_neg (by omega), if_neg (by omega), if_neg (by omega), if_pos (by omega), if_neg (by omega), if_neg (by omega), if_neg (by omega), if_neg (by omega), if_neg (by omega), if_pos (by omega)]
theorem rhi_ms_5 {k j : Nat} (h1 : 389 ≤ k) (h2 : k ≤ 389) (h3 : 212 ≤ j) (h4 : j ≤ 212) : rhi k j = 4 := by
  unfold rhi
  rw [if_neg (by omega), if_neg (by omega), if_neg (by omega), if_neg (by omega), if_neg (by omega), if_neg (by omega), if_neg (by omega), if_neg (by omega), if_neg (by omega), if_neg (by omega), if_pos (by omega), if_neg (by omega), if_neg (by omega), if_neg (by omega), if_neg (by omega), if_neg (by omega), if_pos (by omega)]
theorem ra_ms_5 {σ : Nat → Nat → Int32} (hR : Rg σ) {k j : Nat} (h1 : 389 ≤ k) (h2 : k ≤ 389) (h3 : 212 ≤ j) (h4 : j ≤ 212) : 0 ≤ (σ k j).toInt ∧ (σ k j).toInt ≤ 4 := by
  have h := hR k j
  rw [rlo_ms_5 h1 h2 h3 h4, rhi_ms_5 h1 h2 h3 h4] at h
  exact h
theorem rw_ms_5 {v : Int32} {k j : Nat} (h1 : 389 ≤ k) (h2 : k ≤ 389) (h3 : 212 ≤ j) (h4 : j ≤ 212) (hv : 0 ≤ v.toInt ∧ v.toInt ≤ 4) : rlo k j ≤ v.toInt ∧ v.toInt ≤ rhi k j := by
  rw [rlo_ms_5 h1 h2 h3 h4, rhi_ms_5 h1 h2 h3 h4]
  exact hv
theorem rlo_ms_6 {k j : Nat} (h1 : 389 ≤ k) (h2 : k ≤ 389) (h3 : 214 ≤ j) (h4 : j ≤ 221) : rlo k j = 0 := by
  unfold rlo
  rw [if_neg (by omega), if_neg (by omega), if_neg (by omega), if_neg (by omega), if_neg (by omega), if_neg (by omega), if_neg (by omega), if_neg (by omega), if_neg (by omega), if_neg (by omega), if_pos (by omega), if_neg (by omega), if_neg (by omega), if_neg (by omega), if_neg (by omega), if_neg (by omega), if_neg (by omega), if_pos (by omega)]
theorem rhi_ms_6 {k j : Nat} (h1 : 389 ≤ k) (h2 : k ≤ 389) (h3 : 214 ≤ j) (h4 : j ≤ 221) : rhi k j = 7 := by
  unfold rhi
  rw [if_neg (by omega), if_neg (by omega), if_neg (by omega), if_neg (by omega), if_neg (by omega), if_neg (by omega), if_neg (by omega), if_neg (by omega), if_neg (by omega), if_neg (by omega), if_pos (by omega), if_neg (by omega), if_neg (by omega), if_neg (by omega), if_neg (by omega), if_neg (by omega), if_neg (by omega), if_pos (by omega)]
theorem ra_ms_6 {σ : Nat → Nat → Int32} (hR : Rg σ) {k j : Nat} (h1 : 389 ≤ k) (h2 : k ≤ 389) (h3 : 214 ≤ j) (h4 : j ≤ 221) : 0 ≤ (σ k j).toInt ∧ (σ k j).toInt ≤ 7 := by
  have h := hR k j
  rw [rlo_ms_6 h1 h2 h3 h4, rhi_ms_6 h1 h2 h3 h4] at h
  exact h
theorem rw_ms_6 {v : Int32} {k j : Nat} (h1 : 389 ≤ k) (h2 : k ≤ 389) (h3 : 214 ≤ j) (h4 : j ≤ 221) (hv : 0 ≤ v.toInt ∧ v.toInt ≤ 7) : rlo k j ≤ v.toInt ∧ v.toInt ≤ rhi k j := by
  rw [rlo_ms_6 h1 h2 h3 h4, rhi_ms_6 h1 h2 h3 h4]
  exact hv
theorem rlo_ms_7 {k j : Nat} (h1 : 389 ≤ k) (h2 : k ≤ 389) (h3 : 230 ≤ j) (h4 : j ≤ 237) : rlo k j = 0 := by
  unfold rlo
  rw [if_neg (by omega), if_neg (by omega), if_neg (by omega), if_neg (by omega), if_neg (by omega), if_neg (by omega), if_neg (by omega), if_neg (by omega), if_neg (by omega), if_neg (by omega), if_pos (by omega), if_neg (by omega), if_neg (by omega), if_neg (by omega), if_neg (by omega), if_neg (by omega), if_neg (by omega), if_neg (by omega), if_pos (by omega)]
theorem rhi_ms_7 {k j : Nat} (h1 : 389 ≤ k) (h2 : k ≤ 389) (h3 : 230 ≤ j) (h4 : j ≤ 237) : rhi k j = 10 := by
  unfold rhi
  rw [if_neg (by omega), if_neg (by omega), if_neg (by omega), if_neg (by omega), if_neg (by omega), if_neg (by omega), if_neg (by omega), if_neg (by omega), if_neg (by omega), if_neg (by omega), if_pos (by omega), if_neg (by omega), if_neg (by omega), if_neg (by omega), if_neg (by omega), if_neg (by omega), if_neg (by omega), if_neg (by omega), if_pos (by omega)]
theorem ra_ms_7 {σ : Nat → Nat → Int32} (hR : Rg σ) {k j : Nat} (h1 : 389 ≤ k) (h2 : k ≤ 389) (h3 : 230 ≤ j) (h4 : j ≤ 237) : 0 ≤ (σ k j).toInt ∧ (σ k j).toInt ≤ 10 := by
  have h := hR k j
  rw [rlo_ms_7 h1 h2 h3 h4, rhi_ms_7 h1 h2 h3 h4] at h
  exact h
theorem rw_ms_7 {v : Int32} {k j : Nat} (h1 : 389 ≤ k) (h2 : k ≤ 389) (h3 : 230 ≤ j) (h4 : j ≤ 237) (hv : 0 ≤ v.toInt ∧ v.toInt ≤ 10) : rlo k j ≤ v.toInt ∧ v.toInt ≤ rhi k j := by
  rw [rlo_ms_7 h1 h2 h3 h4, rhi_ms_7 h1 h2 h3 h4]
  exact hv
theorem rlo_ms_8 {k j : Nat} (h1 : 389 ≤ k) (h2 : k ≤ 389) (h3 : 246 ≤ j) (h4 : j ≤ 246) : rlo k j = 0 := by
  unfold rlo
  rw [if_neg (by omega), if_neg (by omega), if_neg (by omega), if_neg (by omega), if_neg (by omega), if_neg (by omega), if_neg (by omega), if_neg (by omega), if_neg (by omega), if_neg (by omega), if_pos (by omega), if_neg (by omega), if_neg (by omega), if_neg (by omega), if_neg (by omega), if_neg (by omega), if_neg (by omega), if_neg (by omega), if_neg (by omega), if_pos (by omega)]
theorem rhi_ms_8 {k j : Nat} (h1 : 389 ≤ k) (h2 : k ≤ 389) (h3 : 246 ≤ j) (h4 : j ≤ 246) : rhi k j = 40 := by
  unfold rhi
  rw [if_neg (by omega), if_neg (by omega), if_neg (by omega), if_neg (by omega), if_neg (by omega), if_neg (by omega), if_neg (by omega), if_neg (by omega), if_neg (by omega), if_neg (by omega), if_pos (by omega), if_neg (by omega), if_neg (by omega), if_neg (by omega), if_neg (by omega), if_neg (by omega), if_neg (by omega), if_neg (by omega), if_neg (by omega), if_pos (by omega)]
theorem ra_ms_8 {σ : Nat → Nat → Int32} (hR : Rg σ) {k j : Nat} (h1 : 389 ≤ k) (h2 : k ≤ 389) (h3 : 246 ≤ j) (h4 : j ≤ 246) : 0 ≤ (σ k j).toInt ∧ (σ k j).toInt ≤ 40 := by
  have h := hR k j
  rw [rlo_ms_8 h1 h2 h3 h4, rhi_ms_8 h1 h2 h3 h4] at h
  exact h
theorem rw_ms_8 {v : Int32} {k j : Nat} (h1 : 389 ≤ k) (h2 : k ≤ 389) (h3 : 246 ≤ j) (h4 : j ≤ 246) (hv : 0 ≤ v.toInt ∧ v.toInt ≤ 40) : rlo k j ≤ v.toInt ∧ v.toInt ≤ rhi k j := by
  rw [rlo_ms_8 h1 h2 h3 h4, rhi_ms_8 h1 h2 h3 h4]
  exact hv
theorem rx_ms_3 {v : Int32} {k j : Nat} (h1 : 389 ≤ k) (h2 : k ≤ 389) (h3 : 3 ≤ j) (h4 : j ≤ 30) : rlo k j ≤ v.toInt ∧ v.toInt ≤ rhi k j := by
  unfold rlo rhi
  rw [if_neg (by omega), if_neg (by omega), if_neg (by omega), if_neg (by omega), if_neg (by omega), if_neg (by omega), if_neg (by omega), if_neg (by omega), if_neg (by omega), if_neg (by omega), if_pos (by omega), if_neg (by omega), if_neg (by omega), if_neg (by omega), if_neg (by omega), if_neg (by omega), if_neg (by omega), if_neg (by omega), if_neg (by omega), if_neg (by omega), if_neg (by omega), if_neg (by omega), if_neg (by omega), if_neg (by omega), if_neg (by omega), if_neg (by omega), if_neg (by omega), if_neg (by omega), if_neg (by omega), if_neg (by omega), if_pos (by omega), if_neg (by omega), if_neg (by omega), if_neg (by omega), if_neg (by omega), if_neg (by omega), if_neg (by omega), if_neg (by omega), if_neg (by omega), if_neg (by omega)]
  exact ⟨ti_lo _, ti_hi _⟩
theorem rx_ms_39 {v : Int32} {k j : Nat} (h1 : 389 ≤ k) (h2 : k ≤ 389) (h3 : 39 ≤ j) (h4 : j ≤ 62) : rlo k j ≤ v.toInt ∧ v.toInt ≤ rhi k j := by
  unfold rlo rhi
  rw [if_neg (by omega), if_neg (by omega), if_neg (by omega), if_neg (by omega), if_neg (by omega), if_neg (by omega), if_neg (by omega), if_neg (by omega), if_neg (by omega), if_neg (by omega), if_pos (by omega), if_neg (by omega), if_neg (by omega), if_neg (by omega), if_neg (by omega), if_neg (by omega), if_neg (by omega), if_neg (by omega), if_neg (by omega), if_neg (by omega), if_neg (by omega), if_neg (by omega), if_neg (by omega), if_neg (by omega), if_neg (by omega), if_neg (by omega), if_neg (by omega), if_neg (by omega), if_neg (by omega), if_neg (by omega), if_pos (by omega), if_neg (by omega), if_neg (by omega), if_neg (by omega), if_neg (by omega), if_neg (by omega), if_neg (by omega), if_neg (by omega), if_neg (by omega), if_neg (by omega)]
  exact ⟨ti_lo _, ti_hi _⟩
theorem rx_ms_71 {v : Int32} {k j : Nat} (h1 : 389 ≤ k) (h2 : k ≤ 389) (h3 : 71 ≤ j) (h4 : j ≤ 86) : rlo k j ≤ v.toInt ∧ v.toInt ≤ rhi k j := by
  unfold rlo rhi
  rw [if_neg (by omega), if_neg (by omega), if_neg (by omega), if_neg (by omega), if_neg (by omega), if_neg (by omega), if_neg (by omega), if_neg (by omega), if_neg (by omega), if_neg (by omega), if_pos (by omega), if_neg (by omega), if_neg (by omega), if_neg (by omega), if_neg (by omega), if_neg (by omega), if_neg (by omega), if_neg (by omega), if_neg (by omega), if_neg (by omega), if_neg (by omega), if_neg (by omega), if_neg (by omega), if_neg (by omega), if_neg (by omega), if_neg (by omega), if_neg (by omega), if_neg (by omega), if_neg (by omega), if_neg (by omega), if_pos (by omega), if_neg (by omega), if_neg (by omega), if_neg (by omega), if_neg (by omega), if_neg (by omega), if_neg (by omega), if_neg (by omega), if_neg (by omega), if_neg (by omega)]
  exact ⟨ti_lo _, ti_hi _⟩
theorem rx_ms_91 {v : Int32} {k j : Nat} (h1 : 389 ≤ k) (h2 : k ≤ 389) (h3 : 91 ≤ j) (h4 : j ≤ 211) : rlo k j ≤ v.toInt ∧ v.toInt ≤ rhi k j := by
  unfold rlo rhi
  rw [if_neg (by omega), if_neg (by omega), if_neg (by omega), if_neg (by omega), if_neg (by omega), if_neg (by omega), if_neg (by omega), if_neg (by omega), if_neg (by omega), if_neg (by omega), if_pos (by omega), if_neg (by omega), if_neg (by omega), if_neg (by omega), if_neg (by omega), if_neg (by omega), if_neg (by omega), if_neg (by omega), if_neg (by omega), if_neg (by omega), if_neg (by omega), if_neg (by omega), if_neg (by omega), if_neg (by omega), if_neg (by omega), if_neg (by omega), if_neg (by omega), if_neg (by omega), if_neg (by omega), if_neg (by omega), if_pos (by omega), if_neg (by omega), if_neg (by omega), if_neg (by omega), if_neg (by omega), if_neg (by omega), if_neg (by omega), if_neg (by omega), if_neg (by omega), if_neg (by omega)]
  exact ⟨ti_lo _, ti_hi _⟩
theorem rx_ms_213 {v : Int32} {k j : Nat} (h1 : 389 ≤ k) (h2 : k ≤ 389) (h3 : 213 ≤ j) (h4 : j ≤ 213) : rlo k j ≤ v.toInt ∧ v.toInt ≤ rhi k j := by
  unfold rlo rhi
  rw [if_neg (by omega), if_neg (by omega), if_neg (by omega), if_neg (by omega), if_neg (by omega), if_neg (by omega), if_neg (by omega), if_neg (by omega), if_neg (by omega), if_neg (by omega), if_pos (by omega), if_neg (by omega), if_neg (by omega), if_neg (by omega), if_neg (by omega), if_neg (by omega), if_neg (by omega), if_neg (by omega), if_neg (by omega), if_neg (by omega), if_neg (by omega), if_neg (by omega), if_neg (by omega), if_neg (by omega), if_neg (by omega), if_neg (by omega), if_neg (by omega), if_neg (by omega), if_neg (by omega), if_neg (by omega), if_pos (by omega), if_neg (by omega), if_neg (by omega), if_neg (by omega), if_neg (by omega), if_neg (by omega), if_neg (by omega), if_neg (by omega), if_neg (by omega), if_neg (by omega)]
  exact ⟨ti_lo _, ti_hi _⟩
theorem rx_ms_222 {v : Int32} {k j : Nat} (h1 : 389 ≤ k) (h2 : k ≤ 389) (h3 : 222 ≤ j) (h4 : j ≤ 229) : rlo k j ≤ v.toInt ∧ v.toInt ≤ rhi k j := by
  unfold rlo rhi
  rw [if_neg (by omega), if_neg (by omega), if_neg (by omega), if_neg (by omega), if_neg (by omega), if_neg (by omega), if_neg (by omega), if_neg (by omega), if_neg (by omega), if_neg (by omega), if_pos (by omega), if_neg (by omega), if_neg (by omega), if_neg (by omega), if_neg (by omega), if_neg (by omega), if_neg (by omega), if_neg (by omega), if_neg (by omega), if_neg (by omega), if_neg (by omega), if_neg (by omega), if_neg (by omega), if_neg (by omega), if_neg (by omega), if_neg (by omega), if_neg (by omega), if_neg (by omega), if_neg (by omega), if_neg (by omega), if_pos (by omega), if_neg (by omega), if_neg (by omega), if_neg (by omega), if_neg (by omega), if_neg (by omega), if_neg (by omega), if_neg (by omega), if_neg (by omega), if_neg (by omega)]
  exact ⟨ti_lo _, ti_hi _⟩
theorem rx_ms_238 {v : Int32} {k j : Nat} (h1 : 389 ≤ k) (h2 : k ≤ 389) (h3 : 238 ≤ j) (h4 : j ≤ 245) : rlo k j ≤ v.toInt ∧ v.toInt ≤ rhi k j := by
  unfold rlo rhi
  rw [if_neg (by omega), if_neg (by omega), if_neg (by omega), if_neg (by omega), if_neg (by omega), if_neg (by omega), if_neg (by omega), if_neg (by omega), if_neg (by omega), if_neg (by omega), if_pos (by omega), if_neg (by omega), if_neg (by omega), if_neg (by omega), if_neg (by omega), if_neg (by omega), if_neg (by omega), if_neg (by omega), if_neg (by omega), if_neg (by omega), if_neg (by omega), if_neg (by omega), if_neg (by omega), if_neg (by omega), if_neg (by omega), if_neg (by omega), if_neg (by omega), if_neg (by omega), if_neg (by omega), if_neg (by omega), if_pos (by omega), if_neg (by omega), if_neg (by omega), if_neg (by omega), if_neg (by omega), if_neg (by omega), if_neg (by omega), if_neg (by omega), if_neg (by omega), if_neg (by omega)]
  exact ⟨ti_lo _, ti_hi _⟩
theorem rx_ms_247 {v : Int32} {k j : Nat} (h1 : 389 ≤ k) (h2 : k ≤ 389) (h3 : 247 ≤ j) (h4 : j ≤ 426) : rlo k j ≤ v.toInt ∧ v.toInt ≤ rhi k j := by
  unfold rlo rhi
  rw [if_neg (by omega), if_neg (by omega), if_neg (by omega), if_neg (by omega), if_neg (by omega), if_neg (by omega), if_neg (by omega), if_neg (by omega), if_neg (by omega), if_neg (by omega), if_pos (by omega), if_neg (by omega), if_neg (by omega), if_neg (by omega), if_neg (by omega), if_neg (by omega), if_neg (by omega), if_neg (by omega), if_neg (by omega), if_neg (by omega), if_neg (by omega), if_neg (by omega), if_neg (by omega), if_neg (by omega), if_neg (by omega), if_neg (by omega), if_neg (by omega), if_neg (by omega), if_neg (by omega), if_neg (by omega), if_pos (by omega), if_neg (by omega), if_neg (by omega), if_neg (by omega), if_neg (by omega), if_neg (by omega), if_neg (by omega), if_neg (by omega), if_neg (by omega), if_neg (by omega)]
  exact ⟨ti_lo _, ti_hi _⟩
theorem rlo_mh_0 {k j : Nat} (h1 : 390 ≤ k) (h2 : k ≤ 390) (h3 : 0 ≤ j) (h4 : j ≤ 1) : rlo k j = 0 := by
  unfold rlo
  rw [if_neg (by omega), if_neg (by omega), if_neg (by omega), if_neg (by omega), if_neg (by omega), if_neg (by omega), if_neg (by omega), if_neg (by omega), if_neg (by omega), if_neg (by omega), if_neg (by omega), if_pos (by omega), if_pos (by omega)]
theorem rhi_mh_0 {k j : Nat} (h1 : 390 ≤ k) (h2 : k ≤ 390) (h3 : 0 ≤ j) (h4 : j ≤ 1) : rhi k j = 8 := by
  unfold rhi
  rw [if_neg (by omega), if_neg (by omega), if_neg (by omega), if_neg (by omega), if_neg (by omega), if_neg (by omega), if_neg (by omega), if_neg (by omega), if_neg (by omega), if_neg (by omega), if_neg (by omega), if_pos (by omega), if_pos (by omega)]
theorem ra_mh_0 {σ : Nat → Nat → Int32} (hR : Rg σ) {k j : Nat} (h1 : 390 ≤ k) (h2 : k ≤ 390) (h3 : 0 ≤ j) (h4 : j ≤ 1) : 0 ≤ (σ k j).toInt ∧ (σ k j).toInt ≤ 8 := by
  have h := hR k j
  rw [rlo_mh_0 h1 h2 h3 h4, rhi_mh_0 h1 h2 h3 h4] at h
  exact h
theorem rw_mh_0 {v : Int32} {k j : Nat} (h1 : 390 ≤ k) (h2 : k ≤ 390) (h3 : 0 ≤ j) (h4 : j ≤ 1) (hv : 0 ≤ v.toInt ∧ v.toInt ≤ 8) : rlo k j ≤ v.toInt ∧ v.toInt ≤ rhi k j := by
  rw [rlo_mh_0 h1 h2 h3 h4, rhi_mh_0 h1 h2 h3 h4]
  exact hv
theorem rlo_mh_1 {k j : Nat} (h1 : 390 ≤ k) (h2 : k ≤ 390) (h3 : 2 ≤ j) (h4 : j ≤ 2) : rlo k j = 0 := by
  unfold rlo
  rw [if_neg (by omega), if_neg (by omega), if_neg (by omega), if_neg (by omega), if_neg (by omega), if_neg (by omega), if_neg (by omega), if_neg (by omega), if_neg (by omega), if_neg (by omega), if_neg (by omega), if_pos (by omega), if_neg (by omega), if_pos (by omega)]
theorem rhi_mh_1 {k j : Nat} (h1 : 390 ≤ k) (h2 : k ≤ 390) (h3 : 2 ≤ j) (h4 : j ≤ 2) : rhi k j = 4 := by
  unfold rhi
  rw [if_neg (by omega), if_neg (by omega), if_neg (by omega), if_neg (by omega), if_neg (by omega), if_neg (by omega), if_neg (by omega), if_neg (by omega), if_neg (by omega), if_neg (by omega), if_neg (by omega), if_pos (by omega), if_neg (by omega), if_pos (by omega)]
theorem ra_mh_1 {σ : Nat → Nat → Int32} (hR : Rg σ) {k j : Nat} (h1 : 390 ≤ k) (h2 : k ≤ 390) (h3 : 2 ≤ j) (h4 : j ≤ 2) : 0 ≤ (σ k j).toInt ∧ (σ k j).toInt ≤ 4 := by
  have h := hR k j
  rw [rlo_mh_1 h1 h2 h3 h4, rhi_mh_1 h1 h2 h3 h4] at h
  exact h
theorem rw_mh_1 {v : Int32} {k j : Nat} (h1 : 390 ≤ k) (h2 : k ≤ 390) (h3 : 2 ≤ j) (h4 : j ≤ 2) (hv : 0 ≤ v.toInt ∧ v.toInt ≤ 4) : rlo k j ≤ v.toInt ∧ v.toInt ≤ rhi k j := by
  rw [rlo_mh_1 h1 h2 h3 h4, rhi_mh_1 h1 h2 h3 h4]
  exact hv
theorem rlo_mh_2 {k j : Nat} (h1 : 390 ≤ k) (h2 : k ≤ 390) (h3 : 31 ≤ j) (h4 : j ≤ 38) : rlo k j = 0 := by
  unfold rlo
  rw [if_neg (by omega), if_neg (by omega), if_neg (by omega), if_neg (by omega), if_neg (by omega), if_neg (by omega), if_neg (by omega), if_neg (by omega), if_neg (by omega), if_neg (by omega), if_neg (by omega), if_pos (by omega), if_neg (by omega), if_neg (by omega), if_pos (by omega)]
theorem rhi_mh_2 {k j : Nat} (h1 : 390 ≤ k) (h2 : k ≤ 390) (h3 : 31 ≤ j) (h4 : j ≤ 38) : rhi k j = 7 := by
  unfold rhi
  rw [if_neg (by omega), if_neg (by omega), if_neg (by omega), if_neg (by omega), if_neg (by omega), if_neg (by omega), if_neg (by omega), if_neg (by omega), if_neg (by omega), if_neg (by omega), if_neg (by omega), if_pos (by omega), if_neg (by omega), if_neg (by omega), if_pos (by omega)]
theorem ra_mh_2 {σ : Nat → Nat → Int32} (hR : Rg σ) {k j : Nat} (h1 : 390 ≤ k) (h2 : k ≤ 390) (h3 : 31 ≤ j) (h4 : j ≤ 38) : 0 ≤ (σ k j).toInt ∧ (σ k j).toInt ≤ 7 := by
  have h := hR k j
  rw [rlo_mh_2 h1 h2 h3 h4, rhi_mh_2 h1 h2 h3 h4] at h
  exact h
theorem rw_mh_2 {v : Int32} {k j : Nat} (h1 : 390 ≤ k) (h2 : k ≤ 390) (h3 : 31 ≤ j) (h4 : j ≤ 38) (hv : 0 ≤ v.toInt ∧ v.toInt ≤ 7) : rlo k j ≤ v.toInt ∧ v.toInt ≤ rhi k j := by
  rw [rlo_mh_2 h1 h2 h3 h4, rhi_mh_2 h1 h2 h3 h4]
  exact hv
theorem rlo_mh_3 {k j : Nat} (h1 : 390 ≤ k) (h2 : k ≤ 390) (h3 : 63 ≤ j) (h4 : j ≤ 70) : rlo k j = 0 := by
  unfold rlo
  rw [if_neg (by omega), if_neg (by omega), if_neg (by omega), if_neg (by omega), if_neg (by omega), if_neg (by omega), if_neg (by omega), if_neg (by omega), if_neg (by omega), if_neg (by omega), if_neg (by omega), if_pos (by omega), if_neg (by omega), if_neg (by omega), if_neg (by omega), if_pos (by omega)]
theorem rhi_mh_3 {k j : Nat} (h1 : 390 ≤ k) (h2 : k ≤ 390) (h3 : 63 ≤ j) (h4 : j ≤ 70) : rhi k j = 8 := by
  unfold rhi
  rw [if_neg (by omega), if_neg (by omega), if_neg (by omega), if_neg (by omega), if_neg (by omega), if_neg (by omega), if_neg (by omega), if_neg (by omega), if_neg (by omega), if_neg (by omega), if_neg (by omega), if_pos (by omega), if_neg (by omega), if_neg (by omega), if_neg (by omega), if_pos (by omega)]
theorem ra_mh_3 {σ : Nat → Nat → Int32} (hR : Rg σ) {k j : Nat} (h1 : 390 ≤ k) (h2 : k ≤ 390) (h3 : 63 ≤ j) (h4 : j ≤ 70) : 0 ≤ (σ k j).toInt ∧ (σ k j).toInt ≤ 8 := by
  have h := hR k j
  rw [rlo_mh_3 h1 h2 h3 h4, rhi_mh_3 h1 h2 h3 h4] at h
  exact h
theorem rw_mh_3 {v : Int32} {k j : Nat} (h1 : 390 ≤ k) (h2 : k ≤ 390) (h3 : 63 ≤ j) (h4 : j ≤ 70) (hv : 0 ≤ v.toInt ∧ v.toInt ≤ 8) : rlo k j ≤ v.toInt ∧ v.toInt ≤ rhi k j := by
  rw [rlo_mh_3 h1 h2 h3 h4, rhi_mh_3 h1 h2 h3 h4]
  exact hv
theorem rlo_mh_4 {k j : Nat} (h1 : 390 ≤ k) (h2 : k ≤ 390) (h3 : 87 ≤ j) (h4 : j ≤ 90) : rlo k j = 0 := by
  unfold rlo
  rw [if_neg (by omega), if_neg (by omega), if_neg (by omega), if_neg (by omega), if_neg (by omega), if_neg (by omega), if_neg (by omega), if_neg (by omega), if_neg (by omega), if_neg (by omega), if_neg (by omega), if_pos (by omega), if_neg (by omega), if_neg (by omega), if_neg (by omega), if_neg (by omega), if_pos (by omega)]
theorem rhi_mh_4 {k j : Nat} (h1 : 390 ≤ k) (h2 : k ≤ 390) (h3 : 87 ≤ j) (h4 : j ≤ 90) : rhi k j = 10 := by
  unfold rhi
  rw [if_neg (by omega), if_neg (by omega), if_neg (by omega), if_neg (by omega), if_neg (by omega), if_neg (by omega), if_neg (by omega), if_neg (by omega), if_neg (by omega), if_neg (by omega), if_neg (by omega), if_pos (by omega), if_neg (by omega), if_neg (by omega), if_neg (by omega), if_neg (by omega), if_pos (by omega)]
theorem ra_mh_4 {σ : Nat → Nat → Int32} (hR : Rg σ) {k j : Nat} (h1 : 390 ≤ k) (h2 : k ≤ 390) (h3 : 87 ≤ j) (h4 : j ≤ 90) : 0 ≤ (σ k j).toInt ∧ (σ k j).toInt ≤ 10 := by
  have h := hR k j
  rw [rlo_mh_4 h1 h2 h3 h4, rhi_mh_4 h1 h2 h3 h4] at h
  exact h
theorem rw_mh_4 {v : Int32} {k j : Nat} (h1 : 390 ≤ k) (h2 : k ≤ 390) (h3 : 87 ≤ j) (h4 : j ≤ 90) (hv : 0 ≤ v.toInt ∧ v.toInt ≤ 10) : rlo k j ≤ v.toInt ∧ v.toInt ≤ rhi k j := by
  rw [rlo_mh_4 h1 h2 h3 h4, rhi_mh_4 h1 h2 h3 h4]
  exact hv
theorem rx_mh_3 {v : Int32} {k j : Nat} (h1 : 390 ≤ k) (h2 : k ≤ 390) (h3 : 3 ≤ j) (h4 : j ≤ 30) : rlo k j ≤ v.toInt ∧ v.toInt ≤ rhi k j := by
  unfold rlo rhi
  rw [if_neg (by omega), if_neg (by omega), if_neg (by omega), if_neg (by omega), if_neg (by omega), if_neg (by omega), if_neg (by omega), if_neg (by omega), if_neg (by omega), if_neg (by omega), if_neg (by omega), if_pos (by omega), if_neg (by omega), if_neg (by omega), if_neg (by omega), if_neg (by omega), if_neg (by omega), if_neg (by omega), if_neg (by omega), if_neg (by omega), if_neg (by omega), if_neg (by omega), if_neg (by omega), if_neg (by omega), if_neg (by omega), if_neg (by omega), if_neg (by omega), if_neg (by omega), if_pos (by omega), if_neg (by omega), if_neg (by omega), if_neg (by omega), if_neg (by omega), if_neg (by omega)]
  exact ⟨ti_lo _, ti_hi _⟩
theorem rx_mh_39 {v : Int32} {k j : Nat} (h1 : 390 ≤ k) (h2 : k ≤ 390) (h3 : 39 ≤ j) (h4 : j ≤ 62) : rlo k j ≤ v.toInt ∧ v.toInt ≤ rhi k j := by
  unfold rlo rhi
  rw [if_neg (by omega), if_neg (by omega), if_neg (by omega), if_neg (by omega), if_neg (by omega), if_neg (by omega), if_neg (by omega), if_neg (by omega), if_neg (by omega), if_neg (by omega), if_neg (by omega), if_pos (by omega), if_neg (by omega), if_neg (by omega), if_neg (by omega), if_neg (by omega), if_neg (by omega), if_neg (by omega), if_neg (by omega), if_neg (by omega), if_neg (by omega), if_neg (by omega), if_neg (by omega), if_neg (by omega), if_neg (by omega), if_neg (by omega), if_neg (by omega), if_neg (by omega), if_pos (by omega), if_neg (by omega), if_neg (by omega), if_neg (by omega), if_neg (by omega), if_neg (by omega)]
  exact ⟨ti_lo _, ti_hi _⟩
theorem rx_mh_71 {v : Int32} {k j : Nat} (h1 : 390 ≤ k) (h2 : k ≤ 390) (h3 : 71 ≤ j) (h4 : j ≤ 86) : rlo k j ≤ v.toInt ∧ v.toInt ≤ rhi k j := by
  unfold rlo rhi
  rw [if_neg (by omega), if_neg (by omega), if_neg (by omega), if_neg (by omega), if_neg (by omega), if_neg (by omega), if_neg (by omega), if_neg (by omega), if_neg (by omega), if_neg (by omega), if_neg (by omega), if_pos (by omega), if_neg (by omega), if_neg (by omega), if_neg (by omega), if_neg (by omega), if_neg (by omega), if_neg (by omega), if_neg (by omega), if_neg (by omega), if_neg (by omega), if_neg (by omega), if_neg (by omega), if_neg (by omega), if_neg (by omega), if_neg (by omega), if_neg (by omega), if_neg (by omega), if_pos (by omega), if_neg (by omega), if_neg (by omega), if_neg (by omega), if_neg (by omega), if_neg (by omega)]
  exact ⟨ti_lo _, ti_hi _⟩
theorem rx_mh_91 {v : Int32} {k j : Nat} (h1 : 390 ≤ k) (h2 : k ≤ 390) (h3 : 91 ≤ j) (h4 : j ≤ 210) : rlo k j ≤ v.toInt ∧ v.toInt ≤ rhi k j := by
  unfold rlo rhi
  rw [if_neg (by omega), if_neg (by omega), if_neg (by omega), if_neg (by omega), if_neg (by omega), if_neg (by omega), if_neg (by omega), if_neg (by omega), if_neg (by omega), if_neg (by omega), if_neg (by omega), if_pos (by omega), if_neg (by omega), if_neg (by omega), if_neg (by omega), if_neg (by omega), if_neg (by omega), if_neg (by omega), if_neg (by omega), if_neg (by omega), if_neg (by omega), if_neg (by omega), if_neg (by omega), if_neg (by omega), if_neg (by omega), if_neg (by omega), if_neg (by omega), if_neg (by omega), if_pos (by omega), if_neg (by omega), if_neg (by omega), if_neg (by omega), if_neg (by omega), if_neg (by omega)]
  exact ⟨ti_lo _, ti_hi _⟩
theorem rlo_mundone_0 {k j : Nat} (h1 : 398 ≤ k) (h2 : k ≤ 398) (h3 : 1 ≤ j) (h4 : j ≤ 1) : rlo k j = 0 := by
  unfold rlo
  rw [if_neg (by omega), if_neg (by omega), if_neg (by omega), if_neg (by omega), if_neg (by omega), if_neg (by omega), if_neg (by omega), if_neg (by omega), if_neg (by omega), if_neg (by omega), if_neg (by omega), if_neg (by omega), if_pos (by omega), if_pos (by omega)]
theorem rhi_mundone_0 {k j : Nat} (h1 : 398 ≤ k) (h2 : k ≤ 398) (h3 : 1 ≤ j) (h4 : j ≤ 1) : rhi k j = 4 := by
  unfold rhi
  rw [if_neg (by omega), if_neg (by omega), if_neg (by omega), if_neg (by omega), if_neg (by omega), if_neg (by omega), if_neg (by omega), if_neg (by omega), if_neg (by omega), if_neg (by omega), if_neg (by omega), if_neg (by omega), if_pos (by omega), if_pos (by omega)]
theorem ra_mundone_0 {σ : Nat → Nat → Int32} (hR : Rg σ) {k j : Nat} (h1 : 398 ≤ k) (h2 : k ≤ 398) (h3 : 1 ≤ j) (h4 : j ≤ 1) : 0 ≤ (σ k j).toInt ∧ (σ k j).toInt ≤ 4 := by
  have h := hR k j
  rw [rlo_mundone_0 h1 h2 h3 h4, rhi_mundone_0 h1 h2 h3 h4] at h
  exact h
theorem rw_mundone_0 {v : Int32} {k j : Nat} (h1 : 398 ≤ k) (h2 : k ≤ 398) (h3 : 1 ≤ j) (h4 : j ≤ 1) (hv : 0 ≤ v.toInt ∧ v.toInt ≤ 4) : rlo k j ≤ v.toInt ∧ v.toInt ≤ rhi k j := by
  rw [rlo_mundone_0 h1 h2 h3 h4, rhi_mundone_0 h1 h2 h3 h4]
  exact hv
theorem rlo_mundone_1 {k j : Nat} (h1 : 398 ≤ k) (h2 : k ≤ 398) (h3 : 3 ≤ j) (h4 : j ≤ 10) : rlo k j = 0 := by
  unfold rlo
  rw [if_neg (by omega), if_neg (by omega), if_neg (by omega), if_neg (by omega), if_neg (by omega), if_neg (by omega), if_neg (by omega), if_neg (by omega), if_neg (by omega), if_neg (by omega), if_neg (by omega), if_neg (by omega), if_pos (by omega), if_neg (by omega), if_pos (by omega)]
theorem rhi_mundone_1 {k j : Nat} (h1 : 398 ≤ k) (h2 : k ≤ 398) (h3 : 3 ≤ j) (h4 : j ≤ 10) : rhi k j = 7 := by
  unfold rhi
  rw [if_neg (by omega), if_neg (by omega), if_neg (by omega), if_neg (by omega), if_neg (by omega), if_neg (by omega), if_neg (by omega), if_neg (by omega), if_neg (by omega), if_neg (by omega), if_neg (by omega), if_neg (by omega), if_pos (by omega), if_neg (by omega), if_pos (by omega)]
theorem ra_mundone_1 {σ : Nat → Nat → Int32} (hR : Rg σ) {k j : Nat} (h1 : 398 ≤ k) (h2 : k ≤ 398) (h3 : 3 ≤ j) (h4 : j ≤ 10) : 0 ≤ (σ k j).toInt ∧ (σ k j).toInt ≤ 7 := by
  have h := hR k j
  rw [rlo_mundone_1 h1 h2 h3 h4, rhi_mundone_1 h1 h2 h3 h4] at h
  exact h
theorem rw_mundone_1 {v : Int32} {k j : Nat} (h1 : 398 ≤ k) (h2 : k ≤ 398) (h3 : 3 ≤ j) (h4 : j ≤ 10) (hv : 0 ≤ v.toInt ∧ v.toInt ≤ 7) : rlo k j ≤ v.toInt ∧ v.toInt ≤ rhi k j := by
  rw [rlo_mundone_1 h1 h2 h3 h4, rhi_mundone_1 h1 h2 h3 h4]
  exact hv
theorem rlo_mundone_2 {k j : Nat} (h1 : 398 ≤ k) (h2 : k ≤ 398) (h3 : 19 ≤ j) (h4 : j ≤ 26) : rlo k j = 0 := by
  unfold rlo
  rw [if_neg (by omega), if_neg (by omega), if_neg (by omega), if_neg (by omega), if_neg (by omega), if_neg (by omega), if_neg (by omega), if_neg (by omega), if_neg (by omega), if_neg (by omega), if_neg (by omega), if_neg (by omega), if_pos (by omega), if_neg (by omega), if_neg (by omega), if_pos (by omega)]
theorem rhi_mundone_2 {k j : Nat} (h1 : 398 ≤ k) (h2 : k ≤ 398) (h3 : 19 ≤ j) (h4 : j ≤ 26) : rhi k j = 10 := by
  unfold rhi
  rw [if_neg (by omega), if_neg (by omega), if_neg (by omega), if_neg (by omega), if_neg (by omega), if_neg (by omega), if_neg (by omega), if_neg (by omega), if_neg (by omega), if_neg (by omega), if_neg (by omega), if_neg (by omega), if_pos (by omega), if_neg (by omega), if_neg (by omega), if_pos (by omega)]
theorem ra_mundone_2 {σ : Nat → Nat → Int32} (hR : Rg σ) {k j : Nat} (h1 : 398 ≤ k) (h2 : k ≤ 398) (h3 : 19 ≤ j) (h4 : j ≤ 26) : 0 ≤ (σ k j).toInt ∧ (σ k j).toInt ≤ 10 := by
  have h := hR k j
  rw [rlo_mundone_2 h1 h2 h3 h4, rhi_mundone_2 h1 h2 h3 h4] at h
  exact h
theorem rw_mundone_2 {v : Int32} {k j : Nat} (h1 : 398 ≤ k) (h2 : k ≤ 398) (h3 : 19 ≤ j) (h4 : j ≤ 26) (hv : 0 ≤ v.toInt ∧ v.toInt ≤ 10) : rlo k j ≤ v.toInt ∧ v.toInt ≤ rhi k j := by
  rw [rlo_mundone_2 h1 h2 h3 h4, rhi_mundone_2 h1 h2 h3 h4]
  exact hv
theorem rlo_mundone_3 {k j : Nat} (h1 : 398 ≤ k) (h2 : k ≤ 398) (h3 : 36 ≤ j) (h4 : j ≤ 36) : rlo k j = 0 := by
  unfold rlo
  rw [if_neg (by omega), if_neg (by omega), if_neg (by omega), if_neg (by omega), if_neg (by omega), if_neg (by omega), if_neg (by omega), if_neg (by omega), if_neg (by omega), if_neg (by omega), if_neg (by omega), if_neg (by omega), if_pos (by omega), if_neg (by omega), if_neg (by omega), if_neg (by omega), if_pos (by omega)]
theorem rhi_mundone_3 {k j : Nat} (h1 : 398 ≤ k) (h2 : k ≤ 398) (h3 : 36 ≤ j) (h4 : j ≤ 36) : rhi k j = 4 := by
  unfold rhi
  rw [if_neg (by omega), if_neg (by omega), if_neg (by omega), if_neg (by omega), if_neg (by omega), if_neg (by omega), if_neg (by omega), if_neg (by omega), if_neg (by omega), if_neg (by omega), if_neg (by omega), if_neg (by omega), if_pos (by omega), if_neg (by omega), if_neg (by omega), if_neg (by omega), if_pos (by omega)]
theorem ra_mundone_3 {σ : Nat → Nat → Int32} (hR : Rg σ) {k j : Nat} (h1 : 398 ≤ k) (h2 : k ≤ 398) (h3 : 36 ≤ j) (h4 : j ≤ 36) : 0 ≤ (σ k j).toInt ∧ (σ k j).toInt ≤ 4 := by
  have h := hR k j
  rw [rlo_mundone_3 h1 h2 h3 h4, rhi_mundone_3 h1 h2 h3 h4] at h
  exact h
theorem rw_mundone_3 {v : Int32} {k j : Nat} (h1 : 398 ≤ k) (h2 : k ≤ 398) (h3 : 36 ≤ j) (h4 : j ≤ 36) (hv : 0 ≤ v.toInt ∧ v.toInt ≤ 4) : rlo k j ≤ v.toInt ∧ v.toInt ≤ rhi k j := by
  rw [rlo_mundone_3 h1 h2 h3 h4, rhi_mundone_3 h1 h2 h3 h4]
  exact hv
theorem rlo_mundone_4 {k j : Nat} (h1 : 398 ≤ k) (h2 : k ≤ 398) (h3 : 38 ≤ j) (h4 : j ≤ 45) : rlo k j = 0 := by
  unfold rlo
  rw [if_neg (by omega), if_neg (by omega), if_neg (by omega), if_neg (by omega), if_neg (by omega), if_neg (by omega), if_neg (by omega), if_neg (by omega), if_neg (by omega), if_neg (by omega), if_neg (by omega), if_neg (by omega), if_pos (by omega), if_neg (by omega), if_neg (by omega), if_neg (by omega), if_neg (by omega), if_pos (by omega)]
theorem rhi_mundone_4 {k j : Nat} (h1 : 398 ≤ k) (h2 : k ≤ 398) (h3 : 38 ≤ j) (h4 : j ≤ 45) : rhi k j = 7 := by
  unfold rhi
  rw [if_neg (by omega), if_neg (by omega), if_neg (by omega), if_neg (by omega), if_neg (by omega), if_neg (by omega), if_neg (by omega), if_neg (by omega), if_neg (by omega), if_neg (by omega), if_neg (by omega), if_neg (by omega), if_pos (by omega), if_neg (by omega), if_neg (by omega), if_neg (by omega), if_neg (by omega), if_pos (by omega)]
theorem ra_mundone_4 {σ : Nat → Nat → Int32} (hR : Rg σ) {k j : Nat} (h1 : 398 ≤ k) (h2 : k ≤ 398) (h3 : 38 ≤ j) (h4 : j ≤ 45) : 0 ≤ (σ k j).toInt ∧ (σ k j).toInt ≤ 7 := by
  have h := hR k j
  rw [rlo_mundone_4 h1 h2 h3 h4, rhi_mundone_4 h1 h2 h3 h4] at h
  exact h
theorem rw_mundone_4 {v : Int32} {k j : Nat} (h1 : 398 ≤ k) (h2 : k ≤ 398) (h3 : 38 ≤ j) (h4 : j ≤ 45) (hv : 0 ≤ v.toInt ∧ v.toInt ≤ 7) : rlo k j ≤ v.toInt ∧ v.toInt ≤ rhi k j := by
  rw [rlo_mundone_4 h1 h2 h3 h4, rhi_mundone_4 h1 h2 h3 h4]
  exact hv
theorem rlo_mundone_5 {k j : Nat} (h1 : 398 ≤ k) (h2 : k ≤ 398) (h3 : 54 ≤ j) (h4 : j ≤ 61) : rlo k j = 0 := by
  unfold rlo
  rw [if_neg (by omega), if_neg (by omega), if_neg (by omega), if_neg (by omega), if_neg (by omega), if_neg (by omega), if_neg (by omega), if_neg (by omega), if_neg (by omega), if_neg (by omega), if_neg (by omega), if_neg (by omega), if_pos (by omega), if_neg (by omega), if_neg (by omega), if_neg (by omega), if_neg (by omega), if_neg (by omega), if_pos (by omega)]
theorem rhi_mundone_5 {k j : Nat} (h1 : 398 ≤ k) (h2 : k ≤ 398) (h3 : 54 ≤ j) (h4 : j ≤ 61) : rhi k j = 10 := by
  unfold rhi
  rw [if_neg (by omega), if_neg (by omega), if_neg (by omega), if_neg (by omega), if_neg (by omega), if_neg (by omega), if_neg (by omega), if_neg (by omega), if_neg (by omega), if_neg (by omega), if_neg (by omega), if_neg (by omega), if_pos (by omega), if_neg (by omega), if_neg (by omega), if_neg (by omega), if_neg (by omega), if_neg (by omega), if_pos (by omega)]
theorem ra_mundone_5 {σ : Nat → Nat → Int32} (hR : Rg σ) {k j : Nat} (h1 : 398 ≤ k) (h2 : k ≤ 398) (h3 : 54 ≤ j) (h4 : j ≤ 61) : 0 ≤ (σ k j).toInt ∧ (σ k j).toInt ≤ 10 := by
  have h := hR k j
  rw [rlo_mundone_5 h1 h2 h3 h4, rhi_mundone_5 h1 h2 h3 h4] at h
  exact h
theorem rw_mundone_5 {v : Int32} {k j : Nat} (h1 : 398 ≤ k) (h2 : k ≤ 398) (h3 : 54 ≤ j) (h4 : j ≤ 61) (hv : 0 ≤ v.toInt ∧ v.toInt ≤ 10) : rlo k j ≤ v.toInt ∧ v.toInt ≤ rhi k j := by
  rw [rlo_mundone_5 h1 h2 h3 h4, rhi_mundone_5 h1 h2 h3 h4]
  exact hv
theorem rlo_mundone_6 {k j : Nat} (h1 : 398 ≤ k) (h2 : k ≤ 398) (h3 : 71 ≤ j) (h4 : j ≤ 71) : rlo k j = 0 := by
  unfold rlo
  rw [if_neg (by omega), if_neg (by omega), if_neg (by omega), if_neg (by omega), if_neg (by omega), if_neg (by omega), if_neg (by omega), if_neg (by omega), if_neg (by omega), if_neg (by omega), if_neg (by omega), if_neg (by omega), if_pos (by omega), if_neg (by omega), if_neg (by omega), if_neg (by omega), if_neg (by omega), if_neg (by omega), if_neg (by omega), if_pos (by omega)]
theorem rhi_mundone_6 {k j : Nat} (h1 : 398 ≤ k) (h2 : k ≤ 398) (h3 : 71 ≤ j) (h4 : j ≤ 71) : rhi k j = 4 := by
  unfold rhi
  rw [if_neg (by omega), if_neg (by omega), if_neg (by omega), if_neg (by omega), if_neg (by omega), if_neg (by omega), if_neg (by omega), if_neg (by omega), if_neg (by omega), if_neg (by omega), if_neg (by omega), if_neg (by omega), if_pos (by omega), if_neg (by omega), if_neg (by omega), if_neg (by omega), if_neg (by omega), if_neg (by omega), if_neg (by omega), if_pos (by omega)]
theorem ra_mundone_6 {σ : Nat → Nat → Int32} (hR : Rg σ) {k j : Nat} (h1 : 398 ≤ k) (h2 : k ≤ 398) (h3 : 71 ≤ j) (h4 : j ≤ 71) : 0 ≤ (σ k j).toInt ∧ (σ k j).toInt ≤ 4 := by
  have h := hR k j
  rw [rlo_mundone_6 h1 h2 h3 h4, rhi_mundone_6 h1 h2 h3 h4] at h
  exact h
theorem rw_mundone_6 {v : Int32} {k j : Nat} (h1 : 398 ≤ k) (h2 : k ≤ 398) (h3 : 71 ≤ j) (h4 : j ≤ 71) (hv : 0 ≤ v.toInt ∧ v.toInt ≤ 4) : rlo k j ≤ v.toInt ∧ v.toInt ≤ rhi k j := by
  rw [rlo_mundone_6 h1 h2 h3 h4, rhi_mundone_6 h1 h2 h3 h4]
  exact hv
theorem rlo_mundone_7 {k j : Nat} (h1 : 398 ≤ k) (h2 : k ≤ 398) (h3 : 73 ≤ j) (h4 : j ≤ 80) : rlo k j = 0 := by
  unfold rlo
  rw [if_neg (by omega), if_neg (by omega), if_neg (by omega), if_neg (by omega), if_neg (by omega), if_neg (by omega), if_neg (by omega), if_neg (by omega), if_neg (by omega), if_neg (by omega), if_neg (by omega), if_neg (by omega), if_pos (by omega), if_neg (by omega), if_neg (by omega), if_neg (by omega), if_neg (by omega), if_neg (by omega), if_neg (by omega), if_neg (by omega), if_pos (by omega)]
theorem rhi_mundone_7 {k j : Nat} (h1 : 398 ≤ k) (h2 : k ≤ 398) (h3 : 73 ≤ j) (h4 : j ≤ 80) : rhi k j = 7 := by
  unfold rhi
  rw [if_neg (by omega), if_neg (by omega), if_neg (by omega), if_neg (by omega), if_neg (by omega), if_neg (by omega), if_neg (by omega), if_neg (by omega), if_neg (by omega), if_neg (by omega), if_neg (by omega), if_neg (by omega), if_pos (by omega), if_neg (by omega), if_neg (by omega), if_neg (by omega), if_neg (by omega), if_neg (by omega), if_neg (by omega), if_neg (by omega), if_pos (by omega)]
theorem ra_mundone_7 {σ : Nat → Nat → Int32} (hR : Rg σ) {k j : Nat} (h1 : 398 ≤ k) (h2 : k ≤ 398) (h3 : 73 ≤ j) (h4 : j ≤ 80) : 0 ≤ (σ k j).toInt ∧ (σ k j).toInt ≤ 7 := by
  have h := hR k j
  rw [rlo_mundone_7 h1 h2 h3 h4, rhi_mundone_7 h1 h2 h3 h4] at h
  exact h
theorem rw_mundone_7 {v : Int32} {k j : Nat} (h1 : 398 ≤ k) (h2 : k ≤ 398) (h3 : 73 ≤ j) (h4 : j ≤ 80) (hv : 0 ≤ v.toInt ∧ v.toInt ≤ 7) : rlo k j ≤ v.toInt ∧ v.toInt ≤ rhi k j := by
  rw [rlo_mundone_7 h1 h2 h3 h4, rhi_mundone_7 h1 h2 h3 h4]
  exact hv
theorem rlo_mundone_8 {k j : Nat} (h1 : 398 ≤ k) (h2 : k ≤ 398) (h3 : 89 ≤ j) (h4 : j ≤ 96) : rlo k j = 0 := by
  unfold rlo
  rw [if_neg (by omega), if_neg (by omega), if_neg (by omega), if_neg (by omega), if_neg (by omega), if_neg (by omega), if_neg (by omega), if_neg (by omega), if_neg (by omega), if_neg (by omega), if_neg (by omega), if_neg (by omega), if_pos (by omega), if_neg (by omega), if_neg (by omega), if_neg (by omega), if_neg (by omega), if_neg (by omega), if_neg (by omega), if_neg (by omega), if_neg (by omega), if_pos (by omega)]
theorem rhi_mundone_8 {k j : Nat} (h1 : 398 ≤ k) (h2 : k ≤ 398) (h3 : 89 ≤ j) (h4 : j ≤ 96) : rhi k j = 10 := by
  unfold rhi
  rw [if_neg (by omega), if_neg (by omega), if_neg (by omega), if_neg (by omega), if_neg (by omega), if_neg (by omega), if_neg (by omega), if_neg (by omega), if_neg (by omega), if_neg (by omega), if_neg (by omega), if_neg (by omega), if_pos (by omega), if_neg (by omega), if_neg (by omega), if_neg (by omega), if_neg (by omega), if_neg (by omega), if_neg (by omega), if_neg (by omega), if_neg (by omega), if_pos (by omega)]
theorem ra_mundone_8 {σ : Nat → Nat → Int32} (hR : Rg σ) {k j : Nat} (h1 : 398 ≤ k) (h2 : k ≤ 398) (h3 : 89 ≤ j) (h4 : j ≤ 96) : 0 ≤ (σ k j).toInt ∧ (σ k j).toInt ≤ 10 := by
  have h := hR k j
  rw [rlo_mundone_8 h1 h2 h3 h4, rhi_mundone_8 h1 h2 h3 h4] at h
  exact h
theorem rw_mundone_8 {v : Int32} {k j : Nat} (h1 : 398 ≤ k) (h2 : k ≤ 398) (h3 : 89 ≤ j) (h4 : j ≤ 96) (hv : 0 ≤ v.toInt ∧ v.toInt ≤ 10) : rlo k j ≤ v.toInt ∧ v.toInt ≤ rhi k j := by
  rw [rlo_mundone_8 h1 h2 h3 h4, rhi_mundone_8 h1 h2 h3 h4]
  exact hv
theorem rlo_mundone_9 {k j : Nat} (h1 : 398 ≤ k) (h2 : k ≤ 398) (h3 : 106 ≤ j) (h4 : j ≤ 106) : rlo k j = 0 := by
  unfold rlo
  rw [if_neg (by omega), if_neg (by omega), if_neg (by omega), if_neg (by omega), if_neg (by omega), if_neg (by omega), if_neg (by omega), if_neg (by omega), if_neg (by omega), if_neg (by omega), if_neg (by omega), if_neg (by omega), if_pos (by omega), if_neg (by omega), if_neg (by omega), if_neg (by omega), if_neg (by omega), if_neg (by omega), if_neg (by omega), if_neg (by omega), if_neg (by omega), if_neg (by omega), if_pos (by omega)]
theorem rhi_mundone_9 {k j : Nat} (h1 : 398 ≤ k) (h2 : k ≤ 398) (h3 : 106 ≤ j) (h4 : j ≤ 106) : rhi k j = 4 := by
  unfold rhi
  rw [if_neg (by omega), if_neg (by omega), if_neg (by omega), if_neg (by omega), if_neg (by omega), if_neg (by omega), if_neg (by omega), if_neg (by omega), if_neg (by omega), if_neg (by omega), if_neg (by omega), if_neg (by omega), if_pos (by omega), if_neg (by omega), if_neg (by omega), if_neg (by omega), if_neg (by omega), if_neg (by omega), if_neg (by omega), if_neg (by omega), if_neg (by omega), if_neg (by omega), if_pos (by omega)]
theorem ra_mundone_9 {σ : Nat → Nat → Int32} (hR : Rg σ) {k j : Nat} (h1 : 398 ≤ k) (h2 : k ≤ 398) (h3 : 106 ≤ j) (h4 : j ≤ 106) : 0 ≤ (σ k j).toInt ∧ (σ k j).toInt ≤ 4 := by
  have h := hR k j
  rw [rlo_mundone_9 h1 h2 h3 h4, rhi_mundone_9 h1 h2 h3 h4] at h
  exact h
theorem rw_mundone_9 {v : Int32} {k j : Nat} (h1 : 398 ≤ k) (h2 : k ≤ 398) (h3 : 106 ≤ j) (h4 : j ≤ 106) (hv : 0 ≤ v.toInt ∧ v.toInt ≤ 4) : rlo k j ≤ v.toInt ∧ v.toInt ≤ rhi k j := by
  rw [rlo_mundone_9 h1 h2 h3 h4, rhi_mundone_9 h1 h2 h3 h4]
  exact hv
theorem rlo_mundone_10 {k j : Nat} (h1 : 398 ≤ k) (h2 : k ≤ 398) (h3 : 108 ≤ j) (h4 : j ≤ 115) : rlo k j = 0 := by
  unfold rlo
  rw [if_neg (by omega), if_neg (by omega), if_neg (by omega), if_neg (by omega), if_neg (by omega), if_neg (by omega), if_neg (by omega), if_neg (by omega), if_neg (by omega), if_neg (by omega), if_neg (by omega), if_neg (by omega), if_pos (by omega), if_neg (by omega), if_neg (by omega), if_neg (by omega), if_neg (by omega), if_neg (by omega), if_neg (by omega), if_neg (by omega), if_neg (by omega), if_neg (by omega), if_neg (by omega), if_pos (by omega)]
theorem rhi_mundone_10 {k j : Nat} (h1 : 398 ≤ k) (h2 : k ≤ 398) (h3 : 108 ≤ j) (h4 : j ≤ 115) : rhi k j = 7 := by
  unfold rhi
  rw [if_neg (by omega), if_neg (by omega), if_neg (by omega), if_neg (by omega), if_neg (by omega), if_neg (by omega), if_neg (by omega), if_neg (by omega), if_neg (by omega), if_neg (by omega), if_neg (by omega), if_neg (by omega), if_pos (by omega), if_neg (by omega), if_neg (by omega), if_neg (by omega), if_neg (by omega), if_neg (by omega), if_neg (by omega), if_neg (by omega), if_neg (by omega), if_neg (by omega), if_neg (by omega), if_pos (by omega)]
theorem ra_mundone_10 {σ : Nat → Nat → Int32} (hR : Rg σ) {k j : Nat} (h1 : 398 ≤ k) (h2 : k ≤ 398) (h3 : 108 ≤ j) (h4 : j ≤ 115) : 0 ≤ (σ k j).toInt ∧ (σ k j).toInt ≤ 7 := by
  have h := hR k j
  rw [rlo_mundone_10 h1 h2 h3 h4, rhi_mundone_10 h1 h2 h3 h4] at h
  exact h
theorem rw_mundone_10 {v : Int32} {k j : Nat} (h1 : 398 ≤ k) (h2 : k ≤ 398) (h3 : 108 ≤ j) (h4 : j ≤ 115) (hv : 0 ≤ v.toInt ∧ v.toInt ≤ 7) : rlo k j ≤ v.toInt ∧ v.toInt ≤ rhi k j := by
  rw [rlo_mundone_10 h1 h2 h3 h4, rhi_mundone_10 h1 h2 h3 h4]
  exact hv
theorem rlo_mundone_11 {k j : Nat} (h1 : 398 ≤ k) (h2 : k ≤ 398) (h3 : 124 ≤ j) (h4 : j ≤ 131) : rlo k j = 0 := by
  unfold rlo
  rw [if_neg (by omega), if_neg (by omega), if_neg (by omega), if_neg (by omega), if_neg (by omega), if_neg (by omega), if_neg (by omega), if_neg (by omega), if_neg (by omega), if_neg (by omega), if_neg (by omega), if_neg (by omega), if_pos (by omega), if_neg (by omega), if_neg (by omega), if_neg (by omega), if_neg (by omega), if_neg (by omega), if_neg (by omega), if_neg (by omega), if_neg (by omega), if_neg (by omega), if_neg (by omega), if_neg (by omega), if_pos (by omega)]
theorem rhi_mundone_11 {k j : Nat} (h1 : 398 ≤ k) (h2 : k ≤ 398) (h3 : 124 ≤ j) (h4 : j ≤ 131) : rhi k j = 10 := by
  unfold rhi
  rw [if_neg (by omega), if_neg (by omega), if_neg (by omega), if_neg (by omega), if_neg (by omega), if_neg (by omega), if_neg (by omega), if_neg (by omega), if_neg (by omega), if_neg (by omega), if_neg (by omega), if_neg (by omega), if_pos (by omega), if_neg (by omega), if_neg (by omega), if_neg (by omega), if_neg (by omega), if_neg (by omega), if_neg (by omega), if_neg (by omega), if_neg (by omega), if_neg (by omega), if_neg (by omega), if_neg (by omega), if_pos (by omega)]
theorem ra_mundone_11 {σ : Nat → Nat → Int32} (hR : Rg σ) {k j : Nat} (h1 : 398 ≤ k) (h2 : k ≤ 398) (h3 : 124 ≤ j) (h4 : j ≤ 131) : 0 ≤ (σ k j).toInt ∧ (σ k j).toInt ≤ 10 := by
  have h := hR k j
  rw [rlo_mundone_11 h1 h2 h3 h4, rhi_mundone_11 h1 h2 h3 h4] at h
  exact h
theorem rw_mundone_11 {v : Int32} {k j : Nat} (h1 : 398 ≤ k) (h2 : k ≤ 398) (h3 : 124 ≤ j) (h4 : j ≤ 131) (hv : 0 ≤ v.toInt ∧ v.toInt ≤ 10) : rlo k j ≤ v.toInt ∧ v.toInt ≤ rhi k j := by
  rw [rlo_mundone_11 h1 h2 h3 h4, rhi_mundone_11 h1 h2 h3 h4]
  exact hv
theorem rlo_mundone_12 {k j : Nat} (h1 : 398 ≤ k) (h2 : k ≤ 398) (h3 : 141 ≤ j) (h4 : j ≤ 141) : rlo k j = 0 := by
  unfold rlo
  rw [if_neg (by omega), if_neg (by omega), if_neg (by omega), if_neg (by omega), if_neg (by omega), if_neg (by omega), if_neg (by omega), if_neg (by omega), if_neg (by omega), if_neg (by omega), if_neg (by omega), if_neg (by omega), if_pos (by omega), if_neg (by omega), if_neg (by omega), if_neg (by omega), if_neg (by omega), if_neg (by omega), if_neg (by omega), if_neg (by omega), if_neg (by omega), if_neg (by omega), if_neg (by omega), if_neg (by omega), if_neg (by omega), if_pos (by omega)]
theorem rhi_mundone_12 {k j : Nat} (h1 : 398 ≤ k) (h2 : k ≤ 398) (h3 : 141 ≤ j) (h4 : j ≤ 141) : rhi k j = 4 := by
  unfold rhi
  rw [if_neg (by omega), if_neg (by omega), if_neg (by omega), if_neg (by omega), if_neg (by omega), if_neg (by omega), if_neg (by omega), if_neg (by omega), if_neg (by omega), if_neg (by omega), if_neg (by omega), if_neg (by omega), if_pos (by omega), if_neg (by omega), if_neg (by omega), if_neg (by omega), if_neg (by omega), if_neg (by omega), if_neg (by omega), if_neg (by omega), if_neg (by omega), if_neg (by omega), if_neg (by omega), if_neg (by omega), if_neg (by omega), if_pos (by omega)]
theorem ra_mundone_12 {σ : Nat → Nat → Int32} (hR : Rg σ) {k j : Nat} (h1 : 398 ≤ k) (h2 : k ≤ 398) (h3 : 141 ≤ j) (h4 : j ≤ 141) : 0 ≤ (σ k j).toInt ∧ (σ k j).toInt ≤ 4 := by
  have h := hR k j
  rw [rlo_mundone_12 h1 h2 h3 h4, rhi_mundone_12 h1 h2 h3 h4] at h
  exact h
theorem rw_mundone_12 {v : Int32} {k j : Nat} (h1 : 398 ≤ k) (h2 : k ≤ 398) (h3 : 141 ≤ j) (h4 : j ≤ 141) (hv : 0 ≤ v.toInt ∧ v.toInt ≤ 4) : rlo k j ≤ v.toInt ∧ v.toInt ≤ rhi k j := by
  rw [rlo_mundone_12 h1 h2 h3 h4, rhi_mundone_12 h1 h2 h3 h4]
  exact hv
theorem rlo_mundone_13 {k j : Nat} (h1 : 398 ≤ k) (h2 : k ≤ 398) (h3 : 143 ≤ j) (h4 : j ≤ 150) : rlo k j = 0 := by
  unfold rlo
  rw [if_neg (by omega), if_neg (by omega), if_neg (by omega), if_neg (by omega), if_neg (by omega), if_neg (by omega), if_neg (by omega), if_neg (by omega), if_neg (by omega), if_neg (by omega), if_neg (by omega), if_neg (by omega), if_pos (by omega), if_neg (by omega), if_neg (by omega), if_neg (by omega), if_neg (by omega), if_neg (by omega), if_neg (by omega), if_neg (by omega), if_neg (by omega), if_neg (by omega), if_neg (by omega), if_neg (by omega), if_neg (by omega), if_neg (by omega), if_pos (by omega)]
theorem rhi_mundone_13 {k j : Nat} (h1 : 398 ≤ k) (h2 : k ≤ 398) (h3 : 143 ≤ j) (h4 : j ≤ 150) : rhi k j = 7 := by
  unfold rhi
  rw [if_neg (by omega), if_neg (by omega), if_neg (by omega), if_neg (by omega), if_neg (by omega), if_neg (by omega), if_neg (by omega), if_neg (by omega), if_neg (by omega), if_neg (by omega), if_neg (by omega), if_neg (by omega), if_pos (by omega), if_neg (by omega), if_neg (by omega), if_neg (by omega), if_neg (by omega), if_neg (by omega), if_neg (by omega), if_neg (by omega), if_neg (by omega), if_neg (by omega), if_neg (by omega), if_neg (by omega), if_neg (by omega), if_neg (by omega), if_pos (by omega)]
theorem ra_mundone_13 {σ : Nat → Nat → Int32} (hR : Rg σ) {k j : Nat} (h1 : 398 ≤ k) (h2 : k ≤ 398) (h3 : 143 ≤ j) (h4 : j ≤ 150) : 0 ≤ (σ k j).toInt ∧ (σ k j).toInt ≤ 7 := by
  have h := hR k j
  rw [rlo_mundone_13 h1 h2 h3 h4, rhi_mundone_13 h1 h2 h3 h4] at h
  exact h
theorem rw_mundone_13 {v : Int32} {k j : Nat} (h1 : 398 ≤ k) (h2 : k ≤ 398) (h3 : 143 ≤ j) (h4 : j ≤ 150) (hv : 0 ≤ v.toInt ∧ v.toInt ≤ 7) : rlo k j ≤ v.toInt ∧ v.toInt ≤ rhi k j := by
  rw [rlo_mundone_13 h1 h2 h3 h4, rhi_mundone_13 h1 h2 h3 h4]
  exact hv
theorem rlo_mundone_14 {k j : Nat} (h1 : 398 ≤ k) (h2 : k ≤ 398) (h3 : 159 ≤ j) (h4 : j ≤ 166) : rlo k j = 0 := by
  unfold rlo
  rw [if_neg (by omega), if_neg (by omega), if_neg (by omega), if_neg (by omega), if_neg (by omega), if_neg (by omega), if_neg (by omega), if_neg (by omega), if_neg (by omega), if_neg (by omega), if_neg (by omega), if_neg (by omega), if_pos (by omega), if_neg (by omega), if_neg (by omega), if_neg (by omega), if_neg (by omega), if_neg (by omega), if_neg (by omega), if_neg (by omega), if_neg (by omega), if_neg (by omega), if_neg (by omega), if_neg (by omega), if_neg (by omega), if_neg (by omega), if_neg (by omega), if_pos (by omega)]
theorem rhi_mundone_14 {k j : Nat} (h1 : 398 ≤ k) (h2 : k ≤ 398) (h3 : 159 ≤ j) (h4 : j ≤ 166) : rhi k j = 10 := by
  unfold rhi
  rw [if_neg (by omega), if_neg (by omega), if_neg (by omega), if_neg (by omega), if_neg (by omega), if_neg (by omega), if_neg (by omega), if_neg (by omega), if_neg (by omega), if_neg (by omega), if_neg (by omega), if_neg (by omega), if_pos (by omega), if_neg (by omega), if_neg (by omega), if_neg (by omega), if_neg (by omega), if_neg (by omega), if_neg (by omega), if_neg (by omega), if_neg (by omega), if_neg (by omega), if_neg (by omega), if_neg (by omega), if_neg (by omega), if_neg (by omega), if_neg (by omega), if_pos (by omega)]
theorem ra_mundone_14 {σ : Nat → Nat → Int32} (hR : Rg σ) {k j : Nat} (h1 : 398 ≤ k) (h2 : k ≤ 398) (h3 : 159 ≤ j) (h4 : j ≤ 166) : 0 ≤ (σ k j).toInt ∧ (σ k j).toInt ≤ 10 := by
  have h := hR k j
  rw [rlo_mundone_14 h1 h2 h3 h4, rhi_mundone_14 h1 h2 h3 h4] at h
  exact h
theorem rw_mundone_14 {v : Int32} {k j : Nat} (h1 : 398 ≤ k) (h2 : k ≤ 398) (h3 : 159 ≤ j) (h4 : j ≤ 166) (hv : 0 ≤ v.toInt ∧ v.toInt ≤ 10) : rlo k j ≤ v.toInt ∧ v.toInt ≤ rhi k j := by
  rw [rlo_mundone_14 h1 h2 h3 h4, rhi_mundone_14 h1 h2 h3 h4]
  exact hv
theorem rlo_mundone_15 {k j : Nat} (h1 : 398 ≤ k) (h2 : k ≤ 398) (h3 : 176 ≤ j) (h4 : j ≤ 176) : rlo k j = 0 := by
  unfold rlo
  rw [if_neg (by omega), if_neg (by omega), if_neg (by omega), if_neg (by omega), if_neg (by omega), if_neg (by omega), if_neg (by omega), if_neg (by omega), if_neg (by omega), if_neg (by omega), if_neg (by omega), if_neg (by omega), if_pos (by omega), if_neg (by omega), if_neg (by omega), if_neg (by omega), if_neg (by omega), if_neg (by omega), if_neg (by omega), if_neg (by omega), if_neg (by omega), if_neg (by omega), if_neg (by omega), if_neg (by omega), if_neg (by omega), if_neg (by omega), if_neg (by omega), if_neg (by omega), if_pos (by omega)]
theorem rhi_mundone_15 {k j : Nat} (h1 : 398 ≤ k) (h2 : k ≤ 398) (h3 : 176 ≤ j) (h4 : j ≤ 176) : rhi k j = 4 := by
  unfold rhi
  rw [if_neg (by omega), if_neg (by omega), if_neg (by omega), if_neg (by omega), if_neg (by omega), if_neg (by omega), if_neg (by omega), if_neg (by omega), if_neg (by omega), if_neg (by omega), if_neg (by omega), if_neg (by omega), if_pos (by omega), if_neg (by omega), if_neg (by omega), if_neg (by omega), if_neg (by omega), if_neg (by omega), if_neg (by omega), if_neg (by omega), if_neg (by omega), if_neg (by omega), if_neg (by omega), if_neg (by omega), if_neg (by omega), if_neg (by omega), if_neg (by omega), if_neg (by omega), if_pos (by omega)]
theorem ra_mundone_15 {σ : Nat → Nat → Int32} (hR : Rg σ) {k j : Nat} (h1 : 398 ≤ k) (h2 : k ≤ 398) (h3 : 176 ≤ j) (h4 : j ≤ 176) : 0 ≤ (σ k j).toInt ∧ (σ k j).toInt ≤ 4 := by
  have h := hR k j
  rw [rlo_mundone_15 h1 h2 h3 h4, rhi_mundone_15 h1 h2 h3 h4] at h
  exact h
theorem rw_mundone_15 {v : Int32} {k j : Nat} (h1 : 398 ≤ k) (h2 : k ≤ 398) (h3 : 176 ≤ j) (h4 : j ≤ 176) (hv : 0 ≤ v.toInt ∧ v.toInt ≤ 4) : rlo k j ≤ v.toInt ∧ v.toInt ≤ rhi k j := by
  rw [rlo_mundone_15 h1 h2 h3 h4, rhi_mundone_15 h1 h2 h3 h4]
  exact hv
theorem rlo_mundone_16 {k j : Nat} (h1 : 398 ≤ k) (h2 : k ≤ 398) (h3 : 178 ≤ j) (h4 : j ≤ 185) : rlo k j = 0 := by
  unfold rlo
  rw [if_neg (by omega), if_neg (by omega), if_neg (by omega), if_neg (by omega), if_neg (by omega), if_neg (by omega), if_neg (by omega), if_neg (by omega), if_neg (by omega), if_neg (by omega), if_neg (by omega), if_neg (by omega), if_pos (by omega), if_neg (by omega), if_neg (by omega), if_neg (by omega), if_neg (by omega), if_neg (by omega), if_neg (by omega), if_neg (by omega), if_neg (by omega), if_neg (by omega), if_neg (by omega), if_neg (by omega), if_neg (by omega), if_neg (by omega), if_neg (by omega), if_neg (by omega), if_neg (by omega), if_pos (by omega)]
theorem rhi_mundone_16 {k j : Nat} (h1 : 398 ≤ k) (h2 : k ≤ 398) (h3 : 178 ≤ j) (h4 : j ≤ 185) : rhi k j = 7 := by
  unfold rhi
  rw [if_neg (by omega), if_neg (by omega), if_neg (by omega), if_neg (by omega), if_neg (by omega), if_neg (by omega), if_neg (by omega), if_neg (by omega), if_neg (by omega), if_neg (by omega), if_neg (by omega), if_neg (by omega), if_pos (by omega), if_neg (by omega), if_neg (by omega), if_neg (by omega), if_neg (by omega), if_neg (by omega), if_neg (by omega), if_neg (by omega), if_neg (by omega), if_neg (by omega), if_neg (by omega), if_neg (by omega), if_neg (by omega), if_neg (by omega), if_neg (by omega), if_neg (by omega), if_neg (by omega), if_pos (by omega)]
theorem ra_mundone_16 {σ : Nat → Nat → Int32} (hR : Rg σ) {k j : Nat} (h1 : 398 ≤ k) (h2 : k ≤ 398) (h3 : 178 ≤ j) (h4 : j ≤ 185) : 0 ≤ (σ k j).toInt ∧ (σ k j).toInt ≤ 7 := by
  have h := hR k j
  rw [rlo_mundone_16 h1 h2 h3 h4, rhi_mundone_16 h1 h2 h3 h4] at h
  exact h
theorem rw_mundone_16 {v : Int32} {k j : Nat} (h1 : 398 ≤ k) (h2 : k ≤ 398) (h3 : 178 ≤ j) (h4 : j ≤ 185) (hv : 0 ≤ v.toInt ∧ v.toInt ≤ 7) : rlo k j ≤ v.toInt ∧ v.toInt ≤ rhi k j := by
  rw [rlo_mundone_16 h1 h2 h3 h4, rhi_mundone_16 h1 h2 h3 h4]
  exact hv
theorem rlo_mundone_17 {k j : Nat} (h1 : 398 ≤ k) (h2 : k ≤ 398) (h3 : 194 ≤ j) (h4 : j ≤ 201) : rlo k j = 0 := by
  unfold rlo
  rw [if_neg (by omega), if_neg (by omega), if_neg (by omega), if_neg (by omega), if_neg (by omega), if_neg (by omega), if_neg (by omega), if_neg (by omega), if_neg (by omega), if_neg (by omega), if_neg (by omega), if_neg (by omega), if_pos (by omega), if_neg (by omega), if_neg (by omega), if_neg (by omega), if_neg (by omega), if_neg (by omega), if_neg (by omega), if_neg (by omega), if_neg (by omega), if_neg (by omega), if_neg (by omega), if_neg (by omega), if_neg (by omega), if_neg (by omega), if_neg (by omega), if_neg (by omega), if_neg (by omega), if_neg (by omega), if_pos (by omega)]
theorem rhi_mundone_17 {k j : Nat} (h1 : 398 ≤ k) (h2 : k ≤ 398) (h3 : 194 ≤ j) (h4 : j ≤ 201) : rhi k j = 10 := by
  unfold rhi
  rw [if_neg (by omega), if_neg (by omega), if_neg (by omega), if_neg (by omega), if_neg (by omega), if_neg (by omega), if_neg (by omega), if_neg (by omega), if_neg (by omega), if_neg (by omega), if_neg (by omega), if_neg (by omega), if_pos (by omega), if_neg (by omega), if_neg (by omega), if_neg (by omega), if_neg (by omega), if_neg (by omega), if_neg (by omega), if_neg (by omega), if_neg (by omega), if_neg (by omega), if_neg (by omega), if_neg (by omega), if_neg (by omega), if_neg (by omega), if_neg (by omega), if_neg (by omega), if_neg (by omega), if_neg (by omega), if_pos (by omega)]
theorem ra_mundone_17 {σ : Nat → Nat → Int32} (hR : Rg σ) {k j : Nat} (h1 : 398 ≤ k) (h2 : k ≤ 398) (h3 : 194 ≤ j) (h4 : j ≤ 201) : 0 ≤ (σ k j).toInt ∧ (σ k j).toInt ≤ 10 := by
  have h := hR k j
  rw [rlo_mundone_17 h1 h2 h3 h4, rhi_mundone_17 h1 h2 h3 h4] at h
  exact h
theorem rw_mundone_17 {v : Int32} {k j : Nat} (h1 : 398 ≤ k) (h2 : k ≤ 398) (h3 : 194 ≤ j) (h4 : j ≤ 201) (hv : 0 ≤ v.toInt ∧ v.toInt ≤ 10) : rlo k j ≤ v.toInt ∧ v.toInt ≤ rhi k j := by
  rw [rlo_mundone_17 h1 h2 h3 h4, rhi_mundone_17 h1 h2 h3 h4]
  exact hv
theorem rlo_mundone_18 {k j : Nat} (h1 : 398 ≤ k) (h2 : k ≤ 398) (h3 : 211 ≤ j) (h4 : j ≤ 211) : rlo k j = 0 := by
  unfold rlo
  rw [if_neg (by omega), if_neg (by omega), if_neg (by omega), if_neg (by omega), if_neg (by omega), if_neg (by omega), if_neg (by omega), if_neg (by omega), if_neg (by omega), if_neg (by omega), if_neg (by omega), if_neg (by omega), if_pos (by omega), if_neg (by omega), if_neg (by omega), if_neg (by omega), if_neg (by omega), if_neg (by omega), if_neg (by omega), if_neg (by omega), if_neg (by omega), if_neg (by omega), if_neg (by omega), if_neg (by omega), if_neg (by omega), if_neg (by omega), if_neg (by omega), if_neg (by omega), if_neg (by omega), if_neg (by omega), if_neg (by omega), if_pos (by omega)]
theorem rhi_mundone_18 {k j : Nat} (h1 : 398 ≤ k) (h2 : k ≤ 398) (h3 : 211 ≤ j) (h4 : j ≤ 211) : rhi k j = 4 := by
  unfold rhi
  rw [if_neg (by omega), if_neg (by omega), if_neg (by omega), if_neg (by omega), if_neg (by omega), if_neg (by omega), if_neg (by omega), if_neg (by omega), if_neg (by omega), if_neg (by omega), if_neg (by omega), if_neg (by omega), if_pos (by omega), if_neg (by omega), if_neg (by omega), if_neg (by omega), if_neg (by omega), if_neg (by omega), if_neg (by omega), if_neg (by omega), if_neg (by omega), if_neg (by omega), if_neg (by omega), if_neg (by omega), if_neg (by omega), if_neg (by omega), if_neg (by omega), if_neg (by omega), if_neg (by omega), if_neg (by omega), if_neg (by omega), if_pos (by omega)]
theorem ra_mundone_18 {σ : Nat → Nat → Int32} (hR : Rg σ) {k j : Nat} (h1 : 398 ≤ k) (h2 : k ≤ 398) (h3 : 211 ≤ j) (h4 : j ≤ 211) : 0 ≤ (σ k j).toInt ∧ (σ k j).toInt ≤ 4 := by
  have h := hR k j
  rw [rlo_mundone_18 h1 h2 h3 h4, rhi_mundone_18 h1 h2 h3 h4] at h
  exact h
theorem rw_mundone_18 {v : Int32} {k j : Nat} (h1 : 398 ≤ k) (h2 : k ≤ 398) (h3 : 211 ≤ j) (h4 : j ≤ 211) (hv : 0 ≤ v.toInt ∧ v.toInt ≤ 4) : rlo k j ≤ v.toInt ∧ v.toInt ≤ rhi k j := by
  rw [rlo_mundone_18 h1 h2 h3 h4, rhi_mundone_18 h1 h2 h3 h4]
  exact hv
theorem rlo_mundone_19 {k j : Nat} (h1 : 398 ≤ k) (h2 : k ≤ 398) (h3 : 213 ≤ j) (h4 : j ≤ 220) : rlo k j = 0 := by
  unfold rlo
  rw [if_neg (by omega), if_neg (by omega), if_neg (by omega), if_neg (by omega), if_neg (by omega), if_neg (by omega), if_neg (by omega), if_neg (by omega), if_neg (by omega), if_neg (by omega), if_neg (by omega), if_neg (by omega), if_pos (by omega), if_neg (by omega), if_neg (by omega), if_neg (by omega), if_neg (by omega), if_neg (by omega), if_neg (by omega), if_neg (by omega), if_neg (by omega), if_neg (by omega), if_neg (by omega), if_neg (by omega), if_neg (by omega), if_neg (by omega), if_neg (by omega), if_neg (by omega), if_neg (by omega), if_neg (by omega), if_neg (by omega), if_neg (by omega), if_pos (by omega)]
theorem rhi_mundone_19 {k j : Nat} (h1 : 398 ≤ k) (h2 : k ≤ 398) (h3 : 213 ≤ j) (h4 : j ≤ 220) : rhi k j = 7 := by
  unfold rhi
  rw [if_neg (by omega), if_neg (by omega), if_neg (by omega), if_neg (by omega), if_neg (by omega), if_neg (by omega), if_neg (by omega), if_neg (by omega), if_neg (by omega), if_neg (by omega), if_neg (by omega), if_neg (by omega), if_pos (by omega), if_neg (by omega), if_neg (by omega), if_neg (by omega), if_neg (by omega), if_neg (by omega), if_neg (by omega), if_neg (by omega), if_neg (by omega), if_neg (by omega), if_neg (by omega), if_neg (by omega), if_neg (by omega), if_neg (by omega), if_neg (by omega), if_neg (by omega), if_neg (by omega), if_neg (by omega), if_neg (by omega), if_neg (by omega), if_pos (by omega)]
theorem ra_mundone_19 {σ : Nat → Nat → Int32} (hR : Rg σ) {k j : Nat} (h1 : 398 ≤ k) (h2 : k ≤ 398) (h3 : 213 ≤ j) (h4 : j ≤ 220) : 0 ≤ (σ k j).toInt ∧ (σ k j).toInt ≤ 7 := by
  have h := hR k j
  rw [rlo_mundone_19 h1 h2 h3 h4, rhi_mundone_19 h1 h2 h3 h4] at h
  exact h
theorem rw_mundone_19 {v : Int32} {k j : Nat} (h1 : 398 ≤ k) (h2 : k ≤ 398) (h3 : 213 ≤ j) (h4 : j ≤ 220) (hv : 0 ≤ v.toInt ∧ v.toInt ≤ 7) : rlo k j ≤ v.toInt ∧ v.toInt ≤ rhi k j := by
  rw [rlo_mundone_19 h1 h2 h3 h4, rhi_mundone_19 h1 h2 h3 h4]
  exact hv
theorem rlo_mundone_20 {k j : Nat} (h1 : 398 ≤ k) (h2 : k ≤ 398) (h3 : 229 ≤ j) (h4 : j ≤ 236) : rlo k j = 0 := by
  unfold rlo
  rw [if_neg (by omega), if_neg (by omega), if_neg (by omega), if_neg (by omega), if_neg (by omega), if_neg (by omega), if_neg (by omega), if_neg (by omega), if_neg (by omega), if_neg (by omega), if_neg (by omega), if_neg (by omega), if_pos (by omega), if_neg (by omega), if_neg (by omega), if_neg (by omega), if_neg (by omega), if_neg (by omega), if_neg (by omega), if_neg (by omega), if_neg (by omega), if_neg (by omega), if_neg (by omega), if_neg (by omega), if_neg (by omega), if_neg (by omega), if_neg (by omega), if_neg (by omega), if_neg (by omega), if_neg (by omega), if_neg (by omega), if_neg (by omega), if_neg (by omega), if_pos (by omega)]
theorem rhi_mundone_20 {k j : Nat} (h1 : 398 ≤ k) (h2 : k ≤ 398) (h3 : 229 ≤ j) (h4 : j ≤ 236) : rhi k j = 10 := by
  unfold rhi
  rw [if_neg (by omega), if_neg (by omega), if_neg (by omega), if_neg (by omega), if_neg (by omega), if_neg (by omega), if_neg (by omega), if_neg (by omega), if_neg (by omega), if_neg (by omega), if_neg (by omega), if_neg (by omega), if_pos (by omega), if_neg (by omega), if_neg (by omega), if_neg (by omega), if_neg (by omega), if_neg (by omega), if_neg (by omega), if_neg (by omega), if_neg (by omega), if_neg (by omega), if_neg (by omega), if_neg (by omega), if_neg (by omega), if_neg (by omega), if_neg (by omega), if_neg (by omega), if_neg (by omega), if_neg (by omega), if_neg (by omega), if_neg (by omega), if_neg (by omega), if_pos (by omega)]
theorem ra_mundone_20 {σ : Nat → Nat → Int32} (hR : Rg σ) {k j : Nat} (h1 : 398 ≤ k) (h2 : k ≤ 398) (h3 : 229 ≤ j) (h4 : j ≤ 236) : 0 ≤ (σ k j).toInt ∧ (σ k j).toInt ≤ 10 := by
  have h := hR k j
  rw [rlo_mundone_20 h1 h2 h3 h4, rhi_mundone_20 h1 h2 h3 h4] at h
  exact h
theorem rw_mundone_20 {v : Int32} {k j : Nat} (h1 : 398 ≤ k) (h2 : k ≤ 398) (h3 : 229 ≤ j) (h4 : j ≤ 236) (hv : 0 ≤ v.toInt ∧ v.toInt ≤ 10) : rlo k j ≤ v.toInt ∧ v.toInt ≤ rhi k j := by
  rw [rlo_mundone_20 h1 h2 h3 h4, rhi_mundone_20 h1 h2 h3 h4]
  exact hv
theorem rlo_mundone_21 {k j : Nat} (h1 : 398 ≤ k) (h2 : k ≤ 398) (h3 : 246 ≤ j) (h4 : j ≤ 246) : rlo k j = 0 := by
  unfold rlo
  rw [if_neg (by omega), if_neg (by omega), if_neg (by omega), if_neg (by omega), if_neg (by omega), if_neg (by omega), if_neg (by omega), if_neg (by omega), if_neg (by omega), if_neg (by omega), if_neg (by omega), if_neg (by omega), if_pos (by omega), if_neg (by omega), if_neg (by omega), if_neg (by omega), if_neg (by omega), if_neg (by omega), if_neg (by omega), if_neg (by omega), if_neg (by omega), if_neg (by omega), if_neg (by omega), if_neg (by omega), if_neg (by omega), if_neg (by omega), if_neg (by omega), if_neg (by omega), if_neg (by omega), if_neg (by omega), if_neg (by omega), if_neg (by omega), if_neg (by omega), if_neg (by omega), if_pos (by omega)]
theorem rhi_mundone_21 {k j : Nat} (h1 : 398 ≤ k) (h2 : k ≤ 398) (h3 : 246 ≤ j) (h4 : j ≤ 246) : rhi k j = 4 := by
  unfold rhi
  rw [if_neg (by omega), if_neg (by omega), if_neg (by omega), if_neg (by omega), if_neg (by omega), if_neg (by omega), if_neg (by omega), if_neg (by omega), if_neg (by omega), if_neg (by omega), if_neg (by omega), if_neg (by omega), if_pos (by omega), if_neg (by omega), if_neg (by omega), if_neg (by omega), if_neg (by omega), if_neg (by omega), if_neg (by omega), if_neg (by omega), if_neg (by omega), if_neg (by omega), if_neg (by omega), if_neg (by omega), if_neg (by omega), if_neg (by omega), if_neg (by omega), if_neg (by omega), if_neg (by omega), if_neg (by omega), if_neg (by omega), if_neg (by omega), if_neg (by omega), if_neg (by omega), if_pos (by omega)]
theorem ra_mundone_21 {σ : Nat → Nat → Int32} (hR : Rg σ) {k j : Nat} (h1 : 398 ≤ k) (h2 : k ≤ 398) (h3 : 246 ≤ j) (h4 : j ≤ 246) : 0 ≤ (σ k j).toInt ∧ (σ k j).toInt ≤ 4 := by
  have h := hR k j
  rw [rlo_mundone_21 h1 h2 h3 h4, rhi_mundone_21 h1 h2 h3 h4] at h
  exact h
theorem rw_mundone_21 {v : Int32} {k j : Nat} (h1 : 398 ≤ k) (h2 : k ≤ 398) (h3 : 246 ≤ j) (h4 : j ≤ 246) (hv : 0 ≤ v.toInt ∧ v.toInt ≤ 4) : rlo k j ≤ v.toInt ∧ v.toInt ≤ rhi k j := by
  rw [rlo_mundone_21 h1 h2 h3 h4, rhi_mundone_21 h1 h2 h3 h4]
  exact hv
theorem rlo_mundone_22 {k j : Nat} (h1 : 398 ≤ k) (h2 : k ≤ 398) (h3 : 248 ≤ j) (h4 : j ≤ 255) : rlo k j = 0 := by
  unfold rlo
  rw [if_neg (by omega), if_neg (by omega), if_neg (by omega), if_neg (by omega), if_neg (by omega), if_neg (by omega), if_neg (by omega), if_neg (by omega), if_neg (by omega), if_neg (by omega), if_neg (by omega), if_neg (by omega), if_pos (by omega), if_neg (by omega), if_neg (by omega), if_neg (by omega), if_neg (by omega), if_neg (by omega), if_neg (by omega), if_neg (by omega), if_neg (by omega), if_neg (by omega), if_neg (by omega), if_neg (by omega), if_neg (by omega), if_neg (by omega), if_neg (by omega), if_neg (by omega), if_neg (by omega), if_neg (by omega), if_neg (by omega), if_neg (by omega), if_neg (by omega), if_neg (by omega), if_neg (by omega), if_pos (by omega)]
theorem rhi_mundone_22 {k j : Nat} (h1 : 398 ≤ k) (h2 : k ≤ 398) (h3 : 248 ≤ j) (h4 : j ≤ 255) : rhi k j = 7 := by
  unfold rhi
  rw [if_neg (by omega), if_neg (by omega), if_neg (by omega), if_neg (by omega), if_neg (by omega), if_neg (by omega), if_neg (by omega), if_neg (by omega), if_neg (by omega), if_neg (by omega), if_neg (by omega), if_neg (by omega), if_pos (by omega), if_neg (by omega), if_neg (by omega), if_neg (by omega), if_neg (by omega), if_neg (by omega), if_neg (by omega), if_neg (by omega), if_neg (by omega), if_neg (by omega), if_neg (by omega), if_neg (by omega), if_neg (by omega), if_neg (by omega), if_neg (by omega), if_neg (by omega), if_neg (by omega), if_neg (by omega), if_neg (by omega), if_neg (by omega), if_neg (by omega), if_neg (by omega), if_neg (by omega), if_pos (by omega)]
theorem ra_mundone_22 {σ : Nat → Nat → Int32} (hR : Rg σ) {k j : Nat} (h1 : 398 ≤ k) (h2 : k ≤ 398) (h3 : 248 ≤ j) (h4 : j ≤ 255) : 0 ≤ (σ k j).toInt ∧ (σ k j).toInt ≤ 7 := by
  have h := hR k j
  rw [rlo_mundone_22 h1 h2 h3 h4, rhi_mundone_22 h1 h2 h3 h4] at h
  exact h
theorem rw_mundone_22 {v : Int32} {k j : Nat} (h1 : 398 ≤ k) (h2 : k ≤ 398) (h3 : 248 ≤ j) (h4 : j ≤ 255) (hv : 0 ≤ v.toInt ∧ v.toInt ≤ 7) : rlo k j ≤ v.toInt ∧ v.toInt ≤ rhi k j := by
  rw [rlo_mundone_22 h1 h2 h3 h4, rhi_mundone_22 h1 h2 h3 h4]
  exact hv
theorem rlo_mundone_23 {k j : Nat} (h1 : 398 ≤ k) (h2 : k ≤ 398) (h3 : 264 ≤ j) (h4 : j ≤ 271) : rlo k j = 0 := by
  unfold rlo
  rw [if_neg (by omega), if_neg (by omega), if_neg (by omega), if_neg (by omega), if_neg (by omega), if_neg (by omega), if_neg (by omega), if_neg (by omega), if_neg (by omega), if_neg (by omega), if_neg (by omega), if_neg (by omega), if_pos (by omega), if_neg (by omega), if_neg (by omega), if_neg (by omega), if_neg (by omega), if_neg (by omega), if_neg (by omega), if_neg (by omega), if_neg (by omega), if_neg (by omega), if_neg (by omega), if_neg (by omega), if_neg (by omega), if_neg (by omega), if_neg (by omega), if_neg (by omega), if_neg (by omega), if_neg (by omega), if_neg (by omega), if_neg (by omega), if_neg (by omega), if_neg (by omega), if_neg (by omega), if_neg (by omega), if_pos (by omega)]
theorem rhi_mundone_23 {k j : Nat} (h1 : 398 ≤ k) (h2 : k ≤ 398) (h3 : 264 ≤ j) (h4 : j ≤ 271) : rhi k j = 10 := by
  unfold rhi
  rw [if_neg (by omega), if_neg (by omega), if_neg (by omega), if_neg (by omega), if_neg (by omega), if_neg (by omega), if_neg (by omega), if_neg (by omega), if_neg (by omega), if_neg (by omega), if_neg (by omega), if_neg (by omega), if_pos (by omega), if_neg (by omega), if_neg (by omega), if_neg (by omega), if_neg (by omega), if_neg (by omega), if_neg (by omega), if_neg (by omega), if_neg (by omega), if_neg (by omega), if_neg (by omega), if_neg (by omega), if_neg (by omega), if_neg (by omega), if_neg (by omega), if_neg (by omega), if_neg (by omega), if_neg (by omega), if_neg (by omega), if_neg (by omega), if_neg (by omega), if_neg (by omega), if_neg (by omega), if_neg (by omega), if_pos (by omega)]
theorem ra_mundone_23 {σ : Nat → Nat → Int32} (hR : Rg σ) {k j : Nat} (h1 : 398 ≤ k) (h2 : k ≤ 398) (h3 : 264 ≤ j) (h4 : j ≤ 271) : 0 ≤ (σ k j).toInt ∧ (σ k j).toInt ≤ 10 := by
  have h := hR k j
  rw [rlo_mundone_23 h1 h2 h3 h4, rhi_mundone_23 h1 h2 h3 h4] at h
  exact h
theorem rw_mundone_23 {v : Int32} {k j : Nat} (h1 : 398 ≤ k) (h2 : k ≤ 398) (h3 : 264 ≤ j) (h4 : j ≤ 271) (hv : 0 ≤ v.toInt ∧ v.toInt ≤ 10) : rlo k j ≤ v.toInt ∧ v.toInt ≤ rhi k j := by
  rw [rlo_mundone_23 h1 h2 h3 h4, rhi_mundone_23 h1 h2 h3 h4]
  exact hv
theorem rx_mundone_0 {v : Int32} {k j : Nat} (h1 : 398 ≤ k) (h2 : k ≤ 398) (h3 : 0 ≤ j) (h4 : j ≤ 0) : rlo k j ≤ v.toInt ∧ v.toInt ≤ rhi k j := by
  unfold rlo rhi
  rw [if_neg (by omega), if_neg (by omega), if_neg (by omega), if_neg (by omega), if_neg (by omega), if_neg (by omega), if_neg (by omega), if_neg (by omega), if_neg (by omega), if_neg (by omega), if_neg (by omega), if_neg (by omega), if_pos (by omega), if_neg (by omega), if_neg (by omega), if_neg (by omega), if_neg (by omega), if_neg (by omega), if_neg (by omega), if_neg (by omega), if_neg (by omega), if_neg (by omega), if_neg (by omega), if_neg (by omega), if_neg (by omega), if_neg (by omega), if_neg (by omega), if_neg (by omega), if_neg (by omega), if_neg (by omega), if_neg (by omega), if_neg (by omega), if_neg (by omega), if_neg (by omega), if_neg (by omega), if_neg (by omega), if_neg (by omega), if_neg (by omega), if_neg (by omega), if_neg (by omega), if_neg (by omega), if_neg (by omega), if_neg (by omega), if_neg (by omega), if_neg (by omega), if_neg (by omega), if_neg (by omega), if_neg (by omega), if_neg (by omega), if_pos (by omega), if_neg (by omega), if_neg (by omega), if_neg (by omega), if_neg (by omega), if_neg (by omega), if_neg (by omega), if_neg (by omega), if_neg (by omega), if_neg (by omega), if_neg (by omega), if_neg (by omega), if_neg (by omega), if_neg (by omega), if_neg (by omega), if_neg (by omega), if_neg (by omega), if_neg (by omega), if_neg (by omega), if_neg (by omega), if_neg (by omega), if_neg (by omega), if_neg (by omega), if_neg (by omega), if_neg (by omega)]
  exact ⟨ti_lo _, ti_hi _⟩
theorem rx_mundone_2 {v : Int32} {k j : Nat} (h1 : 398 ≤ k) (h2 : k ≤ 398) (h3 : 2 ≤ j) (h4 : j ≤ 2) : rlo k j ≤ v.toInt ∧ v.toInt ≤ rhi k j := by
  unfold rlo rhi
  rw [if_neg (by omega), if_neg (by omega), if_neg (by omega), if_neg (by omega), if_neg (by omega), if_neg (by omega), if_neg (by omega), if_neg (by omega), if_neg (by omega), if_neg (by omega), if_neg (by omega), if_neg (by omega), if_pos (by omega), if_neg (by omega), if_neg (by omega), if_neg (by omega), if_neg (by omega), if_neg (by omega), if_neg (by omega), if_neg (by omega), if_neg (by omega), if_neg (by omega), if_neg (by omega), if_neg (by omega), if_neg (by omega), if_neg (by omega), if_neg (by omega), if_neg (by omega), if_neg (by omega), if_neg (by omega), if_neg (by omega), if_neg (by omega), if_neg (by omega), if_neg (by omega), if_neg (by omega), if_neg (by omega), if_neg (by omega), if_neg (by omega), if_neg (by omega), if_neg (by omega), if_neg (by omega), if_neg (by omega), if_neg (by omega), if_neg (by omega), if_neg (by omega), if_neg (by omega), if_neg (by omega), if_neg (by omega), if_neg (by omega), if_pos (by omega), if_neg (by omega), if_neg (by omega), if_neg (by omega), if_neg (by omega), if_neg (by omega), if_neg (by omega), if_neg (by omega), if_neg (by omega), if_neg (by omega), if_neg (by omega), if_neg (by omega), if_neg (by omega), if_neg (by omega), if_neg (by omega), if_neg (by omega), if_neg (by omega), if_neg (by omega), if_neg (by omega), if_neg (by omega), if_neg (by omega), if_neg (by omega), if_neg (by omega), if_neg (by omega), if_neg (by omega)]
  exact ⟨ti_lo _, ti_hi _⟩
theorem rx_mundone_11 {v : Int32} {k j : Nat} (h1 : 398 ≤ k) (h2 : k ≤ 398) (h3 : 11 ≤ j) (h4 : j ≤ 18) : rlo k j ≤ v.toInt ∧ v.toInt ≤ rhi k j := by
  unfold rlo rhi
  rw [if_neg (by omega), if_neg (by omega), if_neg (by omega), if_neg (by omega), if_neg (by omega), if_neg (by omega), if_neg (by omega), if_neg (by omega), if_neg (by omega), if_neg (by omega), if_neg (by omega), if_neg (by omega), if_pos (by omega), if_neg (by omega), if_neg (by omega), if_neg (by omega), if_neg (by omega), if_neg (by omega), if_neg (by omega), if_neg (by omega), if_neg (by omega), if_neg (by omega), if_neg (by omega), if_neg (by omega), if_neg (by omega), if_neg (by omega), if_neg (by omega), if_neg (by omega), if_neg (by omega), if_neg (by omega), if_neg (by omega), if_neg (by omega), if_neg (by omega), if_neg (by omega), if_neg (by omega), if_neg (by omega), if_neg (by omega), if_neg (by omega), if_neg (by omega), if_neg (by omega), if_neg (by omega), if_neg (by omega), if_neg (by omega), if_neg (by omega), if_neg (by omega), if_neg (by omega), if_neg (by omega), if_neg (by omega), if_neg (by omega), if_pos (by omega), if_neg (by omega), if_neg (by omega), if_neg (by omega), if_neg (by omega), if_neg (by omega), if_neg (by omega), if_neg (by omega), if_neg (by omega), if_neg (by omega), if_neg (by omega), if_neg (by omega), if_neg (by omega), if_neg (by omega), if_neg (by omega), if_neg (by omega), if_neg (by omega), if_neg (by omega), if_neg (by omega), if_neg (by omega), if_neg (by omega), if_neg (by omega), if_neg (by omega), if_neg (by omega), if_neg (by omega)]
  exact ⟨ti_lo _, ti_hi _⟩
theorem rx_mundone_27 {v : Int32} {k j : Nat} (h1 : 398 ≤ k) (h2 : k ≤ 398) (h3 : 27 ≤ j) (h4 : j ≤ 35) : rlo k j ≤ v.toInt ∧ v.toInt ≤ rhi k j := by
  unfold rlo rhi
  rw [if_neg (by omega), if_neg (by omega), if_neg (by omega), if_neg (by omega), if_neg (by omega), if_neg (by omega), if_neg (by omega), if_neg (by omega), if_neg (by omega), if_neg (by omega), if_neg (by omega), if_neg (by omega), if_pos (by omega), if_neg (by omega), if_neg (by omega), if_neg (by omega), if_neg (by omega), if_neg (by omega), if_neg (by omega), if_neg (by omega), if_neg (by omega), if_neg (by omega), if_neg (by omega), if_neg (by omega), if_neg (by omega), if_neg (by omega), if_neg (by omega), if_neg (by omega), if_neg (by omega), if_neg (by omega), if_neg (by omega), if_neg (by omega), if_neg (by omega), if_neg (by omega), if_neg (by omega), if_neg (by omega), if_neg (by omega), if_neg (by omega), if_neg (by omega), if_neg (by omega), if_neg (by omega), if_neg (by omega), if_neg (by omega), if_neg (by omega), if_neg (by omega), if_neg (by omega), if_neg (by omega), if_neg (by omega), if_neg (by omega), if_pos (by omega), if_neg (by omega), if_neg (by omega), if_neg (by omega), if_neg (by omega), if_neg (by omega), if_neg (by omega), if_neg (by omega), if_neg (by omega), if_neg (by omega), if_neg (by omega), if_neg (by omega), if_neg (by omega), if_neg (by omega), if_neg (by omega), if_neg (by omega), if_neg (by omega), if_neg (by omega), if_neg (by omega), if_neg (by omega), if_neg (by omega), if_neg (by omega), if_neg (by omega), if_neg (by omega), if_neg (by omega)]
  exact ⟨ti_lo _, ti_hi _⟩
theorem rx_mundone_37 {v : Int32} {k j : Nat} (h1 : 398 ≤ k) (h2 : k ≤ 398) (h3 : 37 ≤ j) (h4 : j ≤ 37) : rlo k j ≤ v.toInt ∧ v.toInt ≤ rhi k j := by
  unfold rlo rhi
  rw [if_neg (by omega), if_neg (by omega), if_neg (by omega), if_neg (by omega), if_neg (by omega), if_neg (by omega), if_neg (by omega), if_neg (by omega), if_neg (by omega), if_neg (by omega), if_neg (by omega), if_neg (by omega), if_pos (by omega), if_neg (by omega), if_neg (by omega), if_neg (by omega), if_neg (by omega), if_neg (by omega), if_neg (by omega), if_neg (by omega), if_neg (by omega), if_neg (by omega), if_neg (by omega), if_neg (by omega), if_neg (by omega), if_neg (by omega), if_neg (by omega), if_neg (by omega), if_neg (by omega), if_neg (by omega), if_neg (by omega), if_neg (by omega), if_neg (by omega), if_neg (by omega), if_neg (by omega), if_neg (by omega), if_neg (by omega), if_neg (by omega), if_neg (by omega), if_neg (by omega), if_neg (by omega), if_neg (by omega), if_neg (by omega), if_neg (by omega), if_neg (by omega), if_neg (by omega), if_neg (by omega), if_neg (by omega), if_neg (by omega), if_pos (by omega), if_neg (by omega), if_neg (by omega), if_neg (by omega), if_neg (by omega), if_neg (by omega), if_neg (by omega), if_neg (by omega), if_neg (by omega), if_neg (by omega), if_neg (by omega), if_neg (by omega), if_neg (by omega), if_neg (by omega), if_neg (by omega), if_neg (by omega), if_neg (by omega), if_neg (by omega), if_neg (by omega), if_neg (by omega), if_neg (by omega), if_neg (by omega), if_neg (by omega), if_neg (by omega), if_neg (by omega)]
  exact ⟨ti_lo _, ti_hi _⟩
theorem rx_mundone_46 {v : Int32} {k j : Nat} (h1 : 398 ≤ k) (h2 : k ≤ 398) (h3 : 46 ≤ j) (h4 : j ≤ 53) : rlo k j ≤ v.toInt ∧ v.toInt ≤ rhi k j := by
  unfold rlo rhi
  rw [if_neg (by omega), if_neg (by omega), if_neg (by omega), if_neg (by omega), if_neg (by omega), if_neg (by omega), if_neg (by omega), if_neg (by omega), if_neg (by omega), if_neg (by omega), if_neg (by omega), if_neg (by omega), if_pos (by omega), if_neg (by omega), if_neg (by omega), if_neg (by omega), if_neg (by omega), if_neg (by omega), if_neg (by omega), if_neg (by omega), if_neg (by omega), if_neg (by omega), if_neg (by omega), if_neg (by omega), if_neg (by omega), if_neg (by omega), if_neg (by omega), if_neg (by omega), if_neg (by omega), if_neg (by omega), if_neg (by omega), if_neg (by omega), if_neg (by omega), if_neg (by omega), if_neg (by omega), if_neg (by omega), if_neg (by omega), if_neg (by omega), if_neg (by omega), if_neg (by omega), if_neg (by omega), if_neg (by omega), if_neg (by omega), if_neg (by omega), if_neg (by omega), if_neg (by omega), if_neg (by omega), if_neg (by omega), if_neg (by omega), if_pos (by omega), if_neg (by omega), if_neg (by omega), if_neg (by omega), if_neg (by omega), if_neg (by omega), if_neg (by omega), if_neg (by omega), if_neg (by omega), if_neg (by omega), if_neg (by omega), if_neg (by omega), if_neg (by omega), if_neg (by omega), if_neg (by omega), if_neg (by omega), if_neg (by omega), if_neg (by omega), if_neg (by omega), if_neg (by omega), if_neg (by omega), if_neg (by omega), if_neg (by omega), if_neg (by omega), if_neg (by omega)]
  exact ⟨ti_lo _, ti_hi _⟩
theorem rx_mundone_62 {v : Int32} {k j : Nat} (h1 : 398 ≤ k) (h2 : k ≤ 398) (h3 : 62 ≤ j) (h4 : j ≤ 70) : rlo k j ≤ v.toInt ∧ v.toInt ≤ rhi k j := by
  unfold rlo rhi
  rw [if_neg (by omega), if_neg (by omega), if_neg (by omega), if_neg (by omega), if_neg (by omega), if_neg (by omega), if_neg (by omega), if_neg (by omega), if_neg (by omega), if_neg (by omega), if_neg (by omega), if_neg (by omega), if_pos (by omega), if_neg (by omega), if_neg (by omega), if_neg (by omega), if_neg (by omega), if_neg (by omega), if_neg (by omega), if_neg (by omega), if_neg (by omega), if_neg (by omega), if_neg (by omega), if_neg (by omega), if_neg (by omega), if_neg (by omega), if_neg (by omega), if_neg (by omega), if_neg (by omega), if_neg (by omega), if_neg (by omega), if_neg (by omega), if_neg (by omega), if_neg (by omega), if_neg (by omega), if_neg (by omega), if_neg (by omega), if_neg (by omega), if_neg (by omega), if_neg (by omega), if_neg (by omega), if_neg (by omega), if_neg (by omega), if_neg (by omega), if_neg (by omega), if_neg (by omega), if_neg (by omega), if_neg (by omega), if_neg (by omega), if_pos (by omega), if_neg (by omega), if_neg (by omega), if_neg (by omega), if_neg (by omega), if_neg (by omega), if_neg (by omega), if_neg (by omega), if_neg (by omega), if_neg (by omega), if_neg (by omega), if_neg (by omega), if_neg (by omega), if_neg (by omega), if_neg (by omega), if_neg (by omega), if_neg (by omega), if_neg (by omega), if_neg (by omega), if_neg (by omega), if_neg (by omega), if_neg (by omega), if_neg (by omega), if_neg (by omega), if_neg (by omega)]
  exact ⟨ti_lo _, ti_hi _⟩
theorem rx_mundone_72 {v : Int32} {k j : Nat} (h1 : 398 ≤ k) (h2 : k ≤ 398) (h3 : 72 ≤ j) (h4 : j ≤ 72) : rlo k j ≤ v.toInt ∧ v.toInt ≤ rhi k j := by
  unfold rlo rhi
  rw [if_neg (by omega), if_neg (by omega), if_neg (by omega), if_neg (by omega), if_neg (by omega), if_neg (by omega), if_neg (by omega), if_neg (by omega), if_neg (by omega), if_neg (by omega), if_neg (by omega), if_neg (by omega), if_pos (by omega), if_neg (by omega), if_neg (by omega), if_neg (by omega), if_neg (by omega), if_neg (by omega), if_neg (by omega), if_neg (by omega), if_neg (by omega), if_neg (by omega), if_neg (by omega), if_neg (by omega), if_neg (by omega), if_neg (by omega), if_neg (by omega), if_neg (by omega), if_neg (by omega), if_neg (by omega), if_neg (by omega), if_neg (by omega), if_neg (by omega), if_neg (by omega), if_neg (by omega), if_neg (by omega), if_neg (by omega), if_neg (by omega), if_neg (by omega), if_neg (by omega), if_neg (by omega), if_neg (by omega), if_neg (by omega), if_neg (by omega), if_neg (by omega), if_neg (by omega), if_neg (by omega), if_neg (by omega), if_neg (by omega), if_pos (by omega), if_neg (by omega), if_neg (by omega), if_neg (by omega), if_neg (by omega), if_neg (by omega), if_neg (by omega), if_neg (by omega), if_neg (by omega), if_neg (by omega), if_neg (by omega), if_neg (by omega), if_neg (by omega), if_neg (by omega), if_neg (by omega), if_neg (by omega), if_neg (by omega), if_neg (by omega), if_neg (by omega), if_neg (by omega), if_neg (by omega), if_neg (by omega), if_neg (by omega), if_neg (by omega), if_neg (by omega)]
  exact ⟨ti_lo _, ti_hi _⟩
theorem rx_mundone_81 {v : Int32} {k j : Nat} (h1 : 398 ≤ k) (h2 : k ≤ 398) (h3 : 81 ≤ j) (h4 : j ≤ 88) : rlo k j ≤ v.toInt ∧ v.toInt ≤ rhi k j := by
  unfold rlo rhi
  rw [if_neg (by omega), if_neg (by omega), if_neg (by omega), if_neg (by omega), if_neg (by omega), if_neg (by omega), if_neg (by omega), if_neg (by omega), if_neg (by omega), if_neg (by omega), if_neg (by omega), if_neg (by omega), if_pos (by omega), if_neg (by omega), if_neg (by omega), if_neg (by omega), if_neg (by omega), if_neg (by omega), if_neg (by omega), if_neg (by omega), if_neg (by omega), if_neg (by omega), if_neg (by omega), if_neg (by omega), if_neg (by omega), if_neg (by omega), if_neg (by omega), if_neg (by omega), if_neg (by omega), if_neg (by omega), if_neg (by omega), if_neg (by omega), if_neg (by omega), if_neg (by omega), if_neg (by omega), if_neg (by omega), if_neg (by omega), if_neg (by omega), if_neg (by omega), if_neg (by omega), if_neg (by omega), if_neg (by omega), if_neg (by omega), if_neg (by omega), if_neg (by omega), if_neg (by omega), if_neg (by omega), if_neg (by omega), if_neg (by omega), if_pos (by omega), if_neg (by omega), if_neg (by omega), if_neg (by omega), if_neg (by omega), if_neg (by omega), if_neg (by omega), if_neg (by omega), if_neg (by omega), if_neg (by omega), if_neg (by omega), if_neg (by omega), if_neg (by omega), if_neg (by omega), if_neg (by omega), if_neg (by omega), if_neg (by omega), if_neg (by omega), if_neg (by omega), if_neg (by omega), if_neg (by omega), if_neg (by omega), if_neg (by omega), if_neg (by omega), if_neg (by omega)]
  exact ⟨ti_lo _, ti_hi _⟩
theorem rx_mundone_97 {v : Int32} {k j : Nat} (h1 : 398 ≤ k) (h2 : k ≤ 398) (h3 : 97 ≤ j) (h4 : j ≤ 105) : rlo k j ≤ v.toInt ∧ v.toInt ≤ rhi k j := by
  unfold rlo rhi
  rw [if_neg (by omega), if_neg (by omega), if_neg (by omega), if_neg (by omega), if_neg (by omega), if_neg (by omega), if_neg (by omega), if_neg (by omega), if_neg (by omega), if_neg (by omega), if_neg (by omega), if_neg (by omega), if_pos (by omega), if_neg (by omega), if_neg (by omega), if_neg (by omega), if_neg (by omega), if_neg (by omega), if_neg (by omega), if_neg (by omega), if_neg (by omega), if_neg (by omega), if_neg (by omega), if_neg (by omega), if_neg (by omega), if_neg (by omega), if_neg (by omega), if_neg (by omega), if_neg (by omega), if_neg (by omega), if_neg (by omega), if_neg (by omega), if_neg (by omega), if_neg (by omega), if_neg (by omega), if_neg (by omega), if_neg (by omega), if_neg (by omega), if_neg (by omega), if_neg (by omega), if_neg (by omega), if_neg (by omega), if_neg (by omega), if_neg (by omega), if_neg (by omega), if_neg (by omega), if_neg (by omega), if_neg (by omega), if_neg (by omega), if_pos (by omega), if_neg (by omega), if_neg (by omega), if_neg (by omega), if_neg (by omega), if_neg (by omega), if_neg (by omega), if_neg (by omega), if_neg (by omega), if_neg (by omega), if_neg (by omega), if_neg (by omega), if_neg (by omega), if_neg (by omega), if_neg (by omega), if_neg (by omega), if_neg (by omega), if_neg (by omega), if_neg (by omega), if_neg (by omega), if_neg (by omega), if_neg (by omega), if_neg (by omega), if_neg (by omega), if_neg (by omega)]
  exact ⟨ti_lo _, ti_hi _⟩
theorem rx_mundone_107 {v : Int32} {k j : Nat} (h1 : 398 ≤ k) (h2 : k ≤ 398) (h3 : 107 ≤ j) (h4 : j ≤ 107) : rlo k j ≤ v.toInt ∧ v.toInt ≤ rhi k j := by
  unfold rlo rhi
  rw [if_neg (by omega), if_neg (by omega), if_neg (by omega), if_neg (by omega), if_neg (by omega), if_neg (by omega), if_neg (by omega), if_neg (by omega), if_neg (by omega), if_neg (by omega), if_neg (by omega), if_neg (by omega), if_pos (by omega), if_neg (by omega), if_neg (by omega), if_neg (by omega), if_neg (by omega), if_neg (by omega), if_neg (by omega), if_neg (by omega), if_neg (by omega), if_neg (by omega), if_neg (by omega), if_neg (by omega), if_neg (by omega), if_neg (by omega), if_neg (by omega), if_neg (by omega), if_neg (by omega), if_neg (by omega), if_neg (by omega), if_neg (by omega), if_neg (by omega), if_neg (by omega), if_neg (by omega), if_neg (by omega), if_neg (by omega), if_neg (by omega), if_neg (by omega), if_neg (by omega), if_neg (by omega), if_neg (by omega), if_neg (by omega), if_neg (by omega), if_neg (by omega), if_neg (by omega), if_neg (by omega), if_neg (by omega), if_neg (by omega), if_pos (by omega), if_neg (by omega), if_neg (by omega), if_neg (by omega), if_neg (by omega), if_neg (by omega), if_neg (by omega), if_neg (by omega), if_neg (by omega), if_neg (by omega), if_neg (by omega), if_neg (by omega), if_neg (by omega), if_neg (by omega), if_neg (by omega), if_neg (by omega), if_neg (by omega), if_neg (by omega), if_neg (by omega), if_neg (by omega), if_neg (by omega), if_neg (by omega), if_neg (by omega), if_neg (by omega), if_neg (by omega)]
  exact ⟨ti_lo _, ti_hi _⟩
theorem rx_mundone_116 {v : Int32} {k j : Nat} (h1 : 398 ≤ k) (h2 : k ≤ 398) (h3 : 116 ≤ j) (h4 : j ≤ 123) : rlo k j ≤ v.toInt ∧ v.toInt ≤ rhi k j := by
  unfold rlo rhi
  rw [if_neg (by omega), if_neg (by omega), if_neg (by omega), if_neg (by omega), if_neg (by omega), if_neg (by omega), if_neg (by omega), if_neg (by omega), if_neg (by omega), if_neg (by omega), if_neg (by omega), if_neg (by omega), if_pos (by omega), if_neg (by omega), if_neg (by omega), if_neg (by omega), if_neg (by omega), if_neg (by omega), if_neg (by omega), if_neg (by omega), if_neg (by omega), if_neg (by omega), if_neg (by omega), if_neg (by omega), if_neg (by omega), if_neg (by omega), if_neg (by omega), if_neg (by omega), if_neg (by omega), if_neg (by omega), if_neg (by omega), if_neg (by omega), if_neg (by omega), if_neg (by omega), if_neg (by omega), if_neg (by omega), if_neg (by omega), if_neg (by omega), if_neg (by omega), if_neg (by omega), if_neg (by omega), if_neg (by omega), if_neg (by omega), if_neg (by omega), if_neg (by omega), if_neg (by omega), if_neg (by omega), if_neg (by omega), if_neg (by omega), if_pos (by omega), if_neg (by omega), if_neg (by omega), if_neg (by omega), if_neg (by omega), if_neg (by omega), if_neg (by omega), if_neg (by omega), if_neg (by omega), if_neg (by omega), if_neg (by omega), if_neg (by omega), if_neg (by omega), if_neg (by omega), if_neg (by omega), if_neg (by omega), if_neg (by omega), if_neg (by omega), if_neg (by omega), if_neg (by omega), if_neg (by omega), if_neg (by omega), if_neg (by omega), if_neg (by omega), if_neg (by omega)]
  exact ⟨ti_lo _, ti_hi _⟩
theorem rx_mundone_132 {v : Int32} {k j : Nat} (h1 : 398 ≤ k) (h2 : k ≤ 398) (h3 : 132 ≤ j) (h4 : j ≤ 140) : rlo k j ≤ v.toInt ∧ v.toInt ≤ rhi k j := by
  unfold rlo rhi
  rw [if_neg (by omega), if_neg (by omega), if_neg (by omega), if_neg (by omega), if_neg (by omega), if_neg (by omega), if_neg (by omega), if_neg (by omega), if_neg (by omega), if_neg (by omega), if_neg (by omega), if_neg (by omega), if_pos (by omega), if_neg (by omega), if_neg (by omega), if_neg (by omega), if_neg (by omega), if_neg (by omega), if_neg (by omega), if_neg (by omega), if_neg (by omega), if_neg (by omega), if_neg (by omega), if_neg (by omega), if_neg (by omega), if_neg (by omega), if_neg (by omega), if_neg (by omega), if_neg (by omega), if_neg (by omega), if_neg (by omega), if_neg (by omega), if_neg (by omega), if_neg (by omega), if_neg (by omega), if_neg (by omega), if_neg (by omega), if_neg (by omega), if_neg (by omega), if_neg (by omega), if_neg (by omega), if_neg (by omega), if_neg (by omega), if_neg (by omega), if_neg (by omega), if_neg (by omega), if_neg (by omega), if_neg (by omega), if_neg (by omega), if_pos (by omega), if_neg (by omega), if_neg (by omega), if_neg (by omega), if_neg (by omega), if_neg (by omega), if_neg (by omega), if_neg (by omega), if_neg (by omega), if_neg (by omega), if_neg (by omega), if_neg (by omega), if_neg (by omega), if_neg (by omega), if_neg (by omega), if_neg (by omega), if_neg (by omega), if_neg (by omega), if_neg (by omega), if_neg (by omega), if_neg (by omega), if_neg (by omega), if_neg (by omega), if_neg (by omega), if_neg (by omega)]
  exact ⟨ti_lo _, ti_hi _⟩
theorem rx_mundone_142 {v : Int32} {k j : Nat} (h1 : 398 ≤ k) (h2 : k ≤ 398) (h3 : 142 ≤ j) (h4 : j ≤ 142) : rlo k j ≤ v.toInt ∧ v.toInt ≤ rhi k j := by
  unfold rlo rhi
  rw [if_neg (by omega), if_neg (by omega), if_neg (by omega), if_neg (by omega), if_neg (by omega), if_neg (by omega), if_neg (by omega), if_neg (by omega), if_neg (by omega), if_neg (by omega), if_neg (by omega), if_neg (by omega), if_pos (by omega), if_neg (by omega), if_neg (by omega), if_neg (by omega), if_neg (by omega), if_neg (by omega), if_neg (by omega), if_neg (by omega), if_neg (by omega), if_neg (by omega), if_neg (by omega), if_neg (by omega), if_neg (by omega), if_neg (by omega), if_neg (by omega), if_neg (by omega), if_neg (by omega), if_neg (by omega), if_neg (by omega), if_neg (by omega), if_neg (by omega), if_neg (by omega), if_neg (by omega), if_neg (by omega), if_neg (by omega), if_neg (by omega), if_neg (by omega), if_neg (by omega), if_neg (by omega), if_neg (by omega), if_neg (by omega), if_neg (by omega), if_neg (by omega), if_neg (by omega), if_neg (by omega), if_neg (by omega), if_neg (by omega), if_pos (by omega), if_neg (by omega), if_neg (by omega), if_neg (by omega), if_neg (by omega), if_neg (by omega), if_neg (by omega), if_neg (by omega), if_neg (by omega), if_neg (by omega), if_neg (by omega), if_neg (by omega), if_neg (by omega), if_neg (by omega), if_neg (by omega), if_neg (by omega), if_neg (by omega), if_neg (by omega), if_neg (by omega), if_neg (by omega), if_neg (by omega), if_neg (by omega), if_neg (by omega), if_neg (by omega), if_neg (by omega)]
  exact ⟨ti_lo _, ti_hi _⟩
theorem rx_mundone_151 {v : Int32} {k j : Nat} (h1 : 398 ≤ k) (h2 : k ≤ 398) (h3 : 151 ≤ j) (h4 : j ≤ 158) : rlo k j ≤ v.toInt ∧ v.toInt ≤ rhi k j := by
  unfold rlo rhi
  rw [if_neg (by omega), if_neg (by omega), if_neg (by omega), if_neg (by omega), if_neg (by omega), if_neg (by omega), if_neg (by omega), if_neg (by omega), if_neg (by omega), if_neg (by omega), if_neg (by omega), if_neg (by omega), if_pos (by omega), if_neg (by omega), if_neg (by omega), if_neg (by omega), if_neg (by omega), if_neg (by omega), if_neg (by omega), if_neg (by omega), if_neg (by omega), if_neg (by omega), if_neg (by omega), if_neg (by omega), if_neg (by omega), if_neg (by omega), if_neg (by omega), if_neg (by omega), if_neg (by omega), if_neg (by omega), if_neg (by omega), if_neg (by omega), if_neg (by omega), if_neg (by omega), if_neg (by omega), if_neg (by omega), if_neg (by omega), if_neg (by omega), if_neg (by omega), if_neg (by omega), if_neg (by omega), if_neg (by omega), if_neg (by omega), if_neg (by omega), if_neg (by omega), if_neg (by omega), if_neg (by omega), if_neg (by omega), if_neg (by omega), if_pos (by omega), if_neg (by omega), if_neg (by omega), if_neg (by omega), if_neg (by omega), if_neg (by omega), if_neg (by omega), if_neg (by omega), if_neg (by omega), if_neg (by omega), if_neg (by omega), if_neg (by omega), if_neg (by omega), if_neg (by omega), if_neg (by omega), if_neg (by omega), if_neg (by omega), if_neg (by omega), if_neg (by omega), if_neg (by omega), if_neg (by omega), if_neg (by omega), if_neg (by omega), if_neg (by omega), if_neg (by omega)]
  exact ⟨ti_lo _, ti_hi _⟩
theorem rx_mundone_167 {v : Int32} {k j : Nat} (h1 : 398 ≤ k) (h2 : k ≤ 398) (h3 : 167 ≤ j) (h4 : j ≤ 175) : rlo k j ≤ v.toInt ∧ v.toInt ≤ rhi k j := by
  unfold rlo rhi
  rw [if_neg (by omega), if_neg (by omega), if_neg (by omega), if_neg (by omega), if_neg (by omega), if_neg (by omega), if_neg (by omega), if_neg (by omega), if_neg (by omega), if_neg (by omega), if_neg (by omega), if_neg (by omega), if_pos (by omega), if_neg (by omega), if_neg (by omega), if_neg (by omega), if_neg (by omega), if_neg (by omega), if_neg (by omega), if_neg (by omega), if_neg (by omega), if_neg (by omega), if_neg (by omega), if_neg (by omega), if_neg (by omega), if_neg (by omega), if_neg (by omega), if_neg (by omega), if_neg (by omega), if_neg (by omega), if_neg (by omega), if_neg (by omega), if_neg (by omega), if_neg (by omega), if_neg (by omega), if_neg (by omega), if_neg (by omega), if_neg (by omega), if_neg (by omega), if_neg (by omega), if_neg (by omega), if_neg (by omega), if_neg (by omega), if_neg (by omega), if_neg (by omega), if_neg (by omega), if_neg (by omega), if_neg (by omega), if_neg (by omega), if_pos (by omega), if_neg (by omega), if_neg (by omega), if_neg (by omega), if_neg (by omega), if_neg (by omega), if_neg (by omega), if_neg (by omega), if_neg (by omega), if_neg (by omega), if_neg (by omega), if_neg (by omega), if_neg (by omega), if_neg (by omega), if_neg (by omega), if_neg (by omega), if_neg (by omega), if_neg (by omega), if_neg (by omega), if_neg (by omega), if_neg (by omega), if_neg (by omega), if_neg (by omega), if_neg (by omega), if_neg (by omega)]
  exact ⟨ti_lo _, ti_hi _⟩
theorem rx_mundone_177 {v : Int32} {k j : Nat} (h1 : 398 ≤ k) (h2 : k ≤ 398) (h3 : 177 ≤ j) (h4 : j ≤ 177) : rlo k j ≤ v.toInt ∧ v.toInt ≤ rhi k j := by
  unfold rlo rhi
  rw [if_neg (by omega), if_neg (by omega), if_neg (by omega), if_neg (by omega), if_neg (by omega), if_neg (by omega), if_neg (by omega), if_neg (by omega), if_neg (by omega), if_neg (by omega), if_neg (by omega), if_neg (by omega), if_pos (by omega), if_neg (by omega), if_neg (by omega), if_neg (by omega), if_neg (by omega), if_neg (by omega), if_neg (by omega), if_neg (by omega), if_neg (by omega), if_neg (by omega), if_neg (by omega), if_neg (by omega), if_neg (by omega), if_neg (by omega), if_neg (by omega), if_neg (by omega), if_neg (by omega), if_neg (by omega), if_neg (by omega), if_neg (by omega), if_neg (by omega), if_neg (by omega), if_neg (by omega), if_neg (by omega), if_neg (by omega), if_neg (by omega), if_neg (by omega), if_neg (by omega), if_neg (by omega), if_neg (by omega), if_neg (by omega), if_neg (by omega), if_neg (by omega), if_neg (by omega), if_neg (by omega), if_neg (by omega), if_neg (by omega), if_pos (by omega), if_neg (by omega), if_neg (by omega), if_neg (by omega), if_neg (by omega), if_neg (by omega), if_neg (by omega), if_neg (by omega), if_neg (by omega), if_neg (by omega), if_neg (by omega), if_neg (by omega), if_neg (by omega), if_neg (by omega), if_neg (by omega), if_neg (by omega), if_neg (by omega), if_neg (by omega), if_neg (by omega), if_neg (by omega), if_neg (by omega), if_neg (by omega), if_neg (by omega), if_neg (by omega), if_neg (by omega)]
  exact ⟨ti_lo _, ti_hi _⟩
theorem rx_mundone_186 {v : Int32} {k j : Nat} (h1 : 398 ≤ k) (h2 : k ≤ 398) (h3 : 186 ≤ j) (h4 : j ≤ 193) : rlo k j ≤ v.toInt ∧ v.toInt ≤ rhi k j := by
  unfold rlo rhi
  rw [if_neg (by omega), if_neg (by omega), if_neg (by omega), if_neg (by omega), if_neg (by omega), if_neg (by omega), if_neg (by omega), if_neg (by omega), if_neg (by omega), if_neg (by omega), if_neg (by omega), if_neg (by omega), if_pos (by omega), if_neg (by omega), if_neg (by omega), if_neg (by omega), if_neg (by omega), if_neg (by omega), if_neg (by omega), if_neg (by omega), if_neg (by omega), if_neg (by omega), if_neg (by omega), if_neg (by omega), if_neg (by omega), if_neg (by omega), if_neg (by omega), if_neg (by omega), if_neg (by omega), if_neg (by omega), if_neg (by omega), if_neg (by omega), if_neg (by omega), if_neg (by omega), if_neg (by omega), if_neg (by omega), if_neg (by omega), if_neg (by omega), if_neg (by omega), if_neg (by omega), if_neg (by omega), if_neg (by omega), if_neg (by omega), if_neg (by omega), if_neg (by omega), if_neg (by omega), if_neg (by omega), if_neg (by omega), if_neg (by omega), if_pos (by omega), if_neg (by omega), if_neg (by omega), if_neg (by omega), if_neg (by omega), if_neg (by omega), if_neg (by omega), if_neg (by omega), if_neg (by omega), if_neg (by omega), if_neg (by omega), if_neg (by omega), if_neg (by omega), if_neg (by omega), if_neg (by omega), if_neg (by omega), if_neg (by omega), if_neg (by omega), if_neg (by omega), if_neg (by omega), if_neg (by omega), if_neg (by omega), if_neg (by omega), if_neg (by omega), if_neg (by omega)]
  exact ⟨ti_lo _, ti_hi _⟩
theorem rx_mundone_202 {v : Int32} {k j : Nat} (h1 : 398 ≤ k) (h2 : k ≤ 398) (h3 : 202 ≤ j) (h4 : j ≤ 210) : rlo k j ≤ v.toInt ∧ v.toInt ≤ rhi k j := by
  unfold rlo rhi
  rw [if_neg (by omega), if_neg (by omega), if_neg (by omega), if_neg (by omega), if_neg (by omega), if_neg (by omega), if_neg (by omega), if_neg (by omega), if_neg (by omega), if_neg (by omega), if_neg (by omega), if_neg (by omega), if_pos (by omega), if_neg (by omega), if_neg (by omega), if_neg (by omega), if_neg (by omega), if_neg (by omega), if_neg (by omega), if_neg (by omega), if_neg (by omega), if_neg (by omega), if_neg (by omega), if_neg (by omega), if_neg (by omega), if_neg (by omega), if_neg (by omega), if_neg (by omega), if_neg (by omega), if_neg (by omega), if_neg (by omega), if_neg (by omega), if_neg (by omega), if_neg (by omega), if_neg (by omega), if_neg (by omega), if_neg (by omega), if_neg (by omega), if_neg (by omega), if_neg (by omega), if_neg (by omega), if_neg (by omega), if_neg (by omega), if_neg (by omega), if_neg (by omega), if_neg (by omega), if_neg (by omega), if_neg (by omega), if_neg (by omega), if_pos (by omega), if_neg (by omega), if_neg (by omega), if_neg (by omega), if_neg (by omega), if_neg (by omega), if_neg (by omega), if_neg (by omega), if_neg (by omega), if_neg (by omega), if_neg (by omega), if_neg (by omega), if_neg (by omega), if_neg (by omega), if_neg (by omega), if_neg (by omega), if_neg (by omega), if_neg (by omega), if_neg (by omega), if_neg (by omega), if_neg (by omega), if_neg (by omega), if_neg (by omega), if_neg (by omega), if_neg (by omega)]
  exact ⟨ti_lo _, ti_hi _⟩
theorem rx_mundone_212 {v : Int32} {k j : Nat} (h1 : 398 ≤ k) (h2 : k ≤ 398) (h3 : 212 ≤ j) (h4 : j ≤ 212) : rlo k j ≤ v.toInt ∧ v.toInt ≤ rhi k j := by
  unfold rlo rhi
  rw [if_neg (by omega), if_neg (by omega), if_neg (by omega), if_neg (by omega), if_neg (by omega), if_neg (by omega), if_neg (by omega), if_neg (by omega), if_neg (by omega), if_neg (by omega), if_neg (by omega), if_neg (by omega), if_pos (by omega), if_neg (by omega), if_neg (by omega), if_neg (by omega), if_neg (by omega), if_neg (by omega), if_neg (by omega), if_neg (by omega), if_neg (by omega), if_neg (by omega), if_neg (by omega), if_neg (by omega), if_neg (by omega), if_neg (by omega), if_neg (by omega), if_neg (by omega), if_neg (by omega), if_neg (by omega), if_neg (by omega), if_neg (by omega), if_neg (by omega), if_neg (by omega), if_neg (by omega), if_neg (by omega), if_neg (by omega), if_neg (by omega), if_neg (by omega), if_neg (by omega), if_neg (by omega), if_neg (by omega), if_neg (by omega), if_neg (by omega), if_neg (by omega), if_neg (by omega), if_neg (by omega), if_neg (by omega), if_neg (by omega), if_pos (by omega), if_neg (by omega), if_neg (by omega), if_neg (by omega), if_neg (by omega), if_neg (by omega), if_neg (by omega), if_neg (by omega), if_neg (by omega), if_neg (by omega), if_neg (by omega), if_neg (by omega), if_neg (by omega), if_neg (by omega), if_neg (by omega), if_neg (by omega), if_neg (by omega), if_neg (by omega), if_neg (by omega), if_neg (by omega), if_neg (by omega), if_neg (by omega), if_neg (by omega), if_neg (by omega), if_neg (by omega)]
  exact ⟨ti_lo _, ti_hi _⟩
theorem rx_mundone_221 {v : Int32} {k j : Nat} (h1 : 398 ≤ k) (h2 : k ≤ 398) (h3 : 221 ≤ j) (h4 : j ≤ 228) : rlo k j ≤ v.toInt ∧ v.toInt ≤ rhi k j := by
  unfold rlo rhi
  rw [if_neg (by omega), if_neg (by omega), if_neg (by omega), if_neg (by omega), if_neg (by omega), if_neg (by omega), if_neg (by omega), if_neg (by omega), if_neg (by omega), if_neg (by omega), if_neg (by omega), if_neg (by omega), if_pos (by omega), if_neg (by omega), if_neg (by omega), if_neg (by omega), if_neg (by omega), if_neg (by omega), if_neg (by omega), if_neg (by omega), if_neg (by omega), if_neg (by omega), if_neg (by omega), if_neg (by omega), if_neg (by omega), if_neg (by omega), if_neg (by omega), if_neg (by omega), if_neg (by omega), if_neg (by omega), if_neg (by omega), if_neg (by omega), if_neg (by omega), if_neg (by omega), if_neg (by omega), if_neg (by omega), if_neg (by omega), if_neg (by omega), if_neg (by omega), if_neg (by omega), if_neg (by omega), if_neg (by omega), if_neg (by omega), if_neg (by omega), if_neg (by omega), if_neg (by omega), if_neg (by omega), if_neg (by omega), if_neg (by omega), if_pos (by omega), if_neg (by omega), if_neg (by omega), if_neg (by omega), if_neg (by omega), if_neg (by omega), if_neg (by omega), if_neg (by omega), if_neg (by omega), if_neg (by omega), if_neg (by omega), if_neg (by omega), if_neg (by omega), if_neg (by omega), if_neg (by omega), if_neg (by omega), if_neg (by omega), if_neg (by omega), if_neg (by omega), if_neg (by omega), if_neg (by omega), if_neg (by omega), if_neg (by omega), if_neg (by omega), if_neg (by omega)]
  exact ⟨ti_lo _, ti_hi _⟩
theorem rx_mundone_237 {v : Int32} {k j : Nat} (h1 : 398 ≤ k) (h2 : k ≤ 398) (h3 : 237 ≤ j) (h4 : j ≤ 245) : rlo k j ≤ v.toInt ∧ v.toInt ≤ rhi k j := by
  unfold rlo rhi
  rw [if_neg (by omega), if_neg (by omega), if_neg (by omega), if_neg (by omega), if_neg (by omega), if_neg (by omega), if_neg (by omega), if_neg (by omega), if_neg (by omega), if_neg (by omega), if_neg (by omega), if_neg (by omega), if_pos (by omega), if_neg (by omega), if_neg (by omega), if_neg (by omega), if_neg (by omega), if_neg (by omega), if_neg (by omega), if_neg (by omega), if_neg (by omega), if_neg (by omega), if_neg (by omega), if_neg (by omega), if_neg (by omega), if_neg (by omega), if_neg (by omega), if_neg (by omega), if_neg (by omega), if_neg (by omega), if_neg (by omega), if_neg (by omega), if_neg (by omega), if_neg (by omega), if_neg (by omega), if_neg (by omega), if_neg (by omega), if_neg (by omega), if_neg (by omega), if_neg (by omega), if_neg (by omega), if_neg (by omega), if_neg (by omega), if_neg (by omega), if_neg (by omega), if_neg (by omega), if_neg (by omega), if_neg (by omega), if_neg (by omega), if_pos (by omega), if_neg (by omega), if_neg (by omega), if_neg (by omega), if_neg (by omega), if_neg (by omega), if_neg (by omega), if_neg (by omega), if_neg (by omega), if_neg (by omega), if_neg (by omega), if_neg (by omega), if_neg (by omega), if_neg (by omega), if_neg (by omega), if_neg (by omega), if_neg (by omega), if_neg (by omega), if_neg (by omega), if_neg (by omega), if_neg (by omega), if_neg (by omega), if_neg (by omega), if_neg (by omega), if_neg (by omega)]
  exact ⟨ti_lo _, ti_hi _⟩
theorem rx_mundone_247 {v : Int32} {k j : Nat} (h1 : 398 ≤ k) (h2 : k ≤ 398) (h3 : 247 ≤ j) (h4 : j ≤ 247) : rlo k j ≤ v.toInt ∧ v.toInt ≤ rhi k j := by
  unfold rlo rhi
  rw [if_neg (by omega), if_neg (by omega), if_neg (by omega), if_neg (by omega), if_neg (by omega), if_neg (by omega), if_neg (by omega), if_neg (by omega), if_neg (by omega), if_neg (by omega), if_neg (by omega), if_neg (by omega), if_pos (by omega), if_neg (by omega), if_neg (by omega), if_neg (by omega), if_neg (by omega), if_neg (by omega), if_neg (by omega), if_neg (by omega), if_neg (by omega), if_neg (by omega), if_neg (by omega), if_neg (by omega), if_neg (by omega), if_neg (by omega), if_neg (by omega), if_neg (by omega), if_neg (by omega), if_neg (by omega), if_neg (by omega), if_neg (by omega), if_neg (by omega), if_neg (by omega), if_neg (by omega), if_neg (by omega), if_neg (by omega), if_neg (by omega), if_neg (by omega), if_neg (by omega), if_neg (by omega), if_neg (by omega), if_neg (by omega), if_neg (by omega), if_neg (by omega), if_neg (by omega), if_neg (by omega), if_neg (by omega), if_neg (by omega), if_pos (by omega), if_neg (by omega), if_neg (by omega), if_neg (by omega), if_neg (by omega), if_neg (by omega), if_neg (by omega), if_neg (by omega), if_neg (by omega), if_neg (by omega), if_neg (by omega), if_neg (by omega), if_neg (by omega), if_neg (by omega), if_neg (by omega), if_neg (by omega), if_neg (by omega), if_neg (by omega), if_neg (by omega), if_neg (by omega), if_neg (by omega), if_neg (by omega), if_neg (by omega), if_neg (by omega), if_neg (by omega)]
  exact ⟨ti_lo _, ti_hi _⟩
theorem rx_mundone_256 {v : Int32} {k j : Nat} (h1 : 398 ≤ k) (h2 : k ≤ 398) (h3 : 256 ≤ j) (h4 : j ≤ 263) : rlo k j ≤ v.toInt ∧ v.toInt ≤ rhi k j := by
  unfold rlo rhi
  rw [if_neg (by omega), if_neg (by omega), if_neg (by omega), if_neg (by omega), if_neg (by omega), if_neg (by omega), if_neg (by omega), if_neg (by omega), if_neg (by omega), if_neg (by omega), if_neg (by omega), if_neg (by omega), if_pos (by omega), if_neg (by omega), if_neg (by omega), if_neg (by omega), if_neg (by omega), if_neg (by omega), if_neg (by omega), if_neg (by omega), if_neg (by omega), if_neg (by omega), if_neg (by omega), if_neg (by omega), if_neg (by omega), if_neg (by omega), if_neg (by omega), if_neg (by omega), if_neg (by omega), if_neg (by omega), if_neg (by omega), if_neg (by omega), if_neg (by omega), if_neg (by omega), if_neg (by omega), if_neg (by omega), if_neg (by omega), if_neg (by omega), if_neg (by omega), if_neg (by omega), if_neg (by omega), if_neg (by omega), if_neg (by omega), if_neg (by omega), if_neg (by omega), if_neg (by omega), if_neg (by omega), if_neg (by omega), if_neg (by omega), if_pos (by omega), if_neg (by omega), if_neg (by omega), if_neg (by omega), if_neg (by omega), if_neg (by omega), if_neg (by omega), if_neg (by omega), if_neg (by omega), if_neg (by omega), if_neg (by omega), if_neg (by omega), if_neg (by omega), if_neg (by omega), if_neg (by omega), if_neg (by omega), if_neg (by omega), if_neg (by omega), if_neg (by omega), if_neg (by omega), if_neg (by omega), if_neg (by omega), if_neg (by omega), if_neg (by omega), if_neg (by omega)]
  exact ⟨ti_lo _, ti_hi _⟩
theorem rx_mundone_272 {v : Int32} {k j : Nat} (h1 : 398 ≤ k) (h2 : k ≤ 398) (h3 : 272 ≤ j) (h4 : j ≤ 279) : rlo k j ≤ v.toInt ∧ v.toInt ≤ rhi k j := by
  unfold rlo rhi
  rw [if_neg (by omega), if_neg (by omega), if_neg (by omega), if_neg (by omega), if_neg (by omega), if_neg (by omega), if_neg (by omega), if_neg (by omega), if_neg (by omega), if_neg (by omega), if_neg (by omega), if_neg (by omega), if_pos (by omega), if_neg (by omega), if_neg (by omega), if_neg (by omega), if_neg (by omega), if_neg (by omega), if_neg (by omega), if_neg (by omega), if_neg (by omega), if_neg (by omega), if_neg (by omega), if_neg (by omega), if_neg (by omega), if_neg (by omega), if_neg (by omega), if_neg (by omega), if_neg (by omega), if_neg (by omega), if_neg (by omega), if_neg (by omega), if_neg (by omega), if_neg (by omega), if_neg (by omega), if_neg (by omega), if_neg (by omega), if_neg (by omega), if_neg (by omega), if_neg (by omega), if_neg (by omega), if_neg (by omega), if_neg (by omega), if_neg (by omega), if_neg (by omega), if_neg (by omega), if_neg (by omega), if_neg (by omega), if_neg (by omega), if_pos (by omega), if_neg (by omega), if_neg (by omega), if_neg (by omega), if_neg (by omega), if_neg (by omega), if_neg (by omega), if_neg (by omega), if_neg (by omega), if_neg (by omega), if_neg (by omega), if_neg (by omega), if_neg (by omega), if_neg (by omega), if_neg (by omega), if_neg (by omega), if_neg (by omega), if_neg (by omega), if_neg (by omega), if_neg (by omega), if_neg (by omega), if_neg (by omega), if_neg (by omega), if_neg (by omega), if_neg (by omega)]
  exact ⟨ti_lo _, ti_hi _⟩
theorem rlo_mbefore_0 {k j : Nat} (h1 : 399 ≤ k) (h2 : k ≤ 399) (h3 : 1 ≤ j) (h4 : j ≤ 1) : rlo k j = 0 := by
  unfold rlo
  rw [if_neg (by omega), if_neg (by omega), if_neg (by omega), if_neg (by omega), if_neg (by omega), if_neg (by omega), if_neg (by omega), if_neg (by omega), if_neg (by omega), if_neg (by omega), if_neg (by omega), if_neg (by omega), if_neg (by omega), if_pos (by omega), if_pos (by omega)]
theorem rhi_mbefore_0 {k j : Nat} (h1 : 399 ≤ k) (h2 : k ≤ 399) (h3 : 1 ≤ j) (h4 : j ≤ 1) : rhi k j = 4 := by
  unfold rhi
  rw [if_neg (by omega), if_neg (by omega), if_neg (by omega), if_neg (by omega), if_neg (by omega), if_neg (by omega), if_neg (by omega), if_neg (by omega), if_neg (by omega), if_neg (by omega), if_neg (by omega), if_neg (by omega), if_neg (by omega), if_pos (by omega), if_pos (by omega)]
theorem ra_mbefore_0 {σ : Nat → Nat → Int32} (hR : Rg σ) {k j : Nat} (h1 : 399 ≤ k) (h2 : k ≤ 399) (h3 : 1 ≤ j) (h4 : j ≤ 1) : 0 ≤ (σ k j).toInt ∧ (σ k j).toInt ≤ 4 := by
  have h := hR k j
  rw [rlo_mbefore_0 h1 h2 h3 h4, rhi_mbefore_0 h1 h2 h3 h4] at h
  exact h
theorem rw_mbefore_0 {v : Int32} {k j : Nat} (h1 : 399 ≤ k) (h2 : k ≤ 399) (h3 : 1 ≤ j) (h4 : j ≤ 1) (hv : 0 ≤ v.toInt ∧ v.toInt ≤ 4) : rlo k j ≤ v.toInt ∧ v.toInt ≤ rhi k j := by
  rw [rlo_mbefore_0 h1 h2 h3 h4, rhi_mbefore_0 h1 h2 h3 h4]
  exact hv
theorem rlo_mbefore_1 {k j : Nat} (h1 : 399 ≤ k) (h2 : k ≤ 399) (h3 : 3 ≤ j) (h4 : j ≤ 10) : rlo k j = 0 := by
  unfold rlo
  rw [if_neg (by omega), if_neg (by omega), if_neg (by omega), if_neg (by omega), if_neg (by omega), if_neg (by omega), if_neg (by omega), if_neg (by omega), if_neg (by omega), if_neg (by omega), if_neg (by omega), if_neg (by omega), if_neg (by omega), if_pos (by omega), if_neg (by omega), if_pos (by omega)]
theorem rhi_mbefore_1 {k j : Nat} (h1 : 399 ≤ k) (h2 : k ≤ 399) (h3 : 3 ≤ j) (h4 : j ≤ 10) : rhi k j = 7 := by
  unfold rhi
  rw [if_neg (by omega), if_neg (by omega), if_neg (by omega), if_neg (by omega), if_neg (by omega), if_neg (by omega), if_neg (by omega), if_neg (by omega), if_neg (by omega), if_neg (by omega), if_neg (by omega), if_neg (by omega), if_neg (by omega), if_pos (by omega), if_neg (by omega), if_pos (by omega)]
theorem ra_mbefore_1 {σ : Nat → Nat → Int32} (hR : Rg σ) {k j : Nat} (h1 : 399 ≤ k) (h2 : k ≤ 399) (h3 : 3 ≤ j) (h4 : j ≤ 10) : 0 ≤ (σ k j).toInt ∧ (σ k j).toInt ≤ 7 := by
  have h := hR k j
  rw [rlo_mbefore_1 h1 h2 h3 h4, rhi_mbefore_1 h1 h2 h3 h4] at h
  exact h
theorem rw_mbefore_1 {v : Int32} {k j : Nat} (h1 : 399 ≤ k) (h2 : k ≤ 399) (h3 : 3 ≤ j) (h4 : j ≤ 10) (hv : 0 ≤ v.toInt ∧ v.toInt ≤ 7) : rlo k j ≤ v.toInt ∧ v.toInt ≤ rhi k j := by
  rw [rlo_mbefore_1 h1 h2 h3 h4, rhi_mbefore_1 h1 h2 h3 h4]
  exact hv
theorem rlo_mbefore_2 {k j : Nat} (h1 : 399 ≤ k) (h2 : k ≤ 399) (h3 : 19 ≤ j) (h4 : j ≤ 26) : rlo k j = 0 := by
  unfold rlo
  rw [if_neg (by omega), if_neg (by omega), if_neg (by omega), if_neg (by omega), if_neg (by omega), if_neg (by omega), if_neg (by omega), if_neg (by omega), if_neg (by omega), if_neg (by omega), if_neg (by omega), if_neg (by omega), if_neg (by omega), if_pos (by omega), if_neg (by omega), if_neg (by omega), if_pos (by omega)]
theorem rhi_mbefore_2 {k j : Nat} (h1 : 399 ≤ k) (h2 : k ≤ 399) (h3 : 19 ≤ j) (h4 : j ≤ 26) : rhi k j = 10 := by
  unfold rhi
  rw [if_neg (by omega), if_neg (by omega), if_neg (by omega), if_neg (by omega), if_neg (by omega), if_neg (by omega), if_neg (by omega), if_neg (by omega), if_neg (by omega), if_neg (by omega), if_neg (by omega), if_neg (by omega), if_neg (by omega), if_pos (by omega), if_neg (by omega), if_neg (by omega), if_pos (by omega)]
theorem ra_mbefore_2 {σ : Nat → Nat → Int32} (hR : Rg σ) {k j : Nat} (h1 : 399 ≤ k) (h2 : k ≤ 399) (h3 : 19 ≤ j) (h4 : j ≤ 26) : 0 ≤ (σ k j).toInt ∧ (σ k j).toInt ≤ 10 := by
  have h := hR k j
  rw [rlo_mbefore_2 h1 h2 h3 h4, rhi_mbefore_2 h1 h2 h3 h4] at h
  exact h
theorem rw_mbefore_2 {v : Int32} {k j : Nat} (h1 : 399 ≤ k) (h2 : k ≤ 399) (h3 : 19 ≤ j) (h4 : j ≤ 26) (hv : 0 ≤ v.toInt ∧ v.toInt ≤ 10) : rlo k j ≤ v.toInt ∧ v.toInt ≤ rhi k j := by
  rw [rlo_mbefore_2 h1 h2 h3 h4, rhi_mbefore_2 h1 h2 h3 h4]
  exact hv
theorem rx_mbefore_0 {v : Int32} {k j : Nat} (h1 : 399 ≤ k) (h2 : k ≤ 399) (h3 : 0 ≤ j) (h4 : j ≤ 0) : rlo k j ≤ v.toInt ∧ v.toInt ≤ rhi k j := by
  unfold rlo rhi
  rw [if_neg (by omega), if_neg (by omega), if_neg (by omega), if_neg (by omega), if_neg (by omega), if_neg (by omega), if_neg (by omega), if_neg (by omega), if_neg (by omega), if_neg (by omega), if_neg (by omega), if_neg (by omega), if_neg (by omega), if_pos (by omega), if_neg (by omega), if_neg (by omega), if_neg (by omega), if_neg (by omega), if_neg (by omega), if_neg (by omega), if_neg (by omega), if_neg (by omega), if_neg (by omega), if_neg (by omega), if_neg (by omega), if_neg (by omega), if_neg (by omega), if_neg (by omega), if_neg (by omega), if_neg (by omega), if_pos (by omega), if_neg (by omega), if_neg (by omega), if_neg (by omega)]
  exact ⟨ti_lo _, ti_hi _⟩
theorem rx_mbefore_2 {v : Int32} {k j : Nat} (h1 : 399 ≤ k) (h2 : k ≤ 399) (h3 : 2 ≤ j) (h4 : j ≤ 2) : rlo k j ≤ v.toInt ∧ v.toInt ≤ rhi k j := by
  unfold rlo rhi
  rw [if_neg (by omega), if_neg (by omega), if_neg (by omega), if_neg (by omega), if_neg (by omega), if_neg (by omega), if_neg (by omega), if_neg (by omega), if_neg (by omega), if_neg (by omega), if_neg (by omega), if_neg (by omega), if_neg (by omega), if_pos (by omega), if_neg (by omega), if_neg (by omega), if_neg (by omega), if_neg (by omega), if_neg (by omega), if_neg (by omega), if_neg (by omega), if_neg (by omega), if_neg (by omega), if_neg (by omega), if_neg (by omega), if_neg (by omega), if_neg (by omega), if_neg (by omega), if_neg (by omega), if_neg (by omega), if_pos (by omega), if_neg (by omega), if_neg (by omega), if_neg (by omega)]
  exact ⟨ti_lo _, ti_hi _⟩
theorem rx_mbefore_11 {v : Int32} {k j : Nat} (h1 : 399 ≤ k) (h2 : k ≤ 399) (h3 : 11 ≤ j) (h4 : j ≤ 18) : rlo k j ≤ v.toInt ∧ v.toInt ≤ rhi k j := by
  unfold rlo rhi
  rw [if_neg (by omega), if_neg (by omega), if_neg (by omega), if_neg (by omega), if_neg (by omega), if_neg (by omega), if_neg (by omega), if_neg (by omega), if_neg (by omega), if_neg (by omega), if_neg (by omega), if_neg (by omega), if_neg (by omega), if_pos (by omega), if_neg (by omega), if_neg (by omega), if_neg (by omega), if_neg (by omega), if_neg (by omega), if_neg (by omega), if_neg (by omega), if_neg (by omega), if_neg (by omega), if_neg (by omega), if_neg (by omega), if_neg (by omega), if_neg (by omega), if_neg (by omega), if_neg (by omega), if_neg (by omega), if_pos (by omega), if_neg (by omega), if_neg (by omega), if_neg (by omega)]
  exact ⟨ti_lo _, ti_hi _⟩
theorem rx_mbefore_27 {v : Int32} {k j : Nat} (h1 : 399 ≤ k) (h2 : k ≤ 399) (h3 : 27 ≤ j) (h4 : j ≤ 34) : rlo k j ≤ v.toInt ∧ v.toInt ≤ rhi k j := by
  unfold rlo rhi
  rw [if_neg (by omega), if_neg (by omega), if_neg (by omega), if_neg (by omega), if_neg (by omega), if_neg (by omega), if_neg (by omega), if_neg (by omega), if_neg (by omega), if_neg (by omega), if_neg (by omega), if_neg (by omega), if_neg (by omega), if_pos (by omega), if_neg (by omega), if_neg (by omega), if_neg (by omega), if_neg (by omega), if_neg (by omega), if_neg (by omega), if_neg (by omega), if_neg (by omega), if_neg (by omega), if_neg (by omega), if_neg (by omega), if_neg (by omega), if_neg (by omega), if_neg (by omega), if_neg (by omega), if_neg (by omega), if_pos (by omega), if_neg (by omega), if_neg (by omega), if_neg (by omega)]
  exact ⟨ti_lo _, ti_hi _⟩
theorem rlo_mkept_0 {k j : Nat} (h1 : 403 ≤ k) (h2 : k ≤ 403) (h3 : 0 ≤ j) (h4 : j ≤ 1) : rlo k j = 0 := by
  unfold rlo
  rw [if_neg (by omega), if_neg (by omega), if_neg (by omega), if_neg (by omega), if_neg (by omega), if_neg (by omega), if_neg (by omega), if_neg (by omega), if_neg (by omega), if_neg (by omega), if_neg (by omega), if_neg (by omega), if_neg (by omega), if_neg (by omega), if_pos (by omega), if_pos (by omega)]
theorem rhi_mkept_0 {k j : Nat} (h1 : 403 ≤ k) (h2 : k ≤ 403) (h3 : 0 ≤ j) (h4 : j ≤ 1) : rhi k j = 8 := by
  unfold rhi
  rw [if_neg (by omega), if_neg (by omega), if_neg (by omega), if_neg (by omega), if_neg (by omega), if_neg (by omega), if_neg (by omega), if_neg (by omega), if_neg (by omega), if_neg (by omega), if_neg (by omega), if_neg (by omega), if_neg (by omega), if_neg (by omega), if_pos (by omega), if_pos (by omega)]
theorem ra_mkept_0 {σ : Nat → Nat → Int32} (hR : Rg σ) {k j : Nat} (h1 : 403 ≤ k) (h2 : k ≤ 403) (h3 : 0 ≤ j) (h4 : j ≤ 1) : 0 ≤ (σ k j).toInt ∧ (σ k j).toInt ≤ 8 := by
  have h := hR k j
  rw [rlo_mkept_0 h1 h2 h3 h4, rhi_mkept_0 h1 h2 h3 h4] at h
  exact h
theorem rw_mkept_0 {v : Int32} {k j : Nat} (h1 : 403 ≤ k) (h2 : k ≤ 403) (h3 : 0 ≤ j) (h4 : j ≤ 1) (hv : 0 ≤ v.toInt ∧ v.toInt ≤ 8) : rlo k j ≤ v.toInt ∧ v.toInt ≤ rhi k j := by
  rw [rlo_mkept_0 h1 h2 h3 h4, rhi_mkept_0 h1 h2 h3 h4]
  exact hv
theorem rlo_mkept_1 {k j : Nat} (h1 : 403 ≤ k) (h2 : k ≤ 403) (h3 : 2 ≤ j) (h4 : j ≤ 2) : rlo k j = 0 := by
  unfold rlo
  rw [if_neg (by omega), if_neg (by omega), if_neg (by omega), if_neg (by omega), if_neg (by omega), if_neg (by omega), if_neg (by omega), if_neg (by omega), if_neg (by omega), if_neg (by omega), if_neg (by omega), if_neg (by omega), if_neg (by omega), if_neg (by omega), if_pos (by omega), if_neg (by omega), if_pos (by omega)]
theorem rhi_mkept_1 {k j : Nat} (h1 : 403 ≤ k) (h2 : k ≤ 403) (h3 : 2 ≤ j) (h4 : j ≤ 2) : rhi k j = 4 := by
  unfold rhi
  rw [if_neg (by omega), if_neg (by omega), if_neg (by omega), if_neg (by omega), if_neg (by omega), if_neg (by omega), if_neg (by omega), if_neg (by omega), if_neg (by omega), if_neg (by omega), if_neg (by omega), if_neg (by omega), if_neg (by omega), if_neg (by omega), if_pos (by omega), if_neg (by omega), if_pos (by omega)]
theorem ra_mkept_1 {σ : Nat → Nat → Int32} (hR : Rg σ) {k j : Nat} (h1 : 403 ≤ k) (h2 : k ≤ 403) (h3 : 2 ≤ j) (h4 : j ≤ 2) : 0 ≤ (σ k j).toInt ∧ (σ k j).toInt ≤ 4 := by
  have h := hR k j
  rw [rlo_mkept_1 h1 h2 h3 h4, rhi_mkept_1 h1 h2 h3 h4] at h
  exact h
theorem rw_mkept_1 {v : Int32} {k j : Nat} (h1 : 403 ≤ k) (h2 : k ≤ 403) (h3 : 2 ≤ j) (h4 : j ≤ 2) (hv : 0 ≤ v.toInt ∧ v.toInt ≤ 4) : rlo k j ≤ v.toInt ∧ v.toInt ≤ rhi k j := by
  rw [rlo_mkept_1 h1 h2 h3 h4, rhi_mkept_1 h1 h2 h3 h4]
  exact hv
theorem rlo_mkept_2 {k j : Nat} (h1 : 403 ≤ k) (h2 : k ≤ 403) (h3 : 31 ≤ j) (h4 : j ≤ 38) : rlo k j = 0 := by
  unfold rlo
  rw [if_neg (by omega), if_neg (by omega), if_neg (by omega), if_neg (by omega), if_neg (by omega), if_neg (by omega), if_neg (by omega), if_neg (by omega), if_neg (by omega), if_neg (by omega), if_neg (by omega), if_neg (by omega), if_neg (by omega), if_neg (by omega), if_pos (by omega), if_neg (by omega), if_neg (by omega), if_pos (by omega)]
theorem rhi_mkept_2 {k j : Nat} (h1 : 403 ≤ k) (h2 : k ≤ 403) (h3 : 31 ≤ j) (h4 : j ≤ 38) : rhi k j = 7 := by
  unfold rhi
  rw [if_neg (by omega), if_neg (by omega), if_neg (by omega), if_neg (by omega), if_neg (by omega), if_neg (by omega), if_neg (by omega), if_neg (by omega), if_neg (by omega), if_neg (by omega), if_neg (by omega), if_neg (by omega), if_neg (by omega), if_neg (by omega), if_pos (by omega), if_neg (by omega), if_neg (by omega), if_pos (by omega)]
theorem ra_mkept_2 {σ : Nat → Nat → Int32} (hR : Rg σ) {k j : Nat} (h1 : 403 ≤ k) (h2 : k ≤ 403) (h3 : 31 ≤ j) (h4 : j ≤ 38) : 0 ≤ (σ k j).toInt ∧ (σ k j).toInt ≤ 7 := by
  have h := hR k j
  rw [rlo_mkept_2 h1 h2 h3 h4, rhi_mkept_2 h1 h2 h3 h4] at h
  exact h
theorem rw_mkept_2 {v : Int32} {k j : Nat} (h1 : 403 ≤ k) (h2 : k ≤ 403) (h3 : 31 ≤ j) (h4 : j ≤ 38) (hv : 0 ≤ v.toInt ∧ v.toInt ≤ 7) : rlo k j ≤ v.toInt ∧ v.toInt ≤ rhi k j := by
  rw [rlo_mkept_2 h1 h2 h3 h4, rhi_mkept_2 h1 h2 h3 h4]
  exact hv
theorem rlo_mkept_3 {k j : Nat} (h1 : 403 ≤ k) (h2 : k ≤ 403) (h3 : 63 ≤ j) (h4 : j ≤ 70) : rlo k j = 0 := by
  unfold rlo
  rw [if_neg (by omega), if_neg (by omega), if_neg (by omega), if_neg (by omega), if_neg (by omega), if_neg (by omega), if_neg (by omega), if_neg (by omega), if_neg (by omega), if_neg (by omega), if_neg (by omega), if_neg (by omega), if_neg (by omega), if_neg (by omega), if_pos (by omega), if_neg (by omega), if_neg (by omega), if_neg (by omega), if_pos (by omega)]
theorem rhi_mkept_3 {k j : Nat} (h1 : 403 ≤ k) (h2 : k ≤ 403) (h3 : 63 ≤ j) (h4 : j ≤ 70) : rhi k j = 8 := by
  unfold rhi
  rw [if_neg (by omega), if_neg (by omega), if_neg (by omega), if_neg (by omega), if_neg (by omega), if_neg (by omega), if_neg (by omega), if_neg (by omega), if_neg (by omega), if_neg (by omega), if_neg (by omega), if_neg (by omega), if_neg (by omega), if_neg (by omega), if_pos (by omega), if_neg (by omega), if_neg (by omega), if_neg (by omega), if_pos (by omega)]
theorem ra_mkept_3 {σ : Nat → Nat → Int32} (hR : Rg σ) {k j : Nat} (h1 : 403 ≤ k) (h2 : k ≤ 403) (h3 : 63 ≤ j) (h4 : j ≤ 70) : 0 ≤ (σ k j).toInt ∧ (σ k j).toInt ≤ 8 := by
  have h := hR k j
  rw [rlo_mkept_3 h1 h2 h3 h4, rhi_mkept_3 h1 h2 h3 h4] at h
  exact h
theorem rw_mkept_3 {v : Int32} {k j : Nat} (h1 : 403 ≤ k) (h2 : k ≤ 403) (h3 : 63 ≤ j) (h4 : j ≤ 70) (hv : 0 ≤ v.toInt ∧ v.toInt ≤ 8) : rlo k j ≤ v.toInt ∧ v.toInt ≤ rhi k j := by
  rw [rlo_mkept_3 h1 h2 h3 h4, rhi_mkept_3 h1 h2 h3 h4]
  exact hv
theorem rlo_mkept_4 {k j : Nat} (h1 : 403 ≤ k) (h2 : k ≤ 403) (h3 : 87 ≤ j) (h4 : j ≤ 90) : rlo k j = 0 := by
  unfold rlo
  rw [if_neg (by omega), if_neg (by omega), if_neg (by omega), if_neg (by omega), if_neg (by omega), if_neg (by omega), if_neg (by omega), if_neg (by omega), if_neg (by omega), if_neg (by omega), if_neg (by omega), if_neg (by omega), if_neg (by omega), if_neg (by omega), if_pos (by omega), if_neg (by omega), if_neg (by omega), if_neg (by omega), if_neg (by omega), if_pos (by omega)]
theorem rhi_mkept_4 {k j : Nat} (h1 : 403 ≤ k) (h2 : k ≤ 403) (h3 : 87 ≤ j) (h4 : j ≤ 90) : rhi k j = 10 := by
  unfold rhi
  rw [if_neg (by omega), if_neg (by omega), if_neg (by omega), if_neg (by omega), if_neg (by omega), if_neg (by omega), if_neg (by omega), if_neg (by omega), if_neg (by omega), if_neg (by omega), if_neg (by omega), if_neg (by omega), if_neg (by omega), if_neg (by omega), if_pos (by omega), if_neg (by omega), if_neg (by omega), if_neg (by omega), if_neg (by omega), if_pos (by omega)]
theorem ra_mkept_4 {σ : Nat → Nat → Int32} (hR : Rg σ) {k j : Nat} (h1 : 403 ≤ k) (h2 : k ≤ 403) (h3 : 87 ≤ j) (h4 : j ≤ 90) : 0 ≤ (σ k j).toInt ∧ (σ k j).toInt ≤ 10 := by
  have h := hR k j
  rw [rlo_mkept_4 h1 h2 h3 h4, rhi_mkept_4 h1 h2 h3 h4] at h
  exact h
theorem rw_mkept_4 {v : Int32} {k j : Nat} (h1 : 403 ≤ k) (h2 : k ≤ 403) (h3 : 87 ≤ j) (h4 : j ≤ 90) (hv : 0 ≤ v.toInt ∧ v.toInt ≤ 10) : rlo k j ≤ v.toInt ∧ v.toInt ≤ rhi k j := by
  rw [rlo_mkept_4 h1 h2 h3 h4, rhi_mkept_4 h1 h2 h3 h4]
  exact hv
theorem rlo_mkept_5 {k j : Nat} (h1 : 403 ≤ k) (h2 : k ≤ 403) (h3 : 212 ≤ j) (h4 : j ≤ 212) : rlo k j = 0 := by
  unfold rlo
  rw [if_neg (by omega), if_neg (by omega), if_neg (by omega), if_neg (by omega), if_neg (by omega), if_neg (by omega), if_neg (by omega), if_neg (by omega), if_neg (by omega), if_neg (by omega), if_neg (by omega), if_neg (by omega), if_neg (by omega), if_neg (by omega), if_pos (by omega), if_neg (by omega), if_neg (by omega), if_neg (by omega), if_neg (by omega), if_neg (by omega), if_pos (by omega)]
theorem rhi_mkept_5 {k j : Nat} (h1 : 403 ≤ k) (h2 : k ≤ 403) (h3 : 212 ≤ j) (h4 : j ≤ 212) : rhi k j = 4 := by
  unfold rhi
  rw [if_neg (by omega), if_neg (by omega), if_neg (by omega), if_neg (by omega), if_neg (by omega), if_neg (by omega), if_neg (by omega), if_neg (by omega), if_neg (by omega), if_neg (by omega), if_neg (by omega), if_neg (by omega), if_neg (by omega), if_neg (by omega), if_pos (by omega), if_neg (by omega), if_neg (by omega), if_neg (by omega), if_neg (by omega), if_neg (by omega), if_pos (by omega)]
theorem ra_mkept_5 {σ : Nat → Nat → Int32} (hR : Rg σ) {k j : Nat} (h1 : 403 ≤ k) (h2 : k ≤ 403) (h3 : 212 ≤ j) (h4 : j ≤ 212) : 0 ≤ (σ k j).toInt ∧ (σ k j).toInt ≤ 4 := by
  have h := hR k j
  rw [rlo_mkept_5 h1 h2 h3 h4, rhi_mkept_5 h1 h2 h3 h4] at h
  exact h
theorem rw_mkept_5 {v : Int32} {k j : Nat} (h1 : 403 ≤ k) (h2 : k ≤ 403) (h3 : 212 ≤ j) (h4 : j ≤ 212) (hv : 0 ≤ v.toInt ∧ v.toInt ≤ 4) : rlo k j ≤ v.toInt ∧ v.toInt ≤ rhi k j := by
  rw [rlo_mkept_5 h1 h2 h3 h4, rhi_mkept_5 h1 h2 h3 h4]
  exact hv
theorem rlo_mkept_6 {k j : Nat} (h1 : 403 ≤ k) (h2 : k ≤ 403) (h3 : 214 ≤ j) (h4 : j ≤ 221) : rlo k j = 0 := by
  unfold rlo
  rw [if_neg (by omega), if_neg (by omega), if_neg (by omega), if_neg (by omega), if_neg (by omega), if_neg (by omega), if_neg (by omega), if_neg (by omega), if_neg (by omega), if_neg (by omega), if_neg (by omega), if_neg (by omega), if_neg (by omega), if_neg (by omega), if_pos (by omega), if_neg (by omega), if_neg (by omega), if_neg (by omega), if_neg (by omega), if_neg (by omega), if_neg (by omega), if_pos (by omega)]
theorem rhi_mkept_6 {k j : Nat} (h1 : 403 ≤ k) (h2 : k ≤ 403) (h3 : 214 ≤ j) (h4 : j ≤ 221) : rhi k j = 7 := by
  unfold rhi
  rw [if_neg (by omega), if_neg (by omega), if_neg (by omega), if_neg (by omega), if_neg (by omega), if_neg (by omega), if_neg (by omega), if_neg (by omega), if_neg (by omega), if_neg (by omega), if_neg (by omega), if_neg (by omega), if_neg (by omega), if_neg (by omega), if_pos (by omega), if_neg (by omega), if_neg (by omega), if_neg (by omega), if_neg (by omega), if_neg (by omega), if_neg (by omega), if_pos (by omega)]
theorem ra_mkept_6 {σ : Nat → Nat → Int32} (hR : Rg σ) {k j : Nat} (h1 : 403 ≤ k) (h2 : k ≤ 403) (h3 : 214 ≤ j) (h4 : j ≤ 221) : 0 ≤ (σ k j).toInt ∧ (σ k j).toInt ≤ 7 := by
  have h := hR k j
  rw [rlo_mkept_6 h1 h2 h3 h4, rhi_mkept_6 h1 h2 h3 h4] at h
  exact h
theorem rw_mkept_6 {v : Int32} {k j : Nat} (h1 : 403 ≤ k) (h2 : k ≤ 403) (h3 : 214 ≤ j) (h4 : j ≤ 221) (hv : 0 ≤ v.toInt ∧ v.toInt ≤ 7) : rlo k j ≤ v.toInt ∧ v.toInt ≤ rhi k j := by
  rw [rlo_mkept_6 h1 h2 h3 h4, rhi_mkept_6 h1 h2 h3 h4]
  exact hv
theorem rlo_mkept_7 {k j : Nat} (h1 : 403 ≤ k) (h2 : k ≤ 403) (h3 : 230 ≤ j) (h4 : j ≤ 237) : rlo k j = 0 := by
  unfold rlo
  rw [if_neg (by omega), if_neg (by omega), if_neg (by omega), if_neg (by omega), if_neg (by omega), if_neg (by omega), if_neg (by omega), if_neg (by omega), if_neg (by omega), if_neg (by omega), if_neg (by omega), if_neg (by omega), if_neg (by omega), if_neg (by omega), if_pos (by omega), if_neg (by omega), if_neg (by omega), if_neg (by omega), if_neg (by omega), if_neg (by omega), if_neg (by omega), if_neg (by omega), if_pos (by omega)]
theorem rhi_mkept_7 {k j : Nat} (h1 : 403 ≤ k) (h2 : k ≤ 403) (h3 : 230 ≤ j) (h4 : j ≤ 237) : rhi k j = 10 := by
  unfold rhi
  rw [if_neg (by omega), if_neg (by omega), if_neg (by omega), if_neg (by omega), if_neg (by omega), if_neg (by omega), if_neg (by omega), if_neg (by omega), if_neg (by omega), if_neg (by omega), if_neg (by omega), if_neg (by omega), if_neg (by omega), if_neg (by omega), if_pos (by omega), if_neg (by omega), if_neg (by omega), if_neg (by omega), if_neg (by omega), if_neg (by omega), if_neg (by omega), if_neg (by omega), if_pos (by omega)]
theorem ra_mkept_7 {σ : Nat → Nat → Int32} (hR : Rg σ) {k j : Nat} (h1 : 403 ≤ k) (h2 : k ≤ 403) (h3 : 230 ≤ j) (h4 : j ≤ 237) : 0 ≤ (σ k j).toInt ∧ (σ k j).toInt ≤ 10 := by
  have h := hR k j
  rw [rlo_mkept_7 h1 h2 h3 h4, rhi_mkept_7 h1 h2 h3 h4] at h
  exact h
theorem rw_mkept_7 {v : Int32} {k j : Nat} (h1 : 403 ≤ k) (h2 : k ≤ 403) (h3 : 230 ≤ j) (h4 : j ≤ 237) (hv : 0 ≤ v.toInt ∧ v.toInt ≤ 10) : rlo k j ≤ v.toInt ∧ v.toInt ≤ rhi k j := by
  rw [rlo_mkept_7 h1 h2 h3 h4, rhi_mkept_7 h1 h2 h3 h4]
  exact hv
theorem rlo_mkept_8 {k j : Nat} (h1 : 403 ≤ k) (h2 : k ≤ 403) (h3 : 246 ≤ j) (h4 : j ≤ 246) : rlo k j = 0 := by
  unfold rlo
  rw [if_neg (by omega), if_neg (by omega), if_neg (by omega), if_neg (by omega), if_neg (by omega), if_neg (by omega), if_neg (by omega), if_neg (by omega), if_neg (by omega), if_neg (by omega), if_neg (by omega), if_neg (by omega), if_neg (by omega), if_neg (by omega), if_pos (by omega), if_neg (by omega), if_neg (by omega), if_neg (by omega), if_neg (by omega), if_neg (by omega), if_neg (by omega), if_neg (by omega), if_neg (by omega), if_pos (by omega)]
theorem rhi_mkept_8 {k j : Nat} (h1 : 403 ≤ k) (h2 : k ≤ 403) (h3 : 246 ≤ j) (h4 : j ≤ 246) : rhi k j = 40 := by
  unfold rhi
  rw [if_neg (by omega), if_neg (by omega), if_neg (by omega), if_neg (by omega), if_neg (by omega), if_neg (by omega), if_neg (by omega), if_neg (by omega), if_neg (by omega), if_neg (by omega), if_neg (by omega), if_neg (by omega), if_neg (by omega), if_neg (by omega), if_pos (by omega), if_neg (by omega), if_neg (by omega), if_neg (by omega), if_neg (by omega), if_neg (by omega), if_neg (by omega), if_neg (by omega), if_neg (by omega), if_pos (by omega)]
theorem ra_mkept_8 {σ : Nat → Nat → Int32} (hR : Rg σ) {k j : Nat} (h1 : 403 ≤ k) (h2 : k ≤ 403) (h3 : 246 ≤ j) (h4 : j ≤ 246) : 0 ≤ (σ k j).toInt ∧ (σ k j).toInt ≤ 40 := by
  have h := hR k j
  rw [rlo_mkept_8 h1 h2 h3 h4, rhi_mkept_8 h1 h2 h3 h4] at h
  exact h
theorem rw_mkept_8 {v : Int32} {k j : Nat} (h1 : 403 ≤ k) (h2 : k ≤ 403) (h3 : 246 ≤ j) (h4 : j ≤ 246) (hv : 0 ≤ v.toInt ∧ v.toInt ≤ 40) : rlo k j ≤ v.toInt ∧ v.toInt ≤ rhi k j := by
  rw [rlo_mkept_8 h1 h2 h3 h4, rhi_mkept_8 h1 h2 h3 h4]
  exact hv
theorem rlo_mkept_9 {k j : Nat} (h1 : 403 ≤ k) (h2 : k ≤ 403) (h3 : 427 ≤ j) (h4 : j ≤ 428) : rlo k j = 0 := by
  unfold rlo
  rw [if_neg (by omega), if_neg (by omega), if_neg (by omega), if_neg (by omega), if_neg (by omega), if_neg (by omega), if_neg (by omega), if_neg (by omega), if_neg (by omega), if_neg (by omega), if_neg (by omega), if_neg (by omega), if_neg (by omega), if_neg (by omega), if_pos (by omega), if_neg (by omega), if_neg (by omega), if_neg (by omega), if_neg (by omega), if_neg (by omega), if_neg (by omega), if_neg (by omega), if_neg (by omega), if_neg (by omega), if_pos (by omega)]
theorem rhi_mkept_9 {k j : Nat} (h1 : 403 ≤ k) (h2 : k ≤ 403) (h3 : 427 ≤ j) (h4 : j ≤ 428) : rhi k j = 8 := by
  unfold rhi
  rw [if_neg (by omega), if_neg (by omega), if_neg (by omega), if_neg (by omega), if_neg (by omega), if_neg (by omega), if_neg (by omega), if_neg (by omega), if_neg (by omega), if_neg (by omega), if_neg (by omega), if_neg (by omega), if_neg (by omega), if_neg (by omega), if_pos (by omega), if_neg (by omega), if_neg (by omega), if_neg (by omega), if_neg (by omega), if_neg (by omega), if_neg (by omega), if_neg (by omega), if_neg (by omega), if_neg (by omega), if_pos (by omega)]
theorem ra_mkept_9 {σ : Nat → Nat → Int32} (hR : Rg σ) {k j : Nat} (h1 : 403 ≤ k) (h2 : k ≤ 403) (h3 : 427 ≤ j) (h4 : j ≤ 428) : 0 ≤ (σ k j).toInt ∧ (σ k j).toInt ≤ 8 := by
  have h := hR k j
  rw [rlo_mkept_9 h1 h2 h3 h4, rhi_mkept_9 h1 h2 h3 h4] at h
  exact h
theorem rw_mkept_9 {v : Int32} {k j : Nat} (h1 : 403 ≤ k) (h2 : k ≤ 403) (h3 : 427 ≤ j) (h4 : j ≤ 428) (hv : 0 ≤ v.toInt ∧ v.toInt ≤ 8) : rlo k j ≤ v.toInt ∧ v.toInt ≤ rhi k j := by
  rw [rlo_mkept_9 h1 h2 h3 h4, rhi_mkept_9 h1 h2 h3 h4]
  exact hv
theorem rlo_mkept_10 {k j : Nat} (h1 : 403 ≤ k) (h2 : k ≤ 403) (h3 : 429 ≤ j) (h4 : j ≤ 429) : rlo k j = 0 := by
  unfold rlo
  rw [if_neg (by omega), if_neg (by omega), if_neg (by omega), if_neg (by omega), if_neg (by omega), if_neg (by omega), if_neg (by omega), if_neg (by omega), if_neg (by omega), if_neg (by omega), if_neg (by omega), if_neg (by omega), if_neg (by omega), if_neg (by omega), if_pos (by omega), if_neg (by omega), if_neg (by omega), if_neg (by omega), if_neg (by omega), if_neg (by omega), if_neg (by omega), if_neg (by omega), if_neg (by omega), if_neg (by omega), if_neg (by omega), if_pos (by omega)]
theorem rhi_mkept_10 {k j : Nat} (h1 : 403 ≤ k) (h2 : k ≤ 403) (h3 : 429 ≤ j) (h4 : j ≤ 429) : rhi k j = 4 := by
  unfold rhi
  rw [if_neg (by omega), if_neg (by omega), if_neg (by omega), if_neg (by omega), if_neg (by omega), if_neg (by omega), if_neg (by omega), if_neg (by omega), if_neg (by omega), if_neg (by omega), if_neg (by omega), if_neg (by omega), if_neg (by omega), if_neg (by omega), if_pos (by omega), if_neg (by omega), if_neg (by omega), if_neg (by omega), if_neg (by omega), if_neg (by omega), if_neg (by omega), if_neg (by omega), if_neg (by omega), if_neg (by omega), if_neg (by omega), if_pos (by omega)]
theorem ra_mkept_10 {σ : Nat → Nat → Int32} (hR : Rg σ) {k j : Nat} (h1 : 403 ≤ k) (h2 : k ≤ 403) (h3 : 429 ≤ j) (h4 : j ≤ 429) : 0 ≤ (σ k j).toInt ∧ (σ k j).toInt ≤ 4 := by
  have h := hR k j
  rw [rlo_mkept_10 h1 h2 h3 h4, rhi_mkept_10 h1 h2 h3 h4] at h
  exact h
theorem rw_mkept_10 {v : Int32} {k j : Nat} (h1 : 403 ≤ k) (h2 : k ≤ 403) (h3 : 429 ≤ j) (h4 : j ≤ 429) (hv : 0 ≤ v.toInt ∧ v.toInt ≤ 4) : rlo k j ≤ v.toInt ∧ v.toInt ≤ rhi k j := by
  rw [rlo_mkept_10 h1 h2 h3 h4, rhi_mkept_10 h1 h2 h3 h4]
  exact hv
theorem rlo_mkept_11 {k j : Nat} (h1 : 403 ≤ k) (h2 : k ≤ 403) (h3 : 458 ≤ j) (h4 : j ≤ 465) : rlo k j = 0 := by
  unfold rlo
  rw [if_neg (by omega), if_neg (by omega), if_neg (by omega), if_neg (by omega), if_neg (by omega), if_neg (by omega), if_neg (by omega), if_neg (by omega), if_neg (by omega), if_neg (by omega), if_neg (by omega), if_neg (by omega), if_neg (by omega), if_neg (by omega), if_pos (by omega), if_neg (by omega), if_neg (by omega), if_neg (by omega), if_neg (by omega), if_neg (by omega), if_neg (by omega), if_neg (by omega), if_neg (by omega), if_neg (by omega), if_neg (by omega), if_neg (by omega), if_pos (by omega)]
theorem rhi_mkept_11 {k j : Nat} (h1 : 403 ≤ k) (h2 : k ≤ 403) (h3 : 458 ≤ j) (h4 : j ≤ 465) : rhi k j = 7 := by
  unfold rhi
  rw [if_neg (by omega), if_neg (by omega), if_neg (by omega), if_neg (by omega), if_neg (by omega), if_neg (by omega), if_neg (by omega), if_neg (by omega), if_neg (by omega), if_neg (by omega), if_neg (by omega), if_neg (by omega), if_neg (by omega), if_neg (by omega), if_pos (by omega), if_neg (by omega), if_neg (by omega), if_neg (by omega), if_neg (by omega), if_neg (by omega), if_neg (by omega), if_neg (by omega), if_neg (by omega), if_neg (by omega), if_neg (by omega), if_neg (by omega), if_pos (by omega)]
theorem ra_mkept_11 {σ : Nat → Nat → Int32} (hR : Rg σ) {k j : Nat} (h1 : 403 ≤ k) (h2 : k ≤ 403) (h3 : 458 ≤ j) (h4 : j ≤ 465) : 0 ≤ (σ k j).toInt ∧ (σ k j).toInt ≤ 7 := by
  have h := hR k j
  rw [rlo_mkept_11 h1 h2 h3 h4, rhi_mkept_11 h1 h2 h3 h4] at h
  exact h
theorem rw_mkept_11 {v : Int32} {k j : Nat} (h1 : 403 ≤ k) (h2 : k ≤ 403) (h3 : 458 ≤ j) (h4 : j ≤ 465) (hv : 0 ≤ v.toInt ∧ v.toInt ≤ 7) : rlo k j ≤ v.toInt ∧ v.toInt ≤ rhi k j := by
  rw [rlo_mkept_11 h1 h2 h3 h4, rhi_mkept_11 h1 h2 h3 h4]
  exact hv
theorem rlo_mkept_12 {k j : Nat} (h1 : 403 ≤ k) (h2 : k ≤ 403) (h3 : 490 ≤ j) (h4 : j ≤ 497) : rlo k j = 0 := by
  unfold rlo
  rw [if_neg (by omega), if_neg (by omega), if_neg (by omega), if_neg (by omega), if_neg (by omega), if_neg (by omega), if_neg (by omega), if_neg (by omega), if_neg (by omega), if_neg (by omega), if_neg (by omega), if_neg (by omega), if_neg (by omega), if_neg (by omega), if_pos (by omega), if_neg (by omega), if_neg (by omega), if_neg (by omega), if_neg (by omega), if_neg (by omega), if_neg (by omega), if_neg (by omega), if_neg (by omega), if_neg (by omega), if_neg (by omega), if_neg (by omega), if_neg (by omega), if_pos (by omega)]
theorem rhi_mkept_12 {k j : Nat} (h1 : 403 ≤ k) (h2 : k ≤ 403) (h3 : 490 ≤ j) (h4 : j ≤ 497) : rhi k j = 8 := by
  unfold rhi
  rw [if_neg (by omega), if_neg (by omega), if_neg (by omega), if_neg (by omega), if_neg (by omega), if_neg (by omega), if_neg (by omega), if_neg (by omega), if_neg (by omega), if_neg (by omega), if_neg (by omega), if_neg (by omega), if_neg (by omega), if_neg (by omega), if_pos (by omega), if_neg (by omega), if_neg (by omega), if_neg (by omega), if_neg (by omega), if_neg (by omega), if_neg (by omega), if_neg (by omega), if_neg (by omega), if_neg (by omega), if_neg (by omega), if_neg (by omega), if_neg (by omega), if_pos (by omega)]
theorem ra_mkept_12 {σ : Nat → Nat → Int32} (hR : Rg σ) {k j : Nat} (h1 : 403 ≤ k) (h2 : k ≤ 403) (h3 : 490 ≤ j) (h4 : j ≤ 497) : 0 ≤ (σ k j).toInt ∧ (σ k j).toInt ≤ 8 := by
  have h := hR k j
  rw [rlo_mkept_12 h1 h2 h3 h4, rhi_mkept_12 h1 h2 h3 h4] at h
  exact h
theorem rw_mkept_12 {v : Int32} {k j : Nat} (h1 : 403 ≤ k) (h2 : k ≤ 403) (h3 : 490 ≤ j) (h4 : j ≤ 497) (hv : 0 ≤ v.toInt ∧ v.toInt ≤ 8) : rlo k j ≤ v.toInt ∧ v.toInt ≤ rhi k j := by
  rw [rlo_mkept_12 h1 h2 h3 h4, rhi_mkept_12 h1 h2 h3 h4]
  exact hv
theorem rlo_mkept_13 {k j : Nat} (h1 : 403 ≤ k) (h2 : k ≤ 403) (h3 : 514 ≤ j) (h4 : j ≤ 517) : rlo k j = 0 := by
  unfold rlo
  rw [if_neg (by omega), if_neg (by omega), if_neg (by omega), if_neg (by omega), if_neg (by omega), if_neg (by omega), if_neg (by omega), if_neg (by omega), if_neg (by omega), if_neg (by omega), if_neg (by omega), if_neg (by omega), if_neg (by omega), if_neg (by omega), if_pos (by omega), if_neg (by omega), if_neg (by omega), if_neg (by omega), if_neg (by omega), if_neg (by omega), if_neg (by omega), if_neg (by omega), if_neg (by omega), if_neg (by omega), if_neg (by omega), if_neg (by omega), if_neg (by omega), if_neg (by omega), if_pos (by omega)]
theorem rhi_mkept_13 {k j : Nat} (h1 : 403 ≤ k) (h2 : k ≤ 403) (h3 : 514 ≤ j) (h4 : j ≤ 517) : rhi k j = 10 := by
  unfold rhi
  rw [if_neg (by omega), if_neg (by omega), if_neg (by omega), if_neg (by omega), if_neg (by omega), if_neg (by omega), if_neg (by omega), if_neg (by omega), if_neg (by omega), if_neg (by omega), if_neg (by omega), if_neg (by omega), if_neg (by omega), if_neg (by omega), if_pos (by omega), if_neg (by omega), if_neg (by omega), if_neg (by omega), if_neg (by omega), if_neg (by omega), if_neg (by omega), if_neg (by omega), if_neg (by omega), if_neg (by omega), if_neg (by omega), if_neg (by omega), if_neg (by omega), if_neg (by omega), if_pos (by omega)]
theorem ra_mkept_13 {σ : Nat → Nat → Int32} (hR : Rg σ) {k j : Nat} (h1 : 403 ≤ k) (h2 : k ≤ 403) (h3 : 514 ≤ j) (h4 : j ≤ 517) : 0 ≤ (σ k j).toInt ∧ (σ k j).toInt ≤ 10 := by
  have h := hR k j
  rw [rlo_mkept_13 h1 h2 h3 h4, rhi_mkept_13 h1 h2 h3 h4] at h
  exact h
theorem rw_mkept_13 {v : Int32} {k j : Nat} (h1 : 403 ≤ k) (h2 : k ≤ 403) (h3 : 514 ≤ j) (h4 : j ≤ 517) (hv : 0 ≤ v.toInt ∧ v.toInt ≤ 10) : rlo k j ≤ v.toInt ∧ v.toInt ≤ rhi k j := by
  rw [rlo_mkept_13 h1 h2 h3 h4, rhi_mkept_13 h1 h2 h3 h4]
  exact hv
theorem rlo_mkept_14 {k j : Nat} (h1 : 403 ≤ k) (h2 : k ≤ 403) (h3 : 639 ≤ j) (h4 : j ≤ 639) : rlo k j = 0 := by
  unfold rlo
  rw [if_neg (by omega), if_neg (by omega), if_neg (by omega), if_neg (by omega), if_neg (by omega), if_neg (by omega), if_neg (by omega), if_neg (by omega), if_neg (by omega), if_neg (by omega), if_neg (by omega), if_neg (by omega), if_neg (by omega), if_neg (by omega), if_pos (by omega), if_neg (by omega), if_neg (by omega), if_neg (by omega), if_neg (by omega), if_neg (by omega), if_neg (by omega), if_neg (by omega), if_neg (by omega), if_neg (by omega), if_neg (by omega), if_neg (by omega), if_neg (by omega), if_neg (by omega), if_neg (by omega), if_pos (by omega)]
theorem rhi_mkept_14 {k j : Nat} (h1 : 403 ≤ k) (h2 : k ≤ 403) (h3 : 639 ≤ j) (h4 : j ≤ 639) : rhi k j = 4 := by
  unfold rhi
  rw [if_neg (by omega), if_neg (by omega), if_neg (by omega), if_neg (by omega), if_neg (by omega), if_neg (by omega), if_neg (by omega), if_neg (by omega), if_neg (by omega), if_neg (by omega), if_neg (by omega), if_neg (by omega), if_neg (by omega), if_neg (by omega), if_pos (by omega), if_neg (by omega), if_neg (by omega), if_neg (by omega), if_neg (by omega), if_neg (by omega), if_neg (by omega), if_neg (by omega), if_neg (by omega), if_neg (by omega), if_neg (by omega), if_neg (by omega), if_neg (by omega), if_neg (by omega), if_neg (by omega), if_pos (by omega)]
theorem ra_mkept_14 {σ : Nat → Nat → Int32} (hR : Rg σ) {k j : Nat} (h1 : 403 ≤ k) (h2 : k ≤ 403) (h3 : 639 ≤ j) (h4 : j ≤ 639) : 0 ≤ (σ k j).toInt ∧ (σ k j).toInt ≤ 4 := by
  have h := hR k j
  rw [rlo_mkept_14 h1 h2 h3 h4, rhi_mkept_14 h1 h2 h3 h4] at h
  exact h
theorem rw_mkept_14 {v : Int32} {k j : Nat} (h1 : 403 ≤ k) (h2 : k ≤ 403) (h3 : 639 ≤ j) (h4 : j ≤ 639) (hv : 0 ≤ v.toInt ∧ v.toInt ≤ 4) : rlo k j ≤ v.toInt ∧ v.toInt ≤ rhi k j := by
  rw [rlo_mkept_14 h1 h2 h3 h4, rhi_mkept_14 h1 h2 h3 h4]
  exact hv
theorem rlo_mkept_15 {k j : Nat} (h1 : 403 ≤ k) (h2 : k ≤ 403) (h3 : 641 ≤ j) (h4 : j ≤ 648) : rlo k j = 0 := by
  unfold rlo
  rw [if_neg (by omega), if_neg (by omega), if_neg (by omega), if_neg (by omega), if_neg (by omega), if_neg (by omega), if_neg (by omega), if_neg (by omega), if_neg (by omega), if_neg (by omega), if_neg (by omega), if_neg (by omega), if_neg (by omega), if_neg (by omega), if_pos (by omega), if_neg (by omega), if_neg (by omega), if_neg (by omega), if_neg (by omega), if_neg (by omega), if_neg (by omega), if_neg (by omega), if_neg (by omega), if_neg (by omega), if_neg (by omega), if_neg (by omega), if_neg (by omega), if_neg (by omega), if_neg (by omega), if_neg (by omega), if_pos (by omega)]
theorem rhi_mkept_15 {k j : Nat} (h1 : 403 ≤ k) (h2 : k ≤ 403) (h3 : 641 ≤ j) (h4 : j ≤ 648) : rhi k j = 7 := by
  unfold rhi
  rw [if_neg (by omega), if_neg (by omega), if_neg (by omega), if_neg (by omega), if_neg (by omega), if_neg (by omega), if_neg (by omega), if_neg (by omega), if_neg (by omega), if_neg (by omega), if_neg (by omega), if_neg (by omega), if_neg (by omega), if_neg (by omega), if_pos (by omega), if_neg (by omega), if_neg (by omega), if_neg (by omega), if_neg (by omega), if_neg (by omega), if_neg (by omega), if_neg (by omega), if_neg (by omega), if_neg (by omega), if_neg (by omega), if_neg (by omega), if_neg (by omega), if_neg (by omega), if_neg (by omega), if_neg (by omega), if_pos (by omega)]
theorem ra_mkept_15 {σ : Nat → Nat → Int32} (hR : Rg σ) {k j : Nat} (h1 : 403 ≤ k) (h2 : k ≤ 403) (h3 : 641 ≤ j) (h4 : j ≤ 648) : 0 ≤ (σ k j).toInt ∧ (σ k j).toInt ≤ 7 := by
  have h := hR k j
  rw [rlo_mkept_15 h1 h2 h3 h4, rhi_mkept_15 h1 h2 h3 h4] at h
  exact h
theorem rw_mkept_15 {v : Int32} {k j : Nat} (h1 : 403 ≤ k) (h2 : k ≤ 403) (h3 : 641 ≤ j) (h4 : j ≤ 648) (hv : 0 ≤ v.toInt ∧ v.toInt ≤ 7) : rlo k j ≤ v.toInt ∧ v.toInt ≤ rhi k j := by
  rw [rlo_mkept_15 h1 h2 h3 h4, rhi_mkept_15 h1 h2 h3 h4]
  exact hv
theorem rlo_mkept_16 {k j : Nat} (h1 : 403 ≤ k) (h2 : k ≤ 403) (h3 : 657 ≤ j) (h4 : j ≤ 664) : rlo k j = 0 := by
  unfold rlo
  rw [if_neg (by omega), if_neg (by omega), if_neg (by omega), if_neg (by omega), if_neg (by omega), if_neg (by omega), if_neg (by omega), if_neg (by omega), if_neg (by omega), if_neg (by omega), if_neg (by omega), if_neg (by omega), if_neg (by omega), if_neg (by omega), if_pos (by omega), if_neg (by omega), if_neg (by omega), if_neg (by omega), if_neg (by omega), if_neg (by omega), if_neg (by omega), if_neg (by omega), if_neg (by omega), if_neg (by omega), if_neg (by omega), if_neg (by omega), if_neg (by omega), if_neg (by omega), if_neg (by omega), if_neg (by omega), if_neg (by omega), if_pos (by omega)]
theorem rhi_mkept_16 {k j : Nat} (h1 : 403 ≤ k) (h2 : k ≤ 403) (h3 : 657 ≤ j) (h4 : j ≤ 664) : rhi k j = 10 := by
  unfold rhi
  rw [if_neg (by omega), if_neg (by omega), if_neg (by omega), if_neg (by omega), if_neg (by omega), if_neg (by omega), if_neg (by omega), if_neg (by omega), if_neg (by omega), if_neg (by omega), if_neg (by omega), if_neg (by omega), if_neg (by omega), if_neg (by omega), if_pos (by omega), if_neg (by omega), if_neg (by omega), if_neg (by omega), if_neg (by omega), if_neg (by omega), if_neg (by omega), if_neg (by omega), if_neg (by omega), if_neg (by omega), if_neg (by omega), if_neg (by omega), if_neg (by omega), if_neg (by omega), if_neg (by omega), if_neg (by omega), if_neg (by omega), if_pos (by omega)]
theorem ra_mkept_16 {σ : Nat → Nat → Int32} (hR : Rg σ) {k j : Nat} (h1 : 403 ≤ k) (h2 : k ≤ 403) (h3 : 657 ≤ j) (h4 : j ≤ 664) : 0 ≤ (σ k j).toInt ∧ (σ k j).toInt ≤ 10 := by
  have h := hR k j
  rw [rlo_mkept_16 h1 h2 h3 h4, rhi_mkept_16 h1 h2 h3 h4] at h
  exact h
theorem rw_mkept_16 {v : Int32} {k j : Nat} (h1 : 403 ≤ k) (h2 : k ≤ 403) (h3 : 657 ≤ j) (h4 : j ≤ 664) (hv : 0 ≤ v.toInt ∧ v.toInt ≤ 10) : rlo k j ≤ v.toInt ∧ v.toInt ≤ rhi k j := by
  rw [rlo_mkept_16 h1 h2 h3 h4, rhi_mkept_16 h1 h2 h3 h4]
  exact hv
theorem rlo_mkept_17 {k j : Nat} (h1 : 403 ≤ k) (h2 : k ≤ 403) (h3 : 673 ≤ j) (h4 : j ≤ 673) : rlo k j = 0 := by
  unfold rlo
  rw [if_neg (by omega), if_neg (by omega), if_neg (by omega), if_neg (by omega), if_neg (by omega), if_neg (by omega), if_neg (by omega), if_neg (by omega), if_neg (by omega), if_neg (by omega), if_neg (by omega), if_neg (by omega), if_neg (by omega), if_neg (by omega), if_pos (by omega), if_neg (by omega), if_neg (by omega), if_neg (by omega), if_neg (by omega), if_neg (by omega), if_neg (by omega), if_neg (by omega), if_neg (by omega), if_neg (by omega), if_neg (by omega), if_neg (by omega), if_neg (by omega), if_neg (by omega), if_neg (by omega), if_neg (by omega), if_neg (by omega), if_neg (by omega), if_pos (by omega)]
theorem rhi_mkept_17 {k j : Nat} (h1 : 403 ≤ k) (h2 : k ≤ 403) (h3 : 673 ≤ j) (h4 : j ≤ 673) : rhi k j = 40 := by
  unfold rhi
  rw [if_neg (by omega), if_neg (by omega), if_neg (by omega), if_neg (by omega), if_neg (by omega), if_neg (by omega), if_neg (by omega), if_neg (by omega), if_neg (by omega), if_neg (by omega), if_neg (by omega), if_neg (by omega), if_neg (by omega), if_neg (by omega), if_pos (by omega), if_neg (by omega), if_neg (by omega), if_neg (by omega), if_neg (by omega), if_neg (by omega), if_neg (by omega), if_neg (by omega), if_neg (by omega), if_neg (by omega), if_neg (by omega), if_neg (by omega), if_neg (by omega), if_neg (by omega), if_neg (by omega), if_neg (by omega), if_neg (by omega), if_neg (by omega), if_pos (by omega)]
theorem ra_mkept_17 {σ : Nat → Nat → Int32} (hR : Rg σ) {k j : Nat} (h1 : 403 ≤ k) (h2 : k ≤ 403) (h3 : 673 ≤ j) (h4 : j ≤ 673) : 0 ≤ (σ k j).toInt ∧ (σ k j).toInt ≤ 40 := by
  have h := hR k j
  rw [rlo_mkept_17 h1 h2 h3 h4, rhi_mkept_17 h1 h2 h3 h4] at h
  exact h
theorem rw_mkept_17 {v : Int32} {k j : Nat} (h1 : 403 ≤ k) (h2 : k ≤ 403) (h3 : 673 ≤ j) (h4 : j ≤ 673) (hv : 0 ≤ v.toInt ∧ v.toInt ≤ 40) : rlo k j ≤ v.toInt ∧ v.toInt ≤ rhi k j := by
  rw [rlo_mkept_17 h1 h2 h3 h4, rhi_mkept_17 h1 h2 h3 h4]
  exact hv
theorem rx_mkept_3 {v : Int32} {k j : Nat} (h1 : 403 ≤ k) (h2 : k ≤ 403) (h3 : 3 ≤ j) (h4 : j ≤ 30) : rlo k j ≤ v.toInt ∧ v.toInt ≤ rhi k j := by
  unfold rlo rhi
  rw [if_neg (by omega), if_neg (by omega), if_neg (by omega), if_neg (by omega), if_neg (by omega), if_neg (by omega), if_neg (by omega), if_neg (by omega), if_neg (by omega), if_neg (by omega), if_neg (by omega), if_neg (by omega), if_neg (by omega), if_neg (by omega), if_pos (by omega), if_neg (by omega), if_neg (by omega), if_neg (by omega), if_neg (by omega), if_neg (by omega), if_neg (by omega), if_neg (by omega), if_neg (by omega), if_neg (by omega), if_neg (by omega), if_neg (by omega), if_neg (by omega), if_neg (by omega), if_neg (by omega), if_neg (by omega), if_neg (by omega), if_neg (by omega), if_neg (by omega), if_neg (by omega), if_neg (by omega), if_neg (by omega), if_neg (by omega), if_neg (by omega), if_neg (by omega), if_neg (by omega), if_neg (by omega), if_neg (by omega), if_neg (by omega), if_neg (by omega), if_neg (by omega), if_neg (by omega), if_neg (by omega), if_pos (by omega), if_neg (by omega), if_neg (by omega), if_neg (by omega), if_neg (by omega), if_neg (by omega), if_neg (by omega), if_neg (by omega), if_neg (by omega), if_neg (by omega), if_neg (by omega), if_neg (by omega), if_neg (by omega), if_neg (by omega), if_neg (by omega), if_neg (by omega), if_neg (by omega), if_neg (by omega), if_neg (by omega)]
  exact ⟨ti_lo _, ti_hi _⟩
theorem rx_mkept_39 {v : Int32} {k j : Nat} (h1 : 403 ≤ k) (h2 : k ≤ 403) (h3 : 39 ≤ j) (h4 : j ≤ 62) : rlo k j ≤ v.toInt ∧ v.toInt ≤ rhi k j := by
  unfold rlo rhi
  rw [if_neg (by omega), if_neg (by omega), if_neg (by omega), if_neg (by omega), if_neg (by omega), if_neg (by omega), if_neg (by omega), if_neg (by omega), if_neg (by omega), if_neg (by omega), if_neg (by omega), if_neg (by omega), if_neg (by omega), if_neg (by omega), if_pos (by omega), if_neg (by omega), if_neg (by omega), if_neg (by omega), if_neg (by omega), if_neg (by omega), if_neg (by omega), if_neg (by omega), if_neg (by omega), if_neg (by omega), if_neg (by omega), if_neg (by omega), if_neg (by omega), if_neg (by omega), if_neg (by omega), if_neg (by omega), if_neg (by omega), if_neg (by omega), if_neg (by omega), if_neg (by omega), if_neg (by omega), if_neg (by omega), if_neg (by omega), if_neg (by omega), if_neg (by omega), if_neg (by omega), if_neg (by omega), if_neg (by omega), if_neg (by omega), if_neg (by omega), if_neg (by omega), if_neg (by omega), if_neg (by omega), if_pos (by omega), if_neg (by omega), if_neg (by omega), if_neg (by omega), if_neg (by omega), if_neg (by omega), if_neg (by omega), if_neg (by omega), if_neg (by omega), if_neg (by omega), if_neg (by omega), if_neg (by omega), if_neg (by omega), if_neg (by omega), if_neg (by omega), if_neg (by omega), if_neg (by omega), if_neg (by omega), if_neg (by omega)]
  exact ⟨ti_lo _, ti_hi _⟩
theorem rx_mkept_71 {v : Int32} {k j : Nat} (h1 : 403 ≤ k) (h2 : k ≤ 403) (h3 : 71 ≤ j) (h4 : j ≤ 86) : rlo k j ≤ v.toInt ∧ v.toInt ≤ rhi k j := by
  unfold rlo rhi
  rw [if_neg (by omega), if_neg (by omega), if_neg (by omega), if_neg (by omega), if_neg (by omega), if_neg (by omega), if_neg (by omega), if_neg (by omega), if_neg (by omega), if_neg (by omega), if_neg (by omega), if_neg (by omega), if_neg (by omega), if_neg (by omega), if_pos (by omega), if_neg (by omega), if_neg (by omega), if_neg (by omega), if_neg (by omega), if_neg (by omega), if_neg (by omega), if_neg (by omega), if_neg (by omega), if_neg (by omega), if_neg (by omega), if_neg (by omega), if_neg (by omega), if_neg (by omega), if_neg (by omega), if_neg (by omega), if_neg (by omega), if_neg (by omega), if_neg (by omega), if_neg (by omega), if_neg (by omega), if_neg (by omega), if_neg (by omega), if_neg (by omega), if_neg (by omega), if_neg (by omega), if_neg (by omega), if_neg (by omega), if_neg (by omega), if_neg (by omega), if_neg (by omega), if_neg (by omega), if_neg (by omega), if_pos (by omega), if_neg (by omega), if_neg (by omega), if_neg (by omega), if_neg (by omega), if_neg (by omega), if_neg (by omega), if_neg (by omega), if_neg (by omega), if_neg (by omega), if_neg (by omega), if_neg (by omega), if_neg (by omega), if_neg (by omega), if_neg (by omega), if_neg (by omega), if_neg (by omega), if_neg (by omega), if_neg (by omega)]
  exact ⟨ti_lo _, ti_hi _⟩
theorem rx_mkept_91 {v : Int32} {k j : Nat} (h1 : 403 ≤ k) (h2 : k ≤ 403) (h3 : 91 ≤ j) (h4 : j ≤ 211) : rlo k j ≤ v.toInt ∧ v.toInt ≤ rhi k j := by
  unfold rlo rhi
  rw [if_neg (by omega), if_neg (by omega), if_neg (by omega), if_neg (by omega), if_neg (by omega), if_neg (by omega), if_neg (by omega), if_neg (by omega), if_neg (by omega), if_neg (by omega), if_neg (by omega), if_neg (by omega), if_neg (by omega), if_neg (by omega), if_pos (by omega), if_neg (by omega), if_neg (by omega), if_neg (by omega), if_neg (by omega), if_neg (by omega), if_neg (by omega), if_neg (by omega), if_neg (by omega), if_neg (by omega), if_neg (by omega), if_neg (by omega), if_neg (by omega), if_neg (by omega), if_neg (by omega), if_neg (by omega), if_neg (by omega), if_neg (by omega), if_neg (by omega), if_neg (by omega), if_neg (by omega), if_neg (by omega), if_neg (by omega), if_neg (by omega), if_neg (by omega), if_neg (by omega), if_neg (by omega), if_neg (by omega), if_neg (by omega), if_neg (by omega), if_neg (by omega), if_neg (by omega), if_neg (by omega), if_pos (by omega), if_neg (by omega), if_neg (by omega), if_neg (by omega), if_neg (by omega), if_neg (by omega), if_neg (by omega), if_neg (by omega), if_neg (by omega), if_neg (by omega), if_neg (by omega), if_neg (by omega), if_neg (by omega), if_neg (by omega), if_neg (by omega), if_neg (by omega), if_neg (by omega), if_neg (by omega), if_neg (by omega)]
  exact ⟨ti_lo _, ti_hi _⟩
theorem rx_mkept_213 {v : Int32} {k j : Nat} (h1 : 403 ≤ k) (h2 : k ≤ 403) (h3 : 213 ≤ j) (h4 : j ≤ 213) : rlo k j ≤ v.toInt ∧ v.toInt ≤ rhi k j := by
  unfold rlo rhi
  rw [if_neg (by omega), if_neg (by omega), if_neg (by omega), if_neg (by omega), if_neg (by omega), if_neg (by omega), if_neg (by omega), if_neg (by omega), if_neg (by omega), if_neg (by omega), if_neg (by omega), if_neg (by omega), if_neg (by omega), if_neg (by omega), if_pos (by omega), if_neg (by omega), if_neg (by omega), if_neg (by omega), if_neg (by omega), if_neg (by omega), if_neg (by omega), if_neg (by omega), if_neg (by omega), if_neg (by omega), if_neg (by omega), if_neg (by omega), if_neg (by omega), if_neg (by omega), if_neg (by omega), if_neg (by omega), if_neg (by omega), if_neg (by omega), if_neg (by omega), if_neg (by omega), if_neg (by omega), if_neg (by omega), if_neg (by omega), if_neg (by omega), if_neg (by omega), if_neg (by omega), if_neg (by omega), if_neg (by omega), if_neg (by omega), if_neg (by omega), if_neg (by omega), if_neg (by omega), if_neg (by omega), if_pos (by omega), if_neg (by omega), if_neg (by omega), if_neg (by omega), if_neg (by omega), if_neg (by omega), if_neg (by omega), if_neg (by omega), if_neg (by omega), if_neg (by omega), if_neg (by omega), if_neg (by omega), if_neg (by omega), if_neg (by omega), if_neg (by omega), if_neg (by omega), if_neg (by omega), if_neg (by omega), if_neg (by omega)]
  exact ⟨ti_lo _, ti_hi _⟩
theorem rx_mkept_222 {v : Int32} {k j : Nat} (h1 : 403 ≤ k) (h2 : k ≤ 403) (h3 : 222 ≤ j) (h4 : j ≤ 229) : rlo k j ≤ v.toInt ∧ v.toInt ≤ rhi k j := by
  unfold rlo rhi
  rw [if_neg (by omega), if_neg (by omega), if_neg (by omega), if_neg (by omega), if_neg (by omega), if_neg (by omega), if_neg (by omega), if_neg (by omega), if_neg (by omega), if_neg (by omega), if_neg (by omega), if_neg (by omega), if_neg (by omega), if_neg (by omega), if_pos (by omega), if_neg (by omega), if_neg (by omega), if_neg (by omega), if_neg (by omega), if_neg (by omega), if_neg (by omega), if_neg (by omega), if_neg (by omega), if_neg (by omega), if_neg (by omega), if_neg (by omega), if_neg (by omega), if_neg (by omega), if_neg (by omega), if_neg (by omega), if_neg (by omega), if_neg (by omega), if_neg (by omega), if_neg (by omega), if_neg (by omega), if_neg (by omega), if_neg (by omega), if_neg (by omega), if_neg (by omega), if_neg (by omega), if_neg (by omega), if_neg (by omega), if_neg (by omega), if_neg (by omega), if_neg (by omega), if_neg (by omega), if_neg (by omega), if_pos (by omega), if_neg (by omega), if_neg (by omega), if_neg (by omega), if_neg (by omega), if_neg (by omega), if_neg (by omega), if_neg (by omega), if_neg (by omega), if_neg (by omega), if_neg (by omega), if_neg (by omega), if_neg (by omega), if_neg (by omega), if_neg (by omega), if_neg (by omega), if_neg (by omega), if_neg (by omega), if_neg (by omega)]
  exact ⟨ti_lo _, ti_hi _⟩
theorem rx_mkept_238 {v : Int32} {k j : Nat} (h1 : 403 ≤ k) (h2 : k ≤ 403) (h3 : 238 ≤ j) (h4 : j ≤ 245) : rlo k j ≤ v.toInt ∧ v.toInt ≤ rhi k j := by
  unfold rlo rhi
  rw [if_neg (by omega), if_neg (by omega), if_neg (by omega), if_neg (by omega), if_neg (by omega), if_neg (by omega), if_neg (by omega), if_neg (by omega), if_neg (by omega), if_neg (by omega), if_neg (by omega), if_neg (by omega), if_neg (by omega), if_neg (by omega), if_pos (by omega), if_neg (by omega), if_neg (by omega), if_neg (by omega), if_neg (by omega), if_neg (by omega), if_neg (by omega), if_neg (by omega), if_neg (by omega), if_neg (by omega), if_neg (by omega), if_neg (by omega), if_neg (by omega), if_neg (by omega), if_neg (by omega), if_neg (by omega), if_neg (by omega), if_neg (by omega), if_neg (by omega), if_neg (by omega), if_neg (by omega), if_neg (by omega), if_neg (by omega), if_neg (by omega), if_neg (by omega), if_neg (by omega), if_neg (by omega), if_neg (by omega), if_neg (by omega), if_neg (by omega), if_neg (by omega), if_neg (by omega), if_neg (by omega), if_pos (by omega), if_neg (by omega), if_neg (by omega), if_neg (by omega), if_neg (by omega), if_neg (by omega), if_neg (by omega), if_neg (by omega), if_neg (by omega), if_neg (by omega), if_neg (by omega), if_neg (by omega), if_neg (by omega), if_neg (by omega), if_neg (by omega), if_neg (by omega), if_neg (by omega), if_neg (by omega), if_neg (by omega)]
  exact ⟨ti_lo _, ti_hi _⟩
theorem rx_mkept_247 {v : Int32} {k j : Nat} (h1 : 403 ≤ k) (h2 : k ≤ 403) (h3 : 247 ≤ j) (h4 : j ≤ 426) : rlo k j ≤ v.toInt ∧ v.toInt ≤ rhi k j := by
  unfold rlo rhi
  rw [if_neg (by omega), if_neg (by omega), if_neg (by omega), if_neg (by omega), if_neg (by omega), if_neg (by omega), if_neg (by omega), if_neg (by omega), if_neg (by omega), if_neg (by omega), if_neg (by omega), if_neg (by omega), if_neg (by omega), if_neg (by omega), if_pos (by omega), if_neg (by omega), if_neg (by omega), if_neg (by omega), if_neg (by omega), if_neg (by omega), if_neg (by omega), if_neg (by omega), if_neg (by omega), if_neg (by omega), if_neg (by omega), if_neg (by omega), if_neg (by omega), if_neg (by omega), if_neg (by omega), if_neg (by omega), if_neg (by omega), if_neg (by omega), if_neg (by omega), if_neg (by omega), if_neg (by omega), if_neg (by omega), if_neg (by omega), if_neg (by omega), if_neg (by omega), if_neg (by omega), if_neg (by omega), if_neg (by omega), if_neg (by omega), if_neg (by omega), if_neg (by omega), if_neg (by omega), if_neg (by omega), if_pos (by omega), if_neg (by omega), if_neg (by omega), if_neg (by omega), if_neg (by omega), if_neg (by omega), if_neg (by omega), if_neg (by omega), if_neg (by omega), if_neg (by omega), if_neg (by omega), if_neg (by omega), if_neg (by omega), if_neg (by omega), if_neg (by omega), if_neg (by omega), if_neg (by omega), if_neg (by omega), if_neg (by omega)]
  exact ⟨ti_lo _, ti_hi _⟩
theorem rx_mkept_430 {v : Int32} {k j : Nat} (h1 : 403 ≤ k) (h2 : k ≤ 403) (h3 : 430 ≤ j) (h4 : j ≤ 457) : rlo k j ≤ v.toInt ∧ v.toInt ≤ rhi k j := by
  unfold rlo rhi
  rw [if_neg (by omega), if_neg (by omega), if_neg (by omega), if_neg (by omega), if_neg (by omega), if_neg (by omega), if_neg (by omega), if_neg (by omega), if_neg (by omega), if_neg (by omega), if_neg (by omega), if_neg (by omega), if_neg (by omega), if_neg (by omega), if_pos (by omega), if_neg (by omega), if_neg (by omega), if_neg (by omega), if_neg (by omega), if_neg (by omega), if_neg (by omega), if_neg (by omega), if_neg (by omega), if_neg (by omega), if_neg (by omega), if_neg (by omega), if_neg (by omega), if_neg (by omega), if_neg (by omega), if_neg (by omega), if_neg (by omega), if_neg (by omega), if_neg (by omega), if_neg (by omega), if_neg (by omega), if_neg (by omega), if_neg (by omega), if_neg (by omega), if_neg (by omega), if_neg (by omega), if_neg (by omega), if_neg (by omega), if_neg (by omega), if_neg (by omega), if_neg (by omega), if_neg (by omega), if_neg (by omega), if_pos (by omega), if_neg (by omega), if_neg (by omega), if_neg (by omega), if_neg (by omega), if_neg (by omega), if_neg (by omega), if_neg (by omega), if_neg (by omega), if_neg (by omega), if_neg (by omega), if_neg (by omega), if_neg (by omega), if_neg (by omega), if_neg (by omega), if_neg (by omega), if_neg (by omega), if_neg (by omega), if_neg (by omega)]
  exact ⟨ti_lo _, ti_hi _⟩
theorem rx_mkept_466 {v : Int32} {k j : Nat} (h1 : 403 ≤ k) (h2 : k ≤ 403) (h3 : 466 ≤ j) (h4 : j ≤ 489) : rlo k j ≤ v.toInt ∧ v.toInt ≤ rhi k j := by
  unfold rlo rhi
  rw [if_neg (by omega), if_neg (by omega), if_neg (by omega), if_neg (by omega), if_neg (by omega), if_neg (by omega), if_neg (by omega), if_neg (by omega), if_neg (by omega), if_neg (by omega), if_neg (by omega), if_neg (by omega), if_neg (by omega), if_neg (by omega), if_pos (by omega), if_neg (by omega), if_neg (by omega), if_neg (by omega), if_neg (by omega), if_neg (by omega), if_neg (by omega), if_neg (by omega), if_neg (by omega), if_neg (by omega), if_neg (by omega), if_neg (by omega), if_neg (by omega), if_neg (by omega), if_neg (by omega), if_neg (by omega), if_neg (by omega), if_neg (by omega), if_neg (by omega), if_neg (by omega), if_neg (by omega), if_neg (by omega), if_neg (by omega), if_neg (by omega), if_neg (by omega), if_neg (by omega), if_neg (by omega), if_neg (by omega), if_neg (by omega), if_neg (by omega), if_neg (by omega), if_neg (by omega), if_neg (by omega), if_pos (by omega), if_neg (by omega), if_neg (by omega), if_neg (by omega), if_neg (by omega), if_neg (by omega), if_neg (by omega), if_neg (by omega), if_neg (by omega), if_neg (by omega), if_neg (by omega), if_neg (by omega), if_neg (by omega), if_neg (by omega), if_neg (by omega), if_neg (by omega), if_neg (by omega), if_neg (by omega), if_neg (by omega)]
  exact ⟨ti_lo _, ti_hi _⟩
theorem rx_mkept_498 {v : Int32} {k j : Nat} (h1 : 403 ≤ k) (h2 : k ≤ 403) (h3 : 498 ≤ j) (h4 : j ≤ 513) : rlo k j ≤ v.toInt ∧ v.toInt ≤ rhi k j := by
  unfold rlo rhi
  rw [if_neg (by omega), if_neg (by omega), if_neg (by omega), if_neg (by omega), if_neg (by omega), if_neg (by omega), if_neg (by omega), if_neg (by omega), if_neg (by omega), if_neg (by omega), if_neg (by omega), if_neg (by omega), if_neg (by omega), if_neg (by omega), if_pos (by omega), if_neg (by omega), if_neg (by omega), if_neg (by omega), if_neg (by omega), if_neg (by omega), if_neg (by omega), if_neg (by omega), if_neg (by omega), if_neg (by omega), if_neg (by omega), if_neg (by omega), if_neg (by omega), if_neg (by omega), if_neg (by omega), if_neg (by omega), if_neg (by omega), if_neg (by omega), if_neg (by omega), if_neg (by omega), if_neg (by omega), if_neg (by omega), if_neg (by omega), if_neg (by omega), if_neg (by omega), if_neg (by omega), if_neg (by omega), if_neg (by omega), if_neg (by omega), if_neg (by omega), if_neg (by omega), if_neg (by omega), if_neg (by omega), if_pos (by omega), if_neg (by omega), if_neg (by omega), if_neg (by omega), if_neg (by omega), if_neg (by omega), if_neg (by omega), if_neg (by omega), if_neg (by omega), if_neg (by omega), if_neg (by omega), if_neg (by omega), if_neg (by omega), if_neg (by omega), if_neg (by omega), if_neg (by omega), if_neg (by omega), if_neg (by omega), if_neg (by omega)]
  exact ⟨ti_lo _, ti_hi _⟩
theorem rx_mkept_518 {v : Int32} {k j : Nat} (h1 : 403 ≤ k) (h2 : k ≤ 403) (h3 : 518 ≤ j) (h4 : j ≤ 638) : rlo k j ≤ v.toInt ∧ v.toInt ≤ rhi k j := by
  unfold rlo rhi
  rw [if_neg (by omega), if_neg (by omega), if_neg (by omega), if_neg (by omega), if_neg (by omega), if_neg (by omega), if_neg (by omega), if_neg (by omega), if_neg (by omega), if_neg (by omega), if_neg (by omega), if_neg (by omega), if_neg (by omega), if_neg (by omega), if_pos (by omega), if_neg (by omega), if_neg (by omega), if_neg (by omega), if_neg (by omega), if_neg (by omega), if_neg (by omega), if_neg (by omega), if_neg (by omega), if_neg (by omega), if_neg (by omega), if_neg (by omega), if_neg (by omega), if_neg (by omega), if_neg (by omega), if_neg (by omega), if_neg (by omega), if_neg (by omega), if_neg (by omega), if_neg (by omega), if_neg (by omega), if_neg (by omega), if_neg (by omega), if_neg (by omega), if_neg (by omega), if_neg (by omega), if_neg (by omega), if_neg (by omega), if_neg (by omega), if_neg (by omega), if_neg (by omega), if_neg (by omega), if_neg (by omega), if_pos (by omega), if_neg (by omega), if_neg (by omega), if_neg (by omega), if_neg (by omega), if_neg (by omega), if_neg (by omega), if_neg (by omega), if_neg (by omega), if_neg (by omega), if_neg (by omega), if_neg (by omega), if_neg (by omega), if_neg (by omega), if_neg (by omega), if_neg (by omega), if_neg (by omega), if_neg (by omega), if_neg (by omega)]
  exact ⟨ti_lo _, ti_hi _⟩
theorem rx_mkept_640 {v : Int32} {k j : Nat} (h1 : 403 ≤ k) (h2 : k ≤ 403) (h3 : 640 ≤ j) (h4 : j ≤ 640) : rlo k j ≤ v.toInt ∧ v.toInt ≤ rhi k j := by
  unfold rlo rhi
  rw [if_neg (by omega), if_neg (by omega), if_neg (by omega), if_neg (by omega), if_neg (by omega), if_neg (by omega), if_neg (by omega), if_neg (by omega), if_neg (by omega), if_neg (by omega), if_neg (by omega), if_neg (by omega), if_neg (by omega), if_neg (by omega), if_pos (by omega), if_neg (by omega), if_neg (by omega), if_neg (by omega), if_neg (by omega), if_neg (by omega), if_neg (by omega), if_neg (by omega), if_neg (by omega), if_neg (by omega), if_neg (by omega), if_neg (by omega), if_neg (by omega), if_neg (by omega), if_neg (by omega), if_neg (by omega), if_neg (by omega), if_neg (by omega), if_neg (by omega), if_neg (by omega), if_neg (by omega), if_neg (by omega), if_neg (by omega), if_neg (by omega), if_neg (by omega), if_neg (by omega), if_neg (by omega), if_neg (by omega), if_neg (by omega), if_neg (by omega), if_neg (by omega), if_neg (by omega), if_neg (by omega), if_pos (by omega), if_neg (by omega), if_neg (by omega), if_neg (by omega), if_neg (by omega), if_neg (by omega), if_neg (by omega), if_neg (by omega), if_neg (by omega), if_neg (by omega), if_neg (by omega), if_neg (by omega), if_neg (by omega), if_neg (by omega), if_neg (by omega), if_neg (by omega), if_neg (by omega), if_neg (by omega), if_neg (by omega)]
  exact ⟨ti_lo _, ti_hi _⟩
theorem rx_mkept_649 {v : Int32} {k j : Nat} (h1 : 403 ≤ k) (h2 : k ≤ 403) (h3 : 649 ≤ j) (h4 : j ≤ 656) : rlo k j ≤ v.toInt ∧ v.toInt ≤ rhi k j := by
  unfold rlo rhi
  rw [if_neg (by omega), if_neg (by omega), if_neg (by omega), if_neg (by omega), if_neg (by omega), if_neg (by omega), if_neg (by omega), if_neg (by omega), if_neg (by omega), if_neg (by omega), if_neg (by omega), if_neg (by omega), if_neg (by omega), if_neg (by omega), if_pos (by omega), if_neg (by omega), if_neg (by omega), if_neg (by omega), if_neg (by omega), if_neg (by omega), if_neg (by omega), if_neg (by omega), if_neg (by omega), if_neg (by omega), if_neg (by omega), if_neg (by omega), if_neg (by omega), if_neg (by omega), if_neg (by omega), if_neg (by omega), if_neg (by omega), if_neg (by omega), if_neg (by omega), if_neg (by omega), if_neg (by omega), if_neg (by omega), if_neg (by omega), if_neg (by omega), if_neg (by omega), if_neg (by omega), if_neg (by omega), if_neg (by omega), if_neg (by omega), if_neg (by omega), if_neg (by omega), if_neg (by omega), if_neg (by omega), if_pos (by omega), if_neg (by omega), if_neg (by omega), if_neg (by omega), if_neg (by omega), if_neg (by omega), if_neg (by omega), if_neg (by omega), if_neg (by omega), if_neg (by omega), if_neg (by omega), if_neg (by omega), if_neg (by omega), if_neg (by omega), if_neg (by omega), if_neg (by omega), if_neg (by omega), if_neg (by omega), if_neg (by omega)]
  exact ⟨ti_lo _, ti_hi _⟩
theorem rx_mkept_665 {v : Int32} {k j : Nat} (h1 : 403 ≤ k) (h2 : k ≤ 403) (h3 : 665 ≤ j) (h4 : j ≤ 672) : rlo k j ≤ v.toInt ∧ v.toInt ≤ rhi k j := by
  unfold rlo rhi
  rw [if_neg (by omega), if_neg (by omega), if_neg (by omega), if_neg (by omega), if_neg (by omega), if_neg (by omega), if_neg (by omega), if_neg (by omega), if_neg (by omega), if_neg (by omega), if_neg (by omega), if_neg (by omega), if_neg (by omega), if_neg (by omega), if_pos (by omega), if_neg (by omega), if_neg (by omega), if_neg (by omega), if_neg (by omega), if_neg (by omega), if_neg (by omega), if_neg (by omega), if_neg (by omega), if_neg (by omega), if_neg (by omega), if_neg (by omega), if_neg (by omega), if_neg (by omega), if_neg (by omega), if_neg (by omega), if_neg (by omega), if_neg (by omega), if_neg (by omega), if_neg (by omega), if_neg (by omega), if_neg (by omega), if_neg (by omega), if_neg (by omega), if_neg (by omega), if_neg (by omega), if_neg (by omega), if_neg (by omega), if_neg (by omega), if_neg (by omega), if_neg (by omega), if_neg (by omega), if_neg (by omega), if_pos (by omega), if_neg (by omega), if_neg (by omega), if_neg (by omega), if_neg (by omega), if_neg (by omega), if_neg (by omega), if_neg (by omega), if_neg (by omega), if_neg (by omega), if_neg (by omega), if_neg (by omega), if_neg (by omega), if_neg (by omega), if_neg (by omega), if_neg (by omega), if_neg (by omega), if_neg (by omega), if_neg (by omega)]
  exact ⟨ti_lo _, ti_hi _⟩
theorem rx_mkept_674 {v : Int32} {k j : Nat} (h1 : 403 ≤ k) (h2 : k ≤ 403) (h3 : 674 ≤ j) (h4 : j ≤ 853) : rlo k j ≤ v.toInt ∧ v.toInt ≤ rhi k j := by
  unfold rlo rhi
  rw [if_neg (by omega), if_neg (by omega), if_neg (by omega), if_neg (by omega), if_neg (by omega), if_neg (by omega), if_neg (by omega), if_neg (by omega), if_neg (by omega), if_neg (by omega), if_neg (by omega), if_neg (by omega), if_neg (by omega), if_neg (by omega), if_pos (by omega), if_neg (by omega), if_neg (by omega), if_neg (by omega), if_neg (by omega), if_neg (by omega), if_neg (by omega), if_neg (by omega), if_neg (by omega), if_neg (by omega), if_neg (by omega), if_neg (by omega), if_neg (by omega), if_neg (by omega), if_neg (by omega), if_neg (by omega), if_neg (by omega), if_neg (by omega), if_neg (by omega), if_neg (by omega), if_neg (by omega), if_neg (by omega), if_neg (by omega), if_neg (by omega), if_neg (by omega), if_neg (by omega), if_neg (by omega), if_neg (by omega), if_neg (by omega), if_neg (by omega), if_neg (by omega), if_neg (by omega), if_neg (by omega), if_pos (by omega), if_neg (by omega), if_neg (by omega), if_neg (by omega), if_neg (by omega), if_neg (by omega), if_neg (by omega), if_neg (by omega), if_neg (by omega), if_neg (by omega), if_neg (by omega), if_neg (by omega), if_neg (by omega), if_neg (by omega), if_neg (by omega), if_neg (by omega), if_neg (by omega), if_neg (by omega), if_neg (by omega)]
  exact ⟨ti_lo _, ti_hi _⟩
theorem rl_flightR {k : Nat} (h1 : 132 ≤ k) (h2 : k ≤ 147) (j : Nat) : rlo k j = (if 2 ≤ j ∧ j ≤ 2 then 0 else -2147483648) := by
  unfold rlo
  rw [if_neg (by omega), if_neg (by omega), if_neg (by omega), if_neg (by omega), if_neg (by omega), if_neg (by omega), if_neg (by omega), if_neg (by omega), if_pos (by omega)]
theorem rh_flightR {k : Nat} (h1 : 132 ≤ k) (h2 : k ≤ 147) (j : Nat) : rhi k j = (if 2 ≤ j ∧ j ≤ 2 then 10 else 2147483647) := by
  unfold rhi
  rw [if_neg (by omega), if_neg (by omega), if_neg (by omega), if_neg (by omega), if_neg (by omega), if_neg (by omega), if_neg (by omega), if_neg (by omega), if_pos (by omega)]
theorem cp_vnames (hx : p.tables.exec = Jvm.exec) (hb : c.code = cc) (hml : c.maxLocals = ls.size) {own : String} {index : Nat} (hown : s.vm.findClass own = some m.cls) (hlink : (Cond.methodLink own index arraycopyName).before args s = true) (hnat : (Cond.native arraycopyName).before args s = true) (hstat : (Cond.static arraycopyName).before args s = true) (hini : (Cond.initialized "java/lang/System").before args s = true) (hK : va_K D vwCl (tys cA) s) (hP : va_P D vwCl (gw cA ad σ τ) H) (hI : Inj ad) (hS : va_S (AA ad) H0 H locs) {k q : Nat} (h1 : 40 ≤ k) (h2 : k ≤ 47) (h3 : 40 ≤ q) (h4 : q ≤ 47) {sp dp n : Int32} (e1 : sp.toInt = 0) (e2 : dp.toInt = 0) (e3 : n.toInt = 8) (hf : 1 ≤ R.frames) (hlo : (rest.map fun v => v.category).sum + (nativeFrameWords "java/lang/System" "arraycopy" 5 + 11) ≤ R.locals) (hd : decode cc pc = .ok (.invokestatic index, 3)) (kk : ∀ (τ1 : Nat → Nat → Int64) (H1 : Heap) (locs1 : List Loc), va_P D vwCl (gw cA ad σ τ1) H1 → va_S (AA ad) H0 H1 locs1 → W p l e R s m args below meth c H1 locs1 cells slots Q (F0 m (pc + 3) ls rest)) : W p l e R s m args below meth c H locs cells slots Q (F0 m pc ls (.int n :: .int dp :: .ref (ad k) :: .int sp :: .ref (ad q) :: rest)) := by
  have n1 : ¬ sp < 0 := by rw [Int32.lt_iff_toInt_lt, Int32.toInt_zero]; omega
  have n2 : ¬ dp < 0 := by rw [Int32.lt_iff_toInt_lt, Int32.toInt_zero]; omega
  have n3 : ¬ n < 0 := by rw [Int32.lt_iff_toInt_lt, Int32.toInt_zero]; omega
  have c1 : sp.toNatClampNeg = 0 := ti_cl e1
  have c2 : dp.toNatClampNeg = 0 := ti_cl e2
  have c3 : n.toNatClampNeg = 8 := ti_cl e3
  refine va_copyl hx hb hml hown hlink hnat hstat hini hK hP (gw_D hI) hS q k 3 3 (cl_vnames h3 h4) (cl_vnames h1 h2) rfl rfl rfl n1 n2 n3 (by omega) (by omega) (fun _ _ => rfl) hf hlo hd (fun H1 locs1 hP1 _ hS1 => kk (urL τ k (va_cpy (τ q) (τ k) 0 0 8)) H1 locs1 ?_ hS1)
  rw [c1, c2, c3] at hP1
  rw [← gw_setl (cA := cA) (ad := ad) (σ := σ) (τ := τ) (k := k) (g := va_cpy (τ q) (τ k) 0 0 8) (gc_vnames h1 h2)]
  exact hP1
theorem cp_echo (hx : p.tables.exec = Jvm.exec) (hb : c.code = cc) (hml : c.maxLocals = ls.size) {own : String} {index : Nat} (hown : s.vm.findClass own = some m.cls) (hlink : (Cond.methodLink own index arraycopyName).before args s = true) (hnat : (Cond.native arraycopyName).before args s = true) (hstat : (Cond.static arraycopyName).before args s = true) (hini : (Cond.initialized "java/lang/System").before args s = true) (hK : va_K D vwCl (tys cA) s) (hP : va_P D vwCl (gw cA ad σ τ) H) (hI : Inj ad) (hR : Rg σ) (hS : va_S (AA ad) H0 H locs) {k q : Nat} (h1 : 64 ≤ k) (h2 : k ≤ 67) (h3 : 64 ≤ q) (h4 : q ≤ 67) {sp dp n : Int32} (e1 : sp.toInt = 0) (e2 : dp.toInt = 0) (e3 : n.toInt = 8) (hf : 1 ≤ R.frames) (hlo : (rest.map fun v => v.category).sum + (nativeFrameWords "java/lang/System" "arraycopy" 5 + 11) ≤ R.locals) (hd : decode cc pc = .ok (.invokestatic index, 3)) (kk : ∀ (σ1 : Nat → Nat → Int32) (H1 : Heap) (locs1 : List Loc), RowN σ σ1 k 8 → Rg σ1 → va_P D vwCl (gw cA ad σ1 τ) H1 → va_S (AA ad) H0 H1 locs1 → W p l e R s m args below meth c H1 locs1 cells slots Q (F0 m (pc + 3) ls rest)) : W p l e R s m args below meth c H locs cells slots Q (F0 m pc ls (.int n :: .int dp :: .ref (ad k) :: .int sp :: .ref (ad q) :: rest)) := by
  have n1 : ¬ sp < 0 := by rw [Int32.lt_iff_toInt_lt, Int32.toInt_zero]; omega
  have n2 : ¬ dp < 0 := by rw [Int32.lt_iff_toInt_lt, Int32.toInt_zero]; omega
  have n3 : ¬ n < 0 := by rw [Int32.lt_iff_toInt_lt, Int32.toInt_zero]; omega
  have c1 : sp.toNatClampNeg = 0 := ti_cl e1
  have c2 : dp.toNatClampNeg = 0 := ti_cl e2
  have c3 : n.toNatClampNeg = 8 := ti_cl e3
  refine va_copyi hx hb hml hown hlink hnat hstat hini hK hP (gw_D hI) hS q k 0 0 (cl_echo h3 h4) (cl_echo h1 h2) rfl rfl rfl n1 n2 n3 (by omega) (by omega) (fun _ _ => rfl) hf hlo hd (fun H1 locs1 hP1 _ hS1 => kk (ur σ k (va_cpy (σ q) (σ k) 0 0 8)) H1 locs1 (fun k2 j2 h => ?_) (hR.row fun j => ?_) ?_ hS1)
  · by_cases ek : k2 = k
    · subst ek
      rw [ur_self]
      unfold va_cpy
      rw [if_neg (by rcases h with h | h <;> omega)]
    · rw [ur_ne _ _ ek]
  · unfold va_cpy
    split
    · have h := hR q (0 + (j - 0))
      have ej : 0 + (j - 0) = j := by omega
      rw [ej] at h ⊢
      unfold rlo rhi
      repeat (first | rw [if_pos (by omega)] | rw [if_neg (by omega)])
      exact ⟨ti_lo _, ti_hi _⟩
    · exact hR k j
  · rw [c1, c2, c3] at hP1
    rw [← gw_seti (cA := cA) (ad := ad) (σ := σ) (τ := τ) (k := k) (f := va_cpy (σ q) (σ k) 0 0 8) (gc_echo h1 h2)]
    exact hP1
theorem cp_hillR (hx : p.tables.exec = Jvm.exec) (hb : c.code = cc) (hml : c.maxLocals = ls.size) {own : String} {index : Nat} (hown : s.vm.findClass own = some m.cls) (hlink : (Cond.methodLink own index arraycopyName).before args s = true) (hnat : (Cond.native arraycopyName).before args s = true) (hstat : (Cond.static arraycopyName).before args s = true) (hini : (Cond.initialized "java/lang/System").before args s = true) (hK : va_K D vwCl (tys cA) s) (hP : va_P D vwCl (gw cA ad σ τ) H) (hI : Inj ad) (hR : Rg σ) (hS : va_S (AA ad) H0 H locs) {k q : Nat} (h1 : 68 ≤ k) (h2 : k ≤ 99) (h3 : 68 ≤ q) (h4 : q ≤ 99) {sp dp n : Int32} (e1 : sp.toInt = 0) (e2 : dp.toInt = 0) (e3 : n.toInt = 3) (hf : 1 ≤ R.frames) (hlo : (rest.map fun v => v.category).sum + (nativeFrameWords "java/lang/System" "arraycopy" 5 + 11) ≤ R.locals) (hd : decode cc pc = .ok (.invokestatic index, 3)) (kk : ∀ (σ1 : Nat → Nat → Int32) (H1 : Heap) (locs1 : List Loc), RowN σ σ1 k 3 → Rg σ1 → va_P D vwCl (gw cA ad σ1 τ) H1 → va_S (AA ad) H0 H1 locs1 → W p l e R s m args below meth c H1 locs1 cells slots Q (F0 m (pc + 3) ls rest)) : W p l e R s m args below meth c H locs cells slots Q (F0 m pc ls (.int n :: .int dp :: .ref (ad k) :: .int sp :: .ref (ad q) :: rest)) := by
  have n1 : ¬ sp < 0 := by rw [Int32.lt_iff_toInt_lt, Int32.toInt_zero]; omega
  have n2 : ¬ dp < 0 := by rw [Int32.lt_iff_toInt_lt, Int32.toInt_zero]; omega
  have n3 : ¬ n < 0 := by rw [Int32.lt_iff_toInt_lt, Int32.toInt_zero]; omega
  have c1 : sp.toNatClampNeg = 0 := ti_cl e1
  have c2 : dp.toNatClampNeg = 0 := ti_cl e2
  have c3 : n.toNatClampNeg = 3 := ti_cl e3
  refine va_copyi hx hb hml hown hlink hnat hstat hini hK hP (gw_D hI) hS q k 0 0 (cl_hillR h3 h4) (cl_hillR h1 h2) rfl rfl rfl n1 n2 n3 (by omega) (by omega) (fun _ _ => rfl) hf hlo hd (fun H1 locs1 hP1 _ hS1 => kk (ur σ k (va_cpy (σ q) (σ k) 0 0 3)) H1 locs1 (fun k2 j2 h => ?_) (hR.row fun j => ?_) ?_ hS1)
  · by_cases ek : k2 = k
    · subst ek
      rw [ur_self]
      unfold va_cpy
      rw [if_neg (by rcases h with h | h <;> omega)]
    · rw [ur_ne _ _ ek]
  · unfold va_cpy
    split
    · have h := hR q (0 + (j - 0))
      have ej : 0 + (j - 0) = j := by omega
      rw [ej] at h ⊢
      unfold rlo rhi
      repeat (first | rw [if_pos (by omega)] | rw [if_neg (by omega)])
      exact ⟨ti_lo _, ti_hi _⟩
    · exact hR k j
  · rw [c1, c2, c3] at hP1
    rw [← gw_seti (cA := cA) (ad := ad) (σ := σ) (τ := τ) (k := k) (f := va_cpy (σ q) (σ k) 0 0 3) (gc_hillR h1 h2)]
    exact hP1
theorem cp_manR (hx : p.tables.exec = Jvm.exec) (hb : c.code = cc) (hml : c.maxLocals = ls.size) {own : String} {index : Nat} (hown : s.vm.findClass own = some m.cls) (hlink : (Cond.methodLink own index arraycopyName).before args s = true) (hnat : (Cond.native arraycopyName).before args s = true) (hstat : (Cond.static arraycopyName).before args s = true) (hini : (Cond.initialized "java/lang/System").before args s = true) (hK : va_K D vwCl (tys cA) s) (hP : va_P D vwCl (gw cA ad σ τ) H) (hI : Inj ad) (hR : Rg σ) (hS : va_S (AA ad) H0 H locs) {k q : Nat} (h1 : 100 ≤ k) (h2 : k ≤ 131) (h3 : 100 ≤ q) (h4 : q ≤ 131) {sp dp n : Int32} (e1 : sp.toInt = 0) (e2 : dp.toInt = 0) (e3 : n.toInt = 6) (hf : 1 ≤ R.frames) (hlo : (rest.map fun v => v.category).sum + (nativeFrameWords "java/lang/System" "arraycopy" 5 + 11) ≤ R.locals) (hd : decode cc pc = .ok (.invokestatic index, 3)) (kk : ∀ (σ1 : Nat → Nat → Int32) (H1 : Heap) (locs1 : List Loc), RowN σ σ1 k 6 → Rg σ1 → va_P D vwCl (gw cA ad σ1 τ) H1 → va_S (AA ad) H0 H1 locs1 → W p l e R s m args below meth c H1 locs1 cells slots Q (F0 m (pc + 3) ls rest)) : W p l e R s m args below meth c H locs cells slots Q (F0 m pc ls (.int n :: .int dp :: .ref (ad k) :: .int sp :: .ref (ad q) :: rest)) := by
  have n1 : ¬ sp < 0 := by rw [Int32.lt_iff_toInt_lt, Int32.toInt_zero]; omega
  have n2 : ¬ dp < 0 := by rw [Int32.lt_iff_toInt_lt, Int32.toInt_zero]; omega
  have n3 : ¬ n < 0 := by rw [Int32.lt_iff_toInt_lt, Int32.toInt_zero]; omega
  have c1 : sp.toNatClampNeg = 0 := ti_cl e1
  have c2 : dp.toNatClampNeg = 0 := ti_cl e2
  have c3 : n.toNatClampNeg = 6 := ti_cl e3
  refine va_copyi hx hb hml hown hlink hnat hstat hini hK hP (gw_D hI) hS q k 0 0 (cl_manR h3 h4) (cl_manR h1 h2) rfl rfl rfl n1 n2 n3 (by omega) (by omega) (fun _ _ => rfl) hf hlo hd (fun H1 locs1 hP1 _ hS1 => kk (ur σ k (va_cpy (σ q) (σ k) 0 0 6)) H1 locs1 (fun k2 j2 h => ?_) (hR.row fun j => ?_) ?_ hS1)
  · by_cases ek : k2 = k
    · subst ek
      rw [ur_self]
      unfold va_cpy
      rw [if_neg (by rcases h with h | h <;> omega)]
    · rw [ur_ne _ _ ek]
  · unfold va_cpy
    split
    · have h := hR q (0 + (j - 0))
      have ej : 0 + (j - 0) = j := by omega
      rw [ej] at h ⊢
      unfold rlo rhi
      repeat (first | rw [if_pos (by omega)] | rw [if_neg (by omega)])
      exact ⟨ti_lo _, ti_hi _⟩
    · exact hR k j
  · rw [c1, c2, c3] at hP1
    rw [← gw_seti (cA := cA) (ad := ad) (σ := σ) (τ := τ) (k := k) (f := va_cpy (σ q) (σ k) 0 0 6) (gc_manR h1 h2)]
    exact hP1
theorem cp_flightR (hx : p.tables.exec = Jvm.exec) (hb : c.code = cc) (hml : c.maxLocals = ls.size) {own : String} {index : Nat} (hown : s.vm.findClass own = some m.cls) (hlink : (Cond.methodLink own index arraycopyName).before args s = true) (hnat : (Cond.native arraycopyName).before args s = true) (hstat : (Cond.static arraycopyName).before args s = true) (hini : (Cond.initialized "java/lang/System").before args s = true) (hK : va_K D vwCl (tys cA) s) (hP : va_P D vwCl (gw cA ad σ τ) H) (hI : Inj ad) (hR : Rg σ) (hS : va_S (AA ad) H0 H locs) {k q : Nat} (h1 : 132 ≤ k) (h2 : k ≤ 147) (h3 : 132 ≤ q) (h4 : q ≤ 147) {sp dp n : Int32} (e1 : sp.toInt = 0) (e2 : dp.toInt = 0) (e3 : n.toInt = 3) (hf : 1 ≤ R.frames) (hlo : (rest.map fun v => v.category).sum + (nativeFrameWords "java/lang/System" "arraycopy" 5 + 11) ≤ R.locals) (hd : decode cc pc = .ok (.invokestatic index, 3)) (kk : ∀ (σ1 : Nat → Nat → Int32) (H1 : Heap) (locs1 : List Loc), RowN σ σ1 k 3 → Rg σ1 → va_P D vwCl (gw cA ad σ1 τ) H1 → va_S (AA ad) H0 H1 locs1 → W p l e R s m args below meth c H1 locs1 cells slots Q (F0 m (pc + 3) ls rest)) : W p l e R s m args below meth c H locs cells slots Q (F0 m pc ls (.int n :: .int dp :: .ref (ad k) :: .int sp :: .ref (ad q) :: rest)) := by
  have n1 : ¬ sp < 0 := by rw [Int32.lt_iff_toInt_lt, Int32.toInt_zero]; omega
  have n2 : ¬ dp < 0 := by rw [Int32.lt_iff_toInt_lt, Int32.toInt_zero]; omega
  have n3 : ¬ n < 0 := by rw [Int32.lt_iff_toInt_lt, Int32.toInt_zero]; omega
  have c1 : sp.toNatClampNeg = 0 := ti_cl e1
  have c2 : dp.toNatClampNeg = 0 := ti_cl e2
  have c3 : n.toNatClampNeg = 3 := ti_cl e3
  refine va_copyi hx hb hml hown hlink hnat hstat hini hK hP (gw_D hI) hS q k 0 0 (cl_flightR h3 h4) (cl_flightR h1 h2) rfl rfl rfl n1 n2 n3 (by omega) (by omega) (fun _ _ => rfl) hf hlo hd (fun H1 locs1 hP1 _ hS1 => kk (ur σ k (va_cpy (σ q) (σ k) 0 0 3)) H1 locs1 (fun k2 j2 h => ?_) (hR.row fun j => ?_) ?_ hS1)
  · by_cases ek : k2 = k
    · subst ek
      rw [ur_self]
      unfold va_cpy
      rw [if_neg (by rcases h with h | h <;> omega)]
    · rw [ur_ne _ _ ek]
  · unfold va_cpy
    split
    · have h := hR q (0 + (j - 0))
      have ej : 0 + (j - 0) = j := by omega
      rw [ej] at h ⊢
      rw [rl_flightR h3 h4, rh_flightR h3 h4] at h
      rw [rl_flightR h1 h2, rh_flightR h1 h2]
      exact h
    · exact hR k j
  · rw [c1, c2, c3] at hP1
    rw [← gw_seti (cA := cA) (ad := ad) (σ := σ) (τ := τ) (k := k) (f := va_cpy (σ q) (σ k) 0 0 3) (gc_flightR h1 h2)]
    exact hP1
theorem cp_callR (hx : p.tables.exec = Jvm.exec) (hb : c.code = cc) (hml : c.maxLocals = ls.size) {own : String} {index : Nat} (hown : s.vm.findClass own = some m.cls) (hlink : (Cond.methodLink own index arraycopyName).before args s = true) (hnat : (Cond.native arraycopyName).before args s = true) (hstat : (Cond.static arraycopyName).before args s = true) (hini : (Cond.initialized "java/lang/System").before args s = true) (hK : va_K D vwCl (tys cA) s) (hP : va_P D vwCl (gw cA ad σ τ) H) (hI : Inj ad) (hR : Rg σ) (hS : va_S (AA ad) H0 H locs) {k q : Nat} (h1 : 148 ≤ k) (h2 : k ≤ 307) (h3 : 148 ≤ q) (h4 : q ≤ 307) {sp dp n : Int32} (e1 : sp.toInt = 0) (e2 : dp.toInt = 0) (e3 : n.toInt = 3) (hf : 1 ≤ R.frames) (hlo : (rest.map fun v => v.category).sum + (nativeFrameWords "java/lang/System" "arraycopy" 5 + 11) ≤ R.locals) (hd : decode cc pc = .ok (.invokestatic index, 3)) (kk : ∀ (σ1 : Nat → Nat → Int32) (H1 : Heap) (locs1 : List Loc), RowN σ σ1 k 3 → Rg σ1 → va_P D vwCl (gw cA ad σ1 τ) H1 → va_S (AA ad) H0 H1 locs1 → W p l e R s m args below meth c H1 locs1 cells slots Q (F0 m (pc + 3) ls rest)) : W p l e R s m args below meth c H locs cells slots Q (F0 m pc ls (.int n :: .int dp :: .ref (ad k) :: .int sp :: .ref (ad q) :: rest)) := by
  have n1 : ¬ sp < 0 := by rw [Int32.lt_iff_toInt_lt, Int32.toInt_zero]; omega
  have n2 : ¬ dp < 0 := by rw [Int32.lt_iff_toInt_lt, Int32.toInt_zero]; omega
  have n3 : ¬ n < 0 := by rw [Int32.lt_iff_toInt_lt, Int32.toInt_zero]; omega
  have c1 : sp.toNatClampNeg = 0 := ti_cl e1
  have c2 : dp.toNatClampNeg = 0 := ti_cl e2
  have c3 : n.toNatClampNeg = 3 := ti_cl e3
  refine va_copyi hx hb hml hown hlink hnat hstat hini hK hP (gw_D hI) hS q k 0 0 (cl_callR h3 h4) (cl_callR h1 h2) rfl rfl rfl n1 n2 n3 (by omega) (by omega) (fun _ _ => rfl) hf hlo hd (fun H1 locs1 hP1 _ hS1 => kk (ur σ k (va_cpy (σ q) (σ k) 0 0 3)) H1 locs1 (fun k2 j2 h => ?_) (hR.row fun j => ?_) ?_ hS1)
  · by_cases ek : k2 = k
    · subst ek
      rw [ur_self]
      unfold va_cpy
      rw [if_neg (by rcases h with h | h <;> omega)]
    · rw [ur_ne _ _ ek]
  · unfold va_cpy
    split
    · have h := hR q (0 + (j - 0))
      have ej : 0 + (j - 0) = j := by omega
      rw [ej] at h ⊢
      unfold rlo rhi
      repeat (first | rw [if_pos (by omega)] | rw [if_neg (by omega)])
      exact ⟨ti_lo _, ti_hi _⟩
    · exact hR k j
  · rw [c1, c2, c3] at hP1
    rw [← gw_seti (cA := cA) (ad := ad) (σ := σ) (τ := τ) (k := k) (f := va_cpy (σ q) (σ k) 0 0 3) (gc_callR h1 h2)]
    exact hP1
theorem cp_days8 (hx : p.tables.exec = Jvm.exec) (hb : c.code = cc) (hml : c.maxLocals = ls.size) {own : String} {index : Nat} (hown : s.vm.findClass own = some m.cls) (hlink : (Cond.methodLink own index arraycopyName).before args s = true) (hnat : (Cond.native arraycopyName).before args s = true) (hstat : (Cond.static arraycopyName).before args s = true) (hini : (Cond.initialized "java/lang/System").before args s = true) (hK : va_K D vwCl (tys cA) s) (hP : va_P D vwCl (gw cA ad σ τ) H) (hI : Inj ad) (hR : Rg σ) (hS : va_S (AA ad) H0 H locs) {k q : Nat} (h1 : 308 ≤ k) (h2 : k ≤ 359) (h3 : 308 ≤ q) (h4 : q ≤ 359) {sp dp n : Int32} (e1 : sp.toInt = 0) (e2 : dp.toInt = 0) (e3 : n.toInt = 8) (hf : 1 ≤ R.frames) (hlo : (rest.map fun v => v.category).sum + (nativeFrameWords "java/lang/System" "arraycopy" 5 + 11) ≤ R.locals) (hd : decode cc pc = .ok (.invokestatic index, 3)) (kk : ∀ (σ1 : Nat → Nat → Int32) (H1 : Heap) (locs1 : List Loc), RowN σ σ1 k 8 → Rg σ1 → va_P D vwCl (gw cA ad σ1 τ) H1 → va_S (AA ad) H0 H1 locs1 → W p l e R s m args below meth c H1 locs1 cells slots Q (F0 m (pc + 3) ls rest)) : W p l e R s m args below meth c H locs cells slots Q (F0 m pc ls (.int n :: .int dp :: .ref (ad k) :: .int sp :: .ref (ad q) :: rest)) := by
  have n1 : ¬ sp < 0 := by rw [Int32.lt_iff_toInt_lt, Int32.toInt_zero]; omega
  have n2 : ¬ dp < 0 := by rw [Int32.lt_iff_toInt_lt, Int32.toInt_zero]; omega
  have n3 : ¬ n < 0 := by rw [Int32.lt_iff_toInt_lt, Int32.toInt_zero]; omega
  have c1 : sp.toNatClampNeg = 0 := ti_cl e1
  have c2 : dp.toNatClampNeg = 0 := ti_cl e2
  have c3 : n.toNatClampNeg = 8 := ti_cl e3
  refine va_copyi hx hb hml hown hlink hnat hstat hini hK hP (gw_D hI) hS q k 0 0 (cl_days8 h3 h4) (cl_days8 h1 h2) rfl rfl rfl n1 n2 n3 (by omega) (by omega) (fun _ _ => rfl) hf hlo hd (fun H1 locs1 hP1 _ hS1 => kk (ur σ k (va_cpy (σ q) (σ k) 0 0 8)) H1 locs1 (fun k2 j2 h => ?_) (hR.row fun j => ?_) ?_ hS1)
  · by_cases ek : k2 = k
    · subst ek
      rw [ur_self]
      unfold va_cpy
      rw [if_neg (by rcases h with h | h <;> omega)]
    · rw [ur_ne _ _ ek]
  · unfold va_cpy
    split
    · have h := hR q (0 + (j - 0))
      have ej : 0 + (j - 0) = j := by omega
      rw [ej] at h ⊢
      unfold rlo rhi
      repeat (first | rw [if_pos (by omega)] | rw [if_neg (by omega)])
      exact ⟨ti_lo _, ti_hi _⟩
    · exact hR k j
  · rw [c1, c2, c3] at hP1
    rw [← gw_seti (cA := cA) (ad := ad) (σ := σ) (τ := τ) (k := k) (f := va_cpy (σ q) (σ k) 0 0 8) (gc_days8 h1 h2)]
    exact hP1
theorem cp_sent40 (hx : p.tables.exec = Jvm.exec) (hb : c.code = cc) (hml : c.maxLocals = ls.size) {own : String} {index : Nat} (hown : s.vm.findClass own = some m.cls) (hlink : (Cond.methodLink own index arraycopyName).before args s = true) (hnat : (Cond.native arraycopyName).before args s = true) (hstat : (Cond.static arraycopyName).before args s = true) (hini : (Cond.initialized "java/lang/System").before args s = true) (hK : va_K D vwCl (tys cA) s) (hP : va_P D vwCl (gw cA ad σ τ) H) (hI : Inj ad) (hR : Rg σ) (hS : va_S (AA ad) H0 H locs) {k q : Nat} (h1 : 371 ≤ k) (h2 : k ≤ 386) (h3 : 371 ≤ q) (h4 : q ≤ 386) {sp dp n : Int32} (e1 : sp.toInt = 0) (e2 : dp.toInt = 0) (e3 : n.toInt = 40) (hf : 1 ≤ R.frames) (hlo : (rest.map fun v => v.category).sum + (nativeFrameWords "java/lang/System" "arraycopy" 5 + 11) ≤ R.locals) (hd : decode cc pc = .ok (.invokestatic index, 3)) (kk : ∀ (σ1 : Nat → Nat → Int32) (H1 : Heap) (locs1 : List Loc), RowN σ σ1 k 40 → Rg σ1 → va_P D vwCl (gw cA ad σ1 τ) H1 → va_S (AA ad) H0 H1 locs1 → W p l e R s m args below meth c H1 locs1 cells slots Q (F0 m (pc + 3) ls rest)) : W p l e R s m args below meth c H locs cells slots Q (F0 m pc ls (.int n :: .int dp :: .ref (ad k) :: .int sp :: .ref (ad q) :: rest)) := by
  have n1 : ¬ sp < 0 := by rw [Int32.lt_iff_toInt_lt, Int32.toInt_zero]; omega
  have n2 : ¬ dp < 0 := by rw [Int32.lt_iff_toInt_lt, Int32.toInt_zero]; omega
  have n3 : ¬ n < 0 := by rw [Int32.lt_iff_toInt_lt, Int32.toInt_zero]; omega
  have c1 : sp.toNatClampNeg = 0 := ti_cl e1
  have c2 : dp.toNatClampNeg = 0 := ti_cl e2
  have c3 : n.toNatClampNeg = 40 := ti_cl e3
  refine va_copyi hx hb hml hown hlink hnat hstat hini hK hP (gw_D hI) hS q k 0 0 (cl_sent40 h3 h4) (cl_sent40 h1 h2) rfl rfl rfl n1 n2 n3 (by omega) (by omega) (fun _ _ => rfl) hf hlo hd (fun H1 locs1 hP1 _ hS1 => kk (ur σ k (va_cpy (σ q) (σ k) 0 0 40)) H1 locs1 (fun k2 j2 h => ?_) (hR.row fun j => ?_) ?_ hS1)
  · by_cases ek : k2 = k
    · subst ek
      rw [ur_self]
      unfold va_cpy
      rw [if_neg (by rcases h with h | h <;> omega)]
    · rw [ur_ne _ _ ek]
  · unfold va_cpy
    split
    · have h := hR q (0 + (j - 0))
      have ej : 0 + (j - 0) = j := by omega
      rw [ej] at h ⊢
      unfold rlo rhi
      repeat (first | rw [if_pos (by omega)] | rw [if_neg (by omega)])
      exact ⟨ti_lo _, ti_hi _⟩
    · exact hR k j
  · rw [c1, c2, c3] at hP1
    rw [← gw_seti (cA := cA) (ad := ad) (σ := σ) (τ := τ) (k := k) (f := va_cpy (σ q) (σ k) 0 0 40) (gc_sent40 h1 h2)]
    exact hP1
end TM
def disRc (L G : List Rc) : Bool := L.all fun q => G.all fun r => decide (q.2.1 < r.1 ∨ r.2.1 < q.1 ∨ q.2.2.2 < r.2.2.1 ∨ r.2.2.2 < q.2.2.1)
theorem Fr.dis {L G : List Rc} {σ σ1 : Nat → Nat → Int32} (f : Fr L σ σ1) (hd : disRc L G = true) {k j : Nat} (hin : ∃ r ∈ G, inRc r k j) : σ1 k j = σ k j := by
  obtain ⟨r, hr, h1, h2, h3, h4⟩ := hin
  refine f k j fun q hq h => ?_
  have hd := of_decide_eq_true (List.all_eq_true.mp (List.all_eq_true.mp hd q hq) r hr)
  obtain ⟨g1, g2, g3, g4⟩ := h
  omega
theorem Up1.dis {G : List Rc} {σ σ1 : Nat → Nat → Int32} {k j : Nat} (u : Up1 σ σ1 k j) (hd : ∀ q ∈ G, ¬ inRc q k j) {k2 j2 : Nat} (hin : ∃ r ∈ G, inRc r k2 j2) : σ1 k2 j2 = σ k2 j2 := by
  obtain ⟨r, hr, h⟩ := hin
  refine u k2 j2 fun q => ?_
  obtain ⟨rfl, rfl⟩ := q
  exact hd r hr h
theorem outRc.dis {G : List Rc} {k j : Nat} (h : outRc G k j = true) : ∀ q ∈ G, ¬ inRc q k j := by
  intro q hq hin
  have hd := of_decide_eq_true (List.all_eq_true.mp h q hq)
  obtain ⟨h1, h2, h3, h4⟩ := hin
  omega
/-- a ROLL's lines: who acts is a MAN, whom he calls too -/
def RI (σ : Nat → Nat → Int32) : Prop := ∀ j : Nat, j < 40 → ((σ 368 j).toInt < 16 ∨ 18 < (σ 368 j).toInt ∨ (0 ≤ (σ 369 j).toInt ∧ (σ 369 j).toInt ≤ 7)) ∧ ((σ 368 j).toInt ≠ 18 ∨ (0 ≤ (σ 370 j).toInt ∧ (σ 370 j).toInt ≤ 7))
abbrev Gd_RI : List Rc := [(368, 370, 0, 39)]
theorem RI.eq {σ σ1 : Nat → Nat → Int32} (h : RI σ) (e : ∀ k j : Nat, (∃ r ∈ Gd_RI, inRc r k j) → σ1 k j = σ k j) : RI σ1 := by
  intro j hj
  have e1 := e 368 j ⟨_, List.mem_singleton.mpr rfl, by decide, by decide, Nat.zero_le _, by show j ≤ 39; omega⟩
  have e2 := e 369 j ⟨_, List.mem_singleton.mpr rfl, by decide, by decide, Nat.zero_le _, by show j ≤ 39; omega⟩
  have e3 := e 370 j ⟨_, List.mem_singleton.mpr rfl, by decide, by decide, Nat.zero_le _, by show j ≤ 39; omega⟩
  rw [e1, e2, e3]
  exact h j hj
theorem RI.fr {L : List Rc} {σ σ1 : Nat → Nat → Int32} (h : RI σ) (f : Fr L σ σ1) (hd : disRc L Gd_RI = true) : RI σ1 := h.eq fun _ _ => f.dis hd
theorem RI.put {σ σ1 : Nat → Nat → Int32} {k j : Nat} (h : RI σ) (u : Up1 σ σ1 k j) (hd : outRc Gd_RI k j = true) : RI σ1 := h.eq fun _ _ => u.dis (outRc.dis hd)
theorem RI.putV {σ σ1 : Nat → Nat → Int32} {k j : Nat} (h : RI σ) (u : Up1 σ σ1 k j) (hd : ∀ q ∈ Gd_RI, ¬ inRc q k j) : RI σ1 := h.eq fun _ _ => u.dis hd
theorem RI.note {σ σ1 σ2 σ3 : Nat → Nat → Int32} {j : Nat} {w m o : Int32} (h : RI σ) (u1 : Up1 σ σ1 368 j) (v1 : (σ1 368 j).toInt = w.toInt) (u2 : Up1 σ1 σ2 369 j) (v2 : (σ2 369 j).toInt = m.toInt) (u3 : Up1 σ2 σ3 370 j) (v3 : (σ3 370 j).toInt = o.toInt) (h1 : w.toInt < 16 ∨ 18 < w.toInt ∨ (0 ≤ m.toInt ∧ m.toInt ≤ 7)) (h2 : w.toInt ≠ 18 ∨ (0 ≤ o.toInt ∧ o.toInt ≤ 7)) : RI σ3 := by
  intro i hi
  by_cases e : i = j
  · subst e
    rw [u3 368 i (by omega), u2 368 i (by omega), v1, u3 369 i (by omega), v2, v3]
    exact ⟨h1, h2⟩
  · rw [u3 368 i (by omega), u2 368 i (by omega), u1 368 i (by omega), u3 369 i (by omega), u2 369 i (by omega), u1 369 i (by omega), u3 370 i (by omega), u2 370 i (by omega), u1 370 i (by omega)]
    exact h i hi
theorem RI.note3 {σ σ1 σ2 σ3 : Nat → Nat → Int32} {j j2 j3 : Nat} {w m o : Int32} (h : RI σ) (u1 : Up1 σ σ1 368 j) (v1 : (σ1 368 j).toInt = w.toInt) (u2 : Up1 σ1 σ2 369 j2) (v2 : (σ2 369 j2).toInt = m.toInt) (u3 : Up1 σ2 σ3 370 j3) (v3 : (σ3 370 j3).toInt = o.toInt) (e2 : j2 = j) (e3 : j3 = j) (h1 : w.toInt < 16 ∨ 18 < w.toInt ∨ (0 ≤ m.toInt ∧ m.toInt ≤ 7)) (h2 : w.toInt ≠ 18 ∨ (0 ≤ o.toInt ∧ o.toInt ≤ 7)) : RI σ3 := by
  subst e2
  subst e3
  exact h.note u1 v1 u2 v2 u3 v3 h1 h2
