/-! constructors: the cells that are made lie one behind the other from b on; g says what each is -/
def Ab (b : Nat) : Nat → Prop := fun q => b ≤ q
def upE (g : Nat → va_E) (k : Nat) (e : va_E) : Nat → va_E := fun q => if q = k then e else g q
theorem upE_at {g : Nat → va_E} {k : Nat} {e : va_E} : upE g k e k = e := if_pos rfl
theorem upE_ne {g : Nat → va_E} {k q : Nat} {e : va_E} (h : q ≠ k) : upE g k e q = g q := if_neg h
def mnE (g : Nat → va_E) (n N : Nat) (e z : va_E) : Nat → va_E := fun q => if q = n then e else if n < q ∧ q ≤ n + N then z else g q
theorem mnE_old {g : Nat → va_E} {n N q : Nat} {e z : va_E} (h : q < n) : mnE g n N e z q = g q := by
  unfold mnE
  rw [if_neg (by omega), if_neg (by omega)]
def Bk (D : va_G) (g : Nat → va_E) (b n : Nat) (H : Heap) : Prop := H.size = b + n ∧ ∀ k : Nat, k < n → va_at D vwCl (b + k, g k) H
def blk (g : Nat → va_E) (b n : Nat) : va_W := (List.range n).map (fun k => (b + k, g k))
theorem blk_get {g : Nat → va_E} {b n k : Nat} (h : k < n) : (blk g b n)[k]? = some (b + k, g k) := by
  unfold blk
  rw [List.getElem?_map, List.getElem?_range h]
  rfl
theorem blk_inv {g : Nat → va_E} {b n k : Nat} {q : Nat × va_E} (h : (blk g b n)[k]? = some q) : k < n ∧ q = (b + k, g k) := by
  have hk : k < n := by
    have h1 := (List.getElem?_eq_some_iff.mp h).1
    unfold blk at h1
    rw [List.length_map, List.length_range] at h1
    exact h1
  rw [blk_get hk] at h
  exact ⟨hk, (Option.some.inj h).symm⟩
theorem Bk.P {D : va_G} {g : Nat → va_E} {b n : Nat} {H : Heap} (h : Bk D g b n H) : va_P D vwCl (blk g b n) H := fun k q hq => by
  obtain ⟨h1, rfl⟩ := blk_inv hq
  exact h.2 k h1
theorem Bk.push {D : va_G} {g : Nat → va_E} {b n : Nat} {H H1 : Heap} {e : va_E} (h : Bk D g b n H) (z : H1.size = H.size + 1) (o : ∀ q : Nat, q < H.size → H1[q]? = H[q]?) (he : va_at D vwCl (H.size, e) H1) : Bk D (upE g n e) b (n + 1) H1 := by
  refine ⟨by rw [z, h.1]; omega, fun k hk => ?_⟩
  by_cases q : k = n
  · subst q
    rw [upE_at, ← h.1]
    exact he
  · rw [upE_ne q]
    exact (h.2 k (by omega)).kept (o (b + k) (by rw [h.1]; omega))
theorem Bk.upd {D : va_G} {g : Nat → va_E} {b n k0 : Nat} {H H1 : Heap} {e : va_E} (h : Bk D g b n H) (z : H1.size = H.size) (o : ∀ q : Nat, q ≠ b + k0 → H1[q]? = H[q]?) (he : va_at D vwCl (b + k0, e) H1) : Bk D (upE g k0 e) b n H1 := by
  refine ⟨by rw [z]; exact h.1, fun k hk => ?_⟩
  by_cases q : k = k0
  · subst q
    rw [upE_at]
    exact he
  · rw [upE_ne q]
    exact (h.2 k hk).kept (o (b + k) (by omega))
theorem Ab_S {b : Nat} {H0 H H1 : Heap} {locs : List Loc} (hS : va_S (Ab b) H0 H locs) (z : H.size ≤ H1.size) (o : ∀ q : Nat, q < H.size → H1[q]? = H[q]?) : va_S (Ab b) H0 H1 locs := ⟨Nat.le_trans hS.1 z, fun x h1 h2 => (o x (Nat.lt_of_lt_of_le h1 hS.1)).trans (hS.2.1 x h1 h2), hS.2.2⟩
def AOv (ty : FieldType) (U : State) : Prop := (Cond.arrayOver ty).before #[] U = true
theorem AOv.use {ty : FieldType} {A : Array Value} {U : State} (h : AOv ty U) : (Cond.arrayOver ty).before A U = true := h
theorem AOv.of {ty : FieldType} {A : Array Value} {U : State} (h : (Cond.arrayOver ty).before A U = true) : AOv ty U := h
theorem AOv.moved {ty : FieldType} {u U : State} (hvm : u.vm.Alike U.vm) (h : AOv ty u) : AOv ty U := by
  show (Cond.arrayOver ty).before #[] (u.setVm U.vm) = true
  rw [Cond.arrayOver_setVmC (args := #[]) hvm]
  exact h
def EX (U : State) : Prop := AOv (.object RX2) U ∧ AOv (.object RX4) U ∧ AOv (.array .int) U ∧ va_Nw (.methodLinkNest RX11 9 yX8_init "CuckooShares") U ∧ va_Nw (.methodLinkNest RX11 75 yX6_init "CuckooShares") U ∧ va_Nw (.methodLinkNest RX11 107 yX4_init "CuckooShares") U ∧ va_Nw (.methodLinkNest RX4 25 yX6_init "CuckooShares") U
theorem EX.warm {s U : State} (hW : s.WarmedH U.vm) (h : EX s) : EX U := ⟨h.1.moved hW.alike, h.2.1.moved hW.alike, h.2.2.1.moved hW.alike, va_Nw.warmM hW h.2.2.2.1, va_Nw.warmM hW h.2.2.2.2.1, va_Nw.warmM hW h.2.2.2.2.2.1, va_Nw.warmM hW h.2.2.2.2.2.2⟩
theorem EX.calls {U : State} {g : JFrame} {mk : MethodId} {a : Array Value} (h : EX U) : EX (U.calling g mk a) := ⟨h.1, h.2.1, h.2.2.1, va_Nw.same (u := U) (U := U.calling g mk a) rfl rfl h.2.2.2.1, va_Nw.same (u := U) (U := U.calling g mk a) rfl rfl h.2.2.2.2.1, va_Nw.same (u := U) (U := U.calling g mk a) rfl rfl h.2.2.2.2.2.1, va_Nw.same (u := U) (U := U.calling g mk a) rfl rfl h.2.2.2.2.2.2⟩
abbrev BkP (D : va_G) (cA : Nat → ClassId) (g : Nat → va_E) (b n : Nat) (av : List Value) : Array Value → State → Prop := va_Pc av (fun U => Bk D g b n U.heap ∧ va_K D vwCl (tys cA) U ∧ EX U)
abbrev BkQ (D : va_G) (g : Nat → va_E) (b n : Nat) : Array Value → State → Outcome → State → Prop := va_Qv (fun _ : Unit => True) (fun _ t => Bk D g b n t.heap) (Ab b)
section BK
variable {p : Program} {l : Launch} {e : Env} {R : Room} {s : State} {m : MethodId} {args : Array Value} {below : List Frame} {meth : Method} {c : Code} {H : Heap} {locs : List Loc} {cells slots : Nat} {Q : State → Prop}
variable {cc : ByteArray} {pc : Nat} {ls : Array Slot} {rest : List Value} {D : va_G} {cA : Nat → ClassId} {g : Nat → va_E} {b n : Nat} {H0 : Heap}
theorem bk_new (hexec : p.tables.exec = Jvm.exec) (hb : c.code = cc) {own C : String} {T : u_T} {N ci index : Nat} {Ts : List Cond} (hts : ∀ w ∈ Ts, w.before args s = true) (hin : ∀ w ∈ u_ws C T N, w ∈ Ts) (ty : Nat → FieldType) (hty : ∀ k, k < N → parseFieldDescriptor (T k).2.2.1 = some (ty k)) (hown : s.vm.findClass own = some m.cls) (hcl : (Cond.classLink own index C).before args s = true) (hinst : (Cond.instantiable C N).before args s = true) (hini : (Cond.initialized C).before args s = true)
    (hK : va_K D vwCl (tys cA) s) (hB : Bk D g b n H) (hS : va_S (Ab b) H0 H locs) (hc : vwCl[ci]? = some (C, T, N)) {fs : List Value} (hfs : ∀ j, j < N → defaultValue (ty j) = vp_V fs j) (hcells : cells + 1 ≤ R.cells) (hslots : slots + N ≤ R.slots) (hdg : decode cc pc = .ok (.new index, 3))
    (kk : ∀ (H1 : Heap), Bk D (upE g n (.inr (ci, fs))) b (n + 1) H1 → va_S (Ab b) H0 H1 locs → W p l e R s m args below meth c H1 locs (cells + 1) (slots + N) Q (F0 m (pc + 3) ls (.ref (b + n) :: rest))) : W p l e R s m args below meth c H locs cells slots Q (F0 m pc ls rest) := by
  have hKn := hK.1 ci _ hc
  refine W.newcK hexec hb hown hcl hinst hini rfl hdg hcells hslots hKn.2.1 rfl fun H1 kC hkC e1 z1 o1 => ?_
  have hz := kk H1 (hB.push z1 o1 ⟨_, hc, (u_born ty hts hin hKn hkC e1 hty).to hfs⟩) (Ab_S hS (by omega) o1)
  rw [← hB.1] at hz
  exact hz
theorem bk_newa (hexec : p.tables.exec = Jvm.exec) (hb : c.code = cc) {atype : ArrayType} (harr : (Cond.arrayClass (newarray.typeOf atype)).before args s = true) {ty : FieldType} (hty : newarray.typeOf atype = ty) (hK : va_K D vwCl (tys cA) s) (t0 : Nat) {cR : ClassId} (ht : (tys cA)[t0]? = some (cR, ty)) (hRA : va_RA s cR ty → s.vm.findClass ("[" ++ ty.toString) = some cR) (hB : Bk D g b n H) (hS : va_S (Ab b) H0 H locs)
    {x : Int32} {N' : Nat} {a0 : vp_A} (ha : ∀ cR : ClassId, vp_cell cR a0 = arrV cR N' (fun _ => defaultValue ty)) (hn : ¬ x < 0) (hN : x.toNatClampNeg = N') (hbytes : N' * componentBytes ty ≤ 536870912) (hcells : cells + 1 ≤ R.cells) (hslots : slots + N' ≤ R.slots) (hdg : decode cc pc = .ok (.newarray atype, 2))
    (kk : ∀ (H1 : Heap), Bk D (upE g n (.inl (cR, a0))) b (n + 1) H1 → va_S (Ab b) H0 H1 locs → W p l e R s m args below meth c H1 locs (cells + 1) (slots + N') Q (F0 m (pc + 2) ls (.ref (b + n) :: rest))) : W p l e R s m args below meth c H locs cells slots Q (F0 m pc ls (.int x :: rest)) := by
  subst hty
  refine va_newaK hexec hb harr rfl hdg rfl hn hN hbytes hcells hslots rfl fun H1 cB e1 z1 o1 hAr hNm => ?_
  have ec : cB = cR := Option.some.inj (hNm.symm.trans (hRA (hK.2 t0 _ ht).2))
  subst ec
  have hz := kk H1 (hB.push z1 o1 (by show H1[H.size]? = some (vp_cell _ _); rw [ha]; exact e1)) (Ab_S hS (by omega) o1)
  rw [← hB.1] at hz
  exact hz
theorem bk_newq (hexec : p.tables.exec = Jvm.exec) (hb : c.code = cc) {own C : String} {index : Nat} (hown : s.vm.findClass own = some m.cls) (hclink : (Cond.classLink own index C).before args s = true) (hover : AOv (.object C) s) (hK : va_K D vwCl (tys cA) s) (t0 : Nat) {cR : ClassId} (ht : (tys cA)[t0]? = some (cR, .object C)) (hB : Bk D g b n H) (hS : va_S (Ab b) H0 H locs)
    {x : Int32} {N' : Nat} (hn : ¬ x < 0) (hN : x.toNatClampNeg = N') (hbytes : N' * 4 ≤ 536870912) (hcells : cells + 1 ≤ R.cells) (hslots : slots + N' ≤ R.slots) (hdg : decode cc pc = .ok (.anewarray index, 3))
    (kk : ∀ (H1 : Heap), Bk D (upE g n (.inl (cR, N', .inr (.inr (.inr (.inr (fun _ => none))))))) b (n + 1) H1 → va_S (Ab b) H0 H1 locs → W p l e R s m args below meth c H1 locs (cells + 1) (slots + N') Q (F0 m (pc + 3) ls (.ref (b + n) :: rest))) : W p l e R s m args below meth c H locs cells slots Q (F0 m pc ls (.int x :: rest)) := by
  subst hN
  refine W.anew hexec hb hown hclink hover.use rfl hdg rfl hn hbytes hcells hslots fun cB kA comp f1 f2 f3 f4 => ?_
  generalize hH1 : H.push ({ cls := cB, slots := Array.replicate x.toNatClampNeg .null, vm := .none } : Cell) = H1
  have z1 : H1.size = H.size + 1 := by rw [← hH1, Array.size_push]
  have e1 : H1[H.size]? = some (arrV cB x.toNatClampNeg (fun _ => .null)) := by rw [← hH1, Array.getElem?_push_size, ← arrV_new]
  have o1 : ∀ q : Nat, q < H.size → H1[q]? = H[q]? := fun q hq => by rw [← hH1, Array.getElem?_push, if_neg (Nat.ne_of_lt hq)]
  obtain ⟨_, _, -, -, -, g4⟩ := (hK.2 t0 _ ht).2
  have ec : cB = cR := Option.some.inj (f1.symm.trans g4)
  subst ec
  have hz := kk H1 (hB.push z1 o1 (by show H1[H.size]? = some (vp_cell _ _); rw [vp_cell_q]; exact e1)) (Ab_S hS (by omega) o1)
  rw [← hB.1] at hz
  exact hz
theorem bk_outer (cR : ClassId) (N h0 : Nat) : ∀ i : Nat, Jvm.Free.Multi.outerC cR N h0 i = arrV cR N (fun j => va_rf (if j < i then some (h0 + 1 + j) else none))
  | 0 => by
    show ({ cls := cR, slots := Array.replicate N .null, vm := .none } : Cell) = _
    rw [arrV_new]
    refine congrArg (arrV cR N) (funext fun j => ?_)
    simp [va_rf]
  | i + 1 => by
    show (Jvm.Free.Multi.outerC cR N h0 i).setSlot i (.ref (h0 + 1 + i)) = _
    rw [bk_outer cR N h0 i, arrV_store]
    refine congrArg (arrV cR N) (funext fun j => ?_)
    by_cases e : j = i
    · subst e
      simp [updV, va_rf]
    · by_cases h : j < i
      · simp [updV, e, h, Nat.lt_succ_of_lt h]
      · simp [updV, e, h, show ¬ j < i + 1 by omega]
theorem bk_mna (hexec : p.tables.exec = Jvm.exec) (hb : c.code = cc) {own : String} {index : Nat} (hown : s.vm.findClass own = some m.cls) (hclink : (Cond.classLink own index "[[I").before args s = true) (hover : AOv (.array .int) s) (harr : (Cond.arrayClass .int).before args s = true)
    (hK : va_K D vwCl (tys cA) s) (hB : Bk D g b n H) (hS : va_S (Ab b) H0 H locs) {x k : Int32} {N' K' : Nat} (hn : ¬ x < 0) (hk : ¬ k < 0) (hN : x.toNatClampNeg = N') (hM : k.toNatClampNeg = K')
    (hb1 : N' * 4 ≤ 536870912) (hb2 : K' * 4 ≤ 536870912) (hcells : cells + (1 + N') ≤ R.cells) (hslots : slots + (N' + N' * K') ≤ R.slots) (hdg : decode cc pc = .ok (.multianewarray index 2, 4))
    (kk : ∀ (H1 : Heap), Bk D (mnE g n N' (.inl (cA 4, N', .inr (.inr (.inr (.inr (fun i => if i < N' then some (b + (n + 1 + i)) else none)))))) (.inl (cA 0, K', .inl (fun _ => 0)))) b (n + 1 + N') H1 → va_S (Ab b) H0 H1 locs → W p l e R s m args below meth c H1 locs (cells + 1 + N') (slots + N' + N' * K') Q (F0 m (pc + 4) ls (.ref (b + n) :: rest))) : W p l e R s m args below meth c H locs cells slots Q (F0 m pc ls (.int k :: .int x :: rest)) := by
  subst hN
  subst hM
  intro T hT Xs
  obtain ⟨vm₁, cB, comp, -, fA, fC, hO, -, X', step⟩ := Stand.multianewarray2F Xs hexec (ty := .int) hown hclink hover.use harr (g := F0 m pc ls (.int k :: .int x :: rest)) rfl (by rw [hb]; exact hdg) rfl hn hk hb1 hb2 (by omega) rfl rfl hcells hslots
  have e4 : cB = cA 4 := Option.some.inj (fA.symm.trans (hK.2 4 (cA 4, .array .int) rfl).2)
  have e0 : comp = cA 0 := Option.some.inj (fC.symm.trans (hK.2 0 (cA 0, .int) rfl).2)
  subst e4
  subst e0
  generalize hF : Jvm.Free.Multi.fill (T.setVm vm₁) (cA 4) (cA 0) x.toNatClampNeg k.toNatClampNeg (defaultValue .int) x.toNatClampNeg = F at X' step
  have hTh : (T.setVm vm₁).heap = H := hT
  obtain ⟨f1, f2, -, -⟩ := Jvm.Free.Multi.fill_facts (T.setVm vm₁) (cA 4) (cA 0) x.toNatClampNeg k.toNatClampNeg (defaultValue .int) x.toNatClampNeg
  rw [hF, hTh] at f1 f2
  have hold : ∀ y : Nat, y < H.size → F.heap[y]? = H[y]? := fun y hy => by
    have := Jvm.Free.Multi.fill_old (T.setVm vm₁) (cA 4) (cA 0) x.toNatClampNeg k.toNatClampNeg (defaultValue .int) (a := y) (by rw [hTh]; exact hy) x.toNatClampNeg
    rw [hF, hTh] at this
    exact this
  have hrow : ∀ j : Nat, j < x.toNatClampNeg → F.heap[H.size + 1 + j]? = some (Jvm.Free.Multi.innerC (cA 0) k.toNatClampNeg (defaultValue .int)) := fun j hj => by
    have := Jvm.Free.Multi.fill_inner (T.setVm vm₁) (cA 4) (cA 0) x.toNatClampNeg k.toNatClampNeg (defaultValue .int) x.toNatClampNeg j hj
    rw [hF, hTh] at this
    exact this
  have hB1 : Bk D (mnE g n x.toNatClampNeg (.inl (cA 4, x.toNatClampNeg, .inr (.inr (.inr (.inr (fun i => if i < x.toNatClampNeg then some (b + (n + 1 + i)) else none)))))) (.inl (cA 0, k.toNatClampNeg, .inl (fun _ => 0)))) b (n + 1 + x.toNatClampNeg) F.heap := by
    refine ⟨by rw [f1, hB.1]; omega, fun q hq => ?_⟩
    unfold mnE
    by_cases h1 : q = n
    · subst h1
      rw [if_pos rfl, ← hB.1]
      show F.heap[H.size]? = some (vp_cell _ _)
      rw [f2, vp_cell_q, bk_outer]
      refine congrArg (fun z => some (arrV (cA 4) x.toNatClampNeg z)) (funext fun j => ?_)
      rw [hB.1]
      by_cases hj : j < x.toNatClampNeg
      · rw [if_pos hj, if_pos hj]
        congr 2
        omega
      · rw [if_neg hj, if_neg hj]
    · rw [if_neg h1]
      by_cases h2 : n < q ∧ q ≤ n + x.toNatClampNeg
      · rw [if_pos h2]
        have := hrow (q - n - 1) (by omega)
        rw [show H.size + 1 + (q - n - 1) = b + q by rw [hB.1]; omega] at this
        show F.heap[b + q]? = some (vp_cell _ _)
        rw [this, vp_cell_i]
        show some ({ cls := cA 0, slots := Array.replicate k.toNatClampNeg (.int 0), vm := .none } : Cell) = _
        rw [arrV_new]
      · rw [if_neg h2]
        exact (hB.2 q (by omega)).kept (hold (b + q) (by rw [hB.1]; omega))
  have hz := kk F.heap hB1 (Ab_S hS (by omega) hold)
  rw [← hB.1] at hz
  obtain ⟨t, a1, b1⟩ := hz F rfl X'
  refine ⟨t, step t ?_, b1⟩
  have hTs : T.heap.size = H.size := by rw [← hTh]; rfl
  rw [hTs]
  exact a1
theorem bk_putF (hexec : p.tables.exec = Jvm.exec) (hb : c.code = cc) {own C : String} {T : u_T} {N ci index k0 : Nat} {Ts : List Cond} (hts : ∀ w ∈ Ts, w.before args s = true) (hin : ∀ w ∈ u_ws C T N, w ∈ Ts) (ty0 : Nat → FieldType) (hty : ∀ k, k < N → parseFieldDescriptor (T k).2.2.1 = some (ty0 k)) (hnm : ∀ a, a < N → ∀ b, b < N → a ≠ b → (T a).2.1 ≠ (T b).2.1) (hown : s.vm.findClass own = some m.cls) (hK : va_K D vwCl (tys cA) s) (hB : Bk D g b n H) (hS : va_S (Ab b) H0 H locs) {fs : List Value} (hk0 : k0 < n) (he : g k0 = .inr (ci, fs)) (hc : vwCl[ci]? = some (C, T, N)) (k : Nat) (hk : k < N) (hlink : (Cond.fieldLink own index (T k).1 (T k).2.1 (T k).2.2.1).before args s = true) (hin2 : meth.name = "<init>") (hdecl : (T k).1 = own) {ty : FieldType} {v : Value} (hd : parseFieldDescriptor (T k).2.2.1 = some ty) (hn : narrow ty v = v) (hfit : fits ty v = true) (hl : k < fs.length)
    (hdg : decode cc pc = .ok (.putfield index, 3)) (kk : ∀ (H1 : Heap) (locs1 : List Loc), Bk D (upE g k0 (.inr (ci, fs.set k v))) b n H1 → va_S (Ab b) H0 H1 locs1 → W p l e R s m args below meth c H1 locs1 cells slots Q (F0 m (pc + 3) ls rest)) : W p l e R s m args below meth c H locs cells slots Q (F0 m pc ls (v :: .ref (b + k0) :: rest)) := by
  have hap := va_apart (own := own) hts hin ty0 hty hnm hK hc
  have hat := hB.2 k0 hk0
  rw [he] at hat
  obtain ⟨r, h1, cell, q1, q2, q3, q4⟩ := hat
  have hr : r = (C, T, N) := Option.some.inj (h1.symm.trans hc)
  subst hr
  obtain ⟨hSl, hfc, kC, hkC, hkind⟩ := hK.1 ci _ hc
  obtain ⟨cf, kf, fi, f, hi, hsl⟩ := hSl k hk
  have hlay := hts _ (hin _ (u_in_lay hk))
  have hst := (u_facts hfc hkC (u_lays hts hin hk) hi).1
  by_cases hfin : (T k).2.2.2 = true
  · unfold u_lay at hlay
    rw [if_pos hfin] at hlay
    have hcf : m.cls = cf := by
      obtain ⟨_, _, c', _, _, _, -, -, hf', -, -, -, hown2, -⟩ := Cond.laysFinal_spec hlay
      have e1 : c' = cf := by have := hi.symm.trans hf'; simp at this; exact this.1.symm
      rw [hdecl] at hown2
      rw [← e1]; exact Option.some.inj (hown.symm.trans hown2)
    have h6 := u_fits hfc hkC hkind (Or.inr hlay) hi hd hn hfit
    refine W.putFinK hexec hb hown hlink hi hst hcf hin2 (by rw [q2]; exact h6) q1 q3 (by rw [hsl]; exact k2_hasslot (q4 k hk)) rfl rfl hdg fun H' e1 e2 e3 => ?_
    rw [hsl] at e1 ⊢
    exact kk H' _ (hB.upd e2 e3 ⟨_, hc, t_OB.to (V := updV (vp_V fs) k v) ⟨_, e1, q2, q3, t_set q4 hap hk v⟩ (fun j _ => vp_updV_set hl v j)⟩) (hS.put e2 e3 (Nat.le_add_right _ _))
  · unfold u_lay at hlay
    rw [if_neg hfin] at hlay
    have h6 := u_store hfc hkC hkind hlay hi hd hn hfit
    refine W.putK hexec hb (f := f) ⟨hown, hlink, ⟨_, _, _, hi⟩, hst⟩ (by rw [q2]; exact h6) q1 q3 (by rw [hsl]; exact k2_hasslot (q4 k hk)) rfl rfl hdg fun H' e1 e2 e3 => ?_
    rw [hsl] at e1 ⊢
    exact kk H' _ (hB.upd e2 e3 ⟨_, hc, t_OB.to (V := updV (vp_V fs) k v) ⟨_, e1, q2, q3, t_set q4 hap hk v⟩ (fun j _ => vp_updV_set hl v j)⟩) (hS.put e2 e3 (Nat.le_add_right _ _))
theorem bk_get (hexec : p.tables.exec = Jvm.exec) (hb : c.code = cc) {own C : String} {T : u_T} {N ci index k0 : Nat} {Ts : List Cond} (hts : ∀ w ∈ Ts, w.before args s = true) (hin : ∀ w ∈ u_ws C T N, w ∈ Ts) (hown : s.vm.findClass own = some m.cls) (hK : va_K D vwCl (tys cA) s) (hB : Bk D g b n H) {fs : List Value} (hk0 : k0 < n) (he : g k0 = .inr (ci, fs)) (hc : vwCl[ci]? = some (C, T, N)) (k : Nat) (hk : k < N) (hlink : (Cond.fieldLink own index (T k).1 (T k).2.1 (T k).2.2.1).before args s = true) {v : Value} (hv : fs[k]? = some v) (hdg : decode cc pc = .ok (.getfield index, 3))
    (kk : W p l e R s m args below meth c H locs cells slots Q (F0 m (pc + 3) ls (v :: rest))) : W p l e R s m args below meth c H locs cells slots Q (F0 m pc ls (.ref (b + k0) :: rest)) :=
  va_get hexec hb hts hin hown hK hB.P k0 (by rw [blk_get hk0, he]) hc k hk hlink (fun _ h => h) hv hdg kk
theorem bk_aast (hexec : p.tables.exec = Jvm.exec) (hb : c.code = cc) (hK : va_K D vwCl (tys cA) s) (hB : Bk D g b n H) (hS : va_S (Ab b) H0 H locs) (k0 t0 k1 ci : Nat) {cR : ClassId} {r : vw_C} {N' : Nat} {vs : List Value} {f : Nat → Option Nat} (hk0 : k0 < n) (hk1 : k1 < n) (ha : g k0 = .inl (cR, N', .inr (.inr (.inr (.inr f))))) (ht : (tys cA)[t0]? = some (cR, .object r.1)) (hv : g k1 = .inr (ci, vs)) (hc : vwCl[ci]? = some r) {i : Int32} {j : Nat} (ej : i.toInt = (j : Int)) (hj : j < N') (hdg : decode cc pc = .ok (.aastore, 1))
    (kk : ∀ (H1 : Heap) (locs1 : List Loc), Bk D (upE g k0 (.inl (cR, N', .inr (.inr (.inr (.inr (va_up f j (some (b + k1))))))))) b n H1 → va_S (Ab b) H0 H1 locs1 → W p l e R s m args below meth c H1 locs1 cells slots Q (F0 m (pc + 1) ls rest)) : W p l e R s m args below meth c H locs cells slots Q (F0 m pc ls (.ref (b + k1) :: .int i :: .ref (b + k0) :: rest)) := by
  have ei : i.toNatClampNeg = j := ti_cl ej
  have h0 : ¬ i < 0 := fun q => ti_in ej hj (Or.inl q)
  have hat := hB.2 k1 hk1
  rw [hv] at hat
  obtain ⟨r', hr', cellV, g1, g2, g3, -⟩ := hat
  have hat0 := hB.2 k0 hk0
  rw [ha] at hat0
  have hcls := (hK.1 ci r hc).2
  obtain ⟨kA, comp, k1', k2, k3, -⟩ := (hK.2 t0 _ ht).2
  have hcomp : comp = D.1 ci := Option.some.inj (k3.symm.trans hcls.1)
  subst hcomp
  obtain ⟨kC, hkC, -⟩ := hcls.2
  refine W.aast hexec hb hat0 (fun q h => by cases h) (fun h => by cases h) k1' k2 rfl hkC ⟨h0, by show _ < (arrV _ _ _).slots.size; rw [arrV_size, ei]; exact hj⟩ g1 (fun q h => by rw [g3] at h; cases h) (by rw [g2]; exact hkC) (by rw [g2]; exact va_assign hcls) rfl rfl hdg fun H1 e z oq => ?_
  refine kk H1 _ (hB.upd z oq ?_) (hS.put z oq (Nat.le_add_right _ _))
  show H1[b + k0]? = some (vp_cell _ _)
  rw [e, vp_cell_q, vp_cell_q, arrV_store, ei]
  congr 2
  funext q
  by_cases hq : q = j
  · subst hq
    simp [updV, va_up, va_rf]
  · simp [updV, va_up, hq]
theorem bk_iast (hexec : p.tables.exec = Jvm.exec) (hb : c.code = cc) (hK : va_K D vwCl (tys cA) s) (hB : Bk D g b n H) (hS : va_S (Ab b) H0 H locs) (k0 : Nat) {N' : Nat} {f : Nat → Int32} (hk0 : k0 < n) (ha : g k0 = .inl (cA 0, N', .inl f)) {i x : Int32} (hin : vp_in i N') (hdg : decode cc pc = .ok (.iastore, 1))
    (kk : ∀ (H1 : Heap) (locs1 : List Loc), Bk D (upE g k0 (.inl (cA 0, N', .inl (upd f i.toNatClampNeg x)))) b n H1 → va_S (Ab b) H0 H1 locs1 → W p l e R s m args below meth c H1 locs1 cells slots Q (F0 m (pc + 1) ls rest)) : W p l e R s m args below meth c H locs cells slots Q (F0 m pc ls (.int x :: .int i :: .ref (b + k0) :: rest)) := by
  have hat0 := hB.2 k0 hk0
  rw [ha] at hat0
  refine W.iast hexec hb hat0 ((hK.2 0 (cA 0, .int) rfl).1 N' (fun j => .int (f j))) (fun q => by cases q) (by show ¬ (i < 0 ∨ (arrV _ _ _).slots.size ≤ _); rw [arrV_size]; exact hin) rfl rfl hdg fun H1 e z oq => ?_
  refine kk H1 _ (hB.upd z oq ?_) (hS.put z oq (Nat.le_add_right _ _))
  show H1[b + k0]? = some (vp_cell _ _)
  rw [e]
  rw [vp_cell_i, vp_cell_i, arrV_store]
  congr 2
  funext q
  by_cases hq : q = i.toNatClampNeg
  · subst hq
    simp [updV, upd]
  · simp [updV, upd, hq]
theorem bk_last (hexec : p.tables.exec = Jvm.exec) (hb : c.code = cc) (hK : va_K D vwCl (tys cA) s) (hB : Bk D g b n H) (hS : va_S (Ab b) H0 H locs) (k0 : Nat) {N' : Nat} {f : Nat → Int64} (hk0 : k0 < n) (ha : g k0 = .inl (cA 3, N', .inr (.inl f))) {i : Int32} {x : Int64} (hin : vp_in i N') (hdg : decode cc pc = .ok (.lastore, 1))
    (kk : ∀ (H1 : Heap) (locs1 : List Loc), Bk D (upE g k0 (.inl (cA 3, N', .inr (.inl (vp_updL f i.toNatClampNeg x))))) b n H1 → va_S (Ab b) H0 H1 locs1 → W p l e R s m args below meth c H1 locs1 cells slots Q (F0 m (pc + 1) ls rest)) : W p l e R s m args below meth c H locs cells slots Q (F0 m pc ls (.long x :: .int i :: .ref (b + k0) :: rest)) := by
  have hat0 := hB.2 k0 hk0
  rw [ha] at hat0
  refine W.last hexec hb hat0 ((hK.2 3 (cA 3, .long) rfl).1 N' (fun j => .long (f j))) (fun q => by cases q) (by show ¬ (i < 0 ∨ (arrV _ _ _).slots.size ≤ _); rw [arrV_size]; exact hin) rfl rfl hdg fun H1 e z oq => ?_
  refine kk H1 _ (hB.upd z oq ?_) (hS.put z oq (Nat.le_add_right _ _))
  show H1[b + k0]? = some (vp_cell _ _)
  rw [e]
  rw [vp_cell_l, vp_cell_l, arrV_store]
  congr 2
  funext q
  by_cases hq : q = i.toNatClampNeg
  · subst hq
    simp [updV, vp_updL]
  · simp [updV, vp_updL, hq]
theorem bk_call {y : MethodName} {bytes : ByteArray} {maxL nL nn index k0 mc ms n' : Nat} {ws : List Cond} {rm : Room} {Ts : List Cond} {own : String} {As st0 : List Value} {g' : Nat → va_E} (S : CallFix p m c cc nL s args Ts own) (hK : va_K D vwCl (tys cA) s) (hE : EX s) (hB : Bk D g b n H) (hS : va_S (Ab b) H0 H locs) (hM : Met l y ws rm (BkP D cA g b n (.ref (b + k0) :: As)) (BkQ D g' b n') mc ms (Ab b)) (cw : CallB R s args own index y bytes maxL none ws rm mc ms nn ∧ y.name = "<init>" ∧ (Cond.instanceMethod y).before args s = true) (hn : As.length = nn) (hsize : ls.size = nL) (hst : st0 = As.reverse ++ .ref (b + k0) :: rest) (hW : (rest.map fun v => v.category).sum ≤ 8) (hd : decode cc pc = .ok (.invokespecial index, 3)) (hcs : cells + mc ≤ R.cells) (hsl : slots + ms ≤ R.slots) (kk : ∀ (H1 : Heap) (locs1 : List Loc), Bk D g' b n' H1 → va_S (Ab b) H0 H1 locs1 → W p l e R s m args below meth c H1 locs1 (cells + mc) (slots + ms) Q (F0 m (pc + 3) ls rest)) : W p l e R s m args below meth c H locs cells slots Q (F0 m pc ls st0) := by
  subst hst
  exact va_callv (va_runI (rest := rest) S hM cw ⟨fun a U g mk q => ⟨q.1, q.2.1, va_K.moved (u := U) (U := U.calling g mk a) (Vm.Alike.refl U.vm) q.2.2.1, q.2.2.2.calls⟩, fun U hU hW => ⟨rfl, by rw [hU]; exact hB, va_K.moved hW.alike hK, hE.warm hW⟩⟩ rfl hn hsize rfl (lv_room hW) hd ⟨hcs, hsl⟩) hS (fun q _ h => h) (fun q h => h) (fun u t H1 locs1 ht _ hw hB1 _ _ hS1 => kk H1 locs1 (by rw [← ht]; exact hB1) hS1)
theorem bk_callN {y : MethodName} {bytes : ByteArray} {maxL nL nn index k0 mc ms n' : Nat} {ws : List Cond} {rm : Room} {Ts : List Cond} {own host : String} {As st0 : List Value} {g' : Nat → va_E} (S : CallFix p m c cc nL s args Ts own) (hK : va_K D vwCl (tys cA) s) (hE : EX s) (hB : Bk D g b n H) (hS : va_S (Ab b) H0 H locs) (hM : Met l y ws rm (BkP D cA g b n (.ref (b + k0) :: As)) (BkQ D g' b n') mc ms (Ab b)) (cw : va_CN R s args own index y host bytes maxL none ws rm mc ms nn ∧ y.name = "<init>" ∧ (Cond.instanceMethod y).before args s = true) (hn : As.length = nn) (hsize : ls.size = nL) (hst : st0 = As.reverse ++ .ref (b + k0) :: rest) (hW : (rest.map fun v => v.category).sum ≤ 8) (hd : decode cc pc = .ok (.invokespecial index, 3)) (hcs : cells + mc ≤ R.cells) (hsl : slots + ms ≤ R.slots) (kk : ∀ (H1 : Heap) (locs1 : List Loc), Bk D g' b n' H1 → va_S (Ab b) H0 H1 locs1 → W p l e R s m args below meth c H1 locs1 (cells + mc) (slots + ms) Q (F0 m (pc + 3) ls rest)) : W p l e R s m args below meth c H locs cells slots Q (F0 m pc ls st0) := by
  subst hst
  exact va_callv (va_runIN (rest := rest) S hM cw ⟨fun a U g mk q => ⟨q.1, q.2.1, va_K.moved (u := U) (U := U.calling g mk a) (Vm.Alike.refl U.vm) q.2.2.1, q.2.2.2.calls⟩, fun U hU hW => ⟨rfl, by rw [hU]; exact hB, va_K.moved hW.alike hK, hE.warm hW⟩⟩ rfl hn hsize rfl (lv_room hW) hd ⟨hcs, hsl⟩) hS (fun q _ h => h) (fun q h => h) (fun u t H1 locs1 ht _ hw hB1 _ _ hS1 => kk H1 locs1 (by rw [← ht]; exact hB1) hS1)
theorem bk_ret (hexec : p.tables.exec = Jvm.exec) (hb : c.code = cc) (hr : meth.sig.returnType = none) {mc ms : Nat} {A : Array Value} (hB : Bk D g b n H) (hS : va_S (Ab b) s.heap H locs) (hlocks : meth.locks = false) (hdg : decode cc pc = .ok (.return_, 1)) : W p l e R s m A below meth c H locs mc ms (MQ below (BkQ D g b n) A s mc ms (Ab b)) (F0 m pc ls []) := W.vret hexec hb hr (fun t ht hW => ⟨⟨(), rfl, trivial, (by rw [ht]; exact hB : Bk D g b n t.heap)⟩, hS.F ht⟩) hS.2.2 hdg hlocks
end BK
