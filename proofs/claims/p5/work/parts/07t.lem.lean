/-! the model's rows: ranges of copied numbers -/
set_option maxRecDepth 100000 in
theorem mz_h : ∀ j, j < 211 → rlo 390 j ≤ 0 ∧ 0 ≤ rhi 390 j := by decide +kernel
set_option maxRecDepth 100000 in
theorem mz_s : ∀ j, j < 427 → rlo 389 j ≤ 0 ∧ 0 ≤ rhi 389 j := by decide +kernel
set_option maxRecDepth 100000 in
theorem me_hs : ∀ j, j < 211 → rlo 389 j = rlo 390 j ∧ rhi 389 j = rhi 390 j := by decide +kernel
set_option maxRecDepth 100000 in
theorem me_us : ∀ u, u < 8 → ∀ i, i < 35 → rlo 398 (35 * u + i) = rlo 389 (211 + i) ∧ rhi 398 (35 * u + i) = rhi 389 (211 + i) := by decide +kernel
set_option maxRecDepth 100000 in
theorem me_uu : ∀ i, i < 245 → rlo 398 (i + 35) = rlo 398 i ∧ rhi 398 (i + 35) = rhi 398 i := by decide +kernel
set_option maxRecDepth 100000 in
theorem me_bs : ∀ i, i < 35 → rlo 399 i = rlo 389 (211 + i) ∧ rhi 399 i = rhi 389 (211 + i) := by decide +kernel
set_option maxRecDepth 100000 in
theorem me_ks : ∀ k, k < 2 → ∀ i, i < 427 → rlo 403 (427 * k + i) = rlo 389 i ∧ rhi 403 (427 * k + i) = rhi 389 i := by decide +kernel
/-- h's slots that puts() may write: none of those with a range -/
theorem mx_h {v : Int32} {j : Nat} (h1 : 3 ≤ j) (h2 : j ≤ 210) (hg : j ≤ 30 ∨ (39 ≤ j ∧ j ≤ 62) ∨ (71 ≤ j ∧ j ≤ 86) ∨ 91 ≤ j) : rlo 390 j ≤ v.toInt ∧ v.toInt ≤ rhi 390 j := by
  rcases hg with h | h | h | h
  · exact rx_mh_3 (by decide) (by decide) h1 h
  · exact rx_mh_39 (by decide) (by decide) h.1 h.2
  · exact rx_mh_71 (by decide) (by decide) h.1 h.2
  · exact rx_mh_91 (by decide) (by decide) h h2
theorem mc_zh {z : Int32} {j : Nat} (hz : z.toInt = 0) (hj : j < 211) : rlo 390 j ≤ z.toInt ∧ z.toInt ≤ rhi 390 j := by rw [hz]; exact mz_h j hj
theorem mc_zs {z : Int32} {j : Nat} (hz : z.toInt = 0) (hj : j < 427) : rlo 389 j ≤ z.toInt ∧ z.toInt ≤ rhi 389 j := by rw [hz]; exact mz_s j hj
theorem mc_hs {σ : Nat → Nat → Int32} (hR : Rg σ) {j a : Nat} (e : a = j) (hj : j < 211) : rlo 389 j ≤ (σ 390 a).toInt ∧ (σ 390 a).toInt ≤ rhi 389 j := by
  subst e
  rw [(me_hs a hj).1, (me_hs a hj).2]
  exact hR 390 a
theorem mc_us {σ : Nat → Nat → Int32} (hR : Rg σ) {j a : Nat} (u i : Nat) (hu : u < 8) (hi : i < 35) (e : j = 35 * u + i) (ea : a = 211 + i) : rlo 398 j ≤ (σ 389 a).toInt ∧ (σ 389 a).toInt ≤ rhi 398 j := by
  subst e
  subst ea
  rw [(me_us u hu i hi).1, (me_us u hu i hi).2]
  exact hR 389 _
theorem mc_su {σ : Nat → Nat → Int32} (hR : Rg σ) {j a : Nat} (u i : Nat) (hu : u < 8) (hi : i < 35) (e : j = 211 + i) (ea : a = 35 * u + i) : rlo 389 j ≤ (σ 398 a).toInt ∧ (σ 398 a).toInt ≤ rhi 389 j := by
  subst e
  subst ea
  rw [← (me_us u hu i hi).1, ← (me_us u hu i hi).2]
  exact hR 398 _
theorem mc_uu {σ : Nat → Nat → Int32} (hR : Rg σ) {j a : Nat} (hj : j < 245) (ea : a = j + 35) : rlo 398 j ≤ (σ 398 a).toInt ∧ (σ 398 a).toInt ≤ rhi 398 j := by
  subst ea
  rw [← (me_uu j hj).1, ← (me_uu j hj).2]
  exact hR 398 _
theorem mc_bs {σ : Nat → Nat → Int32} (hR : Rg σ) {j a : Nat} (hj : j < 35) (ea : a = 211 + j) : rlo 399 j ≤ (σ 389 a).toInt ∧ (σ 389 a).toInt ≤ rhi 399 j := by
  subst ea
  rw [(me_bs j hj).1, (me_bs j hj).2]
  exact hR 389 _
theorem mc_sb {σ : Nat → Nat → Int32} (hR : Rg σ) {j a : Nat} (ha : a < 35) (e : j = 211 + a) : rlo 389 j ≤ (σ 399 a).toInt ∧ (σ 399 a).toInt ≤ rhi 389 j := by
  subst e
  rw [← (me_bs a ha).1, ← (me_bs a ha).2]
  exact hR 399 _
theorem mc_ub {σ : Nat → Nat → Int32} (hR : Rg σ) {j a : Nat} (u : Nat) (hu : u < 8) (ha : a < 35) (e : j = 35 * u + a) : rlo 398 j ≤ (σ 399 a).toInt ∧ (σ 399 a).toInt ≤ rhi 398 j := by
  subst e
  rw [(me_us u hu a ha).1, (me_us u hu a ha).2, ← (me_bs a ha).1, ← (me_bs a ha).2]
  exact hR 399 _
theorem mc_ks {σ : Nat → Nat → Int32} (hR : Rg σ) {j a : Nat} (k : Nat) (hk : k < 2) (ha : a < 427) (e : j = 427 * k + a) : rlo 403 j ≤ (σ 389 a).toInt ∧ (σ 389 a).toInt ≤ rhi 403 j := by
  subst e
  rw [(me_ks k hk a ha).1, (me_ks k hk a ha).2]
  exact hR 389 _
theorem mc_sk {σ : Nat → Nat → Int32} (hR : Rg σ) {j a : Nat} (k : Nat) (hk : k < 2) (hj : j < 427) (e : a = 427 * k + j) : rlo 389 j ≤ (σ 403 a).toInt ∧ (σ 403 a).toInt ≤ rhi 389 j := by
  subst e
  rw [← (me_ks k hk j hj).1, ← (me_ks k hk j hj).2]
  exact hR 403 _
theorem ti_tmA {a b : Int} (hb : b ≠ 0) : (a.tmod b).natAbs < b.natAbs := by
  rw [Int.natAbs_tmod]
  exact Nat.mod_lt _ (by omega)
/-! rows of single methods of the model -/
def BN (x : Int32) : Int := (x.toUInt32.toNat : Int)
theorem BN_nn (x : Int32) : 0 ≤ BN x ∧ BN x ≤ 4294967295 := by
  unfold BN
  have := x.toUInt32.toNat_lt
  omega
theorem BN_lt {x z : Int32} (hx : x.toInt ≠ 0) (hz : z.toInt = 1) : BN (x &&& (x - z)) < BN x := by
  have ez : z = 1 := Int32.toInt_inj.mp hz
  subst ez
  have hx0 : x.toBitVec ≠ 0 := by
    intro h
    apply hx
    show x.toBitVec.toInt = 0
    rw [h]
    rfl
  have h1 : 0 < x.toBitVec.toNat := by
    rcases Nat.eq_zero_or_pos x.toBitVec.toNat with h | h
    · exact absurd (BitVec.eq_of_toNat_eq (by rw [h]; rfl)) hx0
    · exact h
  show ((x.toBitVec &&& (x.toBitVec - 1#32)).toNat : Int) < (x.toBitVec.toNat : Int)
  have h2 : (x.toBitVec - 1#32).toNat = x.toBitVec.toNat - 1 := by
    rw [BitVec.toNat_sub]
    have := x.toBitVec.isLt
    show (2 ^ 32 - 1 + x.toBitVec.toNat) % 2 ^ 32 = _
    omega
  have h3 : (x.toBitVec &&& (x.toBitVec - 1#32)).toNat ≤ (x.toBitVec - 1#32).toNat := by
    rw [BitVec.toNat_and]
    exact Nat.and_le_right
  omega
section TU
variable {p : Program} {l : Launch} {e : Env} {R : Room} {s : State} {m : MethodId} {args : Array Value} {below : List Frame} {meth : Method} {c : Code} {H : Heap} {locs : List Loc} {cells slots : Nat} {Q : State → Prop}
variable {cc : ByteArray} {pc : Nat} {ls : Array Slot} {rest : List Value}
theorem r_iushr8 (hx : p.tables.exec = Jvm.exec) (hb : c.code = cc) {x y : Int32} (hd : decode cc pc = .ok (.iushr, 1)) (hy : y.toInt = 8) (kk : ∀ z : Int32, 0 ≤ z.toInt ∧ z.toInt ≤ 16777215 → W p l e R s m args below meth c H locs cells slots Q (F0 m (pc + 1) ls (.int z :: rest))) : W p l e R s m args below meth c H locs cells slots Q (F0 m pc ls (.int y :: .int x :: rest)) := by
  have ey : y = 8 := Int32.toInt_inj.mp hy
  subst ey
  refine lv_iushr hx hb hd rfl (kk _ ?_)
  have h1 : (x.toUInt32 >>> ((8 : Int32).toUInt32 &&& Int32.toUInt32 31)).toNat = x.toUInt32.toNat >>> 8 := rfl
  have h2 : x.toUInt32.toNat >>> 8 < 16777216 := by
    rw [Nat.shiftRight_eq_div_pow]
    have := x.toUInt32.toNat_lt
    omega
  generalize hu : x.toUInt32 >>> ((8 : Int32).toUInt32 &&& Int32.toUInt32 31) = u at h1
  have h3 : u.toInt32.toInt = (u.toNat : Int) := by
    show u.toBitVec.toInt = (u.toBitVec.toNat : Int)
    rw [BitVec.toInt_eq_toNat_of_lt]
    show 2 * u.toNat < 2 ^ 32
    omega
  rw [h3]
  omega
end TU
/-! the model's SENTENCE: a code that a stack can run -/
def isB (x : Int32) : Int := if x.toInt = 21 ∨ x.toInt = 22 then 1 else 0
def BC (f : Nat → Int32) : Nat → Int
  | 0 => 0
  | t + 1 => BC f t + isB (f t)
def dl (x : Int32) : Int := if x.toInt = 20 then 0 else if x.toInt = 21 ∨ x.toInt = 22 then -1 else 1
def DP (f : Nat → Int32) : Nat → Int
  | 0 => 0
  | i + 1 => DP f i + dl (f i)
def VPc (f : Nat → Int32) (n : Nat) : Prop := ∀ i, i < n → ((f i).toInt = 20 → 1 ≤ DP f i) ∧ ((f i).toInt = 21 ∨ (f i).toInt = 22 → 2 ≤ DP f i)
theorem isB_01 (x : Int32) : 0 ≤ isB x ∧ isB x ≤ 1 := by
  unfold isB
  split <;> omega
theorem BC_nn (f : Nat → Int32) : ∀ t, 0 ≤ BC f t
  | 0 => by show (0 : Int) ≤ 0; omega
  | t + 1 => by
    have h1 := BC_nn f t
    have h2 := isB_01 (f t)
    show 0 ≤ BC f t + isB (f t)
    omega
theorem BC_congr {f g : Nat → Int32} : ∀ {t : Nat}, (∀ i, i < t → f i = g i) → BC f t = BC g t
  | 0, _ => rfl
  | t + 1, h => by
    show BC f t + isB (f t) = BC g t + isB (g t)
    rw [BC_congr (t := t) (fun i hi => h i (by omega)), h t (by omega)]
theorem DP_congr {f g : Nat → Int32} : ∀ {n : Nat}, (∀ i, i < n → (f i).toInt = (g i).toInt) → DP f n = DP g n
  | 0, _ => rfl
  | n + 1, h => by
    show DP f n + dl (f n) = DP g n + dl (g n)
    rw [DP_congr (n := n) (fun i hi => h i (by omega))]
    unfold dl
    rw [h n (by omega)]
theorem DP_le (f : Nat → Int32) : ∀ n : Nat, DP f n ≤ (n : Int)
  | 0 => by show (0 : Int) ≤ _; omega
  | n + 1 => by
    have h1 := DP_le f n
    show DP f n + dl (f n) ≤ _
    have h2 : dl (f n) ≤ 1 := by unfold dl; split <;> (try split) <;> omega
    omega
theorem VPc_congr {f g : Nat → Int32} {n : Nat} (h : VPc f n) (e : ∀ i, i < n → (f i).toInt = (g i).toInt) : VPc g n := by
  intro i hi
  have h1 := h i hi
  rw [e i hi, DP_congr (n := i) (fun k hk => e k (by omega))] at h1
  exact h1
theorem VPc_zero (f : Nat → Int32) : VPc f 0 := fun i hi => absurd hi (Nat.not_lt_zero i)
theorem VPc_succ {f : Nat → Int32} {n : Nat} (h : VPc f n) (h1 : (f n).toInt = 20 → 1 ≤ DP f n) (h2 : (f n).toInt = 21 ∨ (f n).toInt = 22 → 2 ≤ DP f n) : VPc f (n + 1) := by
  intro i hi
  rcases Nat.lt_or_ge i n with q | q
  · exact h i q
  · have : i = n := by omega
    subst this
    exact ⟨h1, h2⟩
/-- code(w, ..) was called -/
def CD (σ σ1 : Nat → Nat → Int32) (w : Int32) : Prop := ∃ c : Nat, (σ 387 38).toInt = (c : Int) ∧ (σ1 387 38).toInt = (c : Int) + 1 ∧ (∀ i : Nat, i < c → σ1 391 (3 * i) = σ 391 (3 * i)) ∧ (σ1 391 (3 * c)).toInt = w.toInt
theorem CD.of {σ σ1 σ2 σ3 σ4 : Nat → Nat → Int32} {w z : Int32} {j1 j2 j3 : Nat} (ua : Up1 σ σ1 391 j1) (va : (σ1 391 j1).toInt = w.toInt) (ub : Up1 σ1 σ2 391 j2) (uc : Up1 σ2 σ3 391 j3) (ud : Up1 σ3 σ4 387 38) (vd : (σ4 387 38).toInt = z.toInt) (h0 : 0 ≤ (σ 387 38).toInt) (e1 : (j1 : Int) = 3 * (σ 387 38).toInt) (e2 : (j2 : Int) = 3 * (σ 387 38).toInt + 1) (e3 : (j3 : Int) = 3 * (σ 387 38).toInt + 2) (ez : z.toInt = (σ 387 38).toInt + 1) : CD σ σ4 w := by
  obtain ⟨c, hc⟩ : ∃ c : Nat, (σ 387 38).toInt = (c : Int) := ⟨(σ 387 38).toInt.toNat, by omega⟩
  refine ⟨c, hc, by omega, fun i hi => ?_, ?_⟩
  · rw [ud 391 (3 * i) (by omega), uc 391 (3 * i) (by omega), ub 391 (3 * i) (by omega), ua 391 (3 * i) (by omega)]
  · have ej : j1 = 3 * c := by omega
    subst ej
    rw [ud 391 (3 * c) (by omega), uc 391 (3 * c) (by omega), ub 391 (3 * c) (by omega)]
    exact va
def rdc (σ : Nat → Nat → Int32) : Nat → Int32 := fun i => σ 391 (3 * i)
/-- the parser's state: what is read is a code; its depth is what the joining words on the stack wait for -/
def PV (σ : Nat → Nat → Int32) : Prop := ∃ c t : Nat, (σ 387 38).toInt = (c : Int) ∧ (σ 387 40).toInt = (t : Int) ∧ VPc (rdc σ) c ∧ DP (rdc σ) c = BC (σ 401) t + (σ 387 42).toInt
theorem PV.eq {σ σ1 : Nat → Nat → Int32} (h : PV σ) (e1 : (σ1 387 38).toInt = (σ 387 38).toInt) (e2 : (σ1 387 40).toInt = (σ 387 40).toInt) (e3 : (σ1 387 42).toInt = (σ 387 42).toInt) (e4 : ∀ j, j < 135 → σ1 391 j = σ 391 j) (e5 : ∀ j, j < 45 → σ1 401 j = σ 401 j) (h40 : (σ 387 38).toInt ≤ 40) (h41 : (σ 387 40).toInt ≤ 40) : PV σ1 := by
  obtain ⟨c, t, h1, h2, h3, h4⟩ := h
  have hr : ∀ i, i < c → rdc σ i = rdc σ1 i := fun i hi => (e4 (3 * i) (by omega)).symm
  refine ⟨c, t, by omega, by omega, VPc_congr h3 (fun i hi => by rw [hr i hi]), ?_⟩
  rw [← DP_congr (n := c) (f := rdc σ) (fun i hi => by rw [hr i hi]), BC_congr (t := t) (f := σ1 401) (g := σ 401) (fun i hi => e5 i (by omega)), h4, e3]
abbrev Gd_PV : List Rc := [(387, 387, 38, 38), (387, 387, 40, 40), (387, 387, 42, 42), (391, 391, 0, 134), (401, 401, 0, 44)]
theorem PV.same {σ σ1 : Nat → Nat → Int32} (h : PV σ) (hR : Rg σ1) (e : ∀ k j : Nat, (∃ r ∈ Gd_PV, inRc r k j) → σ1 k j = σ k j) : PV σ1 := by
  have r1 := rg_12_38 hR (k := 387) (by decide) (by decide)
  have r2 := rg_12_40 hR (k := 387) (by decide) (by decide)
  have q1 := congrArg Int32.toInt (e 387 38 ⟨_, List.mem_of_getElem? (i := 0) rfl, by decide, by decide, by decide, by decide⟩)
  have q2 := congrArg Int32.toInt (e 387 40 ⟨_, List.mem_of_getElem? (i := 1) rfl, by decide, by decide, by decide, by decide⟩)
  refine h.eq (congrArg Int32.toInt (e 387 38 ⟨_, List.mem_of_getElem? (i := 0) rfl, by decide, by decide, by decide, by decide⟩)) (congrArg Int32.toInt (e 387 40 ⟨_, List.mem_of_getElem? (i := 1) rfl, by decide, by decide, by decide, by decide⟩)) (congrArg Int32.toInt (e 387 42 ⟨_, List.mem_of_getElem? (i := 2) rfl, by decide, by decide, by decide, by decide⟩)) (fun j hj => e 391 j ⟨_, List.mem_of_getElem? (i := 3) rfl, by decide, by decide, Nat.zero_le _, by show j ≤ 134; omega⟩) (fun j hj => e 401 j ⟨_, List.mem_of_getElem? (i := 4) rfl, by decide, by decide, Nat.zero_le _, by show j ≤ 44; omega⟩) (by omega) (by omega)
theorem PV.fr {L : List Rc} {σ σ1 : Nat → Nat → Int32} (h : PV σ) (hR : Rg σ1) (f : Fr L σ σ1) (hd : disRc L Gd_PV = true) : PV σ1 := h.same hR fun _ _ => f.dis hd
theorem PV.putV {σ σ1 : Nat → Nat → Int32} {k j : Nat} (h : PV σ) (hR : Rg σ1) (u : Up1 σ σ1 k j) (hd : ∀ q ∈ Gd_PV, ¬ inRc q k j) : PV σ1 := h.same hR fun _ _ => u.dis hd
theorem PV.put {σ σ1 : Nat → Nat → Int32} {k j : Nat} (h : PV σ) (hR : Rg σ1) (u : Up1 σ σ1 k j) (hd : outRc Gd_PV k j = true) : PV σ1 := h.same hR fun _ _ => u.dis (outRc.dis hd)
/-- a code is put behind: depth by dl -/
theorem PV.code {σ σ1 : Nat → Nat → Int32} {w : Int32} {c t t1 : Nat} (hc : (σ 387 38).toInt = (c : Int)) (hv : VPc (rdc σ) c) (cd : CD σ σ1 w) (h1 : w.toInt = 20 → 1 ≤ DP (rdc σ) c) (h2 : w.toInt = 21 ∨ w.toInt = 22 → 2 ≤ DP (rdc σ) c) (ht : (σ1 387 40).toInt = (t1 : Int)) (hd : DP (rdc σ) c + dl w = BC (σ1 401) t1 + (σ1 387 42).toInt) : PV σ1 := by
  obtain ⟨c', g1, g2, g3, g4⟩ := cd
  have ec : c' = c := by omega
  subst ec
  have hr : ∀ i, i < c' → rdc σ i = rdc σ1 i := fun i hi => (g3 i hi).symm
  have hD : DP (rdc σ) c' = DP (rdc σ1) c' := DP_congr fun i hi => by rw [hr i hi]
  have hw : (rdc σ1 c').toInt = w.toInt := g4
  have hdl : dl (rdc σ1 c') = dl w := by unfold dl; rw [hw]
  refine ⟨c' + 1, t1, by rw [g2]; omega, ht, VPc_succ (VPc_congr hv (fun i hi => by rw [hr i hi])) (fun q => ?_) (fun q => ?_), ?_⟩
  · rw [← hD]; exact h1 (by rw [← hw]; exact q)
  · rw [← hD]; exact h2 (by rw [← hw]; exact q)
  · show DP (rdc σ1) c' + dl (rdc σ1 c') = _
    rw [← hD, hdl, hd]
/-- joins(): a joining word leaves the stack for the code -/
theorem PV.join {L : List Rc} {σ σ1 σ2 : Nat → Nat → Int32} {w : Int32} {j : Nat} (h : PV σ) (hw : (σ 387 42).toInt = 1) (u : Up1 σ σ1 387 40) (v : (σ1 387 40).toInt = (σ 387 40).toInt - 1) (ej : (j : Int) = (σ 387 40).toInt - 1) (hb : w.toInt = 21 ∨ w.toInt = 22) (hs : w.toInt = (σ 401 j).toInt) (cd : CD σ1 σ2 w) (f : Fr L σ1 σ2) (hd : disRc L [(387, 387, 40, 40), (387, 387, 42, 42), (401, 401, 0, 44)] = true) (ht : (σ 387 40).toInt ≤ 40) : PV σ2 := by
  obtain ⟨c, t, h1, h2, h3, h4⟩ := h
  have et : t = j + 1 := by omega
  subst et
  have f1 : σ2 387 40 = σ1 387 40 := f.dis hd ⟨_, List.mem_of_getElem? (i := 0) rfl, by decide, by decide, by decide, by decide⟩
  have f2 : σ2 387 42 = σ1 387 42 := f.dis hd ⟨_, List.mem_of_getElem? (i := 1) rfl, by decide, by decide, by decide, by decide⟩
  have f3 : ∀ i, i < j → σ2 401 i = σ 401 i := fun i hi => by
    rw [f.dis hd ⟨_, List.mem_of_getElem? (i := 2) rfl, by decide, by decide, Nat.zero_le _, by show i ≤ 44; omega⟩, u 401 i (by omega)]
  have hB : isB (σ 401 j) = 1 := by
    unfold isB
    rw [if_pos (by omega)]
  have h4' : DP (rdc σ) c = BC (σ 401) j + 1 + 1 := by
    rw [h4, hw]
    show BC (σ 401) j + isB (σ 401 j) + 1 = _
    rw [hB]
  have hnn := BC_nn (σ 401) j
  have er : rdc σ1 = rdc σ := funext fun i => u 391 (3 * i) (by omega)
  refine PV.code (c := c) (t := 0) (t1 := j) (by rw [u 387 38 (by omega)]; exact h1) (by rw [er]; exact h3) cd (fun q => by omega) (fun q => by rw [er]; omega) (by rw [f1, v]; omega) ?_
  have hdl : dl w = -1 := by unfold dl; rw [if_neg (by omega), if_pos hb]
  rw [er, h4', hdl, BC_congr (t := j) f3, f2, u 387 42 (by omega), hw]
  omega
/-- nots(): a 'not' leaves the stack for the code -/
theorem PV.nott {L : List Rc} {σ σ1 σ2 σ3 : Nat → Nat → Int32} {w : Int32} {j : Nat} (h : PV σ) (hw : (σ 387 42).toInt = 1) (u : Up1 σ σ1 387 40) (v : (σ1 387 40).toInt = (σ 387 40).toInt - 1) (u2 : Up1 σ1 σ2 387 41) (ej : (j : Int) = (σ 387 40).toInt - 1) (hb : w.toInt = 20) (hs : (σ 401 j).toInt = 20) (cd : CD σ2 σ3 w) (f : Fr L σ2 σ3) (hd : disRc L [(387, 387, 40, 40), (387, 387, 42, 42), (401, 401, 0, 44)] = true) (ht : (σ 387 40).toInt ≤ 40) : PV σ3 := by
  obtain ⟨c, t, h1, h2, h3, h4⟩ := h
  have et : t = j + 1 := by omega
  subst et
  have f1 : σ3 387 40 = σ1 387 40 := by
    rw [f.dis hd ⟨_, List.mem_of_getElem? (i := 0) rfl, by decide, by decide, by decide, by decide⟩, u2 387 40 (by omega)]
  have f2 : σ3 387 42 = σ 387 42 := by
    rw [f.dis hd ⟨_, List.mem_of_getElem? (i := 1) rfl, by decide, by decide, by decide, by decide⟩, u2 387 42 (by omega), u 387 42 (by omega)]
  have f3 : ∀ i, i < j → σ3 401 i = σ 401 i := fun i hi => by
    rw [f.dis hd ⟨_, List.mem_of_getElem? (i := 2) rfl, by decide, by decide, Nat.zero_le _, by show i ≤ 44; omega⟩, u2 401 i (by omega), u 401 i (by omega)]
  have hB : isB (σ 401 j) = 0 := by
    unfold isB
    rw [if_neg (by omega)]
  have h4' : DP (rdc σ) c = BC (σ 401) j + 1 := by
    rw [h4, hw]
    show BC (σ 401) j + isB (σ 401 j) + 1 = _
    rw [hB]
    omega
  have hnn := BC_nn (σ 401) j
  have er : rdc σ2 = rdc σ := funext fun i => by
    show σ2 391 (3 * i) = σ 391 (3 * i)
    rw [u2 391 (3 * i) (by omega), u 391 (3 * i) (by omega)]
  refine PV.code (c := c) (t := 0) (t1 := j) (by rw [u2 387 38 (by omega), u 387 38 (by omega)]; exact h1) (by rw [er]; exact h3) cd (fun q => by rw [er]; omega) (fun q => by omega) (by rw [f1, v]; omega) ?_
  have hdl : dl w = 0 := by unfold dl; rw [if_pos hb]
  rw [er, h4', hdl, BC_congr (t := j) f3, f2, hw]
  omega
/-- operand(): 'not' or '(' goes on the stack -/
theorem PV.push {σ σ1 σ2 : Nat → Nat → Int32} {w : Int32} {j : Nat} (h : PV σ) (ua : Up1 σ σ1 401 j) (va : (σ1 401 j).toInt = w.toInt) (ej : (j : Int) = (σ 387 40).toInt) (hw : w.toInt ≠ 21 ∧ w.toInt ≠ 22) (ub : Up1 σ1 σ2 387 40) (vb : (σ2 387 40).toInt = (σ 387 40).toInt + 1) : PV σ2 := by
  obtain ⟨c, t, h1, h2, h3, h4⟩ := h
  have et : t = j := by omega
  subst et
  have er : rdc σ2 = rdc σ := funext fun i => by
    show σ2 391 (3 * i) = σ 391 (3 * i)
    rw [ub 391 (3 * i) (by omega), ua 391 (3 * i) (by omega)]
  have hB : isB (σ2 401 t) = 0 := by
    unfold isB
    rw [ub 401 t (by omega), va, if_neg (by omega)]
  refine ⟨c, t + 1, by rw [ub 387 38 (by omega), ua 387 38 (by omega)]; exact h1, by rw [vb, h2]; omega, by rw [er]; exact h3, ?_⟩
  show _ = BC (σ2 401) t + isB (σ2 401 t) + _
  rw [er, h4, hB, BC_congr (t := t) (f := σ2 401) (g := σ 401) (fun i hi => by rw [ub 401 i (by omega), ua 401 i (by omega)]), ub 387 42 (by omega), ua 387 42 (by omega)]
  omega
/-- the same, where the operand that stands there is not counted -/
def PW (σ : Nat → Nat → Int32) : Prop := ∃ c t : Nat, (σ 387 38).toInt = (c : Int) ∧ (σ 387 40).toInt = (t : Int) ∧ VPc (rdc σ) c ∧ DP (rdc σ) c = BC (σ 401) t
theorem PV.toPW {σ : Nat → Nat → Int32} (h : PV σ) (h0 : (σ 387 42).toInt = 0) : PW σ := by
  obtain ⟨c, t, h1, h2, h3, h4⟩ := h
  exact ⟨c, t, h1, h2, h3, by rw [h4, h0]; omega⟩
abbrev Gd_PW : List Rc := [(387, 387, 38, 38), (387, 387, 40, 40), (391, 391, 0, 134), (401, 401, 0, 44)]
theorem PW.same {σ σ1 : Nat → Nat → Int32} (h : PW σ) (hR : Rg σ1) (e : ∀ k j : Nat, (∃ r ∈ Gd_PW, inRc r k j) → σ1 k j = σ k j) : PW σ1 := by
  have r1 := rg_12_38 hR (k := 387) (by decide) (by decide)
  have r2 := rg_12_40 hR (k := 387) (by decide) (by decide)
  have q1 := congrArg Int32.toInt (e 387 38 ⟨_, List.mem_of_getElem? (i := 0) rfl, by decide, by decide, by decide, by decide⟩)
  have q2 := congrArg Int32.toInt (e 387 40 ⟨_, List.mem_of_getElem? (i := 1) rfl, by decide, by decide, by decide, by decide⟩)
  obtain ⟨c, t, h1, h2, h3, h4⟩ := h
  have hr : ∀ i, i < c → rdc σ i = rdc σ1 i := fun i hi => (e 391 (3 * i) ⟨_, List.mem_of_getElem? (i := 2) rfl, by decide, by decide, Nat.zero_le _, by show 3 * i ≤ 134; omega⟩).symm
  refine ⟨c, t, by omega, by omega, VPc_congr h3 (fun i hi => by rw [hr i hi]), ?_⟩
  rw [← DP_congr (n := c) (f := rdc σ) (fun i hi => by rw [hr i hi]), BC_congr (t := t) (f := σ1 401) (g := σ 401) (fun i hi => e 401 i ⟨_, List.mem_of_getElem? (i := 3) rfl, by decide, by decide, Nat.zero_le _, by show i ≤ 44; omega⟩), h4]
theorem PW.fr {L : List Rc} {σ σ1 : Nat → Nat → Int32} (h : PW σ) (hR : Rg σ1) (f : Fr L σ σ1) (hd : disRc L Gd_PW = true) : PW σ1 := h.same hR fun _ _ => f.dis hd
theorem PW.put {σ σ1 : Nat → Nat → Int32} {k j : Nat} (h : PW σ) (hR : Rg σ1) (u : Up1 σ σ1 k j) (hd : outRc Gd_PW k j = true) : PW σ1 := h.same hR fun _ _ => u.dis (outRc.dis hd)
/-- operand(): a leaf goes into the code -/
theorem PW.leaf {L : List Rc} {σ1 σ2 : Nat → Nat → Int32} {w : Int32} (h : PW σ1) (v : (σ1 387 42).toInt = 1) (cd : CD σ1 σ2 w) (hw : w.toInt ≠ 20 ∧ w.toInt ≠ 21 ∧ w.toInt ≠ 22) (f : Fr L σ1 σ2) (hd : disRc L [(387, 387, 40, 40), (387, 387, 42, 42), (401, 401, 0, 44)] = true) (ht : (σ1 387 40).toInt ≤ 40) : PV σ2 := by
  obtain ⟨c, t, h1, h2, h3, h4⟩ := h
  have f1 : σ2 387 40 = σ1 387 40 := f.dis hd ⟨_, List.mem_of_getElem? (i := 0) rfl, by decide, by decide, by decide, by decide⟩
  have f2 : σ2 387 42 = σ1 387 42 := f.dis hd ⟨_, List.mem_of_getElem? (i := 1) rfl, by decide, by decide, by decide, by decide⟩
  have f3 : ∀ i, i < t → σ2 401 i = σ1 401 i := fun i hi => f.dis hd ⟨_, List.mem_of_getElem? (i := 2) rfl, by decide, by decide, Nat.zero_le _, by show i ≤ 44; omega⟩
  refine PV.code (c := c) (t := 0) (t1 := t) h1 h3 cd (fun q => by omega) (fun q => by omega) (by rw [f1]; exact h2) ?_
  have hdl : dl w = 1 := by unfold dl; rw [if_neg (by omega), if_neg (by omega)]
  rw [h4, hdl, BC_congr (t := t) f3, f2, v]
/-- behind(): a joining word goes on the stack -/
theorem PV.bin {σ σ1 σ2 σ3 : Nat → Nat → Int32} {w : Int32} {j : Nat} (h : PV σ) (h1w : (σ 387 42).toInt = 1) (ua : Up1 σ σ1 401 j) (va : (σ1 401 j).toInt = w.toInt) (ej : (j : Int) = (σ 387 40).toInt) (hw : w.toInt = 21 ∨ w.toInt = 22) (ub : Up1 σ1 σ2 387 40) (vb : (σ2 387 40).toInt = (σ 387 40).toInt + 1) (uc : Up1 σ2 σ3 387 42) (vc : (σ3 387 42).toInt = 0) : PV σ3 := by
  obtain ⟨c, t, h1, h2, h3, h4⟩ := h
  have et : t = j := by omega
  subst et
  have er : rdc σ3 = rdc σ := funext fun i => by
    show σ3 391 (3 * i) = σ 391 (3 * i)
    rw [uc 391 (3 * i) (by omega), ub 391 (3 * i) (by omega), ua 391 (3 * i) (by omega)]
  have hB : isB (σ3 401 t) = 1 := by
    unfold isB
    rw [uc 401 t (by omega), ub 401 t (by omega), va, if_pos hw]
  refine ⟨c, t + 1, by rw [uc 387 38 (by omega), ub 387 38 (by omega), ua 387 38 (by omega)]; exact h1, by rw [uc 387 40 (by omega), vb, h2]; omega, by rw [er]; exact h3, ?_⟩
  show _ = BC (σ3 401) t + isB (σ3 401 t) + _
  rw [er, h4, hB, BC_congr (t := t) (f := σ3 401) (g := σ 401) (fun i hi => by rw [uc 401 i (by omega), ub 401 i (by omega), ua 401 i (by omega)]), vc, h1w]
  omega
/-- behind(): '(' leaves the stack -/
theorem PV.close {σ σ1 : Nat → Nat → Int32} {j : Nat} (h : PV σ) (ej : (j : Int) = (σ 387 40).toInt - 1) (hs : (σ 401 j).toInt ≠ 21 ∧ (σ 401 j).toInt ≠ 22) (u : Up1 σ σ1 387 40) (v : (σ1 387 40).toInt = (σ 387 40).toInt - 1) : PV σ1 := by
  obtain ⟨c, t, h1, h2, h3, h4⟩ := h
  have et : t = j + 1 := by omega
  subst et
  have er : rdc σ1 = rdc σ := funext fun i => u 391 (3 * i) (by omega)
  have hB : isB (σ 401 j) = 0 := by
    unfold isB
    rw [if_neg (by omega)]
  refine ⟨c, j, by rw [u 387 38 (by omega)]; exact h1, by rw [v]; omega, by rw [er]; exact h3, ?_⟩
  have h4' : DP (rdc σ) c = BC (σ 401) j + isB (σ 401 j) + (σ 387 42).toInt := h4
  rw [er, h4', hB, BC_congr (t := j) (f := σ1 401) (g := σ 401) (fun i hi => by rw [u 401 i (by omega)]), u 387 42 (by omega)]
  omega
theorem PV.start {σ : Nat → Nat → Int32} (h1 : (σ 387 38).toInt = 0) (h2 : (σ 387 40).toInt = 0) (h3 : (σ 387 42).toInt = 0) : PV σ := ⟨0, 0, h1, h2, VPc_zero _, by rw [h3]; rfl⟩
/-- what a VALLEY with its SENTENCE must be: its code runs, its CHANCES are told, where there are MEN there are HILLS -/
def SIf (g : Nat → Int32) : Prop := VPc (fun i => g (247 + 3 * i)) ((g 246).toInt.toNat) ∧ (∀ f : Nat, f < 4 → 0 ≤ (g (79 + f)).toInt ∧ (g (79 + f)).toInt ≤ 9 ∧ ((f : Int) < (g 2).toInt → 1 ≤ (g (79 + f)).toInt)) ∧ ((g 1).toInt = 0 ∨ 1 ≤ (g 0).toInt)
def SI (σ : Nat → Nat → Int32) : Prop := SIf (σ 389)
abbrev Gd_SI : List Rc := [(389, 389, 0, 2), (389, 389, 79, 82), (389, 389, 246, 366)]
theorem SIf.eq {g k : Nat → Int32} (h : SIf g) (h40 : (g 246).toInt ≤ 40) (e1 : ∀ j, j ≤ 2 → k j = g j) (e2 : ∀ j, 79 ≤ j → j ≤ 82 → k j = g j) (e3 : ∀ j, 246 ≤ j → j ≤ 366 → k j = g j) : SIf k := by
  obtain ⟨h1, h2, h3⟩ := h
  refine ⟨?_, fun f hf => ?_, ?_⟩
  · rw [e3 246 (by omega) (by omega)]
    exact VPc_congr h1 (fun i hi => by rw [e3 (247 + 3 * i) (by omega) (by omega)])
  · rw [e2 (79 + f) (by omega) (by omega), e1 2 (by omega)]
    exact h2 f hf
  · rw [e1 1 (by omega), e1 0 (by omega)]
    exact h3
theorem SI.fr {L : List Rc} {σ σ1 : Nat → Nat → Int32} (h : SI σ) (hR : Rg σ1) (f : Fr L σ σ1) (hd : disRc L Gd_SI = true) : SI σ1 := by
  have r := ra_ms_8 hR (k := 389) (j := 246) (by decide) (by decide) (by decide) (by decide)
  have e3 : ∀ j, 246 ≤ j → j ≤ 366 → σ1 389 j = σ 389 j := fun j h1 h2 => f.dis hd ⟨_, List.mem_of_getElem? (i := 2) rfl, by decide, by decide, h1, h2⟩
  have q := congrArg Int32.toInt (e3 246 (by omega) (by omega))
  exact SIf.eq h (by omega) (fun j hj => f.dis hd ⟨_, List.mem_of_getElem? (i := 0) rfl, by decide, by decide, Nat.zero_le _, hj⟩) (fun j h1 h2 => f.dis hd ⟨_, List.mem_of_getElem? (i := 1) rfl, by decide, by decide, h1, h2⟩) e3
theorem SI.put {σ σ1 : Nat → Nat → Int32} {k j : Nat} (h : SI σ) (hR : Rg σ1) (u : Up1 σ σ1 k j) (hd : outRc Gd_SI k j = true) : SI σ1 := by
  have r := ra_ms_8 hR (k := 389) (j := 246) (by decide) (by decide) (by decide) (by decide)
  have e3 : ∀ j, 246 ≤ j → j ≤ 366 → σ1 389 j = σ 389 j := fun j h1 h2 => u.dis (outRc.dis hd) ⟨_, List.mem_of_getElem? (i := 2) rfl, by decide, by decide, h1, h2⟩
  have q := congrArg Int32.toInt (e3 246 (by omega) (by omega))
  exact SIf.eq h (by omega) (fun j hj => u.dis (outRc.dis hd) ⟨_, List.mem_of_getElem? (i := 0) rfl, by decide, by decide, Nat.zero_le _, hj⟩) (fun j h1 h2 => u.dis (outRc.dis hd) ⟨_, List.mem_of_getElem? (i := 1) rfl, by decide, by decide, h1, h2⟩) e3
theorem SI.putV {σ σ1 : Nat → Nat → Int32} {k j : Nat} (h : SI σ) (hR : Rg σ1) (u : Up1 σ σ1 k j) (hd : ∀ q ∈ Gd_SI, ¬ inRc q k j) : SI σ1 := by
  have r := ra_ms_8 hR (k := 389) (j := 246) (by decide) (by decide) (by decide) (by decide)
  have e3 : ∀ j, 246 ≤ j → j ≤ 366 → σ1 389 j = σ 389 j := fun j h1 h2 => u.dis hd ⟨_, List.mem_of_getElem? (i := 2) rfl, by decide, by decide, h1, h2⟩
  have q := congrArg Int32.toInt (e3 246 (by omega) (by omega))
  exact SIf.eq h (by omega) (fun j hj => u.dis hd ⟨_, List.mem_of_getElem? (i := 0) rfl, by decide, by decide, Nat.zero_le _, hj⟩) (fun j h1 h2 => u.dis hd ⟨_, List.mem_of_getElem? (i := 1) rfl, by decide, by decide, h1, h2⟩) e3
/-- the CHANCES of the first FLIGHTS, all together -/
def PSm (σ : Nat → Nat → Int32) : Nat → Int
  | 0 => 0
  | f + 1 => PSm σ f + (σ 389 (79 + f)).toInt
theorem SI.ch {σ : Nat → Nat → Int32} (h : SI σ) {x : Int32} {j : Nat} (h0 : 0 ≤ x.toInt) (h3 : x.toInt ≤ 3) (ej : (j : Int) = 79 + x.toInt) : 0 ≤ (σ 389 j).toInt ∧ (σ 389 j).toInt ≤ 9 ∧ (x.toInt < (σ 389 2).toInt → 1 ≤ (σ 389 j).toInt) ∧ PSm σ (x.toInt + 1).toNat = PSm σ x.toInt.toNat + (σ 389 j).toInt := by
  obtain ⟨f, hf⟩ : ∃ f : Nat, x.toInt = (f : Int) := ⟨x.toInt.toNat, by omega⟩
  have e : j = 79 + f := by omega
  subst e
  have q := h.2.1 f (by omega)
  refine ⟨q.1, q.2.1, fun z => q.2.2 (by omega), ?_⟩
  have e1 : (x.toInt + 1).toNat = f + 1 := by omega
  have e2 : x.toInt.toNat = f := by omega
  rw [e1, e2]
  rfl
def BI (σ : Nat → Nat → Int32) : Prop := (σ 387 32).toInt = 0 ∨ (σ 387 31).toInt ≠ 0
/-- sentence(): the code that was read is the VALLEY's -/
theorem SI.sent {L : List Rc} {σ0 σ : Nat → Nat → Int32} (h : SI σ0) (hF : Fr L σ0 σ) (hd : disRc L [(389, 389, 0, 2), (389, 389, 79, 82)] = true) (hR : Rg σ) (hv : PV σ) (e : (σ 389 246).toInt = (σ 387 38).toInt) (cp : ∀ i : Nat, (i : Int) < 3 * (σ 387 38).toInt → σ 389 (247 + i) = σ 391 i) : SI σ := by
  obtain ⟨h1, h2, h3⟩ := h
  obtain ⟨c, t, g1, g2, g3, g4⟩ := hv
  refine ⟨?_, fun f hf => ?_, ?_⟩
  · have ec : (σ 389 246).toInt.toNat = c := by omega
    rw [ec]
    exact VPc_congr g3 (fun i hi => by show (σ 391 (3 * i)).toInt = (σ 389 (247 + 3 * i)).toInt; rw [cp (3 * i) (by omega)])
  · rw [hF.dis hd (k := 389) (j := 79 + f) ⟨_, List.mem_of_getElem? (i := 1) rfl, by decide, by decide, by show 79 ≤ 79 + f; omega, by show 79 + f ≤ 82; omega⟩, hF.dis hd (k := 389) (j := 2) ⟨_, List.mem_of_getElem? (i := 0) rfl, by decide, by decide, by decide, by decide⟩]
    exact h2 f hf
  · rw [hF.dis hd (k := 389) (j := 1) ⟨_, List.mem_of_getElem? (i := 0) rfl, by decide, by decide, by decide, by decide⟩, hF.dis hd (k := 389) (j := 0) ⟨_, List.mem_of_getElem? (i := 0) rfl, by decide, by decide, by decide, by decide⟩]
    exact h3
/-- isSaid(): what the code asks of the stack's depth -/
theorem SI.code {L : List Rc} {σ0 σ : Nat → Nat → Int32} (h : SI σ0) (hF : Fr L σ0 σ) (hd : disRc L [(389, 389, 246, 366)] = true) (hR : Rg σ) {x y : Int32} {j : Nat} (h0 : 0 ≤ x.toInt) (h1 : x.toInt < (σ 389 246).toInt) (ej : (j : Int) = 247 + 3 * x.toInt) (hy : y.toInt = DP (fun i => σ0 389 (247 + 3 * i)) x.toInt.toNat) : y.toInt ≤ x.toInt ∧ (((σ 389 j).toInt = 20 ∧ 1 ≤ y.toInt ∧ DP (fun i => σ0 389 (247 + 3 * i)) (x.toInt + 1).toNat = y.toInt) ∨ (((σ 389 j).toInt = 21 ∨ (σ 389 j).toInt = 22) ∧ 2 ≤ y.toInt ∧ DP (fun i => σ0 389 (247 + 3 * i)) (x.toInt + 1).toNat = y.toInt - 1) ∨ ((σ 389 j).toInt ≠ 20 ∧ (σ 389 j).toInt ≠ 21 ∧ (σ 389 j).toInt ≠ 22 ∧ DP (fun i => σ0 389 (247 + 3 * i)) (x.toInt + 1).toNat = y.toInt + 1)) := by
  obtain ⟨i, hi⟩ : ∃ i : Nat, x.toInt = (i : Int) := ⟨x.toInt.toNat, by omega⟩
  have r := ra_ms_8 hR (k := 389) (j := 246) (by decide) (by decide) (by decide) (by decide)
  have e0 : σ 389 246 = σ0 389 246 := hF.dis hd ⟨_, List.mem_of_getElem? (i := 0) rfl, by decide, by decide, by decide, by decide⟩
  rw [e0] at h1 r
  have ejj : j = 247 + 3 * i := by omega
  subst ejj
  have e1 : σ 389 (247 + 3 * i) = σ0 389 (247 + 3 * i) := hF.dis hd ⟨_, List.mem_of_getElem? (i := 0) rfl, by decide, by decide, by show 246 ≤ 247 + 3 * i; omega, by show 247 + 3 * i ≤ 366; omega⟩
  have ei : x.toInt.toNat = i := by omega
  have ei1 : (x.toInt + 1).toNat = i + 1 := by omega
  rw [ei] at hy
  rw [e1, ei1]
  have hle := DP_le (fun i => σ0 389 (247 + 3 * i)) i
  have hv := h.1 i (by omega)
  have hs : DP (fun i => σ0 389 (247 + 3 * i)) (i + 1) = DP (fun i => σ0 389 (247 + 3 * i)) i + dl (σ0 389 (247 + 3 * i)) := rfl
  rw [hs]
  refine ⟨by omega, ?_⟩
  by_cases q1 : (σ0 389 (247 + 3 * i)).toInt = 20
  · left
    have hdl : dl (σ0 389 (247 + 3 * i)) = 0 := by unfold dl; rw [if_pos q1]
    have := hv.1 q1
    exact ⟨q1, by omega, by rw [hdl]; omega⟩
  · by_cases q2 : (σ0 389 (247 + 3 * i)).toInt = 21 ∨ (σ0 389 (247 + 3 * i)).toInt = 22
    · right; left
      have hdl : dl (σ0 389 (247 + 3 * i)) = -1 := by unfold dl; rw [if_neg q1, if_pos q2]
      have := hv.2 q2
      exact ⟨q2, by omega, by rw [hdl]; omega⟩
    · right; right
      have hdl : dl (σ0 389 (247 + 3 * i)) = 1 := by unfold dl; rw [if_neg q1, if_neg q2]
      exact ⟨q1, by omega, by omega, by rw [hdl]; omega⟩
theorem CPs {σ σ1 : Nat → Nat → Int32} {j a : Nat} (u : Up1 σ σ1 389 j) (v : (σ1 389 j).toInt = (σ 391 a).toInt) (ej : j = 247 + a) (h : ∀ i : Nat, i < a → σ 389 (247 + i) = σ 391 i) (i : Nat) (hi : i ≤ a) : σ1 389 (247 + i) = σ1 391 i := by
  rw [u 391 i (by omega)]
  rcases Nat.lt_or_ge i a with q | q
  · rw [u 389 (247 + i) (by omega)]
    exact h i q
  · have e : i = a := by omega
    subst e
    rw [← ej]
    exact Int32.toInt_inj.mp v
def BT (x y : Int32) : Int := if ((x >>> (y &&& 31)) &&& 1).toInt = 1 then 1 else 0
/-- all CHANCES -/
def PF (σ : Nat → Nat → Int32) : Int := PSm σ (σ 389 2).toInt.toNat
theorem PSm_congr {σ σ1 : Nat → Nat → Int32} : ∀ {k : Nat}, (∀ f, f < k → σ1 389 (79 + f) = σ 389 (79 + f)) → PSm σ1 k = PSm σ k
  | 0, _ => rfl
  | k + 1, h => by
    show PSm σ1 k + (σ1 389 (79 + k)).toInt = PSm σ k + (σ 389 (79 + k)).toInt
    rw [PSm_congr (k := k) (fun f hf => h f (by omega)), h k (by omega)]
theorem PF_fr {L : List Rc} {σ σ1 : Nat → Nat → Int32} (hR : Rg σ1) (f : Fr L σ σ1) (hd : disRc L [(389, 389, 2, 2), (389, 389, 79, 82)] = true) : PF σ1 = PF σ := by
  have e : σ1 389 2 = σ 389 2 := f.dis hd ⟨_, List.mem_of_getElem? (i := 0) rfl, by decide, by decide, by decide, by decide⟩
  have r := ra_ms_1 hR (k := 389) (j := 2) (by decide) (by decide) (by decide) (by decide)
  rw [e] at r
  unfold PF
  rw [e]
  exact PSm_congr fun k hk => f.dis hd ⟨_, List.mem_of_getElem? (i := 1) rfl, by decide, by decide, by show 79 ≤ 79 + k; omega, by show 79 + k ≤ 82; omega⟩
abbrev Gd_PF : List Rc := [(389, 389, 2, 2), (389, 389, 79, 82)]
theorem PF_same {σ σ1 : Nat → Nat → Int32} (hR : Rg σ1) (h : ∀ k j : Nat, (∃ r ∈ Gd_PF, inRc r k j) → σ1 k j = σ k j) : PF σ1 = PF σ := by
  have e : σ1 389 2 = σ 389 2 := h 389 2 ⟨_, List.mem_of_getElem? (i := 0) rfl, by decide, by decide, by decide, by decide⟩
  have r := ra_ms_1 hR (k := 389) (j := 2) (by decide) (by decide) (by decide) (by decide)
  rw [e] at r
  unfold PF
  rw [e]
  exact PSm_congr fun k hk => h 389 (79 + k) ⟨_, List.mem_of_getElem? (i := 1) rfl, by decide, by decide, by show 79 ≤ 79 + k; omega, by show 79 + k ≤ 82; omega⟩
theorem PF_put {σ σ1 : Nat → Nat → Int32} {k j : Nat} (hR : Rg σ1) (u : Up1 σ σ1 k j) (hd : outRc Gd_PF k j = true) : PF σ1 = PF σ := PF_same hR fun _ _ => u.dis (outRc.dis hd)
theorem PF_putV {σ σ1 : Nat → Nat → Int32} {k j : Nat} (hR : Rg σ1) (u : Up1 σ σ1 k j) (hd : ∀ q ∈ Gd_PF, ¬ inRc q k j) : PF σ1 = PF σ := PF_same hR fun _ _ => u.dis hd
theorem PF_lt {σ : Nat → Nat → Int32} {x y : Int32} (h0 : 0 ≤ y.toInt) (hx : 0 ≤ x.toInt) (hle : x.toInt ≤ (σ 389 2).toInt) (h : y.toInt + PSm σ x.toInt.toNat < PF σ) : x.toInt < (σ 389 2).toInt := by
  by_cases q : x.toInt < (σ 389 2).toInt
  · exact q
  · have e : x.toInt = (σ 389 2).toInt := by omega
    rw [e] at h
    unfold PF at h
    omega
/-- a byte of the tape -/
def OCt (σ : Nat → Nat → Int32) (x : Int32) : Int := ((σ 388 x.toInt.toNat) &&& 255).toInt
theorem OC_eq {L : List Rc} {σ0 σ : Nat → Nat → Int32} (hF : Fr L σ0 σ) (hd : disRc L [(388, 388, 0, 939)] = true) (x : Int32) (hx : x.toInt ≤ 939) : OCt σ x = OCt σ0 x := by
  unfold OCt
  rw [hF.dis hd (k := 388) (j := x.toInt.toNat) ⟨_, List.mem_of_getElem? (i := 0) rfl, by decide, by decide, Nat.zero_le _, by show x.toInt.toNat ≤ 939; omega⟩]
/-- a line of a ROLL, as it is read -/
def OKL (σ : Nat → Nat → Int32) (i : Nat) : Prop := ((σ 391 (3 * i)).toInt < 1 ∨ 3 < (σ 391 (3 * i)).toInt ∨ (0 ≤ (σ 391 (3 * i + 1)).toInt ∧ (σ 391 (3 * i + 1)).toInt ≤ 7)) ∧ ((σ 391 (3 * i)).toInt ≠ 2 ∨ (0 ≤ (σ 391 (3 * i + 2)).toInt ∧ (σ 391 (3 * i + 2)).toInt ≤ 9)) ∧ ((σ 391 (3 * i)).toInt ≠ 3 ∨ (0 ≤ (σ 391 (3 * i + 2)).toInt ∧ (σ 391 (3 * i + 2)).toInt ≤ 7)) ∧ ((σ 391 (3 * i)).toInt ≠ 1 ∨ (0 ≤ (σ 391 (3 * i + 2)).toInt ∧ (σ 391 (3 * i + 2)).toInt ≤ 7))
theorem OKL.of_w {σ : Nat → Nat → Int32} {t j : Nat} (e : 3 * t = j) (h : (σ 391 j).toInt < 1 ∨ 3 < (σ 391 j).toInt) : OKL σ t := by
  unfold OKL
  rw [e]
  exact ⟨by omega, by omega, by omega, by omega⟩
theorem OKL.of3 {σ : Nat → Nat → Int32} {t j1 j2 j3 : Nat} (e1 : 3 * t = j1) (e2 : 3 * t + 1 = j2) (e3 : 3 * t + 2 = j3) (h1 : 0 ≤ (σ 391 j2).toInt ∧ (σ 391 j2).toInt ≤ 7) (h2 : 0 ≤ (σ 391 j3).toInt ∧ (σ 391 j3).toInt ≤ 9) (h3 : (σ 391 j1).toInt = 2 ∨ (σ 391 j3).toInt ≤ 7) : OKL σ t := by
  unfold OKL
  rw [e3, e2, e1]
  exact ⟨by omega, by omega, by omega, by omega⟩
def RXp (σ0 σ : Nat → Nat → Int32) : Prop := ∀ i : Nat, (i : Int) < 3 * (σ0 387 34).toInt → σ 391 i = σ0 391 i
abbrev Gd_RXp : List Rc := [(391, 391, 0, 134)]
theorem RXp.fr {L : List Rc} {σ0 σ σ1 : Nat → Nat → Int32} (h : RXp σ0 σ) (hR : (σ0 387 34).toInt ≤ 40) (f : Fr L σ σ1) (hd : disRc L Gd_RXp = true) : RXp σ0 σ1 := fun i hi => by
  rw [f.dis hd (k := 391) (j := i) ⟨_, List.mem_of_getElem? (i := 0) rfl, by decide, by decide, Nat.zero_le _, by show i ≤ 134; omega⟩]
  exact h i hi
theorem RXp.put {σ0 σ σ1 : Nat → Nat → Int32} {k j : Nat} (h : RXp σ0 σ) (hR : (σ0 387 34).toInt ≤ 40) (u : Up1 σ σ1 k j) (hd : outRc Gd_RXp k j = true) : RXp σ0 σ1 := fun i hi => by
  rw [u.dis (G := Gd_RXp) (outRc.dis hd) ⟨_, List.mem_of_getElem? (i := 0) rfl, by decide, by decide, Nat.zero_le _, by show i ≤ 134; omega⟩]
  exact h i hi
theorem RXp.st {σ0 σ σ1 : Nat → Nat → Int32} {j : Nat} (h : RXp σ0 σ) (u : Up1 σ σ1 391 j) (hj : 3 * (σ0 387 34).toInt ≤ (j : Int)) : RXp σ0 σ1 := fun i hi => by
  rw [u 391 i (by omega)]
  exact h i hi
def RLs (σ0 σ : Nat → Nat → Int32) : Prop := RXp σ0 σ ∧ ∀ t : Nat, (σ0 387 34).toInt = (t : Int) → OKL σ t
def MLt (σ : Nat → Nat → Int32) : Prop := ∀ i : Nat, (i : Int) < (σ 387 34).toInt → OKL σ i
abbrev Gd_MLt : List Rc := [(387, 387, 34, 34), (391, 391, 0, 134)]
theorem MLt.same {σ σ1 : Nat → Nat → Int32} (h : MLt σ) (hR : Rg σ1) (e : ∀ k j : Nat, (∃ r ∈ Gd_MLt, inRc r k j) → σ1 k j = σ k j) : MLt σ1 := by
  intro i hi
  have r1 := rg_12_34 hR (k := 387) (by decide) (by decide)
  have e0 := e 387 34 ⟨_, List.mem_of_getElem? (i := 0) rfl, by decide, by decide, by decide, by decide⟩
  have e1 := e 391 (3 * i) ⟨_, List.mem_of_getElem? (i := 1) rfl, by decide, by decide, Nat.zero_le _, by show 3 * i ≤ 134; omega⟩
  have e2 := e 391 (3 * i + 1) ⟨_, List.mem_of_getElem? (i := 1) rfl, by decide, by decide, Nat.zero_le _, by show 3 * i + 1 ≤ 134; omega⟩
  have e3 := e 391 (3 * i + 2) ⟨_, List.mem_of_getElem? (i := 1) rfl, by decide, by decide, Nat.zero_le _, by show 3 * i + 2 ≤ 134; omega⟩
  have q := h i (by rw [← e0]; exact hi)
  unfold OKL at q ⊢
  rw [e1, e2, e3]
  exact q
theorem MLt.fr {L : List Rc} {σ σ1 : Nat → Nat → Int32} (h : MLt σ) (hR : Rg σ1) (f : Fr L σ σ1) (hd : disRc L Gd_MLt = true) : MLt σ1 := h.same hR fun _ _ => f.dis hd
theorem MLt.put {σ σ1 : Nat → Nat → Int32} {k j : Nat} (h : MLt σ) (hR : Rg σ1) (u : Up1 σ σ1 k j) (hd : outRc Gd_MLt k j = true) : MLt σ1 := h.same hR fun _ _ => u.dis (outRc.dis hd)
theorem MLt.putV {σ σ1 : Nat → Nat → Int32} {k j : Nat} (h : MLt σ) (hR : Rg σ1) (u : Up1 σ σ1 k j) (hd : ∀ q ∈ Gd_MLt, ¬ inRc q k j) : MLt σ1 := h.same hR fun _ _ => u.dis hd
theorem MLt.zero {σ : Nat → Nat → Int32} (h : (σ 387 34).toInt = 0) : MLt σ := fun i hi => absurd hi (by omega)
theorem MLt.step {L : List Rc} {σ σ1 σ2 σ3 : Nat → Nat → Int32} (h : MLt σ) (hr : (σ 387 34).toInt ≤ 39) (h0 : 0 ≤ (σ 387 34).toInt) (rl : RLs σ σ1) (f : Fr L σ1 σ2) (hd : disRc L [(391, 391, 0, 134)] = true) (u : Up1 σ2 σ3 387 34) (v : (σ3 387 34).toInt = (σ 387 34).toInt + 1) : MLt σ3 := by
  intro i hi
  have e : ∀ j : Nat, j ≤ 134 → σ3 391 j = σ1 391 j := fun j hj => by
    rw [u 391 j (by omega), f.dis hd (k := 391) (j := j) ⟨_, List.mem_of_getElem? (i := 0) rfl, by decide, by decide, Nat.zero_le _, hj⟩]
  unfold OKL
  rw [e (3 * i) (by omega), e (3 * i + 1) (by omega), e (3 * i + 2) (by omega)]
  by_cases q : (i : Int) < (σ 387 34).toInt
  · rw [rl.1 (3 * i) (by omega), rl.1 (3 * i + 1) (by omega), rl.1 (3 * i + 2) (by omega)]
    exact h i q
  · exact rl.2 i (by omega)
theorem MLt.at {σ : Nat → Nat → Int32} (h : MLt σ) {x : Int32} {j1 j2 j3 : Nat} (h0 : 0 ≤ x.toInt) (hx : x.toInt < (σ 387 34).toInt) (e1 : (j1 : Int) = 3 * x.toInt) (e2 : (j2 : Int) = 3 * x.toInt + 1) (e3 : (j3 : Int) = 3 * x.toInt + 2) : ((σ 391 j1).toInt < 1 ∨ 3 < (σ 391 j1).toInt ∨ (0 ≤ (σ 391 j2).toInt ∧ (σ 391 j2).toInt ≤ 7)) ∧ ((σ 391 j1).toInt ≠ 2 ∨ (0 ≤ (σ 391 j3).toInt ∧ (σ 391 j3).toInt ≤ 9)) ∧ ((σ 391 j1).toInt ≠ 3 ∨ (0 ≤ (σ 391 j3).toInt ∧ (σ 391 j3).toInt ≤ 7)) ∧ ((σ 391 j1).toInt ≠ 1 ∨ (0 ≤ (σ 391 j3).toInt ∧ (σ 391 j3).toInt ≤ 7)) := by
  have q := h x.toInt.toNat (by omega)
  have a1 : 3 * x.toInt.toNat = j1 := by omega
  have a2 : 3 * x.toInt.toNat + 1 = j2 := by omega
  have a3 : 3 * x.toInt.toNat + 2 = j3 := by omega
  unfold OKL at q
  rw [a3, a2, a1] at q
  exact q
theorem QTst {σ σ1 : Nat → Nat → Int32} {x y : Int} {j : Nat} (h : ∀ i : Nat, (i : Int) < x → 0 ≤ (σ 402 i).toInt ∧ (σ 402 i).toInt ≤ 1) (u : Up1 σ σ1 402 j) (v0 : 0 ≤ (σ1 402 j).toInt ∧ (σ1 402 j).toInt ≤ 1) (hy : y ≤ x ∨ (y ≤ (j : Int) + 1 ∧ (j : Int) ≤ x)) : ∀ i : Nat, (i : Int) < y → 0 ≤ (σ1 402 i).toInt ∧ (σ1 402 i).toInt ≤ 1 := by
  intro i hi
  by_cases e : i = j
  · subst e
    exact v0
  · rw [u 402 i (by omega)]
    exact h i (by omega)
theorem QTfr {L : List Rc} {σ σ1 : Nat → Nat → Int32} {x : Int} (h : ∀ i : Nat, (i : Int) < x → 0 ≤ (σ 402 i).toInt ∧ (σ 402 i).toInt ≤ 1) (f : Fr L σ σ1) (hd : disRc L [(402, 402, 0, 44)] = true) (hx : x ≤ 45) : ∀ i : Nat, (i : Int) < x → 0 ≤ (σ1 402 i).toInt ∧ (σ1 402 i).toInt ≤ 1 := by
  intro i hi
  rw [f.dis hd (k := 402) (j := i) ⟨_, List.mem_of_getElem? (i := 0) rfl, by decide, by decide, Nat.zero_le _, by show i ≤ 44; omega⟩]
  exact h i hi
/-! the read VALLEY (h), images, better -/
theorem BI.same {σ σ1 : Nat → Nat → Int32} (h : BI σ) (e1 : σ1 387 31 = σ 387 31) (e2 : σ1 387 32 = σ 387 32) : BI σ1 := by
  unfold BI at h ⊢
  rw [e1, e2]
  exact h
abbrev Gd_BI : List Rc := [(387, 387, 31, 32)]
theorem BI.fr {L : List Rc} {σ σ1 : Nat → Nat → Int32} (h : BI σ) (f : Fr L σ σ1) (hd : disRc L Gd_BI = true) : BI σ1 := h.same (f.dis hd ⟨_, List.mem_of_getElem? (i := 0) rfl, by decide, by decide, by decide, by decide⟩) (f.dis hd ⟨_, List.mem_of_getElem? (i := 0) rfl, by decide, by decide, by decide, by decide⟩)
theorem BI.put {σ σ1 : Nat → Nat → Int32} {k j : Nat} (h : BI σ) (u : Up1 σ σ1 k j) (hd : outRc Gd_BI k j = true) : BI σ1 := h.same (u.dis (outRc.dis hd) ⟨_, List.mem_of_getElem? (i := 0) rfl, by decide, by decide, by decide, by decide⟩) (u.dis (outRc.dis hd) ⟨_, List.mem_of_getElem? (i := 0) rfl, by decide, by decide, by decide, by decide⟩)
theorem BI.putV {σ σ1 : Nat → Nat → Int32} {k j : Nat} (h : BI σ) (u : Up1 σ σ1 k j) (hd : ∀ q ∈ Gd_BI, ¬ inRc q k j) : BI σ1 := h.same (u.dis hd ⟨_, List.mem_of_getElem? (i := 0) rfl, by decide, by decide, by decide, by decide⟩) (u.dis hd ⟨_, List.mem_of_getElem? (i := 0) rfl, by decide, by decide, by decide, by decide⟩)
def HIf (g : Nat → Int32) : Prop := (∀ f : Nat, f < 4 → 0 ≤ (g (79 + f)).toInt ∧ (g (79 + f)).toInt ≤ 9 ∧ ((f : Int) < (g 2).toInt → 1 ≤ (g (79 + f)).toInt)) ∧ ((g 1).toInt = 0 ∨ 1 ≤ (g 0).toInt)
def HI (σ : Nat → Nat → Int32) : Prop := HIf (σ 390)
abbrev Gd_HI : List Rc := [(390, 390, 0, 2), (390, 390, 79, 82)]
theorem HIf.eq {g k : Nat → Int32} (h : HIf g) (e1 : ∀ j, j ≤ 2 → k j = g j) (e2 : ∀ j, 79 ≤ j → j ≤ 82 → k j = g j) : HIf k := by
  obtain ⟨h2, h3⟩ := h
  refine ⟨fun f hf => ?_, ?_⟩
  · rw [e2 (79 + f) (by omega) (by omega), e1 2 (by omega)]
    exact h2 f hf
  · rw [e1 1 (by omega), e1 0 (by omega)]
    exact h3
theorem HI.same {σ σ1 : Nat → Nat → Int32} (h : HI σ) (e : ∀ k j : Nat, (∃ r ∈ Gd_HI, inRc r k j) → σ1 k j = σ k j) : HI σ1 := HIf.eq h (fun j hj => e 390 j ⟨_, List.mem_of_getElem? (i := 0) rfl, by decide, by decide, Nat.zero_le _, hj⟩) (fun j h1 h2 => e 390 j ⟨_, List.mem_of_getElem? (i := 1) rfl, by decide, by decide, h1, h2⟩)
theorem HI.fr {L : List Rc} {σ σ1 : Nat → Nat → Int32} (h : HI σ) (f : Fr L σ σ1) (hd : disRc L Gd_HI = true) : HI σ1 := h.same fun _ _ => f.dis hd
theorem HI.put {σ σ1 : Nat → Nat → Int32} {k j : Nat} (h : HI σ) (u : Up1 σ σ1 k j) (hd : outRc Gd_HI k j = true) : HI σ1 := h.same fun _ _ => u.dis (outRc.dis hd)
theorem HI.putV {σ σ1 : Nat → Nat → Int32} {k j : Nat} (h : HI σ) (u : Up1 σ σ1 k j) (hd : ∀ q ∈ Gd_HI, ¬ inRc q k j) : HI σ1 := h.same fun _ _ => u.dis hd
theorem HI.st {σ σ1 : Nat → Nat → Int32} {j : Nat} (h : HI σ) (u : Up1 σ σ1 390 j) (h3 : 3 ≤ j) (hv : j < 79 ∨ 82 < j ∨ (1 ≤ (σ1 390 j).toInt ∧ (σ1 390 j).toInt ≤ 9)) : HI σ1 := by
  obtain ⟨h1, h2⟩ := h
  refine ⟨fun f hf => ?_, ?_⟩
  · rw [u 390 2 (by omega)]
    by_cases e : 79 + f = j
    · subst e
      omega
    · rw [u 390 (79 + f) (by omega)]
      exact h1 f hf
  · rw [u 390 1 (by omega), u 390 0 (by omega)]
    exact h2
theorem HI.hills {σ σ1 : Nat → Nat → Int32} (h : HI σ) (u : Up1 σ σ1 390 0) (hv : 1 ≤ (σ1 390 0).toInt) : HI σ1 := by
  obtain ⟨h1, h2⟩ := h
  refine ⟨fun f hf => ?_, Or.inr hv⟩
  rw [u 390 2 (by omega), u 390 (79 + f) (by omega)]
  exact h1 f hf
theorem HI.men {σ σ1 : Nat → Nat → Int32} (h : HI σ) (u : Up1 σ σ1 390 1) (hv : 1 ≤ (σ 390 0).toInt) : HI σ1 := by
  obtain ⟨h1, h2⟩ := h
  refine ⟨fun f hf => ?_, Or.inr (by rw [u 390 0 (by omega)]; exact hv)⟩
  rw [u 390 2 (by omega), u 390 (79 + f) (by omega)]
  exact h1 f hf
theorem HI.zero {σ : Nat → Nat → Int32} (h : ∀ j : Nat, j < 211 → (σ 390 j).toInt = 0) : HI σ := by
  refine ⟨fun f hf => ?_, Or.inl (h 1 (by omega))⟩
  have h1 := h (79 + f) (by omega)
  have h2 := h 2 (by omega)
  refine ⟨by omega, by omega, fun q => ?_⟩
  omega
/-- puts(): one slot alone -/
def PT (σ σ1 : Nat → Nat → Int32) (a : Int32) : Prop := ∀ j : Nat, j ≤ 210 → (j : Int) ≠ a.toInt → σ1 390 j = σ 390 j
theorem PT.no {L : List Rc} {σ σ1 : Nat → Nat → Int32} {a : Int32} (f : Fr L σ σ1) (hd : disRc L [(390, 390, 0, 210)] = true) : PT σ σ1 a := fun j hj _ => f.dis hd ⟨_, List.mem_of_getElem? (i := 0) rfl, by decide, by decide, Nat.zero_le _, hj⟩
theorem PT.yes {L : List Rc} {σ σ1 σ2 : Nat → Nat → Int32} {a : Int32} {i : Nat} (f : Fr L σ σ1) (hd : disRc L [(390, 390, 0, 210)] = true) (u : Up1 σ1 σ2 390 i) (ei : (i : Int) = a.toInt) : PT σ σ2 a := fun j hj hn => by
  rw [u 390 j (by omega)]
  exact f.dis hd ⟨_, List.mem_of_getElem? (i := 0) rfl, by decide, by decide, Nat.zero_le _, hj⟩
/-- the CHANCE of the FLIGHT that is being read is told -/
def HC (σ : Nat → Nat → Int32) : Prop := ∃ f : Nat, f < 4 ∧ (σ 390 2).toInt = (f : Int) ∧ 1 ≤ (σ 390 (79 + f)).toInt
abbrev Gd_HC : List Rc := [(390, 390, 2, 2), (390, 390, 79, 82)]
theorem HC.same {σ σ1 : Nat → Nat → Int32} (h : HC σ) (e : ∀ k j : Nat, (∃ r ∈ Gd_HC, inRc r k j) → σ1 k j = σ k j) : HC σ1 := by
  obtain ⟨f, h1, h2, h3⟩ := h
  refine ⟨f, h1, ?_, ?_⟩
  · rw [e 390 2 ⟨_, List.mem_of_getElem? (i := 0) rfl, by decide, by decide, by decide, by decide⟩]
    exact h2
  · rw [e 390 (79 + f) ⟨_, List.mem_of_getElem? (i := 1) rfl, by decide, by decide, by show 79 ≤ 79 + f; omega, by show 79 + f ≤ 82; omega⟩]
    exact h3
theorem HC.fr {L : List Rc} {σ σ1 : Nat → Nat → Int32} (h : HC σ) (f : Fr L σ σ1) (hd : disRc L Gd_HC = true) : HC σ1 := h.same fun _ _ => f.dis hd
theorem HC.put {σ σ1 : Nat → Nat → Int32} {k j : Nat} (h : HC σ) (u : Up1 σ σ1 k j) (hd : outRc Gd_HC k j = true) : HC σ1 := h.same fun _ _ => u.dis (outRc.dis hd)
theorem HC.putV {σ σ1 : Nat → Nat → Int32} {k j : Nat} (h : HC σ) (u : Up1 σ σ1 k j) (hd : ∀ q ∈ Gd_HC, ¬ inRc q k j) : HC σ1 := h.same fun _ _ => u.dis hd
theorem HC.of {σ : Nat → Nat → Int32} {a b c : Int32} (pv : ∀ j : Nat, (j : Int) = a.toInt → b.toInt ≤ (σ 390 j).toInt ∧ (σ 390 j).toInt ≤ c.toInt) (ha : a.toInt = 79 + (σ 390 2).toInt) (h0 : 0 ≤ (σ 390 2).toInt) (h3 : (σ 390 2).toInt ≤ 3) (hb : 1 ≤ b.toInt) : HC σ := by
  obtain ⟨f, hf⟩ : ∃ f : Nat, (σ 390 2).toInt = (f : Int) := ⟨_, (Int.toNat_of_nonneg h0).symm⟩
  have := pv (79 + f) (by omega)
  exact ⟨f, by omega, hf, by omega⟩
theorem HC.pt {σ σ1 : Nat → Nat → Int32} {a : Int32} (h : HC σ) (pt : PT σ σ1 a) (h3 : 3 ≤ a.toInt) (ha : a.toInt < 79 ∨ 82 < a.toInt) : HC σ1 := by
  obtain ⟨f, h1, h2, h4⟩ := h
  refine ⟨f, h1, ?_, ?_⟩
  · rw [pt 2 (by omega) (by omega)]
    exact h2
  · rw [pt (79 + f) (by omega) (by omega)]
    exact h4
theorem HI.inc {σ σ1 : Nat → Nat → Int32} (h : HI σ) (hc : HC σ) (u : Up1 σ σ1 390 2) (hv : (σ1 390 2).toInt = (σ 390 2).toInt + 1) : HI σ1 := by
  obtain ⟨f0, g1, g2, g3⟩ := hc
  obtain ⟨h1, h2⟩ := h
  refine ⟨fun f hf => ?_, ?_⟩
  · rw [u 390 (79 + f) (by omega), hv]
    have q := h1 f hf
    refine ⟨q.1, q.2.1, fun z => ?_⟩
    by_cases e : f = f0
    · subst e
      exact g3
    · exact q.2.2 (by omega)
  · rw [u 390 1 (by omega), u 390 0 (by omega)]
    exact h2
theorem Z1st {σ σ1 : Nat → Nat → Int32} {x y : Int} {i : Nat} (h : ∀ j : Nat, (j : Int) < x → (σ 390 j).toInt = 0) (u : Up1 σ σ1 390 i) (hv : (i : Int) = x ∧ (σ1 390 i).toInt = 0) (ey : y = x + 1) : ∀ j : Nat, (j : Int) < y → (σ1 390 j).toInt = 0 := by
  intro j hj
  by_cases e : j = i
  · subst e
    exact hv.2
  · rw [u 390 j (by omega)]
    exact h j (by omega)
theorem V1st {σ σ1 : Nat → Nat → Int32} {x y : Int} {i : Nat} (h : ∀ j : Nat, (j : Int) < x → j < 211 → σ 389 j = σ 390 j) (u : Up1 σ σ1 389 i) (ei : (i : Int) = x) (hv : i < 211 → (σ1 389 i).toInt = (σ 390 i).toInt) (ey : y = x + 1) : ∀ j : Nat, (j : Int) < y → j < 211 → σ1 389 j = σ1 390 j := by
  intro j hj h2
  rw [u 390 j (by omega)]
  by_cases e : j = i
  · subst e
    exact Int32.toInt_inj.mp (hv h2)
  · rw [u 389 j (by omega)]
    exact h j (by omega) h2
theorem V2st {σ σ1 : Nat → Nat → Int32} {x y : Int} {i : Nat} (h : ∀ j : Nat, (j : Int) < x → 211 ≤ j → (σ 389 j).toInt = 0) (u : Up1 σ σ1 389 i) (ei : (i : Int) = x) (hv : 211 ≤ i → (σ1 389 i).toInt = 0) (ey : y = x + 1) : ∀ j : Nat, (j : Int) < y → 211 ≤ j → (σ1 389 j).toInt = 0 := by
  intro j hj h2
  by_cases e : j = i
  · subst e
    exact hv h2
  · rw [u 389 j (by omega)]
    exact h j (by omega) h2
theorem SI.ofHI {σ : Nat → Nat → Int32} (h : HI σ) (e : ∀ j : Nat, j < 211 → σ 389 j = σ 390 j) (z : (σ 389 246).toInt = 0) : SI σ := by
  obtain ⟨h1, h2⟩ := h
  refine ⟨?_, fun f hf => ?_, ?_⟩
  · have e0 : (σ 389 246).toInt.toNat = 0 := by rw [z]; rfl
    rw [e0]
    exact VPc_zero _
  · rw [e (79 + f) (by omega), e 2 (by omega)]
    exact h1 f hf
  · rw [e 1 (by omega), e 0 (by omega)]
    exact h2
/-- what is kept of a VALLEY may be restored -/
def SIK (σ : Nat → Nat → Int32) : Prop := ∀ k : Nat, k < 2 → (σ 405 k).toInt ≠ 0 → SIf (fun j => σ 403 (427 * k + j))
abbrev Gd_SIK : List Rc := [(403, 403, 0, 853), (405, 405, 0, 1)]
theorem k246 {σ : Nat → Nat → Int32} (hR : Rg σ) {k : Nat} (hk : k < 2) : (σ 403 (427 * k + 246)).toInt ≤ 40 := by
  have h1 := (hR 403 (427 * k + 246)).2
  rw [(me_ks k hk 246 (by decide)).2] at h1
  have e : rhi 389 246 = 40 := by decide +kernel
  rw [e] at h1
  exact h1
theorem SIK.same {σ σ1 : Nat → Nat → Int32} (h : SIK σ) (hR : Rg σ1) (e : ∀ k j : Nat, (∃ r ∈ Gd_SIK, inRc r k j) → σ1 k j = σ k j) : SIK σ1 := by
  intro k hk hn
  have e1 := e 405 k ⟨_, List.mem_of_getElem? (i := 1) rfl, by decide, by decide, Nat.zero_le _, by show k ≤ 1; omega⟩
  have e2 : ∀ j : Nat, j < 427 → σ1 403 (427 * k + j) = σ 403 (427 * k + j) := fun j hj => e 403 (427 * k + j) ⟨_, List.mem_of_getElem? (i := 0) rfl, by decide, by decide, Nat.zero_le _, by show 427 * k + j ≤ 853; omega⟩
  have r := k246 hR hk
  rw [e2 246 (by omega)] at r
  exact SIf.eq (h k hk (by rw [← e1]; exact hn)) r (fun j hj => e2 j (by omega)) (fun j _ hj => e2 j (by omega)) (fun j _ hj => e2 j (by omega))
theorem SIK.fr {L : List Rc} {σ σ1 : Nat → Nat → Int32} (h : SIK σ) (hR : Rg σ1) (f : Fr L σ σ1) (hd : disRc L Gd_SIK = true) : SIK σ1 := h.same hR fun _ _ => f.dis hd
theorem SIK.put {σ σ1 : Nat → Nat → Int32} {k j : Nat} (h : SIK σ) (hR : Rg σ1) (u : Up1 σ σ1 k j) (hd : outRc Gd_SIK k j = true) : SIK σ1 := h.same hR fun _ _ => u.dis (outRc.dis hd)
theorem SIK.putV {σ σ1 : Nat → Nat → Int32} {k j : Nat} (h : SIK σ) (hR : Rg σ1) (u : Up1 σ σ1 k j) (hd : ∀ q ∈ Gd_SIK, ¬ inRc q k j) : SIK σ1 := h.same hR fun _ _ => u.dis hd
theorem I1st {σ σ1 : Nat → Nat → Int32} {a x y : Int} {jj q : Nat} (h : ∀ i j : Nat, a = (i : Int) → (j : Int) < x → σ 403 (427 * i + j) = σ 389 j) (u : Up1 σ σ1 403 jj) (v : (σ1 403 jj).toInt = (σ 389 q).toInt) (eq : (q : Int) = x) (ej : (jj : Int) = 427 * a + x) (ey : y = x + 1) (hx : x < 427) (h0 : 0 ≤ x) : ∀ i j : Nat, a = (i : Int) → (j : Int) < y → σ1 403 (427 * i + j) = σ1 389 j := by
  intro i j ha hj
  rw [u 389 j (by omega)]
  by_cases e : (j : Int) = x
  · have e1 : 427 * i + j = jj := by omega
    have e2 : j = q := by omega
    rw [e1, e2]
    exact Int32.toInt_inj.mp v
  · rw [u 403 (427 * i + j) (by omega)]
    exact h i j ha (by omega)
theorem I2st {σ0 σ σ1 : Nat → Nat → Int32} {a x : Int} {jj : Nat} (h : ∀ k j : Nat, k < 2 → j < 427 → a ≠ (k : Int) → σ 403 (427 * k + j) = σ0 403 (427 * k + j)) (u : Up1 σ σ1 403 jj) (ej : (jj : Int) = 427 * a + x) (hx : x < 427) (h0 : 0 ≤ x) : ∀ k j : Nat, k < 2 → j < 427 → a ≠ (k : Int) → σ1 403 (427 * k + j) = σ0 403 (427 * k + j) := by
  intro k j hk hj ha
  rw [u 403 (427 * k + j) (by omega)]
  exact h k j hk hj ha
theorem SIK.im {σ0 σ σ1 : Nat → Nat → Int32} {a : Int} {i : Nat} (h : SIK σ0) (hs : SI σ1) (hR : Rg σ1) (h1 : ∀ i j : Nat, a = (i : Int) → j < 427 → σ 403 (427 * i + j) = σ 389 j) (h2 : ∀ k j : Nat, k < 2 → j < 427 → a ≠ (k : Int) → σ 403 (427 * k + j) = σ0 403 (427 * k + j)) (h3 : ∀ k : Nat, k < 2 → σ 405 k = σ0 405 k) (u : Up1 σ σ1 405 i) (ei : a = (i : Int)) : SIK σ1 := by
  intro k hk hn
  have r := k246 hR hk
  by_cases e : k = i
  · subst e
    have e2 : ∀ j : Nat, j < 427 → σ1 403 (427 * k + j) = σ1 389 j := fun j hj => by
      rw [u 403 (427 * k + j) (by omega), u 389 j (by omega)]
      exact h1 k j ei hj
    rw [e2 246 (by omega)] at r
    exact SIf.eq hs r (fun j hj => e2 j (by omega)) (fun j _ hj => e2 j (by omega)) (fun j _ hj => e2 j (by omega))
  · have e2 : ∀ j : Nat, j < 427 → σ1 403 (427 * k + j) = σ0 403 (427 * k + j) := fun j hj => by
      rw [u 403 (427 * k + j) (by omega)]
      exact h2 k j hk hj (by omega)
    rw [u 405 k (by omega), h3 k hk] at hn
    rw [e2 246 (by omega)] at r
    exact SIf.eq (h k hk hn) r (fun j hj => e2 j (by omega)) (fun j _ hj => e2 j (by omega)) (fun j _ hj => e2 j (by omega))
theorem R1st {σ σ1 : Nat → Nat → Int32} {a x y : Int} {jj q : Nat} (h : ∀ i j : Nat, a = (i : Int) → (j : Int) < x → σ 389 j = σ 403 (427 * i + j)) (u : Up1 σ σ1 389 q) (v : (σ1 389 q).toInt = (σ 403 jj).toInt) (eq : (q : Int) = x) (ej : (jj : Int) = 427 * a + x) (ey : y = x + 1) (hx : x < 427) (h0 : 0 ≤ x) : ∀ i j : Nat, a = (i : Int) → (j : Int) < y → σ1 389 j = σ1 403 (427 * i + j) := by
  intro i j ha hj
  rw [u 403 (427 * i + j) (by omega)]
  by_cases e : (j : Int) = x
  · have e1 : 427 * i + j = jj := by omega
    have e2 : j = q := by omega
    rw [e1, e2]
    exact Int32.toInt_inj.mp v
  · rw [u 389 j (by omega)]
    exact h i j ha (by omega)
theorem SI.rest {σ : Nat → Nat → Int32} {a : Int} (h : SIK σ) (hR : Rg σ) (h2 : ∀ i : Nat, a = (i : Int) → (σ 405 i).toInt ≠ 0) (h1 : ∀ i j : Nat, a = (i : Int) → j < 427 → σ 389 j = σ 403 (427 * i + j)) (h0 : 0 ≤ a) (ha : a ≤ 1) : SI σ := by
  obtain ⟨i, hi⟩ : ∃ i : Nat, a = (i : Int) := ⟨_, (Int.toNat_of_nonneg h0).symm⟩
  have e2 : ∀ j : Nat, j < 427 → σ 389 j = σ 403 (427 * i + j) := fun j hj => h1 i j hi hj
  exact SIf.eq (h i (by omega) (h2 i hi)) (k246 hR (by omega)) (fun j hj => e2 j (by omega)) (fun j _ hj => e2 j (by omega)) (fun j _ hj => e2 j (by omega))
