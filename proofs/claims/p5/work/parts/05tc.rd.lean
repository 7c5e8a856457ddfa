/-! ## what a predicate of the world hangs on -/
def Agr (L : List Rc) (σ σ' : Nat → Nat → Int32) : Prop := ∀ k j : Nat, (∃ q ∈ L, inRc q k j) → σ' k j = σ k j
def AgrL (L : List Rc) (τ τ' : Nat → Nat → Int64) : Prop := ∀ k j : Nat, (∃ q ∈ L, inRc q k j) → τ' k j = τ k j
theorem rc_in {L : List Rc} {k j : Nat} (i : Nat) {a b c d : Nat} (hi : L[i]? = some (a, b, c, d)) (h1 : a ≤ k) (h2 : k ≤ b) (h3 : c ≤ j) (h4 : j ≤ d) : ∃ q ∈ L, inRc q k j := ⟨_, List.mem_of_getElem? hi, h1, h2, h3, h4⟩
theorem outRc.no {L : List Rc} {k j : Nat} (ho : outRc L k j = true) : ∀ q ∈ L, ¬ inRc q k j := by
  intro q hq hin
  have hd := of_decide_eq_true (List.all_eq_true.mp ho q hq)
  obtain ⟨h1, h2, h3, h4⟩ := hin
  omega
theorem Agr.putV {L : List Rc} {σ σ1 : Nat → Nat → Int32} {k j : Nat} (u : Up1 σ σ1 k j) (h : ∀ q ∈ L, ¬ inRc q k j) : Agr L σ σ1 := by
  intro k' j' ⟨q, hq, hin⟩
  refine u k' j' ?_
  rintro ⟨rfl, rfl⟩
  exact h q hq hin
theorem Agr.put {L : List Rc} {σ σ1 : Nat → Nat → Int32} {k j : Nat} (u : Up1 σ σ1 k j) (h : outRc L k j = true) : Agr L σ σ1 := Agr.putV u (outRc.no h)
theorem Agr.fr {L M : List Rc} {σ σ1 : Nat → Nat → Int32} (f : Fr M σ σ1) (h : disRc M L = true) : Agr L σ σ1 := fun _ _ hin => f.dis h hin
theorem AgrL.putV {L : List Rc} {τ τ1 : Nat → Nat → Int64} {k j : Nat} (u : Up1L τ τ1 k j) (h : ∀ q ∈ L, ¬ inRc q k j) : AgrL L τ τ1 := by
  intro k' j' ⟨q, hq, hin⟩
  refine u k' j' ?_
  rintro ⟨rfl, rfl⟩
  exact h q hq hin
theorem AgrL.put {L : List Rc} {τ τ1 : Nat → Nat → Int64} {k j : Nat} (u : Up1L τ τ1 k j) (h : outRc L k j = true) : AgrL L τ τ1 := AgrL.putV u (outRc.no h)
theorem FrL.dis {L G : List Rc} {τ τ1 : Nat → Nat → Int64} (f : FrL L τ τ1) (hd : disRc L G = true) {k j : Nat} (hin : ∃ r ∈ G, inRc r k j) : τ1 k j = τ k j := by
  obtain ⟨r, hr, h1, h2, h3, h4⟩ := hin
  refine f k j fun q hq hin => ?_
  have hd := of_decide_eq_true (List.all_eq_true.mp (List.all_eq_true.mp hd q hq) r hr)
  obtain ⟨g1, g2, g3, g4⟩ := hin
  omega
theorem AgrL.fr {L M : List Rc} {τ τ1 : Nat → Nat → Int64} (f : FrL M τ τ1) (h : disRc M L = true) : AgrL L τ τ1 := fun _ _ hin => f.dis h hin
theorem FrL.puts {L : List Rc} {τ τ1 τ2 : Nat → Nat → Int64} {k j a b c d : Nat} (h : FrL L τ τ1) (u : Up1L τ1 τ2 k j) (i : Nat) (hi : L[i]? = some (a, b, c, d)) (h1 : a ≤ k) (h2 : k ≤ b) (h3 : c ≤ j) (h4 : j ≤ d) : FrL L τ τ2 := h.put u i hi ⟨h1, h2, h3, h4⟩
theorem FrL.row {L : List Rc} {τ τ1 τ2 : Nat → Nat → Int64} {k n a b c d : Nat} (h : FrL L τ τ1) (u : RowNL τ1 τ2 k n) (i : Nat) (hi : L[i]? = some (a, b, c, d)) (h1 : a ≤ k) (h2 : k ≤ b) (h3 : c ≤ 0) (h4 : n ≤ d) : FrL L τ τ2 := by
  intro k' j' hn
  rw [u k' j' ?_]
  · exact h k' j' hn
  · by_cases e : k' = k
    · refine Or.inr ?_
      by_cases g : n ≤ j'
      · exact g
      · exact absurd (show inRc (a, b, c, d) k' j' from ⟨by show a ≤ k'; omega, by show k' ≤ b; omega, by show c ≤ j'; omega, by show j' ≤ d; omega⟩) (hn _ (List.mem_of_getElem? hi))
    · exact Or.inl e
/-! ## numbers of 64 bits -/
theorem tl_lo (x : Int64) : -9223372036854775808 ≤ x.toInt := by have := x.le_toInt; omega
theorem tl_hi (x : Int64) : x.toInt ≤ 9223372036854775807 := by have := x.toInt_lt; omega
theorem tl_add {x y : Int64} (h : -9223372036854775808 ≤ x.toInt + y.toInt ∧ x.toInt + y.toInt ≤ 9223372036854775807) : (x + y).toInt = x.toInt + y.toInt := by
  rw [Int64.toInt_add]
  exact Int.bmod_eq_of_le (by omega) (by omega)
theorem tl_sub {x y : Int64} (h : -9223372036854775808 ≤ x.toInt - y.toInt ∧ x.toInt - y.toInt ≤ 9223372036854775807) : (x - y).toInt = x.toInt - y.toInt := by
  rw [Int64.toInt_sub]
  exact Int.bmod_eq_of_le (by omega) (by omega)
theorem tl_mul {x y : Int64} (h : -9223372036854775808 ≤ x.toInt * y.toInt ∧ x.toInt * y.toInt ≤ 9223372036854775807) : (x * y).toInt = x.toInt * y.toInt := by
  rw [Int64.toInt_mul]
  exact Int.bmod_eq_of_le (by omega) (by omega)
theorem tl_of (x : Int32) : x.toInt64.toInt = x.toInt := Int32.toInt_toInt64 x
/-- a byte put behind a number -/
theorem tl_shor {x y : Int64} {k : Int32} (hk : k.toInt = 8) (hx : 0 ≤ x.toInt) (hx2 : x.toInt < 281474976710656) (hy : 0 ≤ y.toInt) (hy2 : y.toInt < 256) : ((x <<< (k.toInt64 &&& 63)) ||| y).toInt = x.toInt * 256 + y.toInt := by
  have e : k = 8 := Int32.toInt_inj.mp hk
  subst e
  have e8 : (Int32.toInt64 8 &&& 63 : Int64) = 8 := by decide
  rw [e8]
  obtain ⟨a, ha⟩ : ∃ a : Nat, x.toInt = (a : Int) := ⟨x.toInt.toNat, by omega⟩
  obtain ⟨b, hb⟩ : ∃ b : Nat, y.toInt = (b : Int) := ⟨y.toInt.toNat, by omega⟩
  have ex : x = Int64.ofNat a := Int64.toInt_inj.mp (by rw [ha, Int64.toInt_ofNat_of_lt (by omega)])
  have ey : y = Int64.ofNat b := Int64.toInt_inj.mp (by rw [hb, Int64.toInt_ofNat_of_lt (by omega)])
  have e1 : (x <<< (8 : Int64)) = Int64.ofNat (a * 256) := by
    apply Int64.toBitVec_inj.mp
    rw [ex, Int64.toBitVec_shiftLeft]
    apply BitVec.eq_of_toNat_eq
    have h1 : (Int64.toBitVec 8).smod 64 = 8#64 := by decide
    rw [h1, BitVec.shiftLeft_eq', BitVec.toNat_shiftLeft]
    show ((a % 2 ^ 64) <<< 8) % 2 ^ 64 = (a * 256) % 2 ^ 64
    rw [Nat.shiftLeft_eq, Nat.mod_eq_of_lt (show a < 2 ^ 64 by omega)]
  rw [e1, ey]
  have e2 : (Int64.ofNat (a * 256) ||| Int64.ofNat b) = Int64.ofNat (a * 256 + b) := by
    apply Int64.toBitVec_inj.mp
    rw [Int64.toBitVec_or]
    apply BitVec.eq_of_toNat_eq
    rw [BitVec.toNat_or]
    show (a * 256 % 2 ^ 64) ||| (b % 2 ^ 64) = (a * 256 + b) % 2 ^ 64
    have h1 : a * 256 % 2 ^ 64 = a * 256 := Nat.mod_eq_of_lt (by omega)
    have h2 : b % 2 ^ 64 = b := Nat.mod_eq_of_lt (by omega)
    have h3 : (a * 256 + b) % 2 ^ 64 = a * 256 + b := Nat.mod_eq_of_lt (by omega)
    rw [h1, h2, h3]
    have h4 := Nat.shiftLeft_add_eq_or_of_lt (b := b) (i := 8) (show b < 2 ^ 8 by omega) a
    rw [Nat.shiftLeft_eq] at h4
    exact h4.symm
  rw [e2, Int64.toInt_ofNat_of_lt (by omega), Int64.toInt_ofNat_of_lt (by omega)]
  omega
/-! ## tokens by the place where they begin -/
theorem stE_le2 (P : Nat → Bool) (N : Nat) : ∀ f s : Nat, s ≤ N → stE P N f s ≤ N
  | 0, s, h => h
  | f + 1, s, h => by
    unfold stE
    split
    · rename_i q
      exact stE_le2 P N f (s + 1) (by omega)
    · exact h
theorem skpE_ge (b : Nat → Int) (N s : Nat) : s ≤ skpE b N s := (stE_le _ N N s).1
theorem skpE_le (b : Nat → Int) {N s : Nat} (h : s ≤ N) : skpE b N s ≤ N := stE_le2 _ N N s h
theorem skpE_in {b : Nat → Int} {N s i : Nat} (h1 : s ≤ i) (h2 : i < skpE b N s) : i < N ∧ isBl (b i) := by
  have h := stE_in (fun i => decide (isBl (b i))) N N s i h1 h2
  exact ⟨h.1, of_decide_eq_true h.2⟩
theorem skpE_out (b : Nat → Int) (N s : Nat) : ¬ (skpE b N s < N ∧ isBl (b (skpE b N s))) := fun h => stE_out (fun i => decide (isBl (b i))) N N s (by omega) ⟨h.1, decide_eq_true h.2⟩
theorem skpE_self {b : Nat → Int} {N s : Nat} (h : ¬ (s < N ∧ isBl (b s))) : skpE b N s = s := skpE_eq (Nat.le_refl _) (fun i h1 h2 => absurd h2 (by omega)) h
theorem skpE_idem (b : Nat → Int) (N s : Nat) : skpE b N (skpE b N s) = skpE b N s := skpE_self (skpE_out b N s)
theorem skpE_step {b : Nat → Int} {N s : Nat} (h : s < N) (hb : isBl (b s)) : skpE b N (s + 1) = skpE b N s := by
  refine (skpE_eq (t := skpE b N (s + 1)) ?_ ?_ (skpE_out b N (s + 1))).symm
  · have := skpE_ge b N (s + 1)
    omega
  · intro i h1 h2
    by_cases e : i = s
    · subst e; exact ⟨h, hb⟩
    · exact skpE_in (by omega) h2
theorem runE_ge (b : Nat → Int) (N s : Nat) : s ≤ runE b N s := (stE_le _ N N s).1
theorem runE_le (b : Nat → Int) {N s : Nat} (h : s ≤ N) : runE b N s ≤ N := stE_le2 _ N N s h
theorem runE_in {b : Nat → Int} {N s i : Nat} (h1 : s ≤ i) (h2 : i < runE b N s) : i < N ∧ isRn (b i) := by
  have h := stE_in (fun i => decide (isRn (b i))) N N s i h1 h2
  exact ⟨h.1, of_decide_eq_true h.2⟩
theorem runE_out (b : Nat → Int) (N s : Nat) : ¬ (runE b N s < N ∧ isRn (b (runE b N s))) := fun h => stE_out (fun i => decide (isRn (b i))) N N s (by omega) ⟨h.1, decide_eq_true h.2⟩
theorem runE_gt {b : Nat → Int} {N s : Nat} (h : s < N) (hb : isRn (b s)) : s < runE b N s := by
  have h1 := runE_ge b N s
  by_cases e : runE b N s = s
  · have h2 := runE_out b N s
    rw [e] at h2
    exact absurd ⟨h, hb⟩ h2
  · omega
/-- how many digits there are -/
def dgc (b : Nat → Int) (q : Nat) : Nat → Nat
  | 0 => 0
  | n + 1 => dgc b q n + (if isDg (b (q + n)) then 1 else 0)
theorem dgc_y {b : Nat → Int} {q n : Nat} (h : isDg (b (q + n))) : dgc b q (n + 1) = dgc b q n + 1 := by
  show dgc b q n + (if isDg (b (q + n)) then 1 else 0) = _
  rw [if_pos h]
theorem dgc_n {b : Nat → Int} {q n : Nat} (h : ¬ isDg (b (q + n))) : dgc b q (n + 1) = dgc b q n := by
  show dgc b q n + (if isDg (b (q + n)) then 1 else 0) = _
  rw [if_neg h]
  rfl
theorem dgc_le (b : Nat → Int) (q : Nat) : ∀ n : Nat, dgc b q n ≤ n
  | 0 => Nat.le_refl _
  | n + 1 => by
    have h := dgc_le b q n
    by_cases c : isDg (b (q + n))
    · rw [dgc_y c]; omega
    · rw [dgc_n c]; omega
theorem dgc_none {b : Nat → Int} {q : Nat} : ∀ {n : Nat}, dgc b q n = 0 → ∀ i : Nat, i < n → ¬ isDg (b (q + i))
  | 0, _, i, hi => absurd hi (Nat.not_lt_zero i)
  | n + 1, h, i, hi => by
    by_cases c : isDg (b (q + n))
    · rw [dgc_y c] at h; omega
    · rw [dgc_n c] at h
      by_cases e : i = n
      · subst e; exact c
      · exact dgc_none h i (by omega)
theorem dgc_all {b : Nat → Int} {q : Nat} : ∀ {n : Nat}, dgc b q n = n → ∀ i : Nat, i < n → isDg (b (q + i))
  | 0, _, i, hi => absurd hi (Nat.not_lt_zero i)
  | n + 1, h, i, hi => by
    have hl := dgc_le b q n
    by_cases c : isDg (b (q + n))
    · rw [dgc_y c] at h
      by_cases e : i = n
      · subst e; exact c
      · exact dgc_all (n := n) (by omega) i (by omega)
    · rw [dgc_n c] at h; omega
/-- the words that no NAME is -/
def RWl : List Int := [491394459493, 512852582772, 2003398244, 474316174440, 1700885364, 495791207528, 2003137396, 1751739500, 1717660780, 7168366, 7302244, 1684365670, 474147546227, 112615810885748, 427071202675, 1752135026, 470021465459, 126956639187571, 426836257907, 126892148680051, 28530, 6385252, 7237492, 495925031534, 1818846564, 28526, 448377483876, 1668245870, 495874699877, 6644082, 121450625394034]
def wdF (w : Int) : List Int → Int → Int
  | [], _ => 47
  | c :: cs, k => if w = c then k else wdF w cs (k + 1)
def wdK (w : Int) : Int := wdF w RWl 0
theorem wdF_spec (w : Int) : ∀ (l : List Int) (k : Int), (wdF w l k = 47 ∧ ∀ i : Nat, i < l.length → l.getD i 0 ≠ w) ∨ ∃ i : Nat, i < l.length ∧ l.getD i 0 = w ∧ wdF w l k = k + (i : Int)
  | [], k => Or.inl ⟨rfl, fun i hi => absurd hi (Nat.not_lt_zero i)⟩
  | c :: cs, k => by
    by_cases e : w = c
    · refine Or.inr ⟨0, Nat.succ_pos _, e.symm, ?_⟩
      show (if w = c then k else wdF w cs (k + 1)) = _
      rw [if_pos e]
      omega
    · have h1 : wdF w (c :: cs) k = wdF w cs (k + 1) := by
        show (if w = c then k else wdF w cs (k + 1)) = _
        rw [if_neg e]
      rw [h1]
      rcases wdF_spec w cs (k + 1) with ⟨h2, h3⟩ | ⟨i, h2, h3, h4⟩
      · refine Or.inl ⟨h2, fun i hi => ?_⟩
        cases i with
        | zero => exact fun q => e q.symm
        | succ i => exact h3 i (by simpa using hi)
      · exact Or.inr ⟨i + 1, by simpa using h2, h3, by rw [h4]; omega⟩
theorem wdK_spec (w : Int) : (wdK w = 47 ∧ ∀ i : Nat, i < 31 → RWl.getD i 0 ≠ w) ∨ ∃ i : Nat, i < 31 ∧ RWl.getD i 0 = w ∧ wdK w = (i : Int) := by
  rcases wdF_spec w RWl 0 with h | ⟨i, h2, h3, h4⟩
  · exact Or.inl h
  · exact Or.inr ⟨i, h2, h3, by show wdF w RWl 0 = _; omega⟩
theorem RWl_inj : ∀ i : Nat, i < 31 → ∀ j : Nat, j < 31 → RWl.getD i 0 = RWl.getD j 0 → i = j := by decide +kernel
/-- a word is the one of a number just if its kind is that number -/
theorem wdK_at {w : Int} {k : Nat} (hk : k < 31) : wdK w = (k : Int) ↔ w = RWl.getD k 0 := by
  rcases wdK_spec w with ⟨h1, h2⟩ | ⟨i, h2, h3, h4⟩
  · constructor
    · intro h; omega
    · intro h; exact absurd h.symm (h2 k hk)
  · constructor
    · intro h
      have e : i = k := by omega
      subst e
      exact h3.symm
    · intro h
      rw [h4, RWl_inj i h2 k hk (h3.trans h)]
theorem wdK_rg (w : Int) : (0 ≤ wdK w ∧ wdK w ≤ 30) ∨ wdK w = 47 := by
  rcases wdK_spec w with ⟨h1, _⟩ | ⟨i, h2, _, h4⟩
  · exact Or.inr h1
  · exact Or.inl (by omega)
theorem wdK_nm {w : Int} : wdK w = 47 ↔ ∀ i : Nat, i < 31 → RWl.getD i 0 ≠ w := by
  rcases wdK_spec w with ⟨h1, h2⟩ | ⟨i, h2, h3, h4⟩
  · exact ⟨fun _ => h2, fun _ => h1⟩
  · exact ⟨fun h => by omega, fun h => absurd h3 (h i h2)⟩
/-- the kind of a run of n letters and digits -/
def rnK (b : Nat → Int) (q n : Nat) : Int := if dgc b q n = n ∧ n ≤ 3 then 46 else if dgc b q n = 0 ∧ n ≤ 7 then wdK (fd 256 0 b q n) else 49
abbrev endq (N mo q : Nat) : Prop := (mo < N ∧ mo ≤ q) ∨ N ≤ q
def lmq (N mo q : Nat) : Nat := if mo < N ∧ mo ≤ q then mo else q
def tEnd (b : Nat → Int) (N q : Nat) : Nat := if isRn (b q) then runE b N q else q + 1
def nxq (b : Nat → Int) (N mo q : Nat) : Nat := if endq N mo q then q else lmq N mo (skpE b N (tEnd b N q))
def tkq (b : Nat → Int) (N mo q : Nat) : Int := if mo < N ∧ mo ≤ q then 49 else if N ≤ q then 48 else if isRn (b q) then rnK b q (runE b N q - q) else sgT (b q)
def nuq (b : Nat → Int) (N q : Nat) : Int := fd 10 48 b q (runE b N q - q)
def wdq (b : Nat → Int) (N q : Nat) : Int := fd 256 0 b q (runE b N q - q)
def posq (b : Nat → Int) (N mo : Nat) : Nat → Nat
  | 0 => lmq N mo (skpE b N 0)
  | i + 1 => nxq b N mo (posq b N mo i)
theorem sgT_rg (c : Int) : (40 ≤ sgT c ∧ sgT c ≤ 45) ∨ sgT c = 49 := by
  unfold sgT
  split
  · omega
  · split
    · omega
    · split
      · omega
      · split
        · omega
        · split
          · omega
          · split <;> omega
theorem rnK_rg (b : Nat → Int) (q n : Nat) : (0 ≤ rnK b q n ∧ rnK b q n ≤ 30) ∨ (46 ≤ rnK b q n ∧ rnK b q n ≤ 47) ∨ rnK b q n = 49 := by
  unfold rnK
  split
  · omega
  · split
    · have := wdK_rg (fd 256 0 b q n)
      omega
    · omega
theorem nxq_end {b : Nat → Int} {N mo q : Nat} (h : endq N mo q) : nxq b N mo q = q := if_pos h
theorem nxq_go {b : Nat → Int} {N mo q : Nat} (h : ¬ endq N mo q) : nxq b N mo q = lmq N mo (skpE b N (tEnd b N q)) := if_neg h
theorem tEnd_rn {b : Nat → Int} {N q : Nat} (h : isRn (b q)) : tEnd b N q = runE b N q := if_pos h
theorem tEnd_sg {b : Nat → Int} {N q : Nat} (h : ¬ isRn (b q)) : tEnd b N q = q + 1 := if_neg h
theorem tkq_lim {b : Nat → Int} {N mo q : Nat} (h : mo < N ∧ mo ≤ q) : tkq b N mo q = 49 := if_pos h
theorem tkq_end {b : Nat → Int} {N mo q : Nat} (h : ¬ (mo < N ∧ mo ≤ q)) (h2 : N ≤ q) : tkq b N mo q = 48 := by
  unfold tkq
  rw [if_neg h, if_pos h2]
theorem tkq_rn {b : Nat → Int} {N mo q : Nat} (h : ¬ endq N mo q) (h2 : isRn (b q)) : tkq b N mo q = rnK b q (runE b N q - q) := by
  unfold tkq
  rw [if_neg (by omega), if_neg (by omega), if_pos h2]
theorem tkq_sg {b : Nat → Int} {N mo q : Nat} (h : ¬ endq N mo q) (h2 : ¬ isRn (b q)) : tkq b N mo q = sgT (b q) := by
  unfold tkq
  rw [if_neg (by omega), if_neg (by omega), if_neg h2]
theorem tkq_rg (b : Nat → Int) (N mo q : Nat) : (0 ≤ tkq b N mo q ∧ tkq b N mo q ≤ 30) ∨ (40 ≤ tkq b N mo q ∧ tkq b N mo q ≤ 49) := by
  by_cases h1 : mo < N ∧ mo ≤ q
  · rw [tkq_lim h1]; omega
  · by_cases h2 : N ≤ q
    · rw [tkq_end h1 h2]; omega
    · by_cases h3 : isRn (b q)
      · rw [tkq_rn (by omega) h3]
        have := rnK_rg b q (runE b N q - q)
        omega
      · rw [tkq_sg (by omega) h3]
        have := sgT_rg (b q)
        omega
/-- what is no end is within the text -/
theorem tkq_in {b : Nat → Int} {N mo q : Nat} (h : tkq b N mo q ≠ 48) (h2 : tkq b N mo q ≠ 49) : ¬ endq N mo q := by
  intro e
  by_cases h1 : mo < N ∧ mo ≤ q
  · exact h2 (tkq_lim h1)
  · exact h (tkq_end h1 (by omega))
theorem lmq_id {N mo q : Nat} (h : ¬ (mo < N ∧ mo ≤ q)) : lmq N mo q = q := if_neg h
theorem lmq_lim {N mo q : Nat} (h : mo < N ∧ mo ≤ q) : lmq N mo q = mo := if_pos h
/-- a token that is no end takes the reader on -/
theorem nxq_gt {b : Nat → Int} {N mo q : Nat} (h : ¬ endq N mo q) : q < nxq b N mo q := by
  rw [nxq_go h]
  have h1 : q < tEnd b N q := by
    by_cases c : isRn (b q)
    · rw [tEnd_rn c]; exact runE_gt (by omega) c
    · rw [tEnd_sg c]; omega
  have h2 := skpE_ge b N (tEnd b N q)
  by_cases c : mo < N ∧ mo ≤ skpE b N (tEnd b N q)
  · rw [lmq_lim c]; omega
  · rw [lmq_id c]; omega
theorem nxq_le {b : Nat → Int} {N mo q : Nat} (h : q ≤ N) : nxq b N mo q ≤ N := by
  by_cases c : endq N mo q
  · rw [nxq_end c]; exact h
  · rw [nxq_go c]
    have h1 : tEnd b N q ≤ N := by
      by_cases c2 : isRn (b q)
      · rw [tEnd_rn c2]; exact runE_le b h
      · rw [tEnd_sg c2]; omega
    have h2 := skpE_le b h1
    by_cases c3 : mo < N ∧ mo ≤ skpE b N (tEnd b N q)
    · rw [lmq_lim c3]; omega
    · rw [lmq_id c3]; exact h2
/-- a word of the class's number x is the one of the model's number w -/
def NR (b : Nat → Int) (x : Int64) (w : Int) : Prop := ∃ s n : Nat, (∀ i : Nat, i < n → isLt (b (s + i))) ∧ n ≤ 7 ∧ x.toInt = fd 27 96 b s n ∧ w = fd 256 0 b s n
theorem NR.iff {b : Nat → Int} {x x' : Int64} {w w' : Int} (h : NR b x w) (h' : NR b x' w') : x = x' ↔ w = w' := by
  obtain ⟨s, n, h1, _, h2, h3⟩ := h
  obtain ⟨s', n', g1, _, g2, g3⟩ := h'
  have e := fd_two h1 g1
  rw [← h2, ← g2, ← h3, ← g3] at e
  rw [← e]
  exact ⟨fun q => by rw [q], fun q => Int64.toInt_inj.mp q⟩
/-- the token at q, by kind, place, number and name -/
def TV (b : Nat → Int) (N mo q : Nat) (k p n : Int) (x : Int64) : Prop := k = tkq b N mo q ∧ p = (q : Int) ∧ (k = 46 → n = nuq b N q) ∧ (k = 47 → NR b x (wdq b N q))
def lenl : List Nat := [5, 5, 4, 5, 4, 5, 4, 4, 4, 3, 3, 4, 5, 6, 5, 4, 5, 6, 5, 6, 2, 3, 3, 5, 4, 2, 5, 4, 5, 3, 6]
theorem row_len : ∀ k : Nat, k < 31 → lenl.getD k 0 ≤ 7 := by decide +kernel
theorem row_lt : ∀ k : Nat, k < 31 → ∀ i : Nat, i < 7 → i < lenl.getD k 0 → 97 ≤ rowc (7 * k + i) ∧ rowc (7 * k + i) ≤ 122 := by decide +kernel
theorem row_bl : ∀ k : Nat, k < 31 → ∀ i : Nat, i < 7 → lenl.getD k 0 ≤ i → rowc (7 * k + i) = 32 := by decide +kernel
theorem row_fd : ∀ k : Nat, k < 31 → fd 256 0 rowc (7 * k) (lenl.getD k 0) = RWl.getD k 0 := by decide +kernel
theorem row_rg : ∀ j : Nat, j < 217 → 0 ≤ rowc j ∧ rowc j ≤ 255 := by decide +kernel
theorem fd_cg2 {B k : Int} {b b' : Nat → Int} {s s' : Nat} : ∀ {n : Nat}, (∀ i : Nat, i < n → b (s + i) = b' (s' + i)) → fd B k b s n = fd B k b' s' n
  | 0, _ => rfl
  | n + 1, h => by
    show fd B k b s n * B + (b (s + n) - k) = fd B k b' s' n * B + (b' (s' + n) - k)
    rw [fd_cg2 (n := n) (fun i hi => h i (by omega)), h n (by omega)]
theorem fd_inj2 {B k : Int} {b b' : Nat → Int} (hB : 0 < B) {s s' : Nat} : ∀ {n n' : Nat}, (∀ i, i < n → 1 ≤ b (s + i) - k ∧ b (s + i) - k < B) → (∀ i, i < n' → 1 ≤ b' (s' + i) - k ∧ b' (s' + i) - k < B) → fd B k b s n = fd B k b' s' n' → n = n' ∧ ∀ i, i < n → b (s + i) = b' (s' + i)
  | 0, 0, _, _, _ => ⟨rfl, fun i hi => absurd hi (Nat.not_lt_zero i)⟩
  | 0, n' + 1, _, h2, e => by
    have := (fd_nn hB h2).2 (by omega)
    rw [← e] at this
    exact absurd this (by show ¬ (1 : Int) ≤ 0; omega)
  | n + 1, 0, h1, _, e => by
    have := (fd_nn hB h1).2 (by omega)
    rw [e] at this
    exact absurd this (by show ¬ (1 : Int) ≤ 0; omega)
  | n + 1, n' + 1, h1, h2, e => by
    have a1 := h1 n (by omega)
    have a2 := h2 n' (by omega)
    have e' : fd B k b s n * B + (b (s + n) - k) = fd B k b' s' n' * B + (b' (s' + n') - k) := e
    obtain ⟨q1, q2⟩ := fd_split hB (by omega) a1.2 (by omega) a2.2 e'
    obtain ⟨r1, r2⟩ := fd_inj2 hB (n := n) (n' := n') (fun i hi => h1 i (by omega)) (fun i hi => h2 i (by omega)) q1
    subst r1
    refine ⟨rfl, fun i hi => ?_⟩
    by_cases c : i = n
    · subst c; omega
    · exact r2 i (by omega)
/-- the i-th of seven signs of a word, blanks behind it -/
def chq (b : Nat → Int) (q n i : Nat) : Int := if i < n then b (q + i) else 32
theorem WM_iff {b : Nat → Int} {q n k : Nat} (hl : ∀ i : Nat, i < n → isLt (b (q + i))) (hn : n ≤ 7) (hk : k < 31) : (∀ i : Nat, i < 7 → chq b q n i = rowc (7 * k + i)) ↔ fd 256 0 b q n = RWl.getD k 0 := by
  have hL := row_len k hk
  constructor
  · intro h
    have e : n = lenl.getD k 0 := by
      rcases Nat.lt_trichotomy n (lenl.getD k 0) with g | g | g
      · have h1 := h n (by omega)
        unfold chq at h1
        rw [if_neg (by omega)] at h1
        have h2 := row_lt k hk n (by omega) g
        omega
      · exact g
      · have h1 := h (lenl.getD k 0) (by omega)
        unfold chq at h1
        rw [if_pos g] at h1
        have h2 := row_bl k hk (lenl.getD k 0) (by omega) (Nat.le_refl _)
        have h3 := hl _ g
        omega
    rw [← row_fd k hk, ← e]
    refine fd_cg2 fun i hi => ?_
    have h1 := h i (by omega)
    unfold chq at h1
    rw [if_pos hi] at h1
    exact h1
  · intro h i hi
    rw [← row_fd k hk] at h
    obtain ⟨e, h2⟩ := fd_inj2 (by decide) (fun i hi => by have := hl i hi; omega) (fun i hi => by have := row_lt k hk i (by omega) hi; omega) h
    unfold chq
    by_cases g : i < n
    · rw [if_pos g]
      exact h2 i g
    · rw [if_neg g]
      exact (row_bl k hk i hi (by omega)).symm
theorem allS {P : Nat → Prop} {x y : Int} (h : ∀ i : Nat, (i : Int) < x → P i) (hn : P x.toNat) (e : y = x + 1) (h0 : 0 ≤ x) : ∀ i : Nat, (i : Int) < y → P i := by
  intro i hi
  by_cases c : i = x.toNat
  · subst c; exact hn
  · exact h i (by omega)
/-- the first place of x among n -/
def fndq {α : Type} [DecidableEq α] (f : Nat → α) (x : α) : Nat → Int
  | 0 => -1
  | n + 1 => if 0 ≤ fndq f x n then fndq f x n else if f n = x then (n : Int) else -1
theorem fndq_no {α : Type} [DecidableEq α] {f : Nat → α} {x : α} : ∀ {n : Nat}, (∀ i : Nat, i < n → f i ≠ x) → fndq f x n = -1
  | 0, _ => rfl
  | n + 1, h => by
    have h1 := fndq_no (n := n) (fun i hi => h i (by omega))
    unfold fndq
    rw [h1, if_neg (by decide), if_neg (h n (by omega))]
theorem fndq_at {α : Type} [DecidableEq α] {f : Nat → α} {x : α} {i : Nat} (hx : f i = x) (hb : ∀ j : Nat, j < i → f j ≠ x) : ∀ {n : Nat}, i < n → fndq f x n = (i : Int)
  | 0, h => absurd h (Nat.not_lt_zero i)
  | n + 1, h => by
    unfold fndq
    by_cases c : i < n
    · rw [fndq_at hx hb c, if_pos (by omega)]
    · have e : i = n := by omega
      subst e
      rw [fndq_no hb, if_neg (by decide), if_pos hx]
theorem fndq_rg {α : Type} [DecidableEq α] (f : Nat → α) (x : α) : ∀ n : Nat, -1 ≤ fndq f x n ∧ fndq f x n < (n : Int)
  | 0 => by
    unfold fndq
    omega
  | n + 1 => by
    have h := fndq_rg f x n
    unfold fndq
    split
    · omega
    · split <;> omega
theorem fndq_cg {α β : Type} [DecidableEq α] [DecidableEq β] {f : Nat → α} {x : α} {g : Nat → β} {y : β} : ∀ {n : Nat}, (∀ i : Nat, i < n → (f i = x ↔ g i = y)) → fndq f x n = fndq g y n
  | 0, _ => rfl
  | n + 1, h => by
    have h1 := fndq_cg (n := n) (fun i hi => h i (by omega))
    unfold fndq
    rw [h1]
    by_cases c : f n = x
    · rw [if_pos c, if_pos ((h n (by omega)).mp c)]
    · rw [if_neg c, if_neg (fun q => c ((h n (by omega)).mpr q))]
