/-! what the methods compute, as functions of the memory -/
def rset (M : Mem) (k s i : Nat) (f : Nat → Int32) : Mem := fun k' s' i' => if k' = k ∧ s' = s ∧ i' = i then f else M k' s' i'
theorem rset_cell (M : Mem) (k s i : Nat) (f : Nat → Int32) : rset M k s i f k s i = f := if_pos ⟨rfl, rfl, rfl⟩
theorem rset_off (M : Mem) {k s i k' s' i' : Nat} (f : Nat → Int32) (h : ¬ (k' = k ∧ s' = s ∧ i' = i)) : rset M k s i f k' s' i' = M k' s' i' := if_neg h
theorem rset_self (M : Mem) (k s i : Nat) : rset M k s i (M k s i) = M := by
  funext k' s' i'
  by_cases h : k' = k ∧ s' = s ∧ i' = i
  · obtain ⟨rfl, rfl, rfl⟩ := h
    exact rset_cell M _ _ _ _
  · exact rset_off M _ h
theorem mset_r (M : Mem) (k s i j : Nat) (x : Int32) : mset M k s i j x = rset M k s i (upd (M k s i) j x) := by
  funext k' s' i'
  by_cases h : k' = k ∧ s' = s ∧ i' = i
  · obtain ⟨rfl, rfl, rfl⟩ := h
    rw [mset_cell, rset_cell]
  · rw [mset_off M j x h, rset_off M _ h]
theorem rset_rset (M : Mem) (k s i : Nat) (f g : Nat → Int32) : rset (rset M k s i f) k s i g = rset M k s i g := by
  funext k' s' i'
  by_cases h : k' = k ∧ s' = s ∧ i' = i
  · obtain ⟨rfl, rfl, rfl⟩ := h
    rw [rset_cell, rset_cell]
  · rw [rset_off _ _ h, rset_off _ _ h, rset_off _ _ h]
theorem mset_rset (M : Mem) (k s i j : Nat) (f : Nat → Int32) (x : Int32) : mset (rset M k s i f) k s i j x = rset M k s i (upd f j x) := by
  rw [mset_r, rset_cell, rset_rset]
theorem rset_congr {M : Mem} {k s i : Nat} {f g : Nat → Int32} (h : ∀ j, f j = g j) : rset M k s i f = rset M k s i g := by rw [show f = g from funext h]
def mx (x y : Int32) : Int32 := if x < y then y else x
def mn (x y : Int32) : Int32 := if y < x then y else x
def intr (day since loan : Int32) : Int32 := ((day - since) / 30 + 1) * mx 1 (loan * 5 / 100)
def loanV (tr value : Int32) : Int32 := mx 1 (value * (40 + 4 * tr) / 100)
def trV (tr x : Int32) : Int32 := mx 0 (mn 10 (tr + x))
def cheapV (price value : Int32) : Int32 := mx (price - value / 20) (value * 3 / 10)
def debtV (M : Mem) (s t : Nat) (day : Int32) : Int32 := if M 2 s t 7 = 0 then M 2 s t 4 + intr day (M 2 s t 5) (M 2 s t 4) else 0
/-- a gap: places k .. k + n - 1 are left, f are free behind k; the answer counts from b -/
def gapB (p : Nat → Int32) (w : Int32) (b : Nat) : Nat → Nat → Int32 → Int32
  | 0, _, _ => -1
  | n + 1, k, f => if (if p k = -1 then f + 1 else 0) = w then nI (b + k) - w + 1 else gapB p w b n (k + 1) (if p k = -1 then f + 1 else 0)
def layF (p : Nat → Int32) (t a w : Int32) (n : Nat) : Nat → Int32 := fun j => if j < n ∧ a ≤ nI j ∧ nI j < a + w then t else p j
def clrF (p : Nat → Int32) (t : Int32) (n : Nat) : Nat → Int32 := fun j => if j < n ∧ p j = t then -1 else p j
def cpyF (p q : Nat → Int32) (n : Nat) : Nat → Int32 := fun j => if j < n then q j else p j
def leftF (p : Nat → Int32) (t : Int32) : Nat → Nat → Int32
  | 0, _ => -1
  | n + 1, k => if p k = t then nI k else leftF p t n (k + 1)
/-- tidying a shelf: left, place, things moved, last thing, next place, the places -/
def pushF : Nat → Nat → Int32 → Int32 → Nat → (Nat → Int32) → Int32 × (Nat → Int32)
  | 0, _, m, _, _, p => (m, p)
  | n + 1, k, m, l, to, p => if p k = -1 then pushF n (k + 1) m l to p else
      pushF n (k + 1) (if p k ≠ l ∧ to < k then m + 1 else m) (p k) (to + 1) (upd (upd p k (-1)) to (p k))
theorem upd10 (f g : Nat → Int32) : upd (upd (upd (upd (upd (upd (upd (upd (upd (upd (f) 0 (g 0)) 1 (g 1)) 2 (g 2)) 3 (g 3)) 4 (g 4)) 5 (g 5)) 6 (g 6)) 7 (g 7)) 8 (g 8)) 9 (g 9) = fun j => if j < 10 then g j else f j := by
  funext j
  match j with
  | 0 => rfl
  | 1 => rfl
  | 2 => rfl
  | 3 => rfl
  | 4 => rfl
  | 5 => rfl
  | 6 => rfl
  | 7 => rfl
  | 8 => rfl
  | 9 => rfl
  | n + 10 => simp [upd]; omega
theorem nn_xor {n : Nat} (h : n < 2 ^ 31) : (0 : Int32) ≤ nI n ^^^ 7 := by
  have e : nI n ^^^ (7 : Int32) = nI (n ^^^ 7) := by
    apply Int32.toBitVec_inj.mp
    show BitVec.ofNat 32 n ^^^ BitVec.ofNat 32 7 = BitVec.ofNat 32 (n ^^^ 7)
    apply BitVec.eq_of_toNat_eq
    simp only [BitVec.toNat_xor, BitVec.toNat_ofNat]
    exact (Nat.xor_mod_two_pow (n := 32)).symm
  rw [e]
  exact nI_pos' (Nat.xor_lt_two_pow h (by decide))
