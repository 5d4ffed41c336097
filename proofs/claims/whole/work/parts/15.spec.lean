/-! what the methods compute, as functions of the memory -/
def rset (M : Mem) (k s i : Nat) (f : Nat → Int32) : Mem := fun k' s' i' => if k' = k ∧ s' = s ∧ i' = i then f else M k' s' i'
theorem rset_cell (M : Mem) (k s i : Nat) (f : Nat → Int32) : rset M k s i f k s i = f := if_pos ⟨rfl, rfl, rfl⟩
theorem rset_off (M : Mem) {k s i k' s' i' : Nat} (f : Nat → Int32) (h : ¬ (k' = k ∧ s' = s ∧ i' = i)) : rset M k s i f k' s' i' = M k' s' i' := if_neg h
theorem rset_self (M : Mem) (k s i : Nat) : rset M k s i (M k s i) = M := by
  funext k' s' i'
  by_cases h : k' = k ∧ s' = s ∧ i' = i
  · obtain ⟨rfl, rfl, rfl⟩ := h
    exact rset_cell M _ _ _ _
  · exact rset_off M _ h
theorem mset_r (M : Mem) (k s i j : Nat) (x : Int32) : mset M k s i j x = rset M k s i (upd (M k s i) j x) := by
  funext k' s' i'
  by_cases h : k' = k ∧ s' = s ∧ i' = i
  · obtain ⟨rfl, rfl, rfl⟩ := h
    rw [mset_cell, rset_cell]
  · rw [mset_off M j x h, rset_off M _ h]
theorem rset_rset (M : Mem) (k s i : Nat) (f g : Nat → Int32) : rset (rset M k s i f) k s i g = rset M k s i g := by
  funext k' s' i'
  by_cases h : k' = k ∧ s' = s ∧ i' = i
  · obtain ⟨rfl, rfl, rfl⟩ := h
    rw [rset_cell, rset_cell]
  · rw [rset_off _ _ h, rset_off _ _ h, rset_off _ _ h]
theorem mset_rset (M : Mem) (k s i j : Nat) (f : Nat → Int32) (x : Int32) : mset (rset M k s i f) k s i j x = rset M k s i (upd f j x) := by
  rw [mset_r, rset_cell, rset_rset]
theorem rset_congr {M : Mem} {k s i : Nat} {f g : Nat → Int32} (h : ∀ j, f j = g j) : rset M k s i f = rset M k s i g := by rw [show f = g from funext h]
def mx (x y : Int32) : Int32 := if x < y then y else x
def mn (x y : Int32) : Int32 := if y < x then y else x
def intr (day since loan : Int32) : Int32 := ((day - since) / 30 + 1) * mx 1 (loan * 5 / 100)
def loanV (tr value : Int32) : Int32 := mx 1 (value * (40 + 4 * tr) / 100)
def trV (tr x : Int32) : Int32 := mx 0 (mn 10 (tr + x))
def cheapV (price value : Int32) : Int32 := mx (price - value / 20) (value * 3 / 10)
def debtV (M : Mem) (s t : Nat) (day : Int32) : Int32 := if M 2 s t 7 = 0 then M 2 s t 4 + intr day (M 2 s t 5) (M 2 s t 4) else 0
/-- a gap: places k .. k + n - 1 are left, f are free behind k; the answer counts from b -/
def gapB (p : Nat → Int32) (w : Int32) (b : Nat) : Nat → Nat → Int32 → Int32
  | 0, _, _ => -1
  | n + 1, k, f => if (if p k = -1 then f + 1 else 0) = w then nI (b + k) - w + 1 else gapB p w b n (k + 1) (if p k = -1 then f + 1 else 0)
def layF (p : Nat → Int32) (t a w : Int32) (n : Nat) : Nat → Int32 := fun j => if j < n ∧ a ≤ nI j ∧ nI j < a + w then t else p j
def clrF (p : Nat → Int32) (t : Int32) (n : Nat) : Nat → Int32 := fun j => if j < n ∧ p j = t then -1 else p j
def cpyF (p q : Nat → Int32) (n : Nat) : Nat → Int32 := fun j => if j < n then q j else p j
def leftF (p : Nat → Int32) (t : Int32) : Nat → Nat → Int32
  | 0, _ => -1
  | n + 1, k => if p k = t then nI k else leftF p t n (k + 1)
/-- tidying a shelf: left, place, things moved, last thing, next place, the places -/
def pushF : Nat → Nat → Int32 → Int32 → Nat → (Nat → Int32) → Int32 × (Nat → Int32)
  | 0, _, m, _, _, p => (m, p)
  | n + 1, k, m, l, to, p => if p k = -1 then pushF n (k + 1) m l to p else
      pushF n (k + 1) (if p k ≠ l ∧ to < k then m + 1 else m) (p k) (to + 1) (upd (upd p k (-1)) to (p k))
theorem upd10 (f g : Nat → Int32) : upd (upd (upd (upd (upd (upd (upd (upd (upd (upd (f) 0 (g 0)) 1 (g 1)) 2 (g 2)) 3 (g 3)) 4 (g 4)) 5 (g 5)) 6 (g 6)) 7 (g 7)) 8 (g 8)) 9 (g 9) = fun j => if j < 10 then g j else f j := by
  funext j
  match j with
  | 0 => rfl
  | 1 => rfl
  | 2 => rfl
  | 3 => rfl
  | 4 => rfl
  | 5 => rfl
  | 6 => rfl
  | 7 => rfl
  | 8 => rfl
  | 9 => rfl
  | n + 10 => simp [upd]; omega
theorem nn_xor {n : Nat} (h : n < 2 ^ 31) : (0 : Int32) ≤ nI n ^^^ 7 := by
  have e : nI n ^^^ (7 : Int32) = nI (n ^^^ 7) := by
    apply Int32.toBitVec_inj.mp
    show BitVec.ofNat 32 n ^^^ BitVec.ofNat 32 7 = BitVec.ofNat 32 (n ^^^ 7)
    apply BitVec.eq_of_toNat_eq
    simp only [BitVec.toNat_xor, BitVec.toNat_ofNat]
    exact (Nat.xor_mod_two_pow (n := 32)).symm
  rw [e]
  exact nI_pos' (Nat.xor_lt_two_pow h (by decide))
theorem clr_s {p : Nat → Int32} {t : Int32} {j : Nat} (h : p j = t) (q : Nat) : clrF p t (j + 1) q = upd (clrF p t j) j (-1) q := by
  unfold clrF upd
  by_cases e : q = j
  · subst e; simp [h]
  · have : (q < j + 1) = (q < j) := by simp; omega
    simp [e, this]
theorem clr_n {p : Nat → Int32} {t : Int32} {j : Nat} (h : ¬ p j = t) (q : Nat) : clrF p t (j + 1) q = clrF p t j q := by
  unfold clrF
  by_cases e : q = j
  · subst e; simp [h]
  · have : (q < j + 1) = (q < j) := by simp; omega
    simp [this]
theorem clr_0 (p : Nat → Int32) (t : Int32) : clrF p t 0 = p := by funext q; simp [clrF]
theorem clr_j (p : Nat → Int32) (t : Int32) (j : Nat) : clrF p t j j = p j := by simp [clrF]
theorem lay_s {p : Nat → Int32} {t a w : Int32} {j : Nat} (h : a ≤ nI j ∧ nI j < a + w) (q : Nat) : layF p t a w (j + 1) q = upd (layF p t a w j) j t q := by
  unfold layF upd
  by_cases e : q = j
  · subst e; simp [h]
  · have : (q < j + 1) = (q < j) := by simp; omega
    simp [e, this]
theorem lay_n {p : Nat → Int32} {t a w : Int32} {j : Nat} (h : ¬ (a ≤ nI j ∧ nI j < a + w)) (q : Nat) : layF p t a w (j + 1) q = layF p t a w j q := by
  unfold layF
  by_cases e : q = j
  · subst e; simp [h]
  · have : (q < j + 1) = (q < j) := by simp; omega
    simp [this]
theorem lay_0 (p : Nat → Int32) (t a w : Int32) : layF p t a w 0 = p := by funext q; simp [layF]
theorem cpy_s {p g : Nat → Int32} {j : Nat} (q : Nat) : cpyF p g (j + 1) q = upd (cpyF p g j) j (g j) q := by
  unfold cpyF upd
  by_cases e : q = j
  · subst e; simp
  · have : (q < j + 1) = (q < j) := by simp; omega
    simp [e, this]
theorem cpy_0 (p g : Nat → Int32) : cpyF p g 0 = p := by funext q; simp [cpyF]
theorem push_n {n k : Nat} {m l : Int32} {to : Nat} {p : Nat → Int32} (h : p k = -1) : pushF (n + 1) k m l to p = pushF n (k + 1) m l to p := by
  show (if p k = -1 then _ else _) = _
  rw [if_pos h]
theorem push_a {n k : Nat} {m l : Int32} {to : Nat} {p : Nat → Int32} (h : ¬ p k = -1) (h2 : p k = l ∨ k ≤ to) : pushF (n + 1) k m l to p = pushF n (k + 1) m (p k) (to + 1) (upd (upd p k (-1)) to (p k)) := by
  show (if p k = -1 then _ else pushF n (k + 1) (if p k ≠ l ∧ to < k then m + 1 else m) _ _ _) = _
  rw [if_neg h, if_neg (fun z => h2.elim z.1 (fun y => by omega))]
theorem push_b {n k : Nat} {m l : Int32} {to : Nat} {p : Nat → Int32} (h : ¬ p k = -1) (h2 : ¬ p k = l) (h3 : to < k) : pushF (n + 1) k m l to p = pushF n (k + 1) (m + 1) (p k) (to + 1) (upd (upd p k (-1)) to (p k)) := by
  show (if p k = -1 then _ else pushF n (k + 1) (if p k ≠ l ∧ to < k then m + 1 else m) _ _ _) = _
  rw [if_neg h, if_pos ⟨h2, h3⟩]
/-! the rack -/
def gapS (M : Mem) (s i : Nat) (w : Int32) : Int32 := gapB (M 4 s i) w 0 (10 * (i + 1)) 0 0
def spotF (M : Mem) (s : Nat) (w : Int32) : Nat → Nat → Int32
  | 0, _ => -1
  | n + 1, i => if gapS M s i w = -1 then spotF M s w n (i + 1) else 100 * nI i + gapS M s i w
def leftS (M : Mem) (s i : Nat) (t : Int32) : Int32 := leftF (M 4 s i) t (10 * (i + 1)) 0
def shelfF (M : Mem) (s : Nat) (t : Int32) : Nat → Nat → Int32
  | 0, _ => -1
  | n + 1, i => if leftS M s i t = -1 then shelfF M s t n (i + 1) else nI i
def leftR (M : Mem) (s : Nat) (t : Int32) : Nat → Nat → Int32
  | 0, _ => -1
  | n + 1, i => if leftS M s i t = -1 then leftR M s t n (i + 1) else leftS M s i t
def takenS (M : Mem) (s i : Nat) : Int32 := fsum (10 * (i + 1)) (fun j => b2 (¬ M 4 s i j = -1))
/-- the first n shelves of a shop, each by a function of its own places -/
def shM (M : Mem) (s n : Nat) (f : Nat → (Nat → Int32) → Nat → Int32) : Mem := fun k' s' i' => if k' = 4 ∧ s' = s ∧ i' < n then f i' (M 4 s i') else M k' s' i'
theorem shM_0 (M : Mem) (s : Nat) (f : Nat → (Nat → Int32) → Nat → Int32) : shM M s 0 f = M := by
  funext k' s' i'
  simp [shM]
theorem shM_n (M : Mem) (s n : Nat) (f : Nat → (Nat → Int32) → Nat → Int32) : shM M s n f 4 s n = M 4 s n := by simp [shM]
theorem shM_s (M : Mem) (s n : Nat) (f : Nat → (Nat → Int32) → Nat → Int32) : shM M s (n + 1) f = rset (shM M s n f) 4 s n (f n (M 4 s n)) := by
  funext k' s' i'
  unfold shM rset
  by_cases h1 : k' = 4 ∧ s' = s
  · obtain ⟨rfl, rfl⟩ := h1
    by_cases e : i' = n
    · subst e; simp
    · have : (i' < n + 1) = (i' < n) := by simp; omega
      simp [e, this]
  · have h2 : ¬ (k' = 4 ∧ s' = s ∧ i' < n + 1) := fun z => h1 ⟨z.1, z.2.1⟩
    have h3 : ¬ (k' = 4 ∧ s' = s ∧ i' = n) := fun z => h1 ⟨z.1, z.2.1⟩
    have h4 : ¬ (k' = 4 ∧ s' = s ∧ i' < n) := fun z => h1 ⟨z.1, z.2.1⟩
    rw [if_neg h2, if_neg h3]
    exact (if_neg h4).symm
theorem shM_off (M : Mem) {s n : Nat} (f : Nat → (Nat → Int32) → Nat → Int32) {k' s' i' : Nat} (h : ¬ (k' = 4 ∧ s' = s)) : shM M s n f k' s' i' = M k' s' i' := if_neg (fun z => h ⟨z.1, z.2.1⟩)
def clrM (M : Mem) (s : Nat) (t : Int32) (n : Nat) : Mem := shM M s n (fun i p => clrF p t (10 * (i + 1)))
def cpyM (M : Mem) (s s2 n : Nat) : Mem := shM M s n (fun i p => cpyF p (M 4 s2 i) (10 * (i + 1)))
def pushS (M : Mem) (s i : Nat) : Int32 × (Nat → Int32) := pushF (10 * (i + 1)) 0 0 (-1) 0 (M 4 s i)
def pushM (M : Mem) (s n : Nat) : Mem := shM M s n (fun i p => (pushF (10 * (i + 1)) 0 0 (-1) 0 p).2)
/-- a place of the rack, told by numbers -/
def plcP (sh pl : Int32) : Prop := ∃ i p : Nat, i < 3 ∧ p < 10 * (i + 1) ∧ sh = nI i ∧ pl = nI p
theorem in_of_ix {x : Int32} {j n : Nat} (h : x = nI j) (hj : j < n) (hn : n ≤ 1000) : 0 ≤ x ∧ x ≤ nI n - 1 := by
  subst h
  refine ⟨nI_pos' (n31 (by omega)), ?_⟩
  have e : nI n - 1 = nI (n - 1) := pk_sub (a := n) (b := 1) (by omega)
  rw [e]
  exact nI_le (by omega) (n31 (by omega))
theorem nI_inj {a b : Nat} (ha : a ≤ 1000) (hb : b ≤ 1000) (h : nI a = nI b) : a = b := (nI_eq (n31 ha) (n31 hb)).mp h
