/-! what the reference's methods compute -/
def frN : Nat → Nat
  | 0 => 0
  | 1 => 10
  | 2 => 30
  | _ => 60
theorem fromN (j : Nat) : fromV j = nI (frN j) := match j with
  | 0 => rfl
  | 1 => rfl
  | 2 => rfl
  | _ + 3 => rfl
theorem frN_s {i : Nat} (h : i < 3) : frN (i + 1) = frN i + 10 * (i + 1) := match i, h with
  | 0, _ => rfl
  | 1, _ => rfl
  | 2, _ => rfl
theorem frN_le {i : Nat} (h : i < 3) : frN (i + 1) ≤ 60 := match i, h with
  | 0, _ => by decide
  | 1, _ => by decide
  | 2, _ => by decide
theorem nI_row (t w : Nat) : (11 : Int32) * nI t + nI w = nI (11 * t + w) := by rw [show (11 : Int32) = nI 11 from rfl, pk_mul, nI_add]
theorem fs_y {f : Nat → Int32} {n : Nat} {x : Int32} (h : f n = x) : fsum n f + x = fsum (n + 1) f := by rw [← h]; rfl
theorem nI_mod {d : Nat} (h : d < 2 ^ 31) : nI d - nI d / 7 * 7 = nI (d % 7) := pk_rem (d := 7) h (by decide) (by decide)
abbrev oc (M : Mem) (s t w : Nat) : Int32 := M 9 s 0 (11 * t + w)
def owedV (M : Mem) (s t : Nat) : Int32 := if oc M s t 6 = 0 then oc M s t 4 + intr (M 6 s 0 0) (oc M s t 10) (oc M s t 4) else 0
def howN (M : Mem) (s n : Nat) (x : Int32) : Int32 := fsum n (fun t => b2 (oc M s t 6 = x))
def takeM (M : Mem) (s t : Nat) : Mem := mset (rset M 10 s 0 (clrF (M 10 s 0) (nI t) 60)) 9 s 0 (11 * t + 7) (-1)
def layN (p : Nat → Int32) (x : Int32) (a W : Nat) : Nat → Int32 := fun j => if a ≤ j ∧ j < a + W then x else p j
theorem layN_0 (p : Nat → Int32) (x : Int32) (a : Nat) : layN p x a 0 = p := by
  funext j
  exact if_neg (fun z => by omega)
theorem layN_s (p : Nat → Int32) (x : Int32) (a W : Nat) : upd (layN p x a W) (a + W) x = layN p x a (W + 1) := by
  funext j
  show (if j = a + W then x else if a ≤ j ∧ j < a + W then x else p j) = if a ≤ j ∧ j < a + (W + 1) then x else p j
  by_cases e : j = a + W
  · rw [if_pos e, if_pos (by omega)]
  · rw [if_neg e]
    by_cases g : a ≤ j ∧ j < a + W
    · rw [if_pos g, if_pos (by omega)]
    · rw [if_neg g, if_neg (by omega)]
def mlayM (M : Mem) (s t a W : Nat) : Mem := rset (mset M 9 s 0 (11 * t + 7) (nI a)) 10 s 0 (layN (M 10 s 0) (nI t) a W)
/-- a gap on the row of all places: of the shelf i -/
def mgapS (M : Mem) (s i : Nat) (w : Int32) : Int32 := gapB (M 10 s 0) w 0 (10 * (i + 1)) (frN i) 0
def mgapF (M : Mem) (s : Nat) (w : Int32) : Nat → Nat → Int32
  | 0, _ => -1
  | n + 1, i => if mgapS M s i w = -1 then mgapF M s w n (i + 1) else mgapS M s i w
def oI : Option Nat → Int32
  | none => -1
  | some q => nI q
theorem oI_some {b : Option Nat} (h : ¬ oI b = -1) : ∃ q, b = some q := match b, h with
  | none, h => absurd rfl h
  | some q, _ => ⟨q, rfl⟩
theorem oI_none {b : Option Nat} (hb : ∀ q, b = some q → q < 40) (h : oI b = -1) : b = none := match b, hb, h with
  | none, _, _ => rfl
  | some q, hb, h => absurd h (nI_m1 (Nat.le_of_lt (Nat.lt_trans (hb q rfl) (by decide))))
def mtakP (M : Mem) (s w t : Nat) : Prop := oc M s t 6 = 2 ∧ oc M s t 1 = M 12 0 0 w ∧ oc M s t 8 ≤ M 13 0 0 w
def mdearF (M : Mem) (s w : Nat) : Nat → Nat → Option Nat → Option Nat
  | 0, _, b => b
  | k + 1, t, b => if (oc M s t 6 = 2 ∧ oc M s t 1 = M 12 0 0 w ∧ oc M s t 8 ≤ M 13 0 0 w) ∧ (b = none ∨ oc M s (b.getD 0) 8 < oc M s t 8) then mdearF M s w k (t + 1) (some t) else mdearF M s w k (t + 1) b
theorem mdear_y {M : Mem} {s w k t : Nat} {b : Option Nat} (h : oc M s t 6 = 2 ∧ oc M s t 1 = M 12 0 0 w ∧ oc M s t 8 ≤ M 13 0 0 w) (h2 : b = none ∨ oc M s (b.getD 0) 8 < oc M s t 8) : mdearF M s w (k + 1) t b = mdearF M s w k (t + 1) (some t) := if_pos ⟨h, h2⟩
theorem mdear_n {M : Mem} {s w k t : Nat} {b : Option Nat} (h : ¬ ((oc M s t 6 = 2 ∧ oc M s t 1 = M 12 0 0 w ∧ oc M s t 8 ≤ M 13 0 0 w) ∧ (b = none ∨ oc M s (b.getD 0) 8 < oc M s t 8))) : mdearF M s w (k + 1) t b = mdearF M s w k (t + 1) b := if_neg h
def mbuyM (M : Mem) (s q : Nat) : Mem := takeM (mset (mset M 6 s 0 1 (M 6 s 0 1 + oc M s q 8)) 9 s 0 (11 * q + 6) 3) s q
def mbuyR (M : Mem) (s n w : Nat) : Int32 × Mem := if M 12 0 0 w = -1 then (0, M) else match mdearF M s w n 0 none with
  | none => (0, M)
  | some q => (1, mbuyM M s q)
theorem mbuy_0 {M : Mem} {s n w : Nat} (h : M 12 0 0 w = -1) : mbuyR M s n w = (0, M) := if_pos h
theorem mbuy_n {M : Mem} {s n w : Nat} (h : ¬ M 12 0 0 w = -1) (h2 : mdearF M s w n 0 none = none) : mbuyR M s n w = (0, M) := by
  unfold mbuyR
  rw [if_neg h, h2]
theorem mbuy_y {M : Mem} {s n w q : Nat} (h : ¬ M 12 0 0 w = -1) (h2 : mdearF M s w n 0 none = some q) : mbuyR M s n w = (1, mbuyM M s q) := by
  unfold mbuyR
  rw [if_neg h, h2]
theorem mbuy_01 {M : Mem} {s n w : Nat} : (mbuyR M s n w).1 = 0 ∨ (mbuyR M s n w).1 = 1 := by
  unfold mbuyR
  split
  · exact Or.inl rfl
  · split
    · exact Or.inl rfl
    · exact Or.inr rfl
def magS (M : Mem) (s t : Nat) : Mem :=
  if oc M s t 6 = 2 then mset M 9 s 0 (11 * t + 8) (mx (oc M s t 2 * 3 / 10) (oc M s t 8 - oc M s t 2 / 20))
  else if oc M s t 6 = 0 ∧ oc M s t 5 < M 6 s 0 0 then mset (mset (mset M 9 s 0 (11 * t + 6) 2) 9 s 0 (11 * t + 8) (oc M s t 2)) 8 s 0 (oc M s t 0).toNatClampNeg (mx 0 (M 8 s 0 (oc M s t 0).toNatClampNeg - 2))
  else M
def magN (M : Mem) (s : Nat) : Nat → Mem
  | 0 => M
  | t + 1 => magS (magN M s t) s t
theorem mag_c {A : Mem} {s t : Nat} (h : oc A s t 6 = 2) : magS A s t = mset A 9 s 0 (11 * t + 8) (mx (oc A s t 2 * 3 / 10) (oc A s t 8 - oc A s t 2 / 20)) := if_pos h
theorem mag_n {A : Mem} {s t : Nat} (h : ¬ oc A s t 6 = 2) (h2 : ¬ (oc A s t 6 = 0 ∧ oc A s t 5 < A 6 s 0 0)) : magS A s t = A := by
  unfold magS
  rw [if_neg h, if_neg h2]
theorem mag_y {A : Mem} {s t i : Nat} (h : oc A s t 6 = 0) (h2 : oc A s t 5 < A 6 s 0 0) (ho : oc A s t 0 = nI i) (hi : i ≤ 1000) : magS A s t = mset (mset (mset A 9 s 0 (11 * t + 6) 2) 9 s 0 (11 * t + 8) (oc A s t 2)) 8 s 0 i (mx 0 (A 8 s 0 i - 2)) := by
  unfold magS
  rw [if_neg (by rw [h]; decide), if_pos ⟨h, h2⟩, ho, nI_clamp (n31 hi)]
theorem magS_k {A : Mem} {s t k : Nat} (h8 : ¬ k = 8) (h9 : ¬ k = 9) : magS A s t k = A k := by
  unfold magS
  split
  · exact mset_k h9
  · split
    · rw [mset_k h8, mset_k h9, mset_k h9]
    · rfl
theorem magN_k {M : Mem} {s k : Nat} (h8 : ¬ k = 8) (h9 : ¬ k = 9) : ∀ t, magN M s t k = M k
  | 0 => rfl
  | t + 1 => (magS_k h8 h9).trans (magN_k h8 h9 t)
theorem magS_f {A : Mem} {s t j : Nat} (h6 : ¬ j = 11 * t + 6) (h8 : ¬ j = 11 * t + 8) : magS A s t 9 s 0 j = A 9 s 0 j := by
  unfold magS
  split
  · exact mset_s h8
  · split
    · rw [mset_k (by decide), mset_s h8, mset_s h6]
    · rfl
theorem magN_f {M : Mem} {s t' w : Nat} (hw : w < 11) (h6 : ¬ w = 6) (h8 : ¬ w = 8) : ∀ t, oc (magN M s t) s t' w = oc M s t' w
  | 0 => rfl
  | t + 1 => (magS_f (by omega) (by omega)).trans (magN_f hw h6 h8 t)
/-- one day of the reference -/
def mdayR (M : Mem) (s n : Nat) : Int32 × Mem :=
  ((mbuyR (magN M s n) s n ((M 6 s 0 0).toNatClampNeg % 7)).1, mset (mbuyR (magN M s n) s n ((M 6 s 0 0).toNatClampNeg % 7)).2 6 s 0 0 (M 6 s 0 0 + 1))
def mgoN (M : Mem) (s n : Nat) : Nat → Int32 × Mem
  | 0 => (0, M)
  | k + 1 => ((mgoN M s n k).1 + (mdayR (mgoN M s n k).2 s n).1, (mdayR (mgoN M s n k).2 s n).2)
theorem takeM_k {A : Mem} {s t k : Nat} (h9 : ¬ k = 9) (h10 : ¬ k = 10) : takeM A s t k = A k := by
  unfold takeM
  rw [mset_k h9, rset_k h10]
theorem mbuy_k {A : Mem} {s n w k : Nat} (h6 : ¬ k = 6) (h9 : ¬ k = 9) (h10 : ¬ k = 10) : (mbuyR A s n w).2 k = A k := by
  unfold mbuyR
  split
  · rfl
  · split
    · rfl
    · show mbuyM _ _ _ k = A k
      unfold mbuyM
      rw [takeM_k h9 h10, mset_k h9, mset_k h6]
theorem mbuy_6 {A : Mem} {s n w j : Nat} (h : ¬ j = 1) : (mbuyR A s n w).2 6 s 0 j = A 6 s 0 j := by
  unfold mbuyR
  split
  · rfl
  · split
    · rfl
    · show mbuyM _ _ _ 6 s 0 j = A 6 s 0 j
      unfold mbuyM
      rw [takeM_k (by decide) (by decide), mset_k (by decide)]
      exact mset_s h
theorem mbuy_f {A : Mem} {s n w t j : Nat} (hj : j < 11) (h6 : ¬ j = 6) (h7 : ¬ j = 7) : oc (mbuyR A s n w).2 s t j = oc A s t j := by
  unfold mbuyR
  split
  · rfl
  · split
    · rfl
    · show mbuyM _ _ _ 9 s 0 _ = A 9 s 0 _
      unfold mbuyM takeM
      rw [mset_s (by omega), rset_k (by decide), mset_s (by omega), mset_k (by decide)]
theorem mday_6 {M : Mem} {s n j : Nat} (h : ¬ j = 1) (h0 : ¬ j = 0) : (mdayR M s n).2 6 s 0 j = M 6 s 0 j := by
  unfold mdayR
  dsimp only
  rw [mset_s h0, mbuy_6 h, magN_k (by decide) (by decide)]
theorem mday_d {M : Mem} {s n : Nat} : (mdayR M s n).2 6 s 0 0 = M 6 s 0 0 + 1 := if_pos ⟨rfl, rfl, rfl, rfl⟩
theorem mday_k {M : Mem} {s n k : Nat} (h6 : ¬ k = 6) (h8 : ¬ k = 8) (h9 : ¬ k = 9) (h10 : ¬ k = 10) : (mdayR M s n).2 k = M k := by
  unfold mdayR
  dsimp only
  rw [mset_k h6, mbuy_k h6 h9 h10, magN_k h8 h9]
theorem mday_f {M : Mem} {s n t j : Nat} (hj : j < 11) (h6 : ¬ j = 6) (h7 : ¬ j = 7) (h8 : ¬ j = 8) : oc (mdayR M s n).2 s t j = oc M s t j := by
  unfold mdayR
  dsimp only
  show mset _ 6 s 0 0 _ 9 s 0 _ = _
  rw [mset_k (by decide)]
  exact (mbuy_f hj h6 h7).trans (magN_f hj h6 h8 n)
theorem mgoN_6 {M : Mem} {s n j : Nat} (h : ¬ j = 1) (h0 : ¬ j = 0) : ∀ k, (mgoN M s n k).2 6 s 0 j = M 6 s 0 j
  | 0 => rfl
  | k + 1 => (mday_6 h h0).trans (mgoN_6 h h0 k)
theorem mgoN_d {M : Mem} {s n d : Nat} (hd : M 6 s 0 0 = nI d) : ∀ k, (mgoN M s n k).2 6 s 0 0 = nI (d + k)
  | 0 => hd
  | k + 1 => by
    show (mdayR _ s n).2 6 s 0 0 = _
    rw [mday_d, mgoN_d hd k, nI_1]
    rfl
theorem mgoN_k {M : Mem} {s n k : Nat} (h6 : ¬ k = 6) (h8 : ¬ k = 8) (h9 : ¬ k = 9) (h10 : ¬ k = 10) : ∀ q, (mgoN M s n q).2 k = M k
  | 0 => rfl
  | q + 1 => (mday_k h6 h8 h9 h10).trans (mgoN_k h6 h8 h9 h10 q)
theorem mgoN_f {M : Mem} {s n t j : Nat} (hj : j < 11) (h6 : ¬ j = 6) (h7 : ¬ j = 7) (h8 : ¬ j = 8) : ∀ k, oc (mgoN M s n k).2 s t j = oc M s t j
  | 0 => rfl
  | k + 1 => (mday_f hj h6 h7 h8).trans (mgoN_f hj h6 h7 h8 k)
/-- the reference's state s becomes as s2 is -/
def becM (M : Mem) (s s2 : Nat) : Mem := rset (rset (rset (rset (cpK M 6 s s2 1 4) 7 s 0 (va_cpy (M 7 s2 0) (M 7 s 0) 0 0 10)) 8 s 0 (va_cpy (M 8 s2 0) (M 8 s 0) 0 0 10)) 9 s 0 (va_cpy (M 9 s2 0) (M 9 s 0) 0 0 440)) 10 s 0 (va_cpy (M 10 s2 0) (M 10 s 0) 0 0 60)
theorem upd4 (f g : Nat → Int32) : upd (upd (upd (upd f 0 (g 0)) 1 (g 1)) 2 (g 2)) 3 (g 3) = fun j => if j < 4 then g j else f j := by
  funext j
  match j with
  | 0 => rfl
  | 1 => rfl
  | 2 => rfl
  | 3 => rfl
  | n + 4 => simp [upd]; omega
theorem gap_hit {F j W : Nat} (hF : F ≤ j) (hj : j ≤ 100) (hW : W ≤ 100) (h : nI F + 1 = nI W) : ¬ nI j - nI W + 1 = -1 := by
  rw [nI_1] at h
  have e := nI_inj (by omega) (by omega) h
  rw [sub_a1, nI_1, pk_sub (by omega)]
  exact nI_m1 (by omega)
theorem gap_ret {a b c d e v : Int32} (h1 : a = b) (h2 : b = if c = -1 then d else c) (h3 : c = e) (h4 : e = v) (h5 : ¬ v = -1) : v = a := by
  subst h1
  subst h4
  subst h3
  rw [h2, if_neg h5]
theorem gap_z {W : Nat} (hW : 1 ≤ W) (hW2 : W ≤ 100) : ¬ (0 : Int32) = nI W := fun z => absurd (nI_inj (a := 0) (by omega) (by omega) z) (by omega)
theorem mday_eq {M : Mem} {s n d : Nat} (hd : M 6 s 0 0 = nI d) (h31 : d < 2 ^ 31) : mdayR M s n = ((mbuyR (magN M s n) s n (d % 7)).1, mset (mbuyR (magN M s n) s n (d % 7)).2 6 s 0 0 (M 6 s 0 0 + 1)) := by
  unfold mdayR
  rw [hd, nI_clamp h31]
theorem mday_mem {M : Mem} {s n w : Nat} : mset (mbuyR (magN M s n) s n w).2 6 s 0 0 ((mbuyR (magN M s n) s n w).2 6 s 0 0 + 1) = mset (mbuyR (magN M s n) s n w).2 6 s 0 0 (M 6 s 0 0 + 1) := by
  rw [mbuy_6 (by decide), magN_k (by decide) (by decide)]
