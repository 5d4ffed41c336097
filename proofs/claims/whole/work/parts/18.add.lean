theorem mset_s {M : Mem} {k s i j k' s' i' j' : Nat} {x : Int32} (h : ¬ j' = j) : mset M k s i j x k' s' i' j' = M k' s' i' j' := if_neg (fun z => h z.2.2.2)
theorem mset_sh {M : Mem} {k s i j k' s' : Nat} {x : Int32} (h : ¬ s' = s) : mset M k s i j x k' s' = M k' s' := by
  funext i' j'
  exact if_neg (fun z => h z.2.1)
theorem gapS_k {A B : Mem} (h : A 4 = B 4) (s i : Nat) (w : Int32) : gapS A s i w = gapS B s i w := by unfold gapS; rw [h]
theorem spotF_k {A B : Mem} (h : A 4 = B 4) (s : Nat) (w : Int32) : ∀ n i, spotF A s w n i = spotF B s w n i
  | 0, _ => rfl
  | n + 1, i => by
    show (if gapS A s i w = -1 then spotF A s w n (i + 1) else 100 * nI i + gapS A s i w) = (if gapS B s i w = -1 then spotF B s w n (i + 1) else 100 * nI i + gapS B s i w)
    rw [gapS_k h, spotF_k h]
/-- a new ticket n of the customer i; its thing is laid on the shelf h at the place q -/
def addM (M : Mem) (s i n h q : Nat) (k v w : Int32) : Mem := mset (mset (mset (rset (mset (mset (mset (mset (mset (mset (mset (mset (mset (mset M 2 s n 0 (nI i)) 2 s n 1 k) 2 s n 2 v) 2 s n 3 w) 2 s n 4 (loanV (M 1 s i 1) v)) 2 s n 5 (M 0 s 0 0)) 2 s n 6 (M 0 s 0 0 + 60)) 2 s n 7 0) 2 s n 8 0) 2 s n 9 0) 4 s h (layF (M 4 s h) (nI n) (nI q) w (10 * (h + 1)))) 0 s 0 1 (M 0 s 0 1 - (loanV (M 1 s i 1) v))) 1 s i 0 (M 1 s i 0 + (loanV (M 1 s i 1) v))) 0 s 0 4 (nI (n + 1))
