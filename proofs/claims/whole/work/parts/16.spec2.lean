/-! the shop -/
def takesP (M : Mem) (s w t : Nat) : Prop := M 2 s t 7 = 2 ∧ M 2 s t 1 = M 3 s w 0 ∧ M 2 s t 8 ≤ M 3 s w 1
def dearF (M : Mem) (s w : Nat) : Nat → Nat → Int32 → Int32 → Int32
  | 0, _, d, _ => d
  | n + 1, t, d, h => if (M 2 s t 7 = 2 ∧ M 2 s t 1 = M 3 s w 0 ∧ M 2 s t 8 ≤ M 3 s w 1) ∧ ¬ M 2 s t 8 ≤ h then dearF M s w n (t + 1) (nI t) (M 2 s t 8) else dearF M s w n (t + 1) d h
theorem dear_y {M : Mem} {s w n t : Nat} {d h : Int32} (a : M 2 s t 7 = 2 ∧ M 2 s t 1 = M 3 s w 0 ∧ M 2 s t 8 ≤ M 3 s w 1) (b : ¬ M 2 s t 8 ≤ h) : dearF M s w (n + 1) t d h = dearF M s w n (t + 1) (nI t) (M 2 s t 8) := if_pos ⟨a, b⟩
theorem dear_n {M : Mem} {s w n t : Nat} {d h : Int32} (a : ¬ ((M 2 s t 7 = 2 ∧ M 2 s t 1 = M 3 s w 0 ∧ M 2 s t 8 ≤ M 3 s w 1) ∧ ¬ M 2 s t 8 ≤ h)) : dearF M s w (n + 1) t d h = dearF M s w n (t + 1) d h := if_neg a
def bestF (M : Mem) (s i : Nat) (day : Int32) : Nat → Nat → Int32 → Int32 → Int32
  | 0, _, b, _ => b
  | n + 1, t, b, g => if ((M 2 s t 7 = 0 ∧ M 2 s t 0 = nI i) ∧ debtV M s t day ≤ M 1 s i 0) ∧ (b = -1 ∨ ¬ M 2 s t 2 - debtV M s t day ≤ g) then bestF M s i day n (t + 1) (nI t) (M 2 s t 2 - debtV M s t day) else bestF M s i day n (t + 1) b g
theorem best_y {M : Mem} {s i n t : Nat} {day b g : Int32} (a : M 2 s t 7 = 0 ∧ M 2 s t 0 = nI i) (a2 : debtV M s t day ≤ M 1 s i 0) (c : b = -1 ∨ ¬ M 2 s t 2 - debtV M s t day ≤ g) : bestF M s i day (n + 1) t b g = bestF M s i day n (t + 1) (nI t) (M 2 s t 2 - debtV M s t day) := if_pos ⟨⟨a, a2⟩, c⟩
theorem best_n {M : Mem} {s i n t : Nat} {day b g : Int32} (a : ¬ (((M 2 s t 7 = 0 ∧ M 2 s t 0 = nI i) ∧ debtV M s t day ≤ M 1 s i 0) ∧ (b = -1 ∨ ¬ M 2 s t 2 - debtV M s t day ≤ g))) : bestF M s i day (n + 1) t b g = bestF M s i day n (t + 1) b g := if_neg a
/-- what is picked among the first n, laid into a row -/
def putP (sel : Nat → Bool) (val p : Nat → Int32) : Nat → Nat × (Nat → Int32)
  | 0 => (0, p)
  | t + 1 => if sel t = true then ((putP sel val p t).1 + 1, upd (putP sel val p t).2 (putP sel val p t).1 (val t)) else putP sel val p t
theorem putP_le (sel : Nat → Bool) (val p : Nat → Int32) : ∀ n, (putP sel val p n).1 ≤ n
  | 0 => Nat.le_refl 0
  | t + 1 => by
    have h := putP_le sel val p t
    show (if sel t = true then ((putP sel val p t).1 + 1, upd (putP sel val p t).2 (putP sel val p t).1 (val t)) else putP sel val p t).1 ≤ t + 1
    split
    · show (putP sel val p t).1 + 1 ≤ t + 1
      omega
    · omega
theorem putP_y {sel : Nat → Bool} {val p : Nat → Int32} {t : Nat} (h : sel t = true) : putP sel val p (t + 1) = ((putP sel val p t).1 + 1, upd (putP sel val p t).2 (putP sel val p t).1 (val t)) := if_pos h
theorem putP_n {sel : Nat → Bool} {val p : Nat → Int32} {t : Nat} (h : ¬ sel t = true) : putP sel val p (t + 1) = putP sel val p t := if_neg h
theorem r52 (M : Mem) (q : Nat → Int32) (s t : Nat) : rset M 5 0 0 q 2 s t = M 2 s t := rfl
theorem r50 (M : Mem) (q : Nat → Int32) (s t : Nat) : rset M 5 0 0 q 0 s t = M 0 s t := rfl
theorem r51 (M : Mem) (q : Nat → Int32) (s t : Nat) : rset M 5 0 0 q 1 s t = M 1 s t := rfl
def stN (M : Mem) (s n : Nat) (x : Int32) : Int32 := fsum n (fun t => b2 (M 2 s t 7 = x))
def ofN (M : Mem) (s n : Nat) (c x : Int32) : Int32 := fsum n (fun t => b2 (M 2 s t 0 = c ∧ M 2 s t 7 = x))
def debtN (M : Mem) (s n : Nat) (c : Int32) : Int32 := fsum n (fun t => if M 2 s t 0 = c then debtV M s t (M 0 s 0 0) else 0)
def loanN (M : Mem) (s n : Nat) : Int32 := fsum n (fun t => if M 2 s t 7 = 0 then M 2 s t 4 else 0)
def cntV (M : Mem) (s n w : Nat) : Int32 := match w with
  | 0 => M 0 s 0 0
  | 1 => M 0 s 0 1
  | 2 => M 0 s 0 3
  | 3 => M 0 s 0 4
  | 4 => stN M s n 0
  | 5 => stN M s n 1
  | 6 => stN M s n 2
  | 7 => stN M s n 3
  | 8 => fsum 3 (takenS M s)
  | 9 => loanN M s n
  | _ => M 0 s 0 2
def custV (M : Mem) (s n i w : Nat) : Int32 := match w with
  | 0 => M 1 s i 0
  | 1 => M 1 s i 1
  | 2 => ofN M s n (nI i) 0
  | 3 => debtN M s n (nI i)
  | _ => ofN M s n (nI i) 1
def tickV (M : Mem) (s t w : Nat) : Int32 := match w with
  | 0 => M 2 s t 0
  | 1 => M 2 s t 1
  | 2 => M 2 s t 2
  | 3 => M 2 s t 3
  | 4 => M 2 s t 4
  | 5 => M 2 s t 6
  | 6 => M 2 s t 7
  | 7 => shelfF M s (nI t) 3 0
  | 8 => leftR M s (nI t) 3 0
  | 9 => M 2 s t 8
  | _ => M 2 s t 9
