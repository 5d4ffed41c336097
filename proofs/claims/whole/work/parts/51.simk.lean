/-! side by side: what is refused, and with what number -/
theorem ge_eq {a b : Nat} (h : a ≤ b) (hb : b ≤ 1000) : (¬ nI b ≤ nI a) ↔ ¬ nI a = nI b := by
  constructor
  · intro z e
    exact z (by rw [e]; exact Int32.le_refl _)
  · intro z e
    have := nI_ged (by omega) (by omega) e
    have e2 : a = b := by omega
    exact z (by rw [e2])
theorem k_come {A B : Mem} {n cN : Nat} {x : Int32} (h : SimD A B 0 n cN) (hc : B 11 0 0 1 = nI cN) (h10 : cN ≤ 10) : comeK A x = mcomeK B x := by
  unfold comeK mcomeK
  rw [h.2.2.2.1, hc, show (10 : Int32) = nI 10 from rfl]
  by_cases a : 0 ≤ x ∧ x ≤ 2000
  · rw [if_pos a, if_pos a]
    by_cases b : ¬ nI 10 ≤ nI cN
    · rw [if_pos b, if_pos ((ge_eq h10 (by decide)).mp b)]
    · rw [if_neg b, if_neg (fun z => b ((ge_eq h10 (by decide)).mpr z))]
  · rw [if_neg a, if_neg a]
theorem k_earn {A B : Mem} {n cN : Nat} {c x : Int32} (h : SimD A B 0 n cN) (hc : B 11 0 0 1 = nI cN) : earnK A c x = mearnK B c x := by
  unfold earnK mearnK
  rw [h.2.2.2.1, hc]
theorem k_setBuyer (d k p : Int32) : setBuyerK d k p = msetBuyerK d k p := rfl
theorem k_customer {A B : Mem} {n cN : Nat} {c w : Int32} (h : SimD A B 0 n cN) (hc : B 11 0 0 1 = nI cN) : customerK A c w = mcustomerK B c w := by
  unfold customerK mcustomerK
  rw [h.2.2.2.1, hc]
theorem k_ticket {A B : Mem} {n cN : Nat} {t w : Int32} (h : SimD A B 0 n cN) : ticketK A t w = mticketK B t w := by
  unfold ticketK mticketK
  rw [h.2.2.2.2.1, h.2.2.2.2.2.1]
theorem k_owes {A B : Mem} {n cN : Nat} {t : Int32} (h : SimD A B 0 n cN) : owesK A t = mowesK B t := by
  unfold owesK mowesK
  rw [h.2.2.2.2.1, h.2.2.2.2.2.1]
theorem k_room (w : Int32) : roomK w = mroomK w := rfl
theorem k_pass (x : Int32) : passK x = mpassK x := rfl
theorem k_count (w : Int32) : countK w = mcountK w := rfl
theorem k_fore (x w : Int32) : foreseeK x w = mforeseeK x w := rfl
theorem k_raise (x : Int32) : raiseK x = mraiseK x := rfl
theorem k_best {A B : Mem} {n cN : Nat} {c : Int32} (h : SimD A B 0 n cN) (hc : B 11 0 0 1 = nI cN) : bestK A c = mbestK B c := by
  unfold bestK mbestK
  rw [h.2.2.2.1, hc]
theorem k_most {A B : Mem} {n cN : Nat} {c : Int32} (h : SimD A B 0 n cN) (hc : B 11 0 0 1 = nI cN) : mostK A c = mmostK B c := by
  unfold mostK mmostK
  rw [h.2.2.2.1, hc]
