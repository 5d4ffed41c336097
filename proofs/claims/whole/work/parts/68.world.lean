/-! the world as the law has made it -/
def M0 : Mem := fun k _ _ j => match k with
  | 0 => if j = 1 then nI 400 else 0
  | 3 => if j = 0 then -1 else 0
  | 4 => -1
  | 6 => if j = 1 then nI 400 else 0
  | 10 => -1
  | 12 => -1
  | _ => 0
section SHV
variable {G : GT} {F : Nat → va_E} {o nC : Nat}

theorem shv_o (ho : o < nC) : sh3 G F o nC 7 o = shO G nC := sh3_o ho

theorem shv_0 : sh3 G F o nC 7 nC = rfA (G.2.1 2) 10 (fun q => if q < 10 then some (G.2.2 0 + (nC + 11 + q)) else none) := (lp_o (by omega) (Or.inl (by omega))).trans ((lp_o (by omega) (Or.inl (by omega))).trans lp_ar)

theorem shv_1 : sh3 G F o nC 7 (nC + 1) = rfA (G.2.1 4) 40 (fun q => if q < 40 then some (G.2.2 0 + (nC + 21 + q)) else none) := (lp_o (by omega) (Or.inl (by omega))).trans lp_ar

theorem shv_2 : sh3 G F o nC 7 (nC + 2) = rfA (G.2.1 1) 7 (fun q => if q < 7 then some (G.2.2 0 + (nC + 61 + q)) else none) := lp_ar

theorem shv_3 (ho : o < nC) : sh3 G F o nC 7 (nC + 3) = .inr (2, [.ref (G.2.2 0 + (nC + 4))]) := (lp_o (by omega) (Or.inl (by omega))).trans ((lp_o (by omega) (Or.inl (by omega))).trans ((lp_o (by omega) (Or.inl (by omega))).trans (by unfold shB rkF; repeat (first | exact fup_on | refine (fup_off (by omega)).trans ?_ | exact rfl))))

theorem shv_4 (ho : o < nC) : sh3 G F o nC 7 (nC + 4) = rfA (G.2.1 3) 3 (fun j => some (G.2.2 0 + (nC + 4 + 1 + 2 * j))) := (lp_o (by omega) (Or.inl (by omega))).trans ((lp_o (by omega) (Or.inl (by omega))).trans ((lp_o (by omega) (Or.inl (by omega))).trans (by unfold shB rkF; repeat (first | exact fup_on | refine (fup_off (by omega)).trans ?_ | exact rfl))))

theorem shv_5 (ho : o < nC) : sh3 G F o nC 7 (nC + 5) = .inr (3, [.ref (G.2.2 0 + (nC + 6))]) := (lp_o (by omega) (Or.inl (by omega))).trans ((lp_o (by omega) (Or.inl (by omega))).trans ((lp_o (by omega) (Or.inl (by omega))).trans (by unfold shB rkF; repeat (first | exact fup_on | refine (fup_off (by omega)).trans ?_ | exact rfl))))

theorem shv_6 (ho : o < nC) : sh3 G F o nC 7 (nC + 6) = inA (G.2.1 0) 10 (fun _ => -1) := (lp_o (by omega) (Or.inl (by omega))).trans ((lp_o (by omega) (Or.inl (by omega))).trans ((lp_o (by omega) (Or.inl (by omega))).trans (by unfold shB rkF; repeat (first | exact fup_on | refine (fup_off (by omega)).trans ?_ | exact rfl))))

theorem shv_7 (ho : o < nC) : sh3 G F o nC 7 (nC + 7) = .inr (3, [.ref (G.2.2 0 + (nC + 8))]) := (lp_o (by omega) (Or.inl (by omega))).trans ((lp_o (by omega) (Or.inl (by omega))).trans ((lp_o (by omega) (Or.inl (by omega))).trans (by unfold shB rkF; repeat (first | exact fup_on | refine (fup_off (by omega)).trans ?_ | exact rfl))))

theorem shv_8 (ho : o < nC) : sh3 G F o nC 7 (nC + 8) = inA (G.2.1 0) 20 (fun _ => -1) := (lp_o (by omega) (Or.inl (by omega))).trans ((lp_o (by omega) (Or.inl (by omega))).trans ((lp_o (by omega) (Or.inl (by omega))).trans (by unfold shB rkF; repeat (first | exact fup_on | refine (fup_off (by omega)).trans ?_ | exact rfl))))

theorem shv_9 (ho : o < nC) : sh3 G F o nC 7 (nC + 9) = .inr (3, [.ref (G.2.2 0 + (nC + 10))]) := (lp_o (by omega) (Or.inl (by omega))).trans ((lp_o (by omega) (Or.inl (by omega))).trans ((lp_o (by omega) (Or.inl (by omega))).trans (by unfold shB rkF; repeat (first | exact fup_on | refine (fup_off (by omega)).trans ?_ | exact rfl))))

theorem shv_10 (ho : o < nC) : sh3 G F o nC 7 (nC + 10) = inA (G.2.1 0) 30 (fun _ => -1) := (lp_o (by omega) (Or.inl (by omega))).trans ((lp_o (by omega) (Or.inl (by omega))).trans ((lp_o (by omega) (Or.inl (by omega))).trans (by unfold shB rkF; repeat (first | exact fup_on | refine (fup_off (by omega)).trans ?_ | exact rfl))))

theorem shv_c {i : Nat} (hi : i < 10) : sh3 G F o nC 7 (nC + 11 + i) = cuE := (lp_o (by omega) (Or.inl (by omega))).trans ((lp_o (by omega) (Or.inl (by omega))).trans ((if_neg (show ¬ nC + 11 + i = nC by omega)).trans (if_pos (by omega))))

theorem shv_t {i : Nat} (hi : i < 40) : sh3 G F o nC 7 (nC + 21 + i) = tiE := (lp_o (by omega) (Or.inl (by omega))).trans ((if_neg (show ¬ nC + 21 + i = nC + 1 by omega)).trans (if_pos (by omega)))

theorem shv_b {i : Nat} (hi : i < 7) : sh3 G F o nC 7 (nC + 61 + i) = buE := ((if_neg (show ¬ nC + 61 + i = nC + 2 by omega)).trans (if_pos (by omega)))

end SHV

def fin (G : GT) (F : Nat → va_E) : Nat → va_E := fup (mdF G (fup (prF G (fup F 0 (.inr (6, [.null, .null, .null])))) 140 (.inr (8, [.int 0, .int 0, .null, .null, .null, .null])))) 153 (.inl (G.2.1 5, (1, .inr (.inl (fun _ => 0)))))

theorem fin_sh {G : GT} {F : Nat → va_E} : ∀ s, s < 2 → ∃ Fs, ∀ j, 1 + 69 * s ≤ j → j < 70 + 69 * s → fin G F j = sh3 G Fs (1 + 69 * s) (2 + 69 * s) 7 j
  | 0, _ => ⟨_, fun j h1 h2 => (by unfold fin mdF prF; repeat (first | exact rfl | refine (fup_off (by omega)).trans ?_ | refine (stF_lo (by omega) (by omega)).trans ?_ | refine (sh3_lo (by omega) (by omega)).trans ?_))⟩
  | 1, _ => ⟨_, fun j h1 h2 => (by unfold fin mdF prF; repeat (first | exact rfl | refine (fup_off (by omega)).trans ?_ | refine (stF_lo (by omega) (by omega)).trans ?_ | refine (sh3_lo (by omega) (by omega)).trans ?_))⟩

set_option maxRecDepth 100000 in
set_option maxHeartbeats 4000000 in
theorem fin_at {G : GT} {F : Nat → va_E} : ∀ k s i, okc k s i → VE (fin G F (off k s i)) (conV G k s i (M0 k s i)) := by
  intro k s i ho
  obtain ⟨hk, hs, hi⟩ := ho
  match k, hk, hs, hi with
  | 0, _, hs, hi =>
    obtain rfl : i = 0 := by have h9 : i < 1 := hi; omega
    match s, hs with
    | 0, _ =>
      obtain ⟨Fs, h⟩ := fin_sh (G := G) (F := F) 0 (by decide)
      have h2 := (h (1 + 69 * 0) (by omega) (by omega)).trans (shv_o (by omega))
      exact VE.of (h2.trans rfl)
    | 1, _ =>
      obtain ⟨Fs, h⟩ := fin_sh (G := G) (F := F) 1 (by decide)
      have h2 := (h (1 + 69 * 1) (by omega) (by omega)).trans (shv_o (by omega))
      exact VE.of (h2.trans rfl)
  | 1, _, hs, hi =>
    have hi : i < 10 := hi
    match s, hs with
    | 0, _ =>
      obtain ⟨Fs, h⟩ := fin_sh (G := G) (F := F) 0 (by decide)
      have h2 := (h (13 + 69 * 0 + i) (by omega) (by omega)).trans (shv_c hi)
      exact VE.of (h2.trans rfl)
    | 1, _ =>
      obtain ⟨Fs, h⟩ := fin_sh (G := G) (F := F) 1 (by decide)
      have h2 := (h (13 + 69 * 1 + i) (by omega) (by omega)).trans (shv_c hi)
      exact VE.of (h2.trans rfl)
  | 2, _, hs, hi =>
    have hi : i < 40 := hi
    match s, hs with
    | 0, _ =>
      obtain ⟨Fs, h⟩ := fin_sh (G := G) (F := F) 0 (by decide)
      have h2 := (h (23 + 69 * 0 + i) (by omega) (by omega)).trans (shv_t hi)
      exact VE.of (h2.trans rfl)
    | 1, _ =>
      obtain ⟨Fs, h⟩ := fin_sh (G := G) (F := F) 1 (by decide)
      have h2 := (h (23 + 69 * 1 + i) (by omega) (by omega)).trans (shv_t hi)
      exact VE.of (h2.trans rfl)
  | 3, _, hs, hi =>
    have hi : i < 7 := hi
    match s, hs with
    | 0, _ =>
      obtain ⟨Fs, h⟩ := fin_sh (G := G) (F := F) 0 (by decide)
      have h2 := (h (63 + 69 * 0 + i) (by omega) (by omega)).trans (shv_b hi)
      exact VE.of (h2.trans rfl)
    | 1, _ =>
      obtain ⟨Fs, h⟩ := fin_sh (G := G) (F := F) 1 (by decide)
      have h2 := (h (63 + 69 * 1 + i) (by omega) (by omega)).trans (shv_b hi)
      exact VE.of (h2.trans rfl)
  | 4, _, hs, hi =>
    match s, hs with
    | 0, _ =>
      obtain ⟨Fs, h⟩ := fin_sh (G := G) (F := F) 0 (by decide)
      match i, hi with
      | 0, _ => exact VE.of ((h (8 + 69 * 0) (by decide) (by decide)).trans ((shv_6 (nC := 2 + 69 * 0) (by decide)).trans rfl))
      | 1, _ => exact VE.of ((h (10 + 69 * 0) (by decide) (by decide)).trans ((shv_8 (nC := 2 + 69 * 0) (by decide)).trans rfl))
      | 2, _ => exact VE.of ((h (12 + 69 * 0) (by decide) (by decide)).trans ((shv_10 (nC := 2 + 69 * 0) (by decide)).trans rfl))
    | 1, _ =>
      obtain ⟨Fs, h⟩ := fin_sh (G := G) (F := F) 1 (by decide)
      match i, hi with
      | 0, _ => exact VE.of ((h (8 + 69 * 1) (by decide) (by decide)).trans ((shv_6 (nC := 2 + 69 * 1) (by decide)).trans rfl))
      | 1, _ => exact VE.of ((h (10 + 69 * 1) (by decide) (by decide)).trans ((shv_8 (nC := 2 + 69 * 1) (by decide)).trans rfl))
      | 2, _ => exact VE.of ((h (12 + 69 * 1) (by decide) (by decide)).trans ((shv_10 (nC := 2 + 69 * 1) (by decide)).trans rfl))
  | 5, _, hs, hi =>
    obtain rfl : i = 0 := by have h9 : i < 1 := hi; omega
    obtain rfl : s = 0 := by have h9 : s < 1 := hs; omega
    have h2 : fin G F 139 = inA (G.2.1 0) 40 (fun _ => 0) := (by unfold fin mdF prF; repeat (first | exact fup_on | refine (fup_off (by omega)).trans ?_ | refine (stF_lo (by omega) (by omega)).trans ?_ | refine (sh3_lo (by omega) (by omega)).trans ?_ | unfold stF))
    exact VE.of (h2.trans rfl)
  | 6, _, hs, hi =>
    obtain rfl : i = 0 := by have h9 : i < 1 := hi; omega
    match s, hs with
    | 0, _ =>
      have h2 : fin G F 143 = .inr (7, [.int 0, .int (nI 400), .int 0, .int 0, .ref (G.2.2 0 + 144), .ref (G.2.2 0 + 145), .ref (G.2.2 0 + 146), .ref (G.2.2 0 + 147), .ref (G.2.2 0 + 140)]) := (by unfold fin mdF prF; repeat (first | exact fup_on | refine (fup_off (by omega)).trans ?_ | refine (stF_lo (by omega) (by omega)).trans ?_ | refine (sh3_lo (by omega) (by omega)).trans ?_ | unfold stF))
      exact VE.of (h2.trans rfl)
    | 1, _ =>
      have h2 : fin G F 148 = .inr (7, [.int 0, .int (nI 400), .int 0, .int 0, .ref (G.2.2 0 + 149), .ref (G.2.2 0 + 150), .ref (G.2.2 0 + 151), .ref (G.2.2 0 + 152), .ref (G.2.2 0 + 140)]) := (by unfold fin mdF prF; repeat (first | exact fup_on | refine (fup_off (by omega)).trans ?_ | refine (stF_lo (by omega) (by omega)).trans ?_ | refine (sh3_lo (by omega) (by omega)).trans ?_ | unfold stF))
      exact VE.of (h2.trans rfl)
  | 7, _, hs, hi =>
    obtain rfl : i = 0 := by have h9 : i < 1 := hi; omega
    match s, hs with
    | 0, _ =>
      have h2 : fin G F 144 = inA (G.2.1 0) 10 (fun _ => 0) := (by unfold fin mdF prF; repeat (first | exact fup_on | refine (fup_off (by omega)).trans ?_ | refine (stF_lo (by omega) (by omega)).trans ?_ | refine (sh3_lo (by omega) (by omega)).trans ?_ | unfold stF))
      exact VE.of (h2.trans rfl)
    | 1, _ =>
      have h2 : fin G F 149 = inA (G.2.1 0) 10 (fun _ => 0) := (by unfold fin mdF prF; repeat (first | exact fup_on | refine (fup_off (by omega)).trans ?_ | refine (stF_lo (by omega) (by omega)).trans ?_ | refine (sh3_lo (by omega) (by omega)).trans ?_ | unfold stF))
      exact VE.of (h2.trans rfl)
  | 8, _, hs, hi =>
    obtain rfl : i = 0 := by have h9 : i < 1 := hi; omega
    match s, hs with
    | 0, _ =>
      have h2 : fin G F 145 = inA (G.2.1 0) 10 (fun _ => 0) := (by unfold fin mdF prF; repeat (first | exact fup_on | refine (fup_off (by omega)).trans ?_ | refine (stF_lo (by omega) (by omega)).trans ?_ | refine (sh3_lo (by omega) (by omega)).trans ?_ | unfold stF))
      exact VE.of (h2.trans rfl)
    | 1, _ =>
      have h2 : fin G F 150 = inA (G.2.1 0) 10 (fun _ => 0) := (by unfold fin mdF prF; repeat (first | exact fup_on | refine (fup_off (by omega)).trans ?_ | refine (stF_lo (by omega) (by omega)).trans ?_ | refine (sh3_lo (by omega) (by omega)).trans ?_ | unfold stF))
      exact VE.of (h2.trans rfl)
  | 9, _, hs, hi =>
    obtain rfl : i = 0 := by have h9 : i < 1 := hi; omega
    match s, hs with
    | 0, _ =>
      have h2 : fin G F 146 = inA (G.2.1 0) 440 (fun _ => 0) := (by unfold fin mdF prF; repeat (first | exact fup_on | refine (fup_off (by omega)).trans ?_ | refine (stF_lo (by omega) (by omega)).trans ?_ | refine (sh3_lo (by omega) (by omega)).trans ?_ | unfold stF))
      exact VE.of (h2.trans rfl)
    | 1, _ =>
      have h2 : fin G F 151 = inA (G.2.1 0) 440 (fun _ => 0) := (by unfold fin mdF prF; repeat (first | exact fup_on | refine (fup_off (by omega)).trans ?_ | refine (stF_lo (by omega) (by omega)).trans ?_ | refine (sh3_lo (by omega) (by omega)).trans ?_ | unfold stF))
      exact VE.of (h2.trans rfl)
  | 10, _, hs, hi =>
    obtain rfl : i = 0 := by have h9 : i < 1 := hi; omega
    match s, hs with
    | 0, _ =>
      have h2 : fin G F 147 = inA (G.2.1 0) 60 (fun _ => -1) := (by unfold fin mdF prF; repeat (first | exact fup_on | refine (fup_off (by omega)).trans ?_ | refine (stF_lo (by omega) (by omega)).trans ?_ | refine (sh3_lo (by omega) (by omega)).trans ?_ | unfold stF))
      exact VE.of (h2.trans rfl)
    | 1, _ =>
      have h2 : fin G F 152 = inA (G.2.1 0) 60 (fun _ => -1) := (by unfold fin mdF prF; repeat (first | exact fup_on | refine (fup_off (by omega)).trans ?_ | refine (stF_lo (by omega) (by omega)).trans ?_ | refine (sh3_lo (by omega) (by omega)).trans ?_ | unfold stF))
      exact VE.of (h2.trans rfl)
  | 11, _, hs, hi =>
    obtain rfl : i = 0 := by have h9 : i < 1 := hi; omega
    obtain rfl : s = 0 := by have h9 : s < 1 := hs; omega
    have h2 : fin G F 140 = .inr (8, [.int 0, .int 0, .ref (G.2.2 0 + 141), .ref (G.2.2 0 + 142), .ref (G.2.2 0 + 143), .ref (G.2.2 0 + 148)]) := (by unfold fin mdF prF; repeat (first | exact fup_on | refine (fup_off (by omega)).trans ?_ | refine (stF_lo (by omega) (by omega)).trans ?_ | refine (sh3_lo (by omega) (by omega)).trans ?_ | unfold stF))
    exact VE.of (h2.trans rfl)
  | 12, _, hs, hi =>
    obtain rfl : i = 0 := by have h9 : i < 1 := hi; omega
    obtain rfl : s = 0 := by have h9 : s < 1 := hs; omega
    have h2 : fin G F 141 = inA (G.2.1 0) 7 (upd (upd (upd (upd (upd (upd (upd (fun _ => 0) 0 (-1)) 1 (-1)) 2 (-1)) 3 (-1)) 4 (-1)) 5 (-1)) 6 (-1)) := (by unfold fin mdF prF; repeat (first | exact fup_on | refine (fup_off (by omega)).trans ?_ | refine (stF_lo (by omega) (by omega)).trans ?_ | refine (sh3_lo (by omega) (by omega)).trans ?_ | unfold stF))
    exact VE.tr (VE.of h2) (VE.ari (fun j hj => match j, hj with | 0, _ => rfl | 1, _ => rfl | 2, _ => rfl | 3, _ => rfl | 4, _ => rfl | 5, _ => rfl | 6, _ => rfl))
  | 13, _, hs, hi =>
    obtain rfl : i = 0 := by have h9 : i < 1 := hi; omega
    obtain rfl : s = 0 := by have h9 : s < 1 := hs; omega
    have h2 : fin G F 142 = inA (G.2.1 0) 7 (fun _ => 0) := (by unfold fin mdF prF; repeat (first | exact fup_on | refine (fup_off (by omega)).trans ?_ | refine (stF_lo (by omega) (by omega)).trans ?_ | refine (sh3_lo (by omega) (by omega)).trans ?_ | unfold stF))
    exact VE.of (h2.trans rfl)
  | 14, _, hs, hi =>
    obtain rfl : i = 0 := by have h9 : i < 1 := hi; omega
    obtain rfl : s = 0 := by have h9 : s < 1 := hs; omega
    have h2 : fin G F 0 = .inr (6, [.ref (G.2.2 0 + 1), .ref (G.2.2 0 + 70), .ref (G.2.2 0 + 139)]) := (by unfold fin mdF prF; repeat (first | exact fup_on | refine (fup_off (by omega)).trans ?_ | refine (stF_lo (by omega) (by omega)).trans ?_ | refine (sh3_lo (by omega) (by omega)).trans ?_ | unfold stF))
    exact VE.of (h2.trans rfl)
  | 15, _, hs, hi =>
    obtain rfl : i = 0 := by have h9 : i < 1 := hi; omega
    match s, hs with
    | 0, _ =>
      obtain ⟨Fs, h⟩ := fin_sh (G := G) (F := F) 0 (by decide)
      have h2 := (h (5 + 69 * 0) (by omega) (by omega)).trans (shv_3 (by omega))
      exact VE.of (h2.trans rfl)
    | 1, _ =>
      obtain ⟨Fs, h⟩ := fin_sh (G := G) (F := F) 1 (by decide)
      have h2 := (h (5 + 69 * 1) (by omega) (by omega)).trans (shv_3 (by omega))
      exact VE.of (h2.trans rfl)
  | 16, _, hs, hi =>
    match s, hs with
    | 0, _ =>
      obtain ⟨Fs, h⟩ := fin_sh (G := G) (F := F) 0 (by decide)
      match i, hi with
      | 0, _ => exact VE.of ((h (7 + 69 * 0) (by decide) (by decide)).trans ((shv_5 (nC := 2 + 69 * 0) (by decide)).trans rfl))
      | 1, _ => exact VE.of ((h (9 + 69 * 0) (by decide) (by decide)).trans ((shv_7 (nC := 2 + 69 * 0) (by decide)).trans rfl))
      | 2, _ => exact VE.of ((h (11 + 69 * 0) (by decide) (by decide)).trans ((shv_9 (nC := 2 + 69 * 0) (by decide)).trans rfl))
    | 1, _ =>
      obtain ⟨Fs, h⟩ := fin_sh (G := G) (F := F) 1 (by decide)
      match i, hi with
      | 0, _ => exact VE.of ((h (7 + 69 * 1) (by decide) (by decide)).trans ((shv_5 (nC := 2 + 69 * 1) (by decide)).trans rfl))
      | 1, _ => exact VE.of ((h (9 + 69 * 1) (by decide) (by decide)).trans ((shv_7 (nC := 2 + 69 * 1) (by decide)).trans rfl))
      | 2, _ => exact VE.of ((h (11 + 69 * 1) (by decide) (by decide)).trans ((shv_9 (nC := 2 + 69 * 1) (by decide)).trans rfl))
  | 17, _, hs, hi =>
    obtain rfl : i = 0 := by have h9 : i < 1 := hi; omega
    match s, hs with
    | 0, _ =>
      obtain ⟨Fs, h⟩ := fin_sh (G := G) (F := F) 0 (by decide)
      have h2 := (h (2 + 69 * 0) (by omega) (by omega)).trans (shv_0)
      exact VE.tr (VE.of h2) (VE.arr (fun j hj => (if_pos hj).trans rfl))
    | 1, _ =>
      obtain ⟨Fs, h⟩ := fin_sh (G := G) (F := F) 1 (by decide)
      have h2 := (h (2 + 69 * 1) (by omega) (by omega)).trans (shv_0)
      exact VE.tr (VE.of h2) (VE.arr (fun j hj => (if_pos hj).trans rfl))
  | 18, _, hs, hi =>
    obtain rfl : i = 0 := by have h9 : i < 1 := hi; omega
    match s, hs with
    | 0, _ =>
      obtain ⟨Fs, h⟩ := fin_sh (G := G) (F := F) 0 (by decide)
      have h2 := (h (3 + 69 * 0) (by omega) (by omega)).trans (shv_1)
      exact VE.tr (VE.of h2) (VE.arr (fun j hj => (if_pos hj).trans rfl))
    | 1, _ =>
      obtain ⟨Fs, h⟩ := fin_sh (G := G) (F := F) 1 (by decide)
      have h2 := (h (3 + 69 * 1) (by omega) (by omega)).trans (shv_1)
      exact VE.tr (VE.of h2) (VE.arr (fun j hj => (if_pos hj).trans rfl))
  | 19, _, hs, hi =>
    obtain rfl : i = 0 := by have h9 : i < 1 := hi; omega
    match s, hs with
    | 0, _ =>
      obtain ⟨Fs, h⟩ := fin_sh (G := G) (F := F) 0 (by decide)
      have h2 := (h (4 + 69 * 0) (by omega) (by omega)).trans (shv_2)
      exact VE.tr (VE.of h2) (VE.arr (fun j hj => (if_pos hj).trans rfl))
    | 1, _ =>
      obtain ⟨Fs, h⟩ := fin_sh (G := G) (F := F) 1 (by decide)
      have h2 := (h (4 + 69 * 1) (by omega) (by omega)).trans (shv_2)
      exact VE.tr (VE.of h2) (VE.arr (fun j hj => (if_pos hj).trans rfl))
  | 20, _, hs, hi =>
    obtain rfl : i = 0 := by have h9 : i < 1 := hi; omega
    match s, hs with
    | 0, _ =>
      obtain ⟨Fs, h⟩ := fin_sh (G := G) (F := F) 0 (by decide)
      have h2 := (h (6 + 69 * 0) (by omega) (by omega)).trans (shv_4 (by omega))
      exact VE.tr (VE.of h2) (VE.arr (fun j hj => match j, hj with | 0, _ => rfl | 1, _ => rfl | 2, _ => rfl))
    | 1, _ =>
      obtain ⟨Fs, h⟩ := fin_sh (G := G) (F := F) 1 (by decide)
      have h2 := (h (6 + 69 * 1) (by omega) (by omega)).trans (shv_4 (by omega))
      exact VE.tr (VE.of h2) (VE.arr (fun j hj => match j, hj with | 0, _ => rfl | 1, _ => rfl | 2, _ => rfl))
  | 21, _, hs, hi =>
    obtain rfl : i = 0 := by have h9 : i < 1 := hi; omega
    obtain rfl : s = 0 := by have h9 : s < 1 := hs; omega
    have h2 : fin G F 153 = .inl (G.2.1 5, (1, .inr (.inl (fun _ => 0)))) := (by unfold fin mdF prF; repeat (first | exact fup_on | refine (fup_off (by omega)).trans ?_ | refine (stF_lo (by omega) (by omega)).trans ?_ | refine (sh3_lo (by omega) (by omega)).trans ?_ | unfold stF))
    exact VE.of (h2.trans rfl)
  | _ + 22, hk, _, _ => exact absurd hk (by omega)

theorem v_z {X : PX} {G : GT} {Q : State → Prop} {pc : Nat} {lv : List (Option Value)} {st : List Value} {F : Nat → va_E} {cells slots : Nat} (k : Z X G (0, 0) Q pc lv st M0 cells slots) : V X G Q pc lv st 154 (fin G F) cells slots := fun ls H locs hl hB hS => by
  have hB2 : ∀ k s i, okc k s i → va_at G.1 vwCl (ad G k s i, conV G k s i (M0 k s i)) H := fun k s i ho => fin_at k s i ho _ _ _ _ (hB.2 (off k s i) (off_lt ho))
  exact k ls H locs hl hB2 (Or.inl rfl) hS

