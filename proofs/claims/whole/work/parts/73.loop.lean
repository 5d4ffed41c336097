/-! the law's loop -/
theorem and31 (y : Int32) : ∃ v, v < 32 ∧ y &&& 31 = nI v := by
  refine ⟨y.toBitVec.toNat &&& 31, Nat.lt_of_le_of_lt Nat.and_le_right (by decide), ?_⟩
  apply Int32.toBitVec_inj.mp
  show y.toBitVec &&& BitVec.ofNat 32 31 = BitVec.ofNat 32 (y.toBitVec.toNat &&& 31)
  apply BitVec.eq_of_toNat_eq
  have h := Nat.and_le_right (n := y.toBitVec.toNat) (m := 31)
  rw [BitVec.toNat_and, BitVec.toNat_ofNat, BitVec.toNat_ofNat, Nat.mod_eq_of_lt (show 31 < 2 ^ 32 by decide), Nat.mod_eq_of_lt (by omega)]
theorem head5 {L c : Nat} (hL : L ≤ 2560) (hc : 5 * c ≤ L) (h : ¬ nI L - 5 < nI (5 * c)) : 5 * c + 5 ≤ L := by
  rcases Nat.lt_or_ge L (5 * c + 5) with z | z
  · exfalso
    refine h (Int32.lt_iff_toInt_lt.mpr ?_)
    rw [show (5 : Int32) = nI 5 from rfl, pk_sub_toInt (by omega) (by decide), nI_toInt (by omega)]
    omega
  · exact z

set_option maxRecDepth 100000 in
set_option maxHeartbeats 4000000 in
theorem law_loop {X : PX} {G : GT} {b L : Nat} {xs : Nat → Int32} (E : EF X G cL_law 9 RL ret 11 601024 7293034) (hl0 : (xL X).stackTraces = false) (hX : va_X b L xs (xS X) (xS X).heap) (hbl : b < (xS X).heap.size) (hG : G.2.2 0 = (xS X).heap.size) (hL : L ≤ 2560) : ∀ (k c : Nat) (M : Mem) (n cN d : Nat), c + k = 513 → 5 * c ≤ L → Inv2 M M n cN d c → Z X G (0, 0) (lw_Z (xB X) (xA X) (xS X)) 23 [some (.ref b), some (.ref (ad G 14 0 0)), some (.ref (ad G 11 0 0)), some (.ref (ad G 21 0 0)), some (.int (nI (5 * c))), none, none, none, none] [] M (154 + 20 * c) (2256 + 700 * c) := by
  intro k
  induction k with
  | zero =>
    intro c M n cN d hk hc
    omega
  | succ k ih =>
    intro c M n cN d hk hc hI
    have hK : 5 * c + 5 ≤ L → LK X G (lw_Z (xB X) (xA X) (xS X)) b c := fun h5 M2 n2 cN2 d2 hI2 => by
      refine z_iinc_4 (pc := 1272) E dL_law_1272 (nI_add (5 * c) 5) rfl ?_
      refine z_goto (pc := 1275) (tgt := 23) E dL_law_1275 (by decide) ?_
      exact ih (c + 1) M2 n2 cN2 d2 (by omega) (by omega) hI2
    refine z_iload_4 (pc := 23) E dL_law_23 ?_
    refine z_aload_0 (pc := 25) E dL_law_25 ?_
    refine z_slen (pc := 26) E hX hbl hG dL_law_26 ?_
    refine z_iconst (v := 5) (pc := 27) E dL_law_27 (by decide) ?_
    refine z_isub (pc := 28) E dL_law_28 ?_
    refine z_icmp_gt (pc := 29) (tgt := 1278) E dL_law_29 (by decide) (fun h29 => ?_) (fun h29 => ?_)
    · refine z_iconst (v := 1) (pc := 1278) E dL_law_1278 (by decide) ?_
      exact z_lwret (pc := 1279) E hG dL_law_1279 (by omega) (by omega)
    · refine z_aload_0 (pc := 32) E dL_law_32 ?_
      refine z_iload_4 (pc := 33) E dL_law_33 ?_
      have h5 := head5 hL hc h29
      refine z_sld (j := 5 * c) (pc := 35) E hX hbl hG dL_law_35 rfl (by omega) hL ?_
      refine z_bipush (v := 31) (pc := 36) E dL_law_36 (by decide) ?_
      refine z_iand (pc := 38) E dL_law_38 ?_
      obtain ⟨v, hv, ev⟩ := and31 (xs (5 * c))
      rw [ev]
      match v, hv with
      | 0, _ => exact z_tswIn (pc := 39) (tgt := 132) (off := 93) E dL_law_39 (by decide) (by decide) (by decide) (by decide) (l_come E hl0 hX hbl hG hL h5 hI (hK h5))
      | 1, _ => exact z_tswIn (pc := 39) (tgt := 188) (off := 149) E dL_law_39 (by decide) (by decide) (by decide) (by decide) (l_earn E hl0 hX hbl hG hL h5 hI (hK h5))
      | 2, _ => exact z_tswIn (pc := 39) (tgt := 256) (off := 217) E dL_law_39 (by decide) (by decide) (by decide) (by decide) (l_setBuyer E hl0 hX hbl hG hL h5 hI (hK h5))
      | 3, _ => exact z_tswIn (pc := 39) (tgt := 336) (off := 297) E dL_law_39 (by decide) (by decide) (by decide) (by decide) (l_customer E hl0 hX hbl hG hL h5 hI (hK h5))
      | 4, _ => exact z_tswIn (pc := 39) (tgt := 404) (off := 365) E dL_law_39 (by decide) (by decide) (by decide) (by decide) (l_pledge E hl0 hX hbl hG hL h5 hI (hK h5))
      | 5, _ => exact z_tswIn (pc := 39) (tgt := 496) (off := 457) E dL_law_39 (by decide) (by decide) (by decide) (by decide) (l_ticket E hl0 hX hbl hG hL h5 hI (hK h5))
      | 6, _ => exact z_tswIn (pc := 39) (tgt := 564) (off := 525) E dL_law_39 (by decide) (by decide) (by decide) (by decide) (l_owes E hl0 hX hbl hG hL h5 hI (hK h5))
      | 7, _ => exact z_tswIn (pc := 39) (tgt := 620) (off := 581) E dL_law_39 (by decide) (by decide) (by decide) (by decide) (l_renew E hl0 hX hbl hG hL h5 hI (hK h5))
      | 8, _ => exact z_tswIn (pc := 39) (tgt := 676) (off := 637) E dL_law_39 (by decide) (by decide) (by decide) (by decide) (l_fetch E hl0 hX hbl hG hL h5 hI (hK h5))
      | 9, _ => exact z_tswIn (pc := 39) (tgt := 732) (off := 693) E dL_law_39 (by decide) (by decide) (by decide) (by decide) (l_at E hl0 hX hbl hG hL h5 hI (hK h5))
      | 10, _ => exact z_tswIn (pc := 39) (tgt := 800) (off := 761) E dL_law_39 (by decide) (by decide) (by decide) (by decide) (l_room E hl0 hX hbl hG hL h5 hI (hK h5))
      | 11, _ => exact z_tswIn (pc := 39) (tgt := 856) (off := 817) E dL_law_39 (by decide) (by decide) (by decide) (by decide) (l_tidy E hl0 hX hbl hG hL h5 hI (hK h5))
      | 12, _ => exact z_tswIn (pc := 39) (tgt := 869) (off := 830) E dL_law_39 (by decide) (by decide) (by decide) (by decide) (l_pass E hl0 hX hbl hG hL h5 hI (hK h5))
      | 13, _ => exact z_tswIn (pc := 39) (tgt := 925) (off := 886) E dL_law_39 (by decide) (by decide) (by decide) (by decide) (l_count E hl0 hX hbl hG hL h5 hI (hK h5))
      | 14, _ => exact z_tswIn (pc := 39) (tgt := 981) (off := 942) E dL_law_39 (by decide) (by decide) (by decide) (by decide) (l_foresee E hl0 hX hbl hG hL h5 hI (hK h5))
      | 15, _ => exact z_tswIn (pc := 39) (tgt := 1049) (off := 1010) E dL_law_39 (by decide) (by decide) (by decide) (by decide) (l_raise E hl0 hX hbl hG hL h5 hI (hK h5))
      | 16, _ => exact z_tswIn (pc := 39) (tgt := 1105) (off := 1066) E dL_law_39 (by decide) (by decide) (by decide) (by decide) (l_best E hl0 hX hbl hG hL h5 hI (hK h5))
      | 17, _ => exact z_tswIn (pc := 39) (tgt := 1161) (off := 1122) E dL_law_39 (by decide) (by decide) (by decide) (by decide) (l_most E hl0 hX hbl hG hL h5 hI (hK h5))
      | 18, _ => exact z_tswIn (pc := 39) (tgt := 1217) (off := 1178) E dL_law_39 (by decide) (by decide) (by decide) (by decide) (l_fetched E hl0 hX hbl hG hL h5 hI (hK h5))
      | 19, _ => exact z_tswIn (pc := 39) (tgt := 1258) (off := 1219) E dL_law_39 (by decide) (by decide) (by decide) (by decide) (l_digest E hl0 hX hbl hG hL h5 hI (hK h5))
      | 20, _ => exact z_tswOut (pc := 39) (tgt := 1272) E dL_law_39 (by decide) (by decide) (z_widen (by omega) (by omega) (hK h5 _ _ _ _ hI.up))
      | 21, _ => exact z_tswOut (pc := 39) (tgt := 1272) E dL_law_39 (by decide) (by decide) (z_widen (by omega) (by omega) (hK h5 _ _ _ _ hI.up))
      | 22, _ => exact z_tswOut (pc := 39) (tgt := 1272) E dL_law_39 (by decide) (by decide) (z_widen (by omega) (by omega) (hK h5 _ _ _ _ hI.up))
      | 23, _ => exact z_tswOut (pc := 39) (tgt := 1272) E dL_law_39 (by decide) (by decide) (z_widen (by omega) (by omega) (hK h5 _ _ _ _ hI.up))
      | 24, _ => exact z_tswOut (pc := 39) (tgt := 1272) E dL_law_39 (by decide) (by decide) (z_widen (by omega) (by omega) (hK h5 _ _ _ _ hI.up))
      | 25, _ => exact z_tswOut (pc := 39) (tgt := 1272) E dL_law_39 (by decide) (by decide) (z_widen (by omega) (by omega) (hK h5 _ _ _ _ hI.up))
      | 26, _ => exact z_tswOut (pc := 39) (tgt := 1272) E dL_law_39 (by decide) (by decide) (z_widen (by omega) (by omega) (hK h5 _ _ _ _ hI.up))
      | 27, _ => exact z_tswOut (pc := 39) (tgt := 1272) E dL_law_39 (by decide) (by decide) (z_widen (by omega) (by omega) (hK h5 _ _ _ _ hI.up))
      | 28, _ => exact z_tswOut (pc := 39) (tgt := 1272) E dL_law_39 (by decide) (by decide) (z_widen (by omega) (by omega) (hK h5 _ _ _ _ hI.up))
      | 29, _ => exact z_tswOut (pc := 39) (tgt := 1272) E dL_law_39 (by decide) (by decide) (z_widen (by omega) (by omega) (hK h5 _ _ _ _ hI.up))
      | 30, _ => exact z_tswOut (pc := 39) (tgt := 1272) E dL_law_39 (by decide) (by decide) (z_widen (by omega) (by omega) (hK h5 _ _ _ _ hI.up))
      | 31, _ => exact z_tswOut (pc := 39) (tgt := 1272) E dL_law_39 (by decide) (by decide) (z_widen (by omega) (by omega) (hK h5 _ _ _ _ hI.up))
      | _ + 32, hv => exact absurd hv (by omega)

set_option maxRecDepth 100000 in
set_option maxHeartbeats 4000000 in
theorem law_walk {X : PX} {G : GT} {b L : Nat} {xs : Nat → Int32} (E : EF X G cL_law 9 RL ret 11 601024 7293034) (hl0 : (xL X).stackTraces = false) (hX : va_X b L xs (xS X) (xS X).heap) (hbl : b < (xS X).heap.size) (hG : G.2.2 0 = (xS X).heap.size) (hL : L ≤ 2560) : V X G (lw_Z (xB X) (xA X) (xS X)) 0 [some (.ref b), none, none, none, none, none, none, none, none] [] 0 (fun _ => cuE) 0 0 := by
  refine v_new (C := RX6) (Tf := TX6) (N := 3) (ci := 6) (fs := [.null, .null, .null]) (pc := 0) E tyX6 tyX6_ok (fun j hj => match j, hj with | 0, _ => rfl | 1, _ => rfl | 2, _ => rfl) dL_law_0 clL_8 isX6 inX6 uwX6 rfl ⟨by omega, by omega⟩ ?_
  refine v_dup (pc := 3) E dL_law_3 rfl ?_
  refine v_ci (n := 0) (pc := 4) E (n_X6_init fup_on) rfl kkX6_init mlL_70 dL_law_4 rfl (Nat.le_of_ble_eq_true rfl) rfl (by decide) (by decide) ⟨by omega, by omega⟩ ?_
  refine v_astore_1 (pc := 7) E dL_law_7 rfl ?_
  refine v_new (C := RX8) (Tf := TX8) (N := 6) (ci := 8) (fs := [.int 0, .int 0, .null, .null, .null, .null]) (pc := 8) E tyX8 tyX8_ok (fun j hj => match j, hj with | 0, _ => rfl | 1, _ => rfl | 2, _ => rfl | 3, _ => rfl | 4, _ => rfl | 5, _ => rfl) dL_law_8 clL_71 isX8 inX8 uwX8 rfl ⟨by omega, by omega⟩ ?_
  refine v_dup (pc := 11) E dL_law_11 rfl ?_
  refine v_ci (n := 0) (pc := 12) E (n_X8_init fup_on) rfl kkX8_init mlL_73 dL_law_12 rfl (Nat.le_of_ble_eq_true rfl) rfl (by decide) (by decide) ⟨by omega, by omega⟩ ?_
  refine v_astore_2 (pc := 15) E dL_law_15 rfl ?_
  refine v_iconst (v := nI 1) (pc := 16) E dL_law_16 (by decide) ?_
  refine v_newl (n := 1) (pc := 17) E dL_law_17 rfl (by decide) ⟨by omega, by omega⟩ ?_
  refine v_astore_3 (pc := 19) E dL_law_19 rfl ?_
  refine v_z (F := fun _ => cuE) ?_
  refine z_iconst (v := 0) (pc := 20) E dL_law_20 (by decide) ?_
  refine z_istore_4 (pc := 21) E dL_law_21 rfl ?_
  refine z_widen (c1 := 154 + 20 * 0) (s1 := 2256 + 700 * 0) (by decide) (by decide) ?_
  exact law_loop E hl0 hX hbl hG hL 513 0 M0 0 0 0 rfl (Nat.zero_le _) inv_0

theorem flags_st {l : Launch} (h : l.flags = flags0) : l.stackTraces = false := by
  unfold Launch.stackTraces
  rw [h]
  decide +kernel
theorem whole_start {p : Program} {e : Env} {s : State} {m : MethodId} {below : List Frame} {meth : Method} {c : Code} (l : Launch) (hflags : l.flags = flags0) {b L : Nat} {xs : Nat → Int32} (hL : L ≤ 2560) (C0 : lw_At p s m meth c b L xs) : W p l e room_1 s m #[Value.ref b] below meth c s.heap [] 0 0 (lw_Z below #[Value.ref b] s) (entryFrame m ([Value.ref b] : List Value).toArray 9) := by
  obtain ⟨hx, hb, hr, hml, hown, hts, hX, hbl, hlocks, hgv⟩ := id C0
  obtain ⟨G, hG, hF⟩ := wf_start C0
  refine w_roomier (R := rmd 11 601024 7293034) (Nat.le_of_ble_eq_true rfl) (Nat.le_of_ble_eq_true rfl) (Nat.le_of_ble_eq_true rfl) (Nat.le_of_ble_eq_true rfl) ?_
  have E : EF (p, l, e, rmd 11 601024 7293034, s, m, #[Value.ref b], below, meth, c) G cL_law 9 RL ret 11 601024 7293034 := ⟨hx, hb, hml, hown, fun w hw => hts w (List.mem_filter.mp hw).1, hlocks, hr, trivial, hF, rfl⟩
  rw [lg_entry_eq]
  have hl := hasL_entry ([Value.ref b]) (n := 9) (fun v hv => by rw [List.mem_singleton.mp hv]; rfl) (Nat.le_of_ble_eq_true rfl)
  exact law_walk E (flags_st hflags) hX hbl hG hL _ s.heap [] hl ⟨by rw [hG]; rfl, fun j hj => absurd hj (Nat.not_lt_zero j)⟩ va_S.rf
