/-! the world of the tables at the law's entry -/
set_option maxRecDepth 100000 in
set_option maxHeartbeats 4000000 in
theorem wf_start {p : Program} {s : State} {m : MethodId} {meth : Method} {c : Code} {b L : Nat} {xs : Nat → Int32} (C0 : lw_At p s m meth c b L xs) : ∃ G : GT, G.2.2 0 = s.heap.size ∧ WF G (Aw G s.heap.size) s s.heap := by
  obtain ⟨hx, hb, hr, hml, hown, hts, hX, hbl, hlocks, hgv⟩ := id C0
  have hs := flat_of_before _ hgv
  have hg : ∀ w ∈ GW, w.before #[Value.ref b] s = true := fun w hw => hts w (List.mem_filter.mp hw).1
  have hw : ∀ (i : Nat) (w : Cond), lw_tbl[i]? = some w → w.before #[Value.ref b] s = true := fun i w h => hts w (List.mem_of_getElem? h)
  have hA : ∀ a : Nat, a < s.heap.size → ¬ (fun q : Nat => s.heap.size ≤ q) a := fun a h z => absurd h (Nat.not_lt.mpr z)
  obtain ⟨c0, i0, k0⟩ := u_known (C := RX0) (T := TX0) (N := 2) (n := 2) hg uwX0 (hg _ isX0)
  obtain ⟨c1, i1, k1⟩ := u_known (C := RX1) (T := TX1) (N := 2) (n := 2) hg uwX1 (hg _ isX1)
  obtain ⟨c2, i2, k2⟩ := u_known (C := RX2) (T := TX2) (N := 1) (n := 1) hg uwX2 (hg _ isX2)
  obtain ⟨c3, i3, k3⟩ := u_known (C := RX3) (T := TX3) (N := 1) (n := 1) hg uwX3 (hg _ isX3)
  obtain ⟨c4, i4, k4⟩ := u_known (C := RX4) (T := TX4) (N := 9) (n := 9) hg uwX4 (hg _ isX4)
  obtain ⟨c5, i5, k5⟩ := u_known (C := RX5) (T := TX5) (N := 10) (n := 10) hg uwX5 (hg _ isX5)
  obtain ⟨c6, i6, k6⟩ := u_known (C := RX6) (T := TX6) (N := 3) (n := 3) hg uwX6 (hg _ isX6)
  obtain ⟨c7, i7, k7⟩ := u_known (C := RX7) (T := TX7) (N := 9) (n := 9) hg uwX7 (hg _ isX7)
  obtain ⟨c8, i8, k8⟩ := u_known (C := RX8) (T := TX8) (N := 6) (n := 6) hg uwX8 (hg _ isX8)
  obtain ⟨cI, kI, pI, hI1, hI2, hI3⟩ := Cond.arrayClass_spec (hg _ ac_int)
  obtain ⟨cL, kL, pL, hL1, hL2, hL3⟩ := Cond.arrayClass_spec (hg _ ac_long)
  have o0 : (Cond.arrayOver (.object RX0)).before #[Value.ref b] s = true := hw 54 _ (by decide +kernel)
  obtain ⟨p0, a0, q0, h01, h02, h03, h04, h05⟩ := Cond.arrayOver_spec o0
  have o1 : (Cond.arrayOver (.object RX1)).before #[Value.ref b] s = true := hw 50 _ (by decide +kernel)
  obtain ⟨p1, a1, q1, h11, h12, h13, h14, h15⟩ := Cond.arrayOver_spec o1
  have o3 : (Cond.arrayOver (.object RX3)).before #[Value.ref b] s = true := hw 62 _ (by decide +kernel)
  obtain ⟨p3, a3, q3, h31, h32, h33, h34, h35⟩ := Cond.arrayOver_spec o3
  have o5 : (Cond.arrayOver (.object RX5)).before #[Value.ref b] s = true := hw 52 _ (by decide +kernel)
  obtain ⟨p5, a5, q5, h51, h52, h53, h54, h55⟩ := Cond.arrayOver_spec o5
  obtain ⟨t, ht, hT⟩ := va_Tof (args := #[Value.ref b]) (tm := .static RX8 "FROM" "[I") (ty := .int) (N := 4) (f := fun j => .int (fromV j)) (A := fun q : Nat => s.heap.size ≤ q) (by decide) (hs (.arrayOf (.static RX8 "FROM" "[I") .int) (by decide +kernel)) (va_eqt (hs (.eq (.length (.static RX8 "FROM" "[I")) (.int 4)) (by decide +kernel))) (fun j hj => match j, hj with
    | 0, _ => va_eqt (hs (.eq (.elem (.static RX8 "FROM" "[I") (.int 0)) (.int 0)) (by decide +kernel))
    | 1, _ => va_eqt (hs (.eq (.elem (.static RX8 "FROM" "[I") (.int 1)) (.int 10)) (by decide +kernel))
    | 2, _ => va_eqt (hs (.eq (.elem (.static RX8 "FROM" "[I") (.int 2)) (.int 30)) (by decide +kernel))
    | 3, _ => va_eqt (hs (.eq (.elem (.static RX8 "FROM" "[I") (.int 3)) (.int 60)) (by decide +kernel))) hA
  obtain ⟨s200, -, -, -, e200, -⟩ := Cond.exactly_spec (hs (.exactly (.string "PawnRack" 200) "java/lang/String") (by decide +kernel))
  obtain ⟨s205, -, -, -, e205, -⟩ := Cond.exactly_spec (hs (.exactly (.string "PawnRack" 205) "java/lang/String") (by decide +kernel))
  obtain ⟨s193, -, -, -, e193, -⟩ := Cond.exactly_spec (hs (.exactly (.string "PawnRack" 193) "java/lang/String") (by decide +kernel))
  refine ⟨((fun k => match k with | 0 => c0 | 1 => c1 | 2 => c2 | 3 => c3 | 4 => c4 | 5 => c5 | 6 => c6 | 7 => c7 | _ => c8, fun k => match k with | 0 => i0 | 1 => i1 | 2 => i2 | 3 => i3 | 4 => i4 | 5 => i5 | 6 => i6 | 7 => i7 | _ => i8), fun k => match k with | 0 => cI | 1 => a0 | 2 => a1 | 3 => a3 | 4 => a5 | _ => cL, fun k => match k with | 0 => s.heap.size | 1 => t | 2 => s200 | 3 => s205 | _ => s193), rfl, ?_⟩
  have hAB : ∀ (H : GT), H.2.2 0 = s.heap.size → ∀ q, Aw H s.heap.size q → (fun q : Nat => s.heap.size ≤ q) q := fun H hH q z => by
    rcases z with ⟨z, -⟩ | z
    · rw [hH] at z; exact z
    · exact z
  refine ⟨⟨fun k q hq => ?_, fun k q hq => ?_⟩, ?_, ?_, (va_Zof (hw 825 _ (by decide +kernel) : (Cond.laysStatic RX8 "FROM" "[I").before #[Value.ref b] s = true) (hg _ inX8) ht hA).narrow (hAB _ rfl), hT.narrow (hAB _ rfl), (vx_Zqof (hw 333 _ (by decide +kernel) : (Cond.laysStatic "java/lang/Throwable" "UNASSIGNED_STACK" "[Ljava/lang/StackTraceElement;").before #[Value.ref b] s = true) (hg _ in_Throwable) (hs _ (by decide +kernel)) hA).narrow (hAB _ rfl), (vx_Zqof (hw 335 _ (by decide +kernel) : (Cond.laysStatic "java/lang/Throwable" "SUPPRESSED_SENTINEL" "Ljava/util/List;").before #[Value.ref b] s = true) (hg _ in_Throwable) (hs _ (by decide +kernel)) hA).narrow (hAB _ rfl), vk_R.of (hw 347 _ (by decide +kernel) : (Cond.stringRef "PawnRack" 200 "not in the range").before #[Value.ref b] s = true) e200, vk_R.of (hw 386 _ (by decide +kernel) : (Cond.stringRef "PawnRack" 205 "not possible now").before #[Value.ref b] s = true) e205, vk_R.of (hw 426 _ (by decide +kernel) : (Cond.stringRef "PawnRack" 193 "no such number").before #[Value.ref b] s = true) e193, ?_, ?_, ?_, ?_⟩
  · match k, hq with
    | 0, hq => cases hq; exact k0
    | 1, hq => cases hq; exact k1
    | 2, hq => cases hq; exact k2
    | 3, hq => cases hq; exact k3
    | 4, hq => cases hq; exact k4
    | 5, hq => cases hq; exact k5
    | 6, hq => cases hq; exact k6
    | 7, hq => cases hq; exact k7
    | 8, hq => cases hq; exact k8
    | k + 9, hq => simp [vwCl] at hq
  · match k, hq with
    | 0, hq => cases hq; exact ⟨fun n z => ⟨(fun k h => by cases h), kI, hI2, pI, hI3⟩, hI1⟩
    | 1, hq => cases hq; exact ⟨fun n z => ⟨(fun k h => by cases h), q0, h03, p0, h04⟩, q0, p0, h03, h04, h01, h05⟩
    | 2, hq => cases hq; exact ⟨fun n z => ⟨(fun k h => by cases h), q1, h13, p1, h14⟩, q1, p1, h13, h14, h11, h15⟩
    | 3, hq => cases hq; exact ⟨fun n z => ⟨(fun k h => by cases h), q3, h33, p3, h34⟩, q3, p3, h33, h34, h31, h35⟩
    | 4, hq => cases hq; exact ⟨fun n z => ⟨(fun k h => by cases h), q5, h53, p5, h54⟩, q5, p5, h53, h54, h51, h55⟩
    | 5, hq => cases hq; exact ⟨fun n z => ⟨(fun k h => by cases h), kL, hL2, pL, hL3⟩, hL1⟩
    | k + 6, hq => simp [tys] at hq
  · exact List.forall_mem_cons.mpr ⟨va_Nw.of (A := #[Value.ref b]) rfl (hw 57 _ (by decide +kernel)), List.forall_mem_cons.mpr ⟨va_Nw.of (A := #[Value.ref b]) rfl (hw 81 _ (by decide +kernel)), List.forall_mem_cons.mpr ⟨va_Nw.of (A := #[Value.ref b]) rfl (hw 96 _ (by decide +kernel)), List.forall_mem_cons.mpr ⟨va_Nw.of (A := #[Value.ref b]) rfl (hw 147 _ (by decide +kernel)), List.forall_mem_cons.mpr ⟨va_Nw.of (A := #[Value.ref b]) rfl (hw 413 _ (by decide +kernel)), List.forall_mem_cons.mpr ⟨va_Nw.of (A := #[Value.ref b]) rfl (hw 493 _ (by decide +kernel)), fun _ h => absurd h List.not_mem_nil⟩⟩⟩⟩⟩⟩
  · exact List.forall_mem_cons.mpr ⟨va_Nw.of (A := #[Value.ref b]) rfl (hw 710 _ (by decide +kernel)), List.forall_mem_cons.mpr ⟨va_Nw.of (A := #[Value.ref b]) rfl (hw 712 _ (by decide +kernel)), List.forall_mem_cons.mpr ⟨va_Nw.of (A := #[Value.ref b]) rfl (hw 714 _ (by decide +kernel)), List.forall_mem_cons.mpr ⟨va_Nw.of (A := #[Value.ref b]) rfl (hw 716 _ (by decide +kernel)), List.forall_mem_cons.mpr ⟨va_Nw.of (A := #[Value.ref b]) rfl (hw 718 _ (by decide +kernel)), List.forall_mem_cons.mpr ⟨va_Nw.of (A := #[Value.ref b]) rfl (hw 720 _ (by decide +kernel)), List.forall_mem_cons.mpr ⟨va_Nw.of (A := #[Value.ref b]) rfl (hw 722 _ (by decide +kernel)), List.forall_mem_cons.mpr ⟨va_Nw.of (A := #[Value.ref b]) rfl (hw 724 _ (by decide +kernel)), List.forall_mem_cons.mpr ⟨va_Nw.of (A := #[Value.ref b]) rfl (hw 748 _ (by decide +kernel)), List.forall_mem_cons.mpr ⟨va_Nw.of (A := #[Value.ref b]) rfl (hw 750 _ (by decide +kernel)), List.forall_mem_cons.mpr ⟨va_Nw.of (A := #[Value.ref b]) rfl (hw 824 _ (by decide +kernel)), fun _ h => absurd h List.not_mem_nil⟩⟩⟩⟩⟩⟩⟩⟩⟩⟩⟩
  · exact List.forall_mem_cons.mpr ⟨va_Nw.of (A := #[Value.ref b]) rfl (hw 308 _ (by decide +kernel)), List.forall_mem_cons.mpr ⟨va_Nw.of (A := #[Value.ref b]) rfl (hw 379 _ (by decide +kernel)), List.forall_mem_cons.mpr ⟨va_Nw.of (A := #[Value.ref b]) rfl (hw 419 _ (by decide +kernel)), fun _ h => absurd h List.not_mem_nil⟩⟩⟩
  · exact List.forall_mem_cons.mpr ⟨va_Nw.of (A := #[Value.ref b]) rfl (hw 309 _ (by decide +kernel)), List.forall_mem_cons.mpr ⟨va_Nw.of (A := #[Value.ref b]) rfl (hw 310 _ (by decide +kernel)), List.forall_mem_cons.mpr ⟨va_Nw.of (A := #[Value.ref b]) rfl (hw 311 _ (by decide +kernel)), List.forall_mem_cons.mpr ⟨va_Nw.of (A := #[Value.ref b]) rfl (hw 312 _ (by decide +kernel)), List.forall_mem_cons.mpr ⟨va_Nw.of (A := #[Value.ref b]) rfl (hw 313 _ (by decide +kernel)), List.forall_mem_cons.mpr ⟨va_Nw.of (A := #[Value.ref b]) rfl (hw 314 _ (by decide +kernel)), fun _ h => absurd h List.not_mem_nil⟩⟩⟩⟩⟩⟩
  · exact List.forall_mem_cons.mpr ⟨va_Nc.of (args := #[Value.ref b]) (hs (.not (.castable "java/lang/IllegalArgumentException" "java/lang/IllegalStateException")) (by decide +kernel)), List.forall_mem_cons.mpr ⟨va_Nc.of (args := #[Value.ref b]) (hs (.not (.castable "java/lang/IllegalArgumentException" "java/lang/IndexOutOfBoundsException")) (by decide +kernel)), List.forall_mem_cons.mpr ⟨va_Nc.of (args := #[Value.ref b]) (hs (.not (.castable "java/lang/IllegalStateException" "java/lang/IllegalArgumentException")) (by decide +kernel)), List.forall_mem_cons.mpr ⟨va_Nc.of (args := #[Value.ref b]) (hs (.not (.castable "java/lang/IllegalStateException" "java/lang/IndexOutOfBoundsException")) (by decide +kernel)), List.forall_mem_cons.mpr ⟨va_Nc.of (args := #[Value.ref b]) (hs (.not (.castable "java/lang/IndexOutOfBoundsException" "java/lang/IllegalArgumentException")) (by decide +kernel)), List.forall_mem_cons.mpr ⟨va_Nc.of (args := #[Value.ref b]) (hs (.not (.castable "java/lang/IndexOutOfBoundsException" "java/lang/IllegalStateException")) (by decide +kernel)), fun _ h => absurd h List.not_mem_nil⟩⟩⟩⟩⟩⟩
  · exact List.forall_mem_cons.mpr ⟨va_AO.of o0, List.forall_mem_cons.mpr ⟨va_AO.of o1, List.forall_mem_cons.mpr ⟨va_AO.of o3, List.forall_mem_cons.mpr ⟨va_AO.of o5, fun _ h => absurd h List.not_mem_nil⟩⟩⟩⟩
