theorem ok5 : okc 5 0 0 := ⟨by decide, by decide, by decide⟩
theorem ok11 : okc 11 0 0 := ⟨by decide, by decide, by decide⟩
theorem ok12 : okc 12 0 0 := ⟨by decide, by decide, by decide⟩
theorem ok13 : okc 13 0 0 := ⟨by decide, by decide, by decide⟩
theorem ok14 : okc 14 0 0 := ⟨by decide, by decide, by decide⟩
theorem ok21 : okc 21 0 0 := ⟨by decide, by decide, by decide⟩
theorem ok1 {s i : Nat} (hs : s < 2) (hi : i < 10) : okc 1 s i := ⟨by decide, hs, hi⟩
theorem ok2 {s i : Nat} (hs : s < 2) (hi : i < 40) : okc 2 s i := ⟨by decide, hs, hi⟩
theorem ok3 {s i : Nat} (hs : s < 2) (hi : i < 7) : okc 3 s i := ⟨by decide, hs, hi⟩
theorem ok4 {s i : Nat} (hs : s < 2) (hi : i < 3) : okc 4 s i := ⟨by decide, hs, hi⟩
theorem ok16 {s i : Nat} (hs : s < 2) (hi : i < 3) : okc 16 s i := ⟨by decide, hs, hi⟩
theorem ok0 {s : Nat} (hs : s < 2) : okc 0 s 0 := ⟨by decide, hs, Nat.zero_lt_one⟩
theorem ok6 {s : Nat} (hs : s < 2) : okc 6 s 0 := ⟨by decide, hs, Nat.zero_lt_one⟩
theorem ok7 {s : Nat} (hs : s < 2) : okc 7 s 0 := ⟨by decide, hs, Nat.zero_lt_one⟩
theorem ok8 {s : Nat} (hs : s < 2) : okc 8 s 0 := ⟨by decide, hs, Nat.zero_lt_one⟩
theorem ok9 {s : Nat} (hs : s < 2) : okc 9 s 0 := ⟨by decide, hs, Nat.zero_lt_one⟩
theorem ok10 {s : Nat} (hs : s < 2) : okc 10 s 0 := ⟨by decide, hs, Nat.zero_lt_one⟩
theorem ok15 {s : Nat} (hs : s < 2) : okc 15 s 0 := ⟨by decide, hs, Nat.zero_lt_one⟩
theorem ok17 {s : Nat} (hs : s < 2) : okc 17 s 0 := ⟨by decide, hs, Nat.zero_lt_one⟩
theorem ok18 {s : Nat} (hs : s < 2) : okc 18 s 0 := ⟨by decide, hs, Nat.zero_lt_one⟩
theorem ok19 {s : Nat} (hs : s < 2) : okc 19 s 0 := ⟨by decide, hs, Nat.zero_lt_one⟩
theorem ok20 {s : Nat} (hs : s < 2) : okc 20 s 0 := ⟨by decide, hs, Nat.zero_lt_one⟩
section ZP
variable {X : PX} {G : GT} {T : Nat × Nat} {cc : ByteArray} {nL : Nat} {own : String} {rt : Option FieldType} {d mc ms : Nat} {Q : State → Prop} {pc : Nat} {lv r : List (Option Value)} {st : List Value} {M : Mem} {cells slots : Nat}
variable {idx ci kf N k s i n j t0 : Nat} {C : String} {Tf : u_T} {fs : List Value}
variable {y : MethodName} {cy : ByteArray} {nLy dy : Nat} {rty : Option FieldType} {av : GT → List Value} {As st0 : List Value}
theorem z_ivp (E : EF X G cc nL own rt d mc ms) {v : Int32} (hM : CI y cy nLy rty dy 0 0 av M (fun r M' => r = v ∧ M' = M)) (hav : av G = .ref (ad G k s i) :: As) (hst : st0 = As.reverse ++ .ref (ad G k s i) :: st) (hy : Cal y C cy nLy rty n) (hm : Cond.methodLink own idx y ∈ GW) (hd : decode cc pc = .ok (.invokevirtual idx, 3)) (ho : okc k s i) (hc : conV G k s i (M k s i) = .inr (ci, fs)) (hcl : vwCl[ci]? = some (C, Tf, N)) (hn : As.length = n) (hcat : (st.map fun v => v.category).sum ≤ 8) (hlv : lv.length = nL) (hdd : dy + 1 ≤ d) (hnl : nLy ≤ 11) (hcm : cells ≤ mc ∧ slots ≤ ms) (kk : Z X G T Q (pc + 3) lv (.int v :: st) M cells slots) : Z X G T Q pc lv st0 M cells slots :=
  z_iv E hM hav hst hy hm hd ho hc hcl hn hcat hlv hdd hnl hcm (fun r M' h => Or.inr (by rw [h.2])) (fun r M' h => by obtain ⟨h1, h2⟩ := h; subst h1; subst h2; exact kk)
theorem z_ivf {M1 : Mem} (E : EF X G cc nL own rt d mc ms) {v : Int32} (hM : CI y cy nLy rty dy 0 0 av M (fun r M' => r = v ∧ M' = M1)) (hav : av G = .ref (ad G k s i) :: As) (hst : st0 = As.reverse ++ .ref (ad G k s i) :: st) (hy : Cal y C cy nLy rty n) (hm : Cond.methodLink own idx y ∈ GW) (hd : decode cc pc = .ok (.invokevirtual idx, 3)) (ho : okc k s i) (hc : conV G k s i (M k s i) = .inr (ci, fs)) (hcl : vwCl[ci]? = some (C, Tf, N)) (hn : As.length = n) (hcat : (st.map fun v => v.category).sum ≤ 8) (hlv : lv.length = nL) (hdd : dy + 1 ≤ d) (hnl : nLy ≤ 11) (hcm : cells ≤ mc ∧ slots ≤ ms) (kk : Z X G (0, 0) Q (pc + 3) lv (.int v :: st) M1 cells slots) : Z X G (0, 0) Q pc lv st0 M cells slots :=
  z_iv E hM hav hst hy hm hd ho hc hcl hn hcat hlv hdd hnl hcm (fun r M' h => Or.inl rfl) (fun r M' h => by obtain ⟨h1, h2⟩ := h; subst h1; subst h2; exact kk)
theorem z_isp (E : EF X G cc nL own rt d mc ms) {v : Int32} (hM : CI y cy nLy rty dy 0 0 av M (fun r M' => r = v ∧ M' = M)) (hav : av G = As) (hst : st0 = As.reverse ++ st) (hy : CalS y C cy nLy rty n) (hm : Cond.methodLink own idx y ∈ GW) (hd : decode cc pc = .ok (.invokestatic idx, 3)) (hn : As.length = n) (hcat : (st.map fun v => v.category).sum ≤ 8) (hlv : lv.length = nL) (hdd : dy + 1 ≤ d) (hnl : nLy ≤ 11) (hcm : cells ≤ mc ∧ slots ≤ ms) (kk : Z X G T Q (pc + 3) lv (.int v :: st) M cells slots) : Z X G T Q pc lv st0 M cells slots :=
  z_is E hM hav hst hy hm hd hn hcat hlv hdd hnl hcm (fun r M' h => Or.inr (by rw [h.2])) (fun r M' h => by obtain ⟨h1, h2⟩ := h; subst h1; subst h2; exact kk)
theorem z_isf {M1 : Mem} (E : EF X G cc nL own rt d mc ms) {v : Int32} (hM : CI y cy nLy rty dy 0 0 av M (fun r M' => r = v ∧ M' = M1)) (hav : av G = As) (hst : st0 = As.reverse ++ st) (hy : CalS y C cy nLy rty n) (hm : Cond.methodLink own idx y ∈ GW) (hd : decode cc pc = .ok (.invokestatic idx, 3)) (hn : As.length = n) (hcat : (st.map fun v => v.category).sum ≤ 8) (hlv : lv.length = nL) (hdd : dy + 1 ≤ d) (hnl : nLy ≤ 11) (hcm : cells ≤ mc ∧ slots ≤ ms) (kk : Z X G (0, 0) Q (pc + 3) lv (.int v :: st) M1 cells slots) : Z X G (0, 0) Q pc lv st0 M cells slots :=
  z_is E hM hav hst hy hm hd hn hcat hlv hdd hnl hcm (fun r M' h => Or.inl rfl) (fun r M' h => by obtain ⟨h1, h2⟩ := h; subst h1; subst h2; exact kk)
theorem z_isNp (E : EF X G cc nL own rt d mc ms) {v : Int32} (hM : CI y cy nLy rty dy 0 0 av M (fun r M' => r = v ∧ M' = M)) {host : String} (hav : av G = As) (hst : st0 = As.reverse ++ st) (hy : CalS y C cy nLy rty n) (hm : (own, idx, y, host) ∈ NWm) (hd : decode cc pc = .ok (.invokestatic idx, 3)) (hn : As.length = n) (hcat : (st.map fun v => v.category).sum ≤ 8) (hlv : lv.length = nL) (hdd : dy + 1 ≤ d) (hnl : nLy ≤ 11) (hcm : cells ≤ mc ∧ slots ≤ ms) (kk : Z X G T Q (pc + 3) lv (.int v :: st) M cells slots) : Z X G T Q pc lv st0 M cells slots :=
  z_isN E hM hav hst hy hm hd hn hcat hlv hdd hnl hcm (fun r M' h => Or.inr (by rw [h.2])) (fun r M' h => by obtain ⟨h1, h2⟩ := h; subst h1; subst h2; exact kk)
theorem z_isNf {M1 : Mem} (E : EF X G cc nL own rt d mc ms) {v : Int32} (hM : CI y cy nLy rty dy 0 0 av M (fun r M' => r = v ∧ M' = M1)) {host : String} (hav : av G = As) (hst : st0 = As.reverse ++ st) (hy : CalS y C cy nLy rty n) (hm : (own, idx, y, host) ∈ NWm) (hd : decode cc pc = .ok (.invokestatic idx, 3)) (hn : As.length = n) (hcat : (st.map fun v => v.category).sum ≤ 8) (hlv : lv.length = nL) (hdd : dy + 1 ≤ d) (hnl : nLy ≤ 11) (hcm : cells ≤ mc ∧ slots ≤ ms) (kk : Z X G (0, 0) Q (pc + 3) lv (.int v :: st) M1 cells slots) : Z X G (0, 0) Q pc lv st0 M cells slots :=
  z_isN E hM hav hst hy hm hd hn hcat hlv hdd hnl hcm (fun r M' h => Or.inl rfl) (fun r M' h => by obtain ⟨h1, h2⟩ := h; subst h1; subst h2; exact kk)
theorem z_lvp (E : EF X G cc nL own rt d mc ms) {v : Int64} (hM : CL y cy nLy rty dy 0 0 av M (fun r M' => r = v ∧ M' = M)) (hav : av G = .ref (ad G k s i) :: As) (hst : st0 = As.reverse ++ .ref (ad G k s i) :: st) (hy : Cal y C cy nLy rty n) (hm : Cond.methodLink own idx y ∈ GW) (hd : decode cc pc = .ok (.invokevirtual idx, 3)) (ho : okc k s i) (hc : conV G k s i (M k s i) = .inr (ci, fs)) (hcl : vwCl[ci]? = some (C, Tf, N)) (hn : As.length = n) (hcat : (st.map fun v => v.category).sum ≤ 8) (hlv : lv.length = nL) (hdd : dy + 1 ≤ d) (hnl : nLy ≤ 11) (hcm : cells ≤ mc ∧ slots ≤ ms) (kk : Z X G T Q (pc + 3) lv (.long v :: st) M cells slots) : Z X G T Q pc lv st0 M cells slots :=
  z_lv E hM hav hst hy hm hd ho hc hcl hn hcat hlv hdd hnl hcm (fun r M' h => Or.inr (by rw [h.2])) (fun r M' h => by obtain ⟨h1, h2⟩ := h; subst h1; subst h2; exact kk)
theorem z_lvf {M1 : Mem} (E : EF X G cc nL own rt d mc ms) {v : Int64} (hM : CL y cy nLy rty dy 0 0 av M (fun r M' => r = v ∧ M' = M1)) (hav : av G = .ref (ad G k s i) :: As) (hst : st0 = As.reverse ++ .ref (ad G k s i) :: st) (hy : Cal y C cy nLy rty n) (hm : Cond.methodLink own idx y ∈ GW) (hd : decode cc pc = .ok (.invokevirtual idx, 3)) (ho : okc k s i) (hc : conV G k s i (M k s i) = .inr (ci, fs)) (hcl : vwCl[ci]? = some (C, Tf, N)) (hn : As.length = n) (hcat : (st.map fun v => v.category).sum ≤ 8) (hlv : lv.length = nL) (hdd : dy + 1 ≤ d) (hnl : nLy ≤ 11) (hcm : cells ≤ mc ∧ slots ≤ ms) (kk : Z X G (0, 0) Q (pc + 3) lv (.long v :: st) M1 cells slots) : Z X G (0, 0) Q pc lv st0 M cells slots :=
  z_lv E hM hav hst hy hm hd ho hc hcl hn hcat hlv hdd hnl hcm (fun r M' h => Or.inl rfl) (fun r M' h => by obtain ⟨h1, h2⟩ := h; subst h1; subst h2; exact kk)
theorem z_lsp (E : EF X G cc nL own rt d mc ms) {v : Int64} (hM : CL y cy nLy rty dy 0 0 av M (fun r M' => r = v ∧ M' = M)) (hav : av G = As) (hst : st0 = As.reverse ++ st) (hy : CalS y C cy nLy rty n) (hm : Cond.methodLink own idx y ∈ GW) (hd : decode cc pc = .ok (.invokestatic idx, 3)) (hn : As.length = n) (hcat : (st.map fun v => v.category).sum ≤ 8) (hlv : lv.length = nL) (hdd : dy + 1 ≤ d) (hnl : nLy ≤ 11) (hcm : cells ≤ mc ∧ slots ≤ ms) (kk : Z X G T Q (pc + 3) lv (.long v :: st) M cells slots) : Z X G T Q pc lv st0 M cells slots :=
  z_ls E hM hav hst hy hm hd hn hcat hlv hdd hnl hcm (fun r M' h => Or.inr (by rw [h.2])) (fun r M' h => by obtain ⟨h1, h2⟩ := h; subst h1; subst h2; exact kk)
theorem z_lsf {M1 : Mem} (E : EF X G cc nL own rt d mc ms) {v : Int64} (hM : CL y cy nLy rty dy 0 0 av M (fun r M' => r = v ∧ M' = M1)) (hav : av G = As) (hst : st0 = As.reverse ++ st) (hy : CalS y C cy nLy rty n) (hm : Cond.methodLink own idx y ∈ GW) (hd : decode cc pc = .ok (.invokestatic idx, 3)) (hn : As.length = n) (hcat : (st.map fun v => v.category).sum ≤ 8) (hlv : lv.length = nL) (hdd : dy + 1 ≤ d) (hnl : nLy ≤ 11) (hcm : cells ≤ mc ∧ slots ≤ ms) (kk : Z X G (0, 0) Q (pc + 3) lv (.long v :: st) M1 cells slots) : Z X G (0, 0) Q pc lv st0 M cells slots :=
  z_ls E hM hav hst hy hm hd hn hcat hlv hdd hnl hcm (fun r M' h => Or.inl rfl) (fun r M' h => by obtain ⟨h1, h2⟩ := h; subst h1; subst h2; exact kk)
theorem z_lsNp (E : EF X G cc nL own rt d mc ms) {v : Int64} (hM : CL y cy nLy rty dy 0 0 av M (fun r M' => r = v ∧ M' = M)) {host : String} (hav : av G = As) (hst : st0 = As.reverse ++ st) (hy : CalS y C cy nLy rty n) (hm : (own, idx, y, host) ∈ NWm) (hd : decode cc pc = .ok (.invokestatic idx, 3)) (hn : As.length = n) (hcat : (st.map fun v => v.category).sum ≤ 8) (hlv : lv.length = nL) (hdd : dy + 1 ≤ d) (hnl : nLy ≤ 11) (hcm : cells ≤ mc ∧ slots ≤ ms) (kk : Z X G T Q (pc + 3) lv (.long v :: st) M cells slots) : Z X G T Q pc lv st0 M cells slots :=
  z_lsN E hM hav hst hy hm hd hn hcat hlv hdd hnl hcm (fun r M' h => Or.inr (by rw [h.2])) (fun r M' h => by obtain ⟨h1, h2⟩ := h; subst h1; subst h2; exact kk)
theorem z_lsNf {M1 : Mem} (E : EF X G cc nL own rt d mc ms) {v : Int64} (hM : CL y cy nLy rty dy 0 0 av M (fun r M' => r = v ∧ M' = M1)) {host : String} (hav : av G = As) (hst : st0 = As.reverse ++ st) (hy : CalS y C cy nLy rty n) (hm : (own, idx, y, host) ∈ NWm) (hd : decode cc pc = .ok (.invokestatic idx, 3)) (hn : As.length = n) (hcat : (st.map fun v => v.category).sum ≤ 8) (hlv : lv.length = nL) (hdd : dy + 1 ≤ d) (hnl : nLy ≤ 11) (hcm : cells ≤ mc ∧ slots ≤ ms) (kk : Z X G (0, 0) Q (pc + 3) lv (.long v :: st) M1 cells slots) : Z X G (0, 0) Q pc lv st0 M cells slots :=
  z_lsN E hM hav hst hy hm hd hn hcat hlv hdd hnl hcm (fun r M' h => Or.inl rfl) (fun r M' h => by obtain ⟨h1, h2⟩ := h; subst h1; subst h2; exact kk)
theorem z_dvp (E : EF X G cc nL own rt d mc ms) {v : UInt64} (hM : CD y cy nLy rty dy 0 0 av M (fun r M' => r = v ∧ M' = M)) (hav : av G = .ref (ad G k s i) :: As) (hst : st0 = As.reverse ++ .ref (ad G k s i) :: st) (hy : Cal y C cy nLy rty n) (hm : Cond.methodLink own idx y ∈ GW) (hd : decode cc pc = .ok (.invokevirtual idx, 3)) (ho : okc k s i) (hc : conV G k s i (M k s i) = .inr (ci, fs)) (hcl : vwCl[ci]? = some (C, Tf, N)) (hn : As.length = n) (hcat : (st.map fun v => v.category).sum ≤ 8) (hlv : lv.length = nL) (hdd : dy + 1 ≤ d) (hnl : nLy ≤ 11) (hcm : cells ≤ mc ∧ slots ≤ ms) (kk : Z X G T Q (pc + 3) lv (.double v :: st) M cells slots) : Z X G T Q pc lv st0 M cells slots :=
  z_dv E hM hav hst hy hm hd ho hc hcl hn hcat hlv hdd hnl hcm (fun r M' h => Or.inr (by rw [h.2])) (fun r M' h => by obtain ⟨h1, h2⟩ := h; subst h1; subst h2; exact kk)
theorem z_dvf {M1 : Mem} (E : EF X G cc nL own rt d mc ms) {v : UInt64} (hM : CD y cy nLy rty dy 0 0 av M (fun r M' => r = v ∧ M' = M1)) (hav : av G = .ref (ad G k s i) :: As) (hst : st0 = As.reverse ++ .ref (ad G k s i) :: st) (hy : Cal y C cy nLy rty n) (hm : Cond.methodLink own idx y ∈ GW) (hd : decode cc pc = .ok (.invokevirtual idx, 3)) (ho : okc k s i) (hc : conV G k s i (M k s i) = .inr (ci, fs)) (hcl : vwCl[ci]? = some (C, Tf, N)) (hn : As.length = n) (hcat : (st.map fun v => v.category).sum ≤ 8) (hlv : lv.length = nL) (hdd : dy + 1 ≤ d) (hnl : nLy ≤ 11) (hcm : cells ≤ mc ∧ slots ≤ ms) (kk : Z X G (0, 0) Q (pc + 3) lv (.double v :: st) M1 cells slots) : Z X G (0, 0) Q pc lv st0 M cells slots :=
  z_dv E hM hav hst hy hm hd ho hc hcl hn hcat hlv hdd hnl hcm (fun r M' h => Or.inl rfl) (fun r M' h => by obtain ⟨h1, h2⟩ := h; subst h1; subst h2; exact kk)
theorem z_dsp (E : EF X G cc nL own rt d mc ms) {v : UInt64} (hM : CD y cy nLy rty dy 0 0 av M (fun r M' => r = v ∧ M' = M)) (hav : av G = As) (hst : st0 = As.reverse ++ st) (hy : CalS y C cy nLy rty n) (hm : Cond.methodLink own idx y ∈ GW) (hd : decode cc pc = .ok (.invokestatic idx, 3)) (hn : As.length = n) (hcat : (st.map fun v => v.category).sum ≤ 8) (hlv : lv.length = nL) (hdd : dy + 1 ≤ d) (hnl : nLy ≤ 11) (hcm : cells ≤ mc ∧ slots ≤ ms) (kk : Z X G T Q (pc + 3) lv (.double v :: st) M cells slots) : Z X G T Q pc lv st0 M cells slots :=
  z_ds E hM hav hst hy hm hd hn hcat hlv hdd hnl hcm (fun r M' h => Or.inr (by rw [h.2])) (fun r M' h => by obtain ⟨h1, h2⟩ := h; subst h1; subst h2; exact kk)
theorem z_dsf {M1 : Mem} (E : EF X G cc nL own rt d mc ms) {v : UInt64} (hM : CD y cy nLy rty dy 0 0 av M (fun r M' => r = v ∧ M' = M1)) (hav : av G = As) (hst : st0 = As.reverse ++ st) (hy : CalS y C cy nLy rty n) (hm : Cond.methodLink own idx y ∈ GW) (hd : decode cc pc = .ok (.invokestatic idx, 3)) (hn : As.length = n) (hcat : (st.map fun v => v.category).sum ≤ 8) (hlv : lv.length = nL) (hdd : dy + 1 ≤ d) (hnl : nLy ≤ 11) (hcm : cells ≤ mc ∧ slots ≤ ms) (kk : Z X G (0, 0) Q (pc + 3) lv (.double v :: st) M1 cells slots) : Z X G (0, 0) Q pc lv st0 M cells slots :=
  z_ds E hM hav hst hy hm hd hn hcat hlv hdd hnl hcm (fun r M' h => Or.inl rfl) (fun r M' h => by obtain ⟨h1, h2⟩ := h; subst h1; subst h2; exact kk)
theorem z_dsNp (E : EF X G cc nL own rt d mc ms) {v : UInt64} (hM : CD y cy nLy rty dy 0 0 av M (fun r M' => r = v ∧ M' = M)) {host : String} (hav : av G = As) (hst : st0 = As.reverse ++ st) (hy : CalS y C cy nLy rty n) (hm : (own, idx, y, host) ∈ NWm) (hd : decode cc pc = .ok (.invokestatic idx, 3)) (hn : As.length = n) (hcat : (st.map fun v => v.category).sum ≤ 8) (hlv : lv.length = nL) (hdd : dy + 1 ≤ d) (hnl : nLy ≤ 11) (hcm : cells ≤ mc ∧ slots ≤ ms) (kk : Z X G T Q (pc + 3) lv (.double v :: st) M cells slots) : Z X G T Q pc lv st0 M cells slots :=
  z_dsN E hM hav hst hy hm hd hn hcat hlv hdd hnl hcm (fun r M' h => Or.inr (by rw [h.2])) (fun r M' h => by obtain ⟨h1, h2⟩ := h; subst h1; subst h2; exact kk)
theorem z_dsNf {M1 : Mem} (E : EF X G cc nL own rt d mc ms) {v : UInt64} (hM : CD y cy nLy rty dy 0 0 av M (fun r M' => r = v ∧ M' = M1)) {host : String} (hav : av G = As) (hst : st0 = As.reverse ++ st) (hy : CalS y C cy nLy rty n) (hm : (own, idx, y, host) ∈ NWm) (hd : decode cc pc = .ok (.invokestatic idx, 3)) (hn : As.length = n) (hcat : (st.map fun v => v.category).sum ≤ 8) (hlv : lv.length = nL) (hdd : dy + 1 ≤ d) (hnl : nLy ≤ 11) (hcm : cells ≤ mc ∧ slots ≤ ms) (kk : Z X G (0, 0) Q (pc + 3) lv (.double v :: st) M1 cells slots) : Z X G (0, 0) Q pc lv st0 M cells slots :=
  z_dsN E hM hav hst hy hm hd hn hcat hlv hdd hnl hcm (fun r M' h => Or.inl rfl) (fun r M' h => by obtain ⟨h1, h2⟩ := h; subst h1; subst h2; exact kk)
theorem z_vvp (E : EF X G cc nL own rt d mc ms) (hM : CV y cy nLy rty dy 0 0 av M (fun M' => M' = M)) (hav : av G = .ref (ad G k s i) :: As) (hst : st0 = As.reverse ++ .ref (ad G k s i) :: st) (hy : Cal y C cy nLy rty n) (hm : Cond.methodLink own idx y ∈ GW) (hd : decode cc pc = .ok (.invokevirtual idx, 3)) (ho : okc k s i) (hc : conV G k s i (M k s i) = .inr (ci, fs)) (hcl : vwCl[ci]? = some (C, Tf, N)) (hn : As.length = n) (hcat : (st.map fun v => v.category).sum ≤ 8) (hlv : lv.length = nL) (hdd : dy + 1 ≤ d) (hnl : nLy ≤ 11) (hcm : cells ≤ mc ∧ slots ≤ ms) (kk : Z X G T Q (pc + 3) lv ( st) M cells slots) : Z X G T Q pc lv st0 M cells slots :=
  z_vv E hM hav hst hy hm hd ho hc hcl hn hcat hlv hdd hnl hcm (fun M' h => Or.inr (by rw [h])) (fun M' h => by subst h; exact kk)
theorem z_vvf {M1 : Mem} (E : EF X G cc nL own rt d mc ms) (hM : CV y cy nLy rty dy 0 0 av M (fun M' => M' = M1)) (hav : av G = .ref (ad G k s i) :: As) (hst : st0 = As.reverse ++ .ref (ad G k s i) :: st) (hy : Cal y C cy nLy rty n) (hm : Cond.methodLink own idx y ∈ GW) (hd : decode cc pc = .ok (.invokevirtual idx, 3)) (ho : okc k s i) (hc : conV G k s i (M k s i) = .inr (ci, fs)) (hcl : vwCl[ci]? = some (C, Tf, N)) (hn : As.length = n) (hcat : (st.map fun v => v.category).sum ≤ 8) (hlv : lv.length = nL) (hdd : dy + 1 ≤ d) (hnl : nLy ≤ 11) (hcm : cells ≤ mc ∧ slots ≤ ms) (kk : Z X G (0, 0) Q (pc + 3) lv ( st) M1 cells slots) : Z X G (0, 0) Q pc lv st0 M cells slots :=
  z_vv E hM hav hst hy hm hd ho hc hcl hn hcat hlv hdd hnl hcm (fun M' h => Or.inl rfl) (fun M' h => by subst h; exact kk)
theorem z_vsp (E : EF X G cc nL own rt d mc ms) (hM : CV y cy nLy rty dy 0 0 av M (fun M' => M' = M)) (hav : av G = As) (hst : st0 = As.reverse ++ st) (hy : CalS y C cy nLy rty n) (hm : Cond.methodLink own idx y ∈ GW) (hd : decode cc pc = .ok (.invokestatic idx, 3)) (hn : As.length = n) (hcat : (st.map fun v => v.category).sum ≤ 8) (hlv : lv.length = nL) (hdd : dy + 1 ≤ d) (hnl : nLy ≤ 11) (hcm : cells ≤ mc ∧ slots ≤ ms) (kk : Z X G T Q (pc + 3) lv ( st) M cells slots) : Z X G T Q pc lv st0 M cells slots :=
  z_vs E hM hav hst hy hm hd hn hcat hlv hdd hnl hcm (fun M' h => Or.inr (by rw [h])) (fun M' h => by subst h; exact kk)
theorem z_vsf {M1 : Mem} (E : EF X G cc nL own rt d mc ms) (hM : CV y cy nLy rty dy 0 0 av M (fun M' => M' = M1)) (hav : av G = As) (hst : st0 = As.reverse ++ st) (hy : CalS y C cy nLy rty n) (hm : Cond.methodLink own idx y ∈ GW) (hd : decode cc pc = .ok (.invokestatic idx, 3)) (hn : As.length = n) (hcat : (st.map fun v => v.category).sum ≤ 8) (hlv : lv.length = nL) (hdd : dy + 1 ≤ d) (hnl : nLy ≤ 11) (hcm : cells ≤ mc ∧ slots ≤ ms) (kk : Z X G (0, 0) Q (pc + 3) lv ( st) M1 cells slots) : Z X G (0, 0) Q pc lv st0 M cells slots :=
  z_vs E hM hav hst hy hm hd hn hcat hlv hdd hnl hcm (fun M' h => Or.inl rfl) (fun M' h => by subst h; exact kk)
theorem z_vsNp (E : EF X G cc nL own rt d mc ms) (hM : CV y cy nLy rty dy 0 0 av M (fun M' => M' = M)) {host : String} (hav : av G = As) (hst : st0 = As.reverse ++ st) (hy : CalS y C cy nLy rty n) (hm : (own, idx, y, host) ∈ NWm) (hd : decode cc pc = .ok (.invokestatic idx, 3)) (hn : As.length = n) (hcat : (st.map fun v => v.category).sum ≤ 8) (hlv : lv.length = nL) (hdd : dy + 1 ≤ d) (hnl : nLy ≤ 11) (hcm : cells ≤ mc ∧ slots ≤ ms) (kk : Z X G T Q (pc + 3) lv ( st) M cells slots) : Z X G T Q pc lv st0 M cells slots :=
  z_vsN E hM hav hst hy hm hd hn hcat hlv hdd hnl hcm (fun M' h => Or.inr (by rw [h])) (fun M' h => by subst h; exact kk)
theorem z_vsNf {M1 : Mem} (E : EF X G cc nL own rt d mc ms) (hM : CV y cy nLy rty dy 0 0 av M (fun M' => M' = M1)) {host : String} (hav : av G = As) (hst : st0 = As.reverse ++ st) (hy : CalS y C cy nLy rty n) (hm : (own, idx, y, host) ∈ NWm) (hd : decode cc pc = .ok (.invokestatic idx, 3)) (hn : As.length = n) (hcat : (st.map fun v => v.category).sum ≤ 8) (hlv : lv.length = nL) (hdd : dy + 1 ≤ d) (hnl : nLy ≤ 11) (hcm : cells ≤ mc ∧ slots ≤ ms) (kk : Z X G (0, 0) Q (pc + 3) lv ( st) M1 cells slots) : Z X G (0, 0) Q pc lv st0 M cells slots :=
  z_vsN E hM hav hst hy hm hd hn hcat hlv hdd hnl hcm (fun M' h => Or.inl rfl) (fun M' h => by subst h; exact kk)
end ZP
/-! numbers -/
def b2 (p : Prop) [Decidable p] : Int32 := if p then 1 else 0
theorem b2_t {p : Prop} [Decidable p] (h : p) : b2 p = 1 := if_pos h
theorem b2_f {p : Prop} [Decidable p] (h : ¬ p) : b2 p = 0 := if_neg h
theorem b2_01 (p : Prop) [Decidable p] : b2 p = 0 ∨ b2 p = 1 := by
  unfold b2
  split
  · exact Or.inr rfl
  · exact Or.inl rfl
theorem b2_0 {p : Prop} [Decidable p] : b2 p = 0 ↔ ¬ p := by
  unfold b2
  split <;> simp_all
theorem b2_n0 {p : Prop} [Decidable p] (h : ¬ b2 p = 0) : p := by
  apply Decidable.byContradiction
  intro q
  exact h (b2_f q)
theorem b2_e0 {p : Prop} [Decidable p] (h : b2 p = 0) : ¬ p := b2_0.mp h
/-- sums over the first n -/
def fsum : Nat → (Nat → Int32) → Int32
  | 0, _ => 0
  | n + 1, f => fsum n f + f n
theorem fsum_congr {f g : Nat → Int32} : ∀ {n : Nat}, (∀ t, t < n → f t = g t) → fsum n f = fsum n g
  | 0, _ => rfl
  | n + 1, h => by
    show fsum n f + f n = fsum n g + g n
    rw [fsum_congr (fun t ht => h t (Nat.lt_succ_of_lt ht)), h n (Nat.lt_succ_self n)]
/-- a counter against a bound -/
theorem ct_ge {a : Int32} {t n : Nat} (ha : a = nI n) (h : n ≤ t) (ht : t ≤ 1000) : a ≤ nI t := by rw [ha]; exact nI_le h (n31 ht)
theorem ct_lt {a : Int32} {t n : Nat} (ha : a = nI n) (h : t < n) (hn : n ≤ 1000) : ¬ a ≤ nI t := by rw [ha]; exact nI_ge h (n31 hn)
theorem i32_le_of_not_lt {a b : Int32} (h : ¬ a < b) : b ≤ a := Int32.not_lt.mp h
theorem i32_lt_of_not_le {a b : Int32} (h : ¬ a ≤ b) : b < a := Int32.not_le.mp h
/-- an index that a test has let through -/
theorem ix_of {x : Int32} {n : Nat} (h : 0 ≤ x ∧ x ≤ nI n - 1) (hn : n ≤ 1000) : ∃ j : Nat, j < n ∧ x = nI j := by
  obtain ⟨h1, h2⟩ := h
  have hx := Int32.le_iff_toInt_le.mp h1
  have hy := Int32.le_iff_toInt_le.mp h2
  have e0 : (0 : Int32).toInt = 0 := rfl
  have e1 : (nI n - 1).toInt = (n : Int) - 1 := by
    have h := pk_sub_toInt (a := n) (b := 1) (by omega) (by omega)
    have e : (1 : Int32) = nI 1 := rfl
    rw [e, h]
    rfl
  rw [e0] at hx
  rw [e1] at hy
  refine ⟨x.toInt.toNat, by omega, ?_⟩
  have h3 : x.toInt = (nI x.toInt.toNat).toInt := by rw [nI_toInt (by omega)]; omega
  exact Int32.toInt_inj.mp h3
