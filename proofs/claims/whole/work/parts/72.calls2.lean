/-! the law's calls, one by one -/
def LK (X : PX) (G : GT) (Q : State → Prop) (b c : Nat) : Prop := ∀ (M : Mem) (n cN d : Nat), Inv2 M M n cN d (c + 1) → Z X G (0, 0) Q 1272 [some (.ref b), some (.ref (ad G 14 0 0)), some (.ref (ad G 11 0 0)), some (.ref (ad G 21 0 0)), some (.int (nI (5 * c))), none, none, none, none] [] M (154 + 20 * (c + 1)) (2256 + 700 * (c + 1))
theorem inv_how {A B : Mem} {n cN d c : Nat} (h : Inv2 A B n cN d c) : ∀ t, t < n → ∃ i, i < cN ∧ A 2 0 t 0 = nI i := fun t ht => by
  obtain ⟨i, hi, e⟩ := h.2.1.1 t ht
  exact ⟨i, hi, (h.1.2.2.2.2.2.2.2.1 t ht).1.trans e⟩
theorem inv_how10 {A B : Mem} {n cN d c : Nat} (h : Inv2 A B n cN d c) : ∀ t, t < n → ∃ i, i < 10 ∧ oc B 0 t 0 = nI i := fun t ht => by
  obtain ⟨i, hi, e⟩ := h.2.1.1 t ht
  have h10 := h.2.2.2.2.2.2.1
  exact ⟨i, by omega, e⟩
theorem inv_p {A B : Mem} {n cN d c : Nat} (h : Inv2 A B n cN d c) : ∀ t, t < n → oc B 0 t 6 = 2 → ∃ p, p ≤ 500 ∧ oc B 0 t 8 = nI p := fun t ht hs => by
  obtain ⟨p, -, p2, p3⟩ := h.2.1.2.2.2.2.1 t ht hs
  exact ⟨p, p2, p3⟩

set_option maxRecDepth 100000 in
set_option maxHeartbeats 4000000 in
theorem l_come {X : PX} {G : GT} {Q : State → Prop} {b L c : Nat} {xs : Nat → Int32} {v5 v6 v7 v8 : Option Value} (E : EF X G cL_law 9 RL ret 11 601024 7293034) (hl0 : (xL X).stackTraces = false) (hX : va_X b L xs (xS X) (xS X).heap) (hbl : b < (xS X).heap.size) (hG : G.2.2 0 = (xS X).heap.size) (hL : L ≤ 2560) (hc5 : 5 * c + 5 ≤ L) {M : Mem} {n cN d : Nat} (hI : Inv2 M M n cN d c) (hK : LK X G Q b c) : Z X G (0, 0) Q 132 [some (.ref b), some (.ref (ad G 14 0 0)), some (.ref (ad G 11 0 0)), some (.ref (ad G 21 0 0)), some (.int (nI (5 * c))), v5, v6, v7, v8] [] M (154 + 20 * c) (2256 + 700 * c) := by
  have h40 := hI.2.2.2.2.2.1
  have h10 := hI.2.2.2.2.2.2.1
  have hn0 := hI.1.2.2.2.2.1
  have hc0 := hI.1.2.2.2.1
  have hd0 := hI.2.2.2.2.2.2.2.2.2.1
  have hdc := hI.2.2.2.2.2.2.2.2.2.2
  have hd30 : d < 2 ^ 30 := by omega
  have how0 := inv_how hI
  refine z_aload_1 (pc := 132) E dL_law_132 ?_
  refine z_aload_0 (pc := 133) E dL_law_133 ?_
  refine z_iload_4 (pc := 134) E dL_law_134 ?_
  refine z_iconst (v := 1) (pc := 136) E dL_law_136 (by decide) ?_
  refine z_iadd (pc := 137) E dL_law_137 ?_
  refine z_sld (j := 5 * c + 1) (pc := 138) E hX hbl hG dL_law_138 (nI_add (5 * c) 1) (by omega) hL ?_
  refine z_aload_3 (pc := 139) E dL_law_139 ?_
  refine z_wc (pc := 140) E hl0 (w_come M cN (xs (5 * c + 1)) hc0 h10) rfl rfl kL_come mlL_74 dL_law_140 rfl (Nat.le_of_ble_eq_true rfl) rfl (by decide) (by decide) ⟨by omega, by omega⟩ (fun k9 M1 h1 => ?_)
  have hJ := inv2_k hI (EqA.refl M) (eb_come (M := M) (M1 := M1) (k9 := k9) (cN := cN) (x := (xs (5 * c + 1))) (n := n) h1)
  have hn6 := hJ.1.2.2.2.2.2.1
  have hc6 := hJ.2.2.2.2.2.2.2.1
  have hd6 := hJ.1.1.symm.trans hd0
  have how6 := hJ.2.1.1
  have how10 := inv_how10 hJ
  have hf7 := fun t ht => rw_7 (t := t) hJ.2.2.2.2.1 ht
  have hp5 := inv_p hJ
  refine z_istore_5 (pc := 143) E dL_law_143 rfl ?_
  refine z_aload_2 (pc := 145) E dL_law_145 ?_
  refine z_aload_0 (pc := 146) E dL_law_146 ?_
  refine z_iload_4 (pc := 147) E dL_law_147 ?_
  refine z_iconst (v := 1) (pc := 149) E dL_law_149 (by decide) ?_
  refine z_iadd (pc := 150) E dL_law_150 ?_
  refine z_sld (j := 5 * c + 1) (pc := 151) E hX hbl hG dL_law_151 (nI_add (5 * c) 1) (by omega) hL ?_
  refine z_iv (pc := 152) E (m_X8_come M1 cN (xs (5 * c + 1)) hc6 h10) rfl rfl kX8_come mlL_79 dL_law_152 ok11 rfl rfl rfl (Nat.le_of_ble_eq_true rfl) rfl (by decide) (by decide) ⟨by omega, by omega⟩ (fun _ _ _ => Or.inl rfl) (fun r M2 h2 => ?_)
  obtain ⟨⟨n2, cN2, d2, hI2⟩, hth, hout⟩ := st_come (M := M) (M1 := M1) (M2 := M2) (k9 := k9) (r := r) (n := n) (cN := cN) (d := d) (x := (xs (5 * c + 1))) hI h1 h2
  refine z_istore_6 (pc := 155) E dL_law_155 rfl ?_
  refine z_aload_2 (pc := 157) E dL_law_157 ?_
  refine z_ivp (pc := 158) E (m_X8_thrown M2) rfl rfl kX8_thrown mlL_80 dL_law_158 ok11 rfl rfl rfl (Nat.le_of_ble_eq_true rfl) rfl (by decide) (by decide) ⟨by omega, by omega⟩ ?_
  refine z_iload_5 (pc := 161) E dL_law_161 ?_
  refine z_icmp_eq (pc := 163) (tgt := 168) E dL_law_163 (by decide) (fun h163 => ?_) (fun h163 => absurd h163 (fun z => z hth))
  refine z_iload_5 (pc := 168) E dL_law_168 ?_
  refine z_if_ne (pc := 170) (tgt := 185) E dL_law_170 (by decide) (fun h170 => ?_) (fun h170 => ?_)
  · refine z_goto (pc := 185) (tgt := 1272) E dL_law_185 (by decide) ?_
    exact z_loc (lv' := [some (.ref b), some (.ref (ad G 14 0 0)), some (.ref (ad G 11 0 0)), some (.ref (ad G 21 0 0)), some (.int (nI (5 * c))), none, none, none, none]) rfl loc9 (z_widen (by omega) (by omega) (hK _ _ _ _ hI2))
  · refine z_aload_3 (pc := 173) E dL_law_173 ?_
    refine z_iconst (v := 0) (pc := 174) E dL_law_174 (by decide) ?_
    refine z_lald (pc := 175) E dL_law_175 ?_
    refine z_iload_6 (pc := 176) E dL_law_176 ?_
    refine z_i2l (pc := 178) E dL_law_178 ?_
    refine z_lcmp (pc := 179) E dL_law_179 ?_
    refine z_if_eq (pc := 180) (tgt := 185) E dL_law_180 (by decide) (fun h180 => ?_) (fun h180 => absurd h180 (fun z => z (cmp_e.mpr (by rw [hout h170]))))
    refine z_goto (pc := 185) (tgt := 1272) E dL_law_185 (by decide) ?_
    exact z_loc (lv' := [some (.ref b), some (.ref (ad G 14 0 0)), some (.ref (ad G 11 0 0)), some (.ref (ad G 21 0 0)), some (.int (nI (5 * c))), none, none, none, none]) rfl loc9 (z_widen (by omega) (by omega) (hK _ _ _ _ hI2))

set_option maxRecDepth 100000 in
set_option maxHeartbeats 4000000 in
theorem l_earn {X : PX} {G : GT} {Q : State → Prop} {b L c : Nat} {xs : Nat → Int32} {v5 v6 v7 v8 : Option Value} (E : EF X G cL_law 9 RL ret 11 601024 7293034) (hl0 : (xL X).stackTraces = false) (hX : va_X b L xs (xS X) (xS X).heap) (hbl : b < (xS X).heap.size) (hG : G.2.2 0 = (xS X).heap.size) (hL : L ≤ 2560) (hc5 : 5 * c + 5 ≤ L) {M : Mem} {n cN d : Nat} (hI : Inv2 M M n cN d c) (hK : LK X G Q b c) : Z X G (0, 0) Q 188 [some (.ref b), some (.ref (ad G 14 0 0)), some (.ref (ad G 11 0 0)), some (.ref (ad G 21 0 0)), some (.int (nI (5 * c))), v5, v6, v7, v8] [] M (154 + 20 * c) (2256 + 700 * c) := by
  have h40 := hI.2.2.2.2.2.1
  have h10 := hI.2.2.2.2.2.2.1
  have hn0 := hI.1.2.2.2.2.1
  have hc0 := hI.1.2.2.2.1
  have hd0 := hI.2.2.2.2.2.2.2.2.2.1
  have hdc := hI.2.2.2.2.2.2.2.2.2.2
  have hd30 : d < 2 ^ 30 := by omega
  have how0 := inv_how hI
  refine z_aload_1 (pc := 188) E dL_law_188 ?_
  refine z_aload_0 (pc := 189) E dL_law_189 ?_
  refine z_iload_4 (pc := 190) E dL_law_190 ?_
  refine z_iconst (v := 1) (pc := 192) E dL_law_192 (by decide) ?_
  refine z_iadd (pc := 193) E dL_law_193 ?_
  refine z_sld (j := 5 * c + 1) (pc := 194) E hX hbl hG dL_law_194 (nI_add (5 * c) 1) (by omega) hL ?_
  refine z_aload_0 (pc := 195) E dL_law_195 ?_
  refine z_iload_4 (pc := 196) E dL_law_196 ?_
  refine z_iconst (v := 2) (pc := 198) E dL_law_198 (by decide) ?_
  refine z_iadd (pc := 199) E dL_law_199 ?_
  refine z_sld (j := 5 * c + 2) (pc := 200) E hX hbl hG dL_law_200 (nI_add (5 * c) 2) (by omega) hL ?_
  refine z_aload_3 (pc := 201) E dL_law_201 ?_
  refine z_wc (pc := 202) E hl0 (w_earn M cN (xs (5 * c + 1)) (xs (5 * c + 2)) hc0 h10) rfl rfl kL_earn mlL_84 dL_law_202 rfl (Nat.le_of_ble_eq_true rfl) rfl (by decide) (by decide) ⟨by omega, by omega⟩ (fun k9 M1 h1 => ?_)
  have hJ := inv2_k hI (EqA.refl M) (eb_earn (M := M) (M1 := M1) (k9 := k9) (cN := cN) (q := (xs (5 * c + 1))) (x := (xs (5 * c + 2))) (n := n) h1)
  have hn6 := hJ.1.2.2.2.2.2.1
  have hc6 := hJ.2.2.2.2.2.2.2.1
  have hd6 := hJ.1.1.symm.trans hd0
  have how6 := hJ.2.1.1
  have how10 := inv_how10 hJ
  have hf7 := fun t ht => rw_7 (t := t) hJ.2.2.2.2.1 ht
  have hp5 := inv_p hJ
  refine z_istore_5 (pc := 205) E dL_law_205 rfl ?_
  refine z_aload_2 (pc := 207) E dL_law_207 ?_
  refine z_aload_0 (pc := 208) E dL_law_208 ?_
  refine z_iload_4 (pc := 209) E dL_law_209 ?_
  refine z_iconst (v := 1) (pc := 211) E dL_law_211 (by decide) ?_
  refine z_iadd (pc := 212) E dL_law_212 ?_
  refine z_sld (j := 5 * c + 1) (pc := 213) E hX hbl hG dL_law_213 (nI_add (5 * c) 1) (by omega) hL ?_
  refine z_aload_0 (pc := 214) E dL_law_214 ?_
  refine z_iload_4 (pc := 215) E dL_law_215 ?_
  refine z_iconst (v := 2) (pc := 217) E dL_law_217 (by decide) ?_
  refine z_iadd (pc := 218) E dL_law_218 ?_
  refine z_sld (j := 5 * c + 2) (pc := 219) E hX hbl hG dL_law_219 (nI_add (5 * c) 2) (by omega) hL ?_
  refine z_iv (pc := 220) E (m_X8_earn M1 cN (xs (5 * c + 1)) (xs (5 * c + 2)) hc6 h10) rfl rfl kX8_earn mlL_87 dL_law_220 ok11 rfl rfl rfl (Nat.le_of_ble_eq_true rfl) rfl (by decide) (by decide) ⟨by omega, by omega⟩ (fun _ _ _ => Or.inl rfl) (fun r M2 h2 => ?_)
  obtain ⟨⟨n2, cN2, d2, hI2⟩, hth, hout⟩ := st_earn (M := M) (M1 := M1) (M2 := M2) (k9 := k9) (r := r) (n := n) (cN := cN) (d := d) (q := (xs (5 * c + 1))) (x := (xs (5 * c + 2))) hI h1 h2
  refine z_istore_6 (pc := 223) E dL_law_223 rfl ?_
  refine z_aload_2 (pc := 225) E dL_law_225 ?_
  refine z_ivp (pc := 226) E (m_X8_thrown M2) rfl rfl kX8_thrown mlL_80 dL_law_226 ok11 rfl rfl rfl (Nat.le_of_ble_eq_true rfl) rfl (by decide) (by decide) ⟨by omega, by omega⟩ ?_
  refine z_iload_5 (pc := 229) E dL_law_229 ?_
  refine z_icmp_eq (pc := 231) (tgt := 236) E dL_law_231 (by decide) (fun h231 => ?_) (fun h231 => absurd h231 (fun z => z hth))
  refine z_iload_5 (pc := 236) E dL_law_236 ?_
  refine z_if_ne (pc := 238) (tgt := 253) E dL_law_238 (by decide) (fun h238 => ?_) (fun h238 => ?_)
  · refine z_goto (pc := 253) (tgt := 1272) E dL_law_253 (by decide) ?_
    exact z_loc (lv' := [some (.ref b), some (.ref (ad G 14 0 0)), some (.ref (ad G 11 0 0)), some (.ref (ad G 21 0 0)), some (.int (nI (5 * c))), none, none, none, none]) rfl loc9 (z_widen (by omega) (by omega) (hK _ _ _ _ hI2))
  · refine z_aload_3 (pc := 241) E dL_law_241 ?_
    refine z_iconst (v := 0) (pc := 242) E dL_law_242 (by decide) ?_
    refine z_lald (pc := 243) E dL_law_243 ?_
    refine z_iload_6 (pc := 244) E dL_law_244 ?_
    refine z_i2l (pc := 246) E dL_law_246 ?_
    refine z_lcmp (pc := 247) E dL_law_247 ?_
    refine z_if_eq (pc := 248) (tgt := 253) E dL_law_248 (by decide) (fun h248 => ?_) (fun h248 => absurd h248 (fun z => z (cmp_e.mpr (by rw [hout h238]))))
    refine z_goto (pc := 253) (tgt := 1272) E dL_law_253 (by decide) ?_
    exact z_loc (lv' := [some (.ref b), some (.ref (ad G 14 0 0)), some (.ref (ad G 11 0 0)), some (.ref (ad G 21 0 0)), some (.int (nI (5 * c))), none, none, none, none]) rfl loc9 (z_widen (by omega) (by omega) (hK _ _ _ _ hI2))

set_option maxRecDepth 100000 in
set_option maxHeartbeats 4000000 in
theorem l_setBuyer {X : PX} {G : GT} {Q : State → Prop} {b L c : Nat} {xs : Nat → Int32} {v5 v6 v7 v8 : Option Value} (E : EF X G cL_law 9 RL ret 11 601024 7293034) (hl0 : (xL X).stackTraces = false) (hX : va_X b L xs (xS X) (xS X).heap) (hbl : b < (xS X).heap.size) (hG : G.2.2 0 = (xS X).heap.size) (hL : L ≤ 2560) (hc5 : 5 * c + 5 ≤ L) {M : Mem} {n cN d : Nat} (hI : Inv2 M M n cN d c) (hK : LK X G Q b c) : Z X G (0, 0) Q 256 [some (.ref b), some (.ref (ad G 14 0 0)), some (.ref (ad G 11 0 0)), some (.ref (ad G 21 0 0)), some (.int (nI (5 * c))), v5, v6, v7, v8] [] M (154 + 20 * c) (2256 + 700 * c) := by
  have h40 := hI.2.2.2.2.2.1
  have h10 := hI.2.2.2.2.2.2.1
  have hn0 := hI.1.2.2.2.2.1
  have hc0 := hI.1.2.2.2.1
  have hd0 := hI.2.2.2.2.2.2.2.2.2.1
  have hdc := hI.2.2.2.2.2.2.2.2.2.2
  have hd30 : d < 2 ^ 30 := by omega
  have how0 := inv_how hI
  refine z_aload_1 (pc := 256) E dL_law_256 ?_
  refine z_aload_0 (pc := 257) E dL_law_257 ?_
  refine z_iload_4 (pc := 258) E dL_law_258 ?_
  refine z_iconst (v := 1) (pc := 260) E dL_law_260 (by decide) ?_
  refine z_iadd (pc := 261) E dL_law_261 ?_
  refine z_sld (j := 5 * c + 1) (pc := 262) E hX hbl hG dL_law_262 (nI_add (5 * c) 1) (by omega) hL ?_
  refine z_aload_0 (pc := 263) E dL_law_263 ?_
  refine z_iload_4 (pc := 264) E dL_law_264 ?_
  refine z_iconst (v := 2) (pc := 266) E dL_law_266 (by decide) ?_
  refine z_iadd (pc := 267) E dL_law_267 ?_
  refine z_sld (j := 5 * c + 2) (pc := 268) E hX hbl hG dL_law_268 (nI_add (5 * c) 2) (by omega) hL ?_
  refine z_aload_0 (pc := 269) E dL_law_269 ?_
  refine z_iload_4 (pc := 270) E dL_law_270 ?_
  refine z_iconst (v := 3) (pc := 272) E dL_law_272 (by decide) ?_
  refine z_iadd (pc := 273) E dL_law_273 ?_
  refine z_sld (j := 5 * c + 3) (pc := 274) E hX hbl hG dL_law_274 (nI_add (5 * c) 3) (by omega) hL ?_
  refine z_aload_3 (pc := 275) E dL_law_275 ?_
  refine z_wc (pc := 276) E hl0 (w_setBuyer M (xs (5 * c + 1)) (xs (5 * c + 2)) (xs (5 * c + 3))) rfl rfl kL_setBuyer mlL_88 dL_law_276 rfl (Nat.le_of_ble_eq_true rfl) rfl (by decide) (by decide) ⟨by omega, by omega⟩ (fun k9 M1 h1 => ?_)
  have hJ := inv2_k hI (EqA.refl M) (eb_setBuyer (M := M) (M1 := M1) (k9 := k9) (q := (xs (5 * c + 1))) (k := (xs (5 * c + 2))) (p := (xs (5 * c + 3))) (n := n) (cN := cN) h1)
  have hn6 := hJ.1.2.2.2.2.2.1
  have hc6 := hJ.2.2.2.2.2.2.2.1
  have hd6 := hJ.1.1.symm.trans hd0
  have how6 := hJ.2.1.1
  have how10 := inv_how10 hJ
  have hf7 := fun t ht => rw_7 (t := t) hJ.2.2.2.2.1 ht
  have hp5 := inv_p hJ
  refine z_istore_5 (pc := 279) E dL_law_279 rfl ?_
  refine z_aload_2 (pc := 281) E dL_law_281 ?_
  refine z_aload_0 (pc := 282) E dL_law_282 ?_
  refine z_iload_4 (pc := 283) E dL_law_283 ?_
  refine z_iconst (v := 1) (pc := 285) E dL_law_285 (by decide) ?_
  refine z_iadd (pc := 286) E dL_law_286 ?_
  refine z_sld (j := 5 * c + 1) (pc := 287) E hX hbl hG dL_law_287 (nI_add (5 * c) 1) (by omega) hL ?_
  refine z_aload_0 (pc := 288) E dL_law_288 ?_
  refine z_iload_4 (pc := 289) E dL_law_289 ?_
  refine z_iconst (v := 2) (pc := 291) E dL_law_291 (by decide) ?_
  refine z_iadd (pc := 292) E dL_law_292 ?_
  refine z_sld (j := 5 * c + 2) (pc := 293) E hX hbl hG dL_law_293 (nI_add (5 * c) 2) (by omega) hL ?_
  refine z_aload_0 (pc := 294) E dL_law_294 ?_
  refine z_iload_4 (pc := 295) E dL_law_295 ?_
  refine z_iconst (v := 3) (pc := 297) E dL_law_297 (by decide) ?_
  refine z_iadd (pc := 298) E dL_law_298 ?_
  refine z_sld (j := 5 * c + 3) (pc := 299) E hX hbl hG dL_law_299 (nI_add (5 * c) 3) (by omega) hL ?_
  refine z_iv (pc := 300) E (m_X8_setBuyer M1 (xs (5 * c + 1)) (xs (5 * c + 2)) (xs (5 * c + 3))) rfl rfl kX8_setBuyer mlL_91 dL_law_300 ok11 rfl rfl rfl (Nat.le_of_ble_eq_true rfl) rfl (by decide) (by decide) ⟨by omega, by omega⟩ (fun _ _ _ => Or.inl rfl) (fun r M2 h2 => ?_)
  obtain ⟨⟨n2, cN2, d2, hI2⟩, hth, hout⟩ := st_setBuyer (M := M) (M1 := M1) (M2 := M2) (k9 := k9) (r := r) (n := n) (cN := cN) (d := d) (q := (xs (5 * c + 1))) (k := (xs (5 * c + 2))) (p := (xs (5 * c + 3))) hI h1 h2
  refine z_istore_6 (pc := 303) E dL_law_303 rfl ?_
  refine z_aload_2 (pc := 305) E dL_law_305 ?_
  refine z_ivp (pc := 306) E (m_X8_thrown M2) rfl rfl kX8_thrown mlL_80 dL_law_306 ok11 rfl rfl rfl (Nat.le_of_ble_eq_true rfl) rfl (by decide) (by decide) ⟨by omega, by omega⟩ ?_
  refine z_iload_5 (pc := 309) E dL_law_309 ?_
  refine z_icmp_eq (pc := 311) (tgt := 316) E dL_law_311 (by decide) (fun h311 => ?_) (fun h311 => absurd h311 (fun z => z hth))
  refine z_iload_5 (pc := 316) E dL_law_316 ?_
  refine z_if_ne (pc := 318) (tgt := 333) E dL_law_318 (by decide) (fun h318 => ?_) (fun h318 => ?_)
  · refine z_goto (pc := 333) (tgt := 1272) E dL_law_333 (by decide) ?_
    exact z_loc (lv' := [some (.ref b), some (.ref (ad G 14 0 0)), some (.ref (ad G 11 0 0)), some (.ref (ad G 21 0 0)), some (.int (nI (5 * c))), none, none, none, none]) rfl loc9 (z_widen (by omega) (by omega) (hK _ _ _ _ hI2))
  · refine z_aload_3 (pc := 321) E dL_law_321 ?_
    refine z_iconst (v := 0) (pc := 322) E dL_law_322 (by decide) ?_
    refine z_lald (pc := 323) E dL_law_323 ?_
    refine z_iload_6 (pc := 324) E dL_law_324 ?_
    refine z_i2l (pc := 326) E dL_law_326 ?_
    refine z_lcmp (pc := 327) E dL_law_327 ?_
    refine z_if_eq (pc := 328) (tgt := 333) E dL_law_328 (by decide) (fun h328 => ?_) (fun h328 => absurd h328 (fun z => z (cmp_e.mpr (by rw [hout h318]))))
    refine z_goto (pc := 333) (tgt := 1272) E dL_law_333 (by decide) ?_
    exact z_loc (lv' := [some (.ref b), some (.ref (ad G 14 0 0)), some (.ref (ad G 11 0 0)), some (.ref (ad G 21 0 0)), some (.int (nI (5 * c))), none, none, none, none]) rfl loc9 (z_widen (by omega) (by omega) (hK _ _ _ _ hI2))

set_option maxRecDepth 100000 in
set_option maxHeartbeats 4000000 in
theorem l_customer {X : PX} {G : GT} {Q : State → Prop} {b L c : Nat} {xs : Nat → Int32} {v5 v6 v7 v8 : Option Value} (E : EF X G cL_law 9 RL ret 11 601024 7293034) (hl0 : (xL X).stackTraces = false) (hX : va_X b L xs (xS X) (xS X).heap) (hbl : b < (xS X).heap.size) (hG : G.2.2 0 = (xS X).heap.size) (hL : L ≤ 2560) (hc5 : 5 * c + 5 ≤ L) {M : Mem} {n cN d : Nat} (hI : Inv2 M M n cN d c) (hK : LK X G Q b c) : Z X G (0, 0) Q 336 [some (.ref b), some (.ref (ad G 14 0 0)), some (.ref (ad G 11 0 0)), some (.ref (ad G 21 0 0)), some (.int (nI (5 * c))), v5, v6, v7, v8] [] M (154 + 20 * c) (2256 + 700 * c) := by
  have h40 := hI.2.2.2.2.2.1
  have h10 := hI.2.2.2.2.2.2.1
  have hn0 := hI.1.2.2.2.2.1
  have hc0 := hI.1.2.2.2.1
  have hd0 := hI.2.2.2.2.2.2.2.2.2.1
  have hdc := hI.2.2.2.2.2.2.2.2.2.2
  have hd30 : d < 2 ^ 30 := by omega
  have how0 := inv_how hI
  refine z_aload_1 (pc := 336) E dL_law_336 ?_
  refine z_aload_0 (pc := 337) E dL_law_337 ?_
  refine z_iload_4 (pc := 338) E dL_law_338 ?_
  refine z_iconst (v := 1) (pc := 340) E dL_law_340 (by decide) ?_
  refine z_iadd (pc := 341) E dL_law_341 ?_
  refine z_sld (j := 5 * c + 1) (pc := 342) E hX hbl hG dL_law_342 (nI_add (5 * c) 1) (by omega) hL ?_
  refine z_aload_0 (pc := 343) E dL_law_343 ?_
  refine z_iload_4 (pc := 344) E dL_law_344 ?_
  refine z_iconst (v := 2) (pc := 346) E dL_law_346 (by decide) ?_
  refine z_iadd (pc := 347) E dL_law_347 ?_
  refine z_sld (j := 5 * c + 2) (pc := 348) E hX hbl hG dL_law_348 (nI_add (5 * c) 2) (by omega) hL ?_
  refine z_aload_3 (pc := 349) E dL_law_349 ?_
  refine z_wc (pc := 350) E hl0 (w_customer M n cN (xs (5 * c + 1)) (xs (5 * c + 2)) hn0 h40 hc0 h10) rfl rfl kL_customer mlL_92 dL_law_350 rfl (Nat.le_of_ble_eq_true rfl) rfl (by decide) (by decide) ⟨by omega, by omega⟩ (fun k9 M1 h1 => ?_)
  have hJ := inv2_k hI (EqA.refl M) (eb_customer (M := M) (M1 := M1) (k9 := k9) (n := n) (cN := cN) (x := (xs (5 * c + 1))) (w := (xs (5 * c + 2))) h1)
  have hn6 := hJ.1.2.2.2.2.2.1
  have hc6 := hJ.2.2.2.2.2.2.2.1
  have hd6 := hJ.1.1.symm.trans hd0
  have how6 := hJ.2.1.1
  have how10 := inv_how10 hJ
  have hf7 := fun t ht => rw_7 (t := t) hJ.2.2.2.2.1 ht
  have hp5 := inv_p hJ
  refine z_istore_5 (pc := 353) E dL_law_353 rfl ?_
  refine z_aload_2 (pc := 355) E dL_law_355 ?_
  refine z_aload_0 (pc := 356) E dL_law_356 ?_
  refine z_iload_4 (pc := 357) E dL_law_357 ?_
  refine z_iconst (v := 1) (pc := 359) E dL_law_359 (by decide) ?_
  refine z_iadd (pc := 360) E dL_law_360 ?_
  refine z_sld (j := 5 * c + 1) (pc := 361) E hX hbl hG dL_law_361 (nI_add (5 * c) 1) (by omega) hL ?_
  refine z_aload_0 (pc := 362) E dL_law_362 ?_
  refine z_iload_4 (pc := 363) E dL_law_363 ?_
  refine z_iconst (v := 2) (pc := 365) E dL_law_365 (by decide) ?_
  refine z_iadd (pc := 366) E dL_law_366 ?_
  refine z_sld (j := 5 * c + 2) (pc := 367) E hX hbl hG dL_law_367 (nI_add (5 * c) 2) (by omega) hL ?_
  refine z_iv (pc := 368) E (m_X8_customer M1 n cN (xs (5 * c + 1)) (xs (5 * c + 2)) hn6 h40 hc6 h10) rfl rfl kX8_customer mlL_94 dL_law_368 ok11 rfl rfl rfl (Nat.le_of_ble_eq_true rfl) rfl (by decide) (by decide) ⟨by omega, by omega⟩ (fun _ _ _ => Or.inl rfl) (fun r M2 h2 => ?_)
  obtain ⟨⟨n2, cN2, d2, hI2⟩, hth, hout⟩ := st_customer (M := M) (M1 := M1) (M2 := M2) (k9 := k9) (r := r) (n := n) (cN := cN) (d := d) (x := (xs (5 * c + 1))) (w := (xs (5 * c + 2))) hI h1 h2
  refine z_istore_6 (pc := 371) E dL_law_371 rfl ?_
  refine z_aload_2 (pc := 373) E dL_law_373 ?_
  refine z_ivp (pc := 374) E (m_X8_thrown M2) rfl rfl kX8_thrown mlL_80 dL_law_374 ok11 rfl rfl rfl (Nat.le_of_ble_eq_true rfl) rfl (by decide) (by decide) ⟨by omega, by omega⟩ ?_
  refine z_iload_5 (pc := 377) E dL_law_377 ?_
  refine z_icmp_eq (pc := 379) (tgt := 384) E dL_law_379 (by decide) (fun h379 => ?_) (fun h379 => absurd h379 (fun z => z hth))
  refine z_iload_5 (pc := 384) E dL_law_384 ?_
  refine z_if_ne (pc := 386) (tgt := 401) E dL_law_386 (by decide) (fun h386 => ?_) (fun h386 => ?_)
  · refine z_goto (pc := 401) (tgt := 1272) E dL_law_401 (by decide) ?_
    exact z_loc (lv' := [some (.ref b), some (.ref (ad G 14 0 0)), some (.ref (ad G 11 0 0)), some (.ref (ad G 21 0 0)), some (.int (nI (5 * c))), none, none, none, none]) rfl loc9 (z_widen (by omega) (by omega) (hK _ _ _ _ hI2))
  · refine z_aload_3 (pc := 389) E dL_law_389 ?_
    refine z_iconst (v := 0) (pc := 390) E dL_law_390 (by decide) ?_
    refine z_lald (pc := 391) E dL_law_391 ?_
    refine z_iload_6 (pc := 392) E dL_law_392 ?_
    refine z_i2l (pc := 394) E dL_law_394 ?_
    refine z_lcmp (pc := 395) E dL_law_395 ?_
    refine z_if_eq (pc := 396) (tgt := 401) E dL_law_396 (by decide) (fun h396 => ?_) (fun h396 => absurd h396 (fun z => z (cmp_e.mpr (by rw [hout h386]))))
    refine z_goto (pc := 401) (tgt := 1272) E dL_law_401 (by decide) ?_
    exact z_loc (lv' := [some (.ref b), some (.ref (ad G 14 0 0)), some (.ref (ad G 11 0 0)), some (.ref (ad G 21 0 0)), some (.int (nI (5 * c))), none, none, none, none]) rfl loc9 (z_widen (by omega) (by omega) (hK _ _ _ _ hI2))

set_option maxRecDepth 100000 in
set_option maxHeartbeats 4000000 in
theorem l_pledge {X : PX} {G : GT} {Q : State → Prop} {b L c : Nat} {xs : Nat → Int32} {v5 v6 v7 v8 : Option Value} (E : EF X G cL_law 9 RL ret 11 601024 7293034) (hl0 : (xL X).stackTraces = false) (hX : va_X b L xs (xS X) (xS X).heap) (hbl : b < (xS X).heap.size) (hG : G.2.2 0 = (xS X).heap.size) (hL : L ≤ 2560) (hc5 : 5 * c + 5 ≤ L) {M : Mem} {n cN d : Nat} (hI : Inv2 M M n cN d c) (hK : LK X G Q b c) : Z X G (0, 0) Q 404 [some (.ref b), some (.ref (ad G 14 0 0)), some (.ref (ad G 11 0 0)), some (.ref (ad G 21 0 0)), some (.int (nI (5 * c))), v5, v6, v7, v8] [] M (154 + 20 * c) (2256 + 700 * c) := by
  have h40 := hI.2.2.2.2.2.1
  have h10 := hI.2.2.2.2.2.2.1
  have hn0 := hI.1.2.2.2.2.1
  have hc0 := hI.1.2.2.2.1
  have hd0 := hI.2.2.2.2.2.2.2.2.2.1
  have hdc := hI.2.2.2.2.2.2.2.2.2.2
  have hd30 : d < 2 ^ 30 := by omega
  have how0 := inv_how hI
  refine z_aload_1 (pc := 404) E dL_law_404 ?_
  refine z_aload_0 (pc := 405) E dL_law_405 ?_
  refine z_iload_4 (pc := 406) E dL_law_406 ?_
  refine z_iconst (v := 1) (pc := 408) E dL_law_408 (by decide) ?_
  refine z_iadd (pc := 409) E dL_law_409 ?_
  refine z_sld (j := 5 * c + 1) (pc := 410) E hX hbl hG dL_law_410 (nI_add (5 * c) 1) (by omega) hL ?_
  refine z_aload_0 (pc := 411) E dL_law_411 ?_
  refine z_iload_4 (pc := 412) E dL_law_412 ?_
  refine z_iconst (v := 2) (pc := 414) E dL_law_414 (by decide) ?_
  refine z_iadd (pc := 415) E dL_law_415 ?_
  refine z_sld (j := 5 * c + 2) (pc := 416) E hX hbl hG dL_law_416 (nI_add (5 * c) 2) (by omega) hL ?_
  refine z_aload_0 (pc := 417) E dL_law_417 ?_
  refine z_iload_4 (pc := 418) E dL_law_418 ?_
  refine z_iconst (v := 3) (pc := 420) E dL_law_420 (by decide) ?_
  refine z_iadd (pc := 421) E dL_law_421 ?_
  refine z_sld (j := 5 * c + 3) (pc := 422) E hX hbl hG dL_law_422 (nI_add (5 * c) 3) (by omega) hL ?_
  refine z_aload_0 (pc := 423) E dL_law_423 ?_
  refine z_iload_4 (pc := 424) E dL_law_424 ?_
  refine z_iconst (v := 4) (pc := 426) E dL_law_426 (by decide) ?_
  refine z_iadd (pc := 427) E dL_law_427 ?_
  refine z_sld (j := 5 * c + 4) (pc := 428) E hX hbl hG dL_law_428 (nI_add (5 * c) 4) (by omega) hL ?_
  refine z_aload_3 (pc := 429) E dL_law_429 ?_
  refine z_wc (pc := 430) E hl0 (w_pledge M n cN (xs (5 * c + 1)) (xs (5 * c + 2)) (xs (5 * c + 3)) (xs (5 * c + 4)) hn0 h40 hc0 h10) rfl rfl kL_pledge mlL_95 dL_law_430 rfl (Nat.le_of_ble_eq_true rfl) rfl (by decide) (by decide) ⟨by omega, by omega⟩ (fun k9 M1 h1 => ?_)
  have hJ := inv2_k hI (EqA.refl M) (eb_pledge (M := M) (M1 := M1) (k9 := k9) (n := n) (cN := cN) (x := (xs (5 * c + 1))) (k := (xs (5 * c + 2))) (v := (xs (5 * c + 3))) (w := (xs (5 * c + 4))) h1)
  have hn6 := hJ.1.2.2.2.2.2.1
  have hc6 := hJ.2.2.2.2.2.2.2.1
  have hd6 := hJ.1.1.symm.trans hd0
  have how6 := hJ.2.1.1
  have how10 := inv_how10 hJ
  have hf7 := fun t ht => rw_7 (t := t) hJ.2.2.2.2.1 ht
  have hp5 := inv_p hJ
  refine z_istore_5 (pc := 433) E dL_law_433 rfl ?_
  refine z_aload_2 (pc := 435) E dL_law_435 ?_
  refine z_aload_0 (pc := 436) E dL_law_436 ?_
  refine z_iload_4 (pc := 437) E dL_law_437 ?_
  refine z_iconst (v := 1) (pc := 439) E dL_law_439 (by decide) ?_
  refine z_iadd (pc := 440) E dL_law_440 ?_
  refine z_sld (j := 5 * c + 1) (pc := 441) E hX hbl hG dL_law_441 (nI_add (5 * c) 1) (by omega) hL ?_
  refine z_aload_0 (pc := 442) E dL_law_442 ?_
  refine z_iload_4 (pc := 443) E dL_law_443 ?_
  refine z_iconst (v := 2) (pc := 445) E dL_law_445 (by decide) ?_
  refine z_iadd (pc := 446) E dL_law_446 ?_
  refine z_sld (j := 5 * c + 2) (pc := 447) E hX hbl hG dL_law_447 (nI_add (5 * c) 2) (by omega) hL ?_
  refine z_aload_0 (pc := 448) E dL_law_448 ?_
  refine z_iload_4 (pc := 449) E dL_law_449 ?_
  refine z_iconst (v := 3) (pc := 451) E dL_law_451 (by decide) ?_
  refine z_iadd (pc := 452) E dL_law_452 ?_
  refine z_sld (j := 5 * c + 3) (pc := 453) E hX hbl hG dL_law_453 (nI_add (5 * c) 3) (by omega) hL ?_
  refine z_aload_0 (pc := 454) E dL_law_454 ?_
  refine z_iload_4 (pc := 455) E dL_law_455 ?_
  refine z_iconst (v := 4) (pc := 457) E dL_law_457 (by decide) ?_
  refine z_iadd (pc := 458) E dL_law_458 ?_
  refine z_sld (j := 5 * c + 4) (pc := 459) E hX hbl hG dL_law_459 (nI_add (5 * c) 4) (by omega) hL ?_
  refine z_iv (pc := 460) E (m_X8_pledge M1 n cN (xs (5 * c + 1)) (xs (5 * c + 2)) (xs (5 * c + 3)) (xs (5 * c + 4)) hn6 h40 hc6 h10) rfl rfl kX8_pledge mlL_98 dL_law_460 ok11 rfl rfl rfl (Nat.le_of_ble_eq_true rfl) rfl (by decide) (by decide) ⟨by omega, by omega⟩ (fun _ _ _ => Or.inl rfl) (fun r M2 h2 => ?_)
  obtain ⟨⟨n2, cN2, d2, hI2⟩, hth, hout⟩ := st_pledge (M := M) (M1 := M1) (M2 := M2) (k9 := k9) (r := r) (n := n) (cN := cN) (d := d) (x := (xs (5 * c + 1))) (k := (xs (5 * c + 2))) (v := (xs (5 * c + 3))) (w := (xs (5 * c + 4))) hI h1 h2
  refine z_istore_6 (pc := 463) E dL_law_463 rfl ?_
  refine z_aload_2 (pc := 465) E dL_law_465 ?_
  refine z_ivp (pc := 466) E (m_X8_thrown M2) rfl rfl kX8_thrown mlL_80 dL_law_466 ok11 rfl rfl rfl (Nat.le_of_ble_eq_true rfl) rfl (by decide) (by decide) ⟨by omega, by omega⟩ ?_
  refine z_iload_5 (pc := 469) E dL_law_469 ?_
  refine z_icmp_eq (pc := 471) (tgt := 476) E dL_law_471 (by decide) (fun h471 => ?_) (fun h471 => absurd h471 (fun z => z hth))
  refine z_iload_5 (pc := 476) E dL_law_476 ?_
  refine z_if_ne (pc := 478) (tgt := 493) E dL_law_478 (by decide) (fun h478 => ?_) (fun h478 => ?_)
  · refine z_goto (pc := 493) (tgt := 1272) E dL_law_493 (by decide) ?_
    exact z_loc (lv' := [some (.ref b), some (.ref (ad G 14 0 0)), some (.ref (ad G 11 0 0)), some (.ref (ad G 21 0 0)), some (.int (nI (5 * c))), none, none, none, none]) rfl loc9 (z_widen (by omega) (by omega) (hK _ _ _ _ hI2))
  · refine z_aload_3 (pc := 481) E dL_law_481 ?_
    refine z_iconst (v := 0) (pc := 482) E dL_law_482 (by decide) ?_
    refine z_lald (pc := 483) E dL_law_483 ?_
    refine z_iload_6 (pc := 484) E dL_law_484 ?_
    refine z_i2l (pc := 486) E dL_law_486 ?_
    refine z_lcmp (pc := 487) E dL_law_487 ?_
    refine z_if_eq (pc := 488) (tgt := 493) E dL_law_488 (by decide) (fun h488 => ?_) (fun h488 => absurd h488 (fun z => z (cmp_e.mpr (by rw [hout h478]))))
    refine z_goto (pc := 493) (tgt := 1272) E dL_law_493 (by decide) ?_
    exact z_loc (lv' := [some (.ref b), some (.ref (ad G 14 0 0)), some (.ref (ad G 11 0 0)), some (.ref (ad G 21 0 0)), some (.int (nI (5 * c))), none, none, none, none]) rfl loc9 (z_widen (by omega) (by omega) (hK _ _ _ _ hI2))

set_option maxRecDepth 100000 in
set_option maxHeartbeats 4000000 in
theorem l_ticket {X : PX} {G : GT} {Q : State → Prop} {b L c : Nat} {xs : Nat → Int32} {v5 v6 v7 v8 : Option Value} (E : EF X G cL_law 9 RL ret 11 601024 7293034) (hl0 : (xL X).stackTraces = false) (hX : va_X b L xs (xS X) (xS X).heap) (hbl : b < (xS X).heap.size) (hG : G.2.2 0 = (xS X).heap.size) (hL : L ≤ 2560) (hc5 : 5 * c + 5 ≤ L) {M : Mem} {n cN d : Nat} (hI : Inv2 M M n cN d c) (hK : LK X G Q b c) : Z X G (0, 0) Q 496 [some (.ref b), some (.ref (ad G 14 0 0)), some (.ref (ad G 11 0 0)), some (.ref (ad G 21 0 0)), some (.int (nI (5 * c))), v5, v6, v7, v8] [] M (154 + 20 * c) (2256 + 700 * c) := by
  have h40 := hI.2.2.2.2.2.1
  have h10 := hI.2.2.2.2.2.2.1
  have hn0 := hI.1.2.2.2.2.1
  have hc0 := hI.1.2.2.2.1
  have hd0 := hI.2.2.2.2.2.2.2.2.2.1
  have hdc := hI.2.2.2.2.2.2.2.2.2.2
  have hd30 : d < 2 ^ 30 := by omega
  have how0 := inv_how hI
  refine z_aload_1 (pc := 496) E dL_law_496 ?_
  refine z_aload_0 (pc := 497) E dL_law_497 ?_
  refine z_iload_4 (pc := 498) E dL_law_498 ?_
  refine z_iconst (v := 1) (pc := 500) E dL_law_500 (by decide) ?_
  refine z_iadd (pc := 501) E dL_law_501 ?_
  refine z_sld (j := 5 * c + 1) (pc := 502) E hX hbl hG dL_law_502 (nI_add (5 * c) 1) (by omega) hL ?_
  refine z_aload_0 (pc := 503) E dL_law_503 ?_
  refine z_iload_4 (pc := 504) E dL_law_504 ?_
  refine z_iconst (v := 2) (pc := 506) E dL_law_506 (by decide) ?_
  refine z_iadd (pc := 507) E dL_law_507 ?_
  refine z_sld (j := 5 * c + 2) (pc := 508) E hX hbl hG dL_law_508 (nI_add (5 * c) 2) (by omega) hL ?_
  refine z_aload_3 (pc := 509) E dL_law_509 ?_
  refine z_wc (pc := 510) E hl0 (w_ticket M n (xs (5 * c + 1)) (xs (5 * c + 2)) hn0 h40) rfl rfl kL_ticket mlL_99 dL_law_510 rfl (Nat.le_of_ble_eq_true rfl) rfl (by decide) (by decide) ⟨by omega, by omega⟩ (fun k9 M1 h1 => ?_)
  have hJ := inv2_k hI (EqA.refl M) (eb_ticket (M := M) (M1 := M1) (k9 := k9) (n := n) (x := (xs (5 * c + 1))) (w := (xs (5 * c + 2))) (cN := cN) h1)
  have hn6 := hJ.1.2.2.2.2.2.1
  have hc6 := hJ.2.2.2.2.2.2.2.1
  have hd6 := hJ.1.1.symm.trans hd0
  have how6 := hJ.2.1.1
  have how10 := inv_how10 hJ
  have hf7 := fun t ht => rw_7 (t := t) hJ.2.2.2.2.1 ht
  have hp5 := inv_p hJ
  refine z_istore_5 (pc := 513) E dL_law_513 rfl ?_
  refine z_aload_2 (pc := 515) E dL_law_515 ?_
  refine z_aload_0 (pc := 516) E dL_law_516 ?_
  refine z_iload_4 (pc := 517) E dL_law_517 ?_
  refine z_iconst (v := 1) (pc := 519) E dL_law_519 (by decide) ?_
  refine z_iadd (pc := 520) E dL_law_520 ?_
  refine z_sld (j := 5 * c + 1) (pc := 521) E hX hbl hG dL_law_521 (nI_add (5 * c) 1) (by omega) hL ?_
  refine z_aload_0 (pc := 522) E dL_law_522 ?_
  refine z_iload_4 (pc := 523) E dL_law_523 ?_
  refine z_iconst (v := 2) (pc := 525) E dL_law_525 (by decide) ?_
  refine z_iadd (pc := 526) E dL_law_526 ?_
  refine z_sld (j := 5 * c + 2) (pc := 527) E hX hbl hG dL_law_527 (nI_add (5 * c) 2) (by omega) hL ?_
  refine z_iv (pc := 528) E (m_X8_ticket M1 n (xs (5 * c + 1)) (xs (5 * c + 2)) hn6 h40 hf7) rfl rfl kX8_ticket mlL_101 dL_law_528 ok11 rfl rfl rfl (Nat.le_of_ble_eq_true rfl) rfl (by decide) (by decide) ⟨by omega, by omega⟩ (fun _ _ _ => Or.inl rfl) (fun r M2 h2 => ?_)
  obtain ⟨⟨n2, cN2, d2, hI2⟩, hth, hout⟩ := st_ticket (M := M) (M1 := M1) (M2 := M2) (k9 := k9) (r := r) (n := n) (cN := cN) (d := d) (x := (xs (5 * c + 1))) (w := (xs (5 * c + 2))) hI h1 h2
  refine z_istore_6 (pc := 531) E dL_law_531 rfl ?_
  refine z_aload_2 (pc := 533) E dL_law_533 ?_
  refine z_ivp (pc := 534) E (m_X8_thrown M2) rfl rfl kX8_thrown mlL_80 dL_law_534 ok11 rfl rfl rfl (Nat.le_of_ble_eq_true rfl) rfl (by decide) (by decide) ⟨by omega, by omega⟩ ?_
  refine z_iload_5 (pc := 537) E dL_law_537 ?_
  refine z_icmp_eq (pc := 539) (tgt := 544) E dL_law_539 (by decide) (fun h539 => ?_) (fun h539 => absurd h539 (fun z => z hth))
  refine z_iload_5 (pc := 544) E dL_law_544 ?_
  refine z_if_ne (pc := 546) (tgt := 561) E dL_law_546 (by decide) (fun h546 => ?_) (fun h546 => ?_)
  · refine z_goto (pc := 561) (tgt := 1272) E dL_law_561 (by decide) ?_
    exact z_loc (lv' := [some (.ref b), some (.ref (ad G 14 0 0)), some (.ref (ad G 11 0 0)), some (.ref (ad G 21 0 0)), some (.int (nI (5 * c))), none, none, none, none]) rfl loc9 (z_widen (by omega) (by omega) (hK _ _ _ _ hI2))
  · refine z_aload_3 (pc := 549) E dL_law_549 ?_
    refine z_iconst (v := 0) (pc := 550) E dL_law_550 (by decide) ?_
    refine z_lald (pc := 551) E dL_law_551 ?_
    refine z_iload_6 (pc := 552) E dL_law_552 ?_
    refine z_i2l (pc := 554) E dL_law_554 ?_
    refine z_lcmp (pc := 555) E dL_law_555 ?_
    refine z_if_eq (pc := 556) (tgt := 561) E dL_law_556 (by decide) (fun h556 => ?_) (fun h556 => absurd h556 (fun z => z (cmp_e.mpr (by rw [hout h546]))))
    refine z_goto (pc := 561) (tgt := 1272) E dL_law_561 (by decide) ?_
    exact z_loc (lv' := [some (.ref b), some (.ref (ad G 14 0 0)), some (.ref (ad G 11 0 0)), some (.ref (ad G 21 0 0)), some (.int (nI (5 * c))), none, none, none, none]) rfl loc9 (z_widen (by omega) (by omega) (hK _ _ _ _ hI2))

set_option maxRecDepth 100000 in
set_option maxHeartbeats 4000000 in
theorem l_owes {X : PX} {G : GT} {Q : State → Prop} {b L c : Nat} {xs : Nat → Int32} {v5 v6 v7 v8 : Option Value} (E : EF X G cL_law 9 RL ret 11 601024 7293034) (hl0 : (xL X).stackTraces = false) (hX : va_X b L xs (xS X) (xS X).heap) (hbl : b < (xS X).heap.size) (hG : G.2.2 0 = (xS X).heap.size) (hL : L ≤ 2560) (hc5 : 5 * c + 5 ≤ L) {M : Mem} {n cN d : Nat} (hI : Inv2 M M n cN d c) (hK : LK X G Q b c) : Z X G (0, 0) Q 564 [some (.ref b), some (.ref (ad G 14 0 0)), some (.ref (ad G 11 0 0)), some (.ref (ad G 21 0 0)), some (.int (nI (5 * c))), v5, v6, v7, v8] [] M (154 + 20 * c) (2256 + 700 * c) := by
  have h40 := hI.2.2.2.2.2.1
  have h10 := hI.2.2.2.2.2.2.1
  have hn0 := hI.1.2.2.2.2.1
  have hc0 := hI.1.2.2.2.1
  have hd0 := hI.2.2.2.2.2.2.2.2.2.1
  have hdc := hI.2.2.2.2.2.2.2.2.2.2
  have hd30 : d < 2 ^ 30 := by omega
  have how0 := inv_how hI
  refine z_aload_1 (pc := 564) E dL_law_564 ?_
  refine z_aload_0 (pc := 565) E dL_law_565 ?_
  refine z_iload_4 (pc := 566) E dL_law_566 ?_
  refine z_iconst (v := 1) (pc := 568) E dL_law_568 (by decide) ?_
  refine z_iadd (pc := 569) E dL_law_569 ?_
  refine z_sld (j := 5 * c + 1) (pc := 570) E hX hbl hG dL_law_570 (nI_add (5 * c) 1) (by omega) hL ?_
  refine z_aload_3 (pc := 571) E dL_law_571 ?_
  refine z_wc (pc := 572) E hl0 (w_owes M n (xs (5 * c + 1)) hn0 h40) rfl rfl kL_owes mlL_102 dL_law_572 rfl (Nat.le_of_ble_eq_true rfl) rfl (by decide) (by decide) ⟨by omega, by omega⟩ (fun k9 M1 h1 => ?_)
  have hJ := inv2_k hI (EqA.refl M) (eb_owes (M := M) (M1 := M1) (k9 := k9) (n := n) (x := (xs (5 * c + 1))) (cN := cN) h1)
  have hn6 := hJ.1.2.2.2.2.2.1
  have hc6 := hJ.2.2.2.2.2.2.2.1
  have hd6 := hJ.1.1.symm.trans hd0
  have how6 := hJ.2.1.1
  have how10 := inv_how10 hJ
  have hf7 := fun t ht => rw_7 (t := t) hJ.2.2.2.2.1 ht
  have hp5 := inv_p hJ
  refine z_istore_5 (pc := 575) E dL_law_575 rfl ?_
  refine z_aload_2 (pc := 577) E dL_law_577 ?_
  refine z_aload_0 (pc := 578) E dL_law_578 ?_
  refine z_iload_4 (pc := 579) E dL_law_579 ?_
  refine z_iconst (v := 1) (pc := 581) E dL_law_581 (by decide) ?_
  refine z_iadd (pc := 582) E dL_law_582 ?_
  refine z_sld (j := 5 * c + 1) (pc := 583) E hX hbl hG dL_law_583 (nI_add (5 * c) 1) (by omega) hL ?_
  refine z_iv (pc := 584) E (m_X8_owes M1 n (xs (5 * c + 1)) hn6 h40) rfl rfl kX8_owes mlL_104 dL_law_584 ok11 rfl rfl rfl (Nat.le_of_ble_eq_true rfl) rfl (by decide) (by decide) ⟨by omega, by omega⟩ (fun _ _ _ => Or.inl rfl) (fun r M2 h2 => ?_)
  obtain ⟨⟨n2, cN2, d2, hI2⟩, hth, hout⟩ := st_owes (M := M) (M1 := M1) (M2 := M2) (k9 := k9) (r := r) (n := n) (cN := cN) (d := d) (x := (xs (5 * c + 1))) hI h1 h2
  refine z_istore_6 (pc := 587) E dL_law_587 rfl ?_
  refine z_aload_2 (pc := 589) E dL_law_589 ?_
  refine z_ivp (pc := 590) E (m_X8_thrown M2) rfl rfl kX8_thrown mlL_80 dL_law_590 ok11 rfl rfl rfl (Nat.le_of_ble_eq_true rfl) rfl (by decide) (by decide) ⟨by omega, by omega⟩ ?_
  refine z_iload_5 (pc := 593) E dL_law_593 ?_
  refine z_icmp_eq (pc := 595) (tgt := 600) E dL_law_595 (by decide) (fun h595 => ?_) (fun h595 => absurd h595 (fun z => z hth))
  refine z_iload_5 (pc := 600) E dL_law_600 ?_
  refine z_if_ne (pc := 602) (tgt := 617) E dL_law_602 (by decide) (fun h602 => ?_) (fun h602 => ?_)
  · refine z_goto (pc := 617) (tgt := 1272) E dL_law_617 (by decide) ?_
    exact z_loc (lv' := [some (.ref b), some (.ref (ad G 14 0 0)), some (.ref (ad G 11 0 0)), some (.ref (ad G 21 0 0)), some (.int (nI (5 * c))), none, none, none, none]) rfl loc9 (z_widen (by omega) (by omega) (hK _ _ _ _ hI2))
  · refine z_aload_3 (pc := 605) E dL_law_605 ?_
    refine z_iconst (v := 0) (pc := 606) E dL_law_606 (by decide) ?_
    refine z_lald (pc := 607) E dL_law_607 ?_
    refine z_iload_6 (pc := 608) E dL_law_608 ?_
    refine z_i2l (pc := 610) E dL_law_610 ?_
    refine z_lcmp (pc := 611) E dL_law_611 ?_
    refine z_if_eq (pc := 612) (tgt := 617) E dL_law_612 (by decide) (fun h612 => ?_) (fun h612 => absurd h612 (fun z => z (cmp_e.mpr (by rw [hout h602]))))
    refine z_goto (pc := 617) (tgt := 1272) E dL_law_617 (by decide) ?_
    exact z_loc (lv' := [some (.ref b), some (.ref (ad G 14 0 0)), some (.ref (ad G 11 0 0)), some (.ref (ad G 21 0 0)), some (.int (nI (5 * c))), none, none, none, none]) rfl loc9 (z_widen (by omega) (by omega) (hK _ _ _ _ hI2))

set_option maxRecDepth 100000 in
set_option maxHeartbeats 4000000 in
theorem l_renew {X : PX} {G : GT} {Q : State → Prop} {b L c : Nat} {xs : Nat → Int32} {v5 v6 v7 v8 : Option Value} (E : EF X G cL_law 9 RL ret 11 601024 7293034) (hl0 : (xL X).stackTraces = false) (hX : va_X b L xs (xS X) (xS X).heap) (hbl : b < (xS X).heap.size) (hG : G.2.2 0 = (xS X).heap.size) (hL : L ≤ 2560) (hc5 : 5 * c + 5 ≤ L) {M : Mem} {n cN d : Nat} (hI : Inv2 M M n cN d c) (hK : LK X G Q b c) : Z X G (0, 0) Q 620 [some (.ref b), some (.ref (ad G 14 0 0)), some (.ref (ad G 11 0 0)), some (.ref (ad G 21 0 0)), some (.int (nI (5 * c))), v5, v6, v7, v8] [] M (154 + 20 * c) (2256 + 700 * c) := by
  have h40 := hI.2.2.2.2.2.1
  have h10 := hI.2.2.2.2.2.2.1
  have hn0 := hI.1.2.2.2.2.1
  have hc0 := hI.1.2.2.2.1
  have hd0 := hI.2.2.2.2.2.2.2.2.2.1
  have hdc := hI.2.2.2.2.2.2.2.2.2.2
  have hd30 : d < 2 ^ 30 := by omega
  have how0 := inv_how hI
  refine z_aload_1 (pc := 620) E dL_law_620 ?_
  refine z_aload_0 (pc := 621) E dL_law_621 ?_
  refine z_iload_4 (pc := 622) E dL_law_622 ?_
  refine z_iconst (v := 1) (pc := 624) E dL_law_624 (by decide) ?_
  refine z_iadd (pc := 625) E dL_law_625 ?_
  refine z_sld (j := 5 * c + 1) (pc := 626) E hX hbl hG dL_law_626 (nI_add (5 * c) 1) (by omega) hL ?_
  refine z_aload_3 (pc := 627) E dL_law_627 ?_
  refine z_wc (pc := 628) E hl0 (w_renew M n cN (xs (5 * c + 1)) hn0 h40 hc0 h10 how0) rfl rfl kL_renew mlL_105 dL_law_628 rfl (Nat.le_of_ble_eq_true rfl) rfl (by decide) (by decide) ⟨by omega, by omega⟩ (fun k9 M1 h1 => ?_)
  have hJ := inv2_k hI (EqA.refl M) (eb_renew (M := M) (M1 := M1) (k9 := k9) (n := n) (cN := cN) (x := (xs (5 * c + 1))) h1)
  have hn6 := hJ.1.2.2.2.2.2.1
  have hc6 := hJ.2.2.2.2.2.2.2.1
  have hd6 := hJ.1.1.symm.trans hd0
  have how6 := hJ.2.1.1
  have how10 := inv_how10 hJ
  have hf7 := fun t ht => rw_7 (t := t) hJ.2.2.2.2.1 ht
  have hp5 := inv_p hJ
  refine z_istore_5 (pc := 631) E dL_law_631 rfl ?_
  refine z_aload_2 (pc := 633) E dL_law_633 ?_
  refine z_aload_0 (pc := 634) E dL_law_634 ?_
  refine z_iload_4 (pc := 635) E dL_law_635 ?_
  refine z_iconst (v := 1) (pc := 637) E dL_law_637 (by decide) ?_
  refine z_iadd (pc := 638) E dL_law_638 ?_
  refine z_sld (j := 5 * c + 1) (pc := 639) E hX hbl hG dL_law_639 (nI_add (5 * c) 1) (by omega) hL ?_
  refine z_iv (pc := 640) E (m_X8_renew M1 n cN (xs (5 * c + 1)) hn6 h40 hc6 h10 how6) rfl rfl kX8_renew mlL_107 dL_law_640 ok11 rfl rfl rfl (Nat.le_of_ble_eq_true rfl) rfl (by decide) (by decide) ⟨by omega, by omega⟩ (fun _ _ _ => Or.inl rfl) (fun r M2 h2 => ?_)
  obtain ⟨⟨n2, cN2, d2, hI2⟩, hth, hout⟩ := st_renew (M := M) (M1 := M1) (M2 := M2) (k9 := k9) (r := r) (n := n) (cN := cN) (d := d) (x := (xs (5 * c + 1))) hI h1 h2
  refine z_istore_6 (pc := 643) E dL_law_643 rfl ?_
  refine z_aload_2 (pc := 645) E dL_law_645 ?_
  refine z_ivp (pc := 646) E (m_X8_thrown M2) rfl rfl kX8_thrown mlL_80 dL_law_646 ok11 rfl rfl rfl (Nat.le_of_ble_eq_true rfl) rfl (by decide) (by decide) ⟨by omega, by omega⟩ ?_
  refine z_iload_5 (pc := 649) E dL_law_649 ?_
  refine z_icmp_eq (pc := 651) (tgt := 656) E dL_law_651 (by decide) (fun h651 => ?_) (fun h651 => absurd h651 (fun z => z hth))
  refine z_iload_5 (pc := 656) E dL_law_656 ?_
  refine z_if_ne (pc := 658) (tgt := 673) E dL_law_658 (by decide) (fun h658 => ?_) (fun h658 => ?_)
  · refine z_goto (pc := 673) (tgt := 1272) E dL_law_673 (by decide) ?_
    exact z_loc (lv' := [some (.ref b), some (.ref (ad G 14 0 0)), some (.ref (ad G 11 0 0)), some (.ref (ad G 21 0 0)), some (.int (nI (5 * c))), none, none, none, none]) rfl loc9 (z_widen (by omega) (by omega) (hK _ _ _ _ hI2))
  · refine z_aload_3 (pc := 661) E dL_law_661 ?_
    refine z_iconst (v := 0) (pc := 662) E dL_law_662 (by decide) ?_
    refine z_lald (pc := 663) E dL_law_663 ?_
    refine z_iload_6 (pc := 664) E dL_law_664 ?_
    refine z_i2l (pc := 666) E dL_law_666 ?_
    refine z_lcmp (pc := 667) E dL_law_667 ?_
    refine z_if_eq (pc := 668) (tgt := 673) E dL_law_668 (by decide) (fun h668 => ?_) (fun h668 => absurd h668 (fun z => z (cmp_e.mpr (by rw [hout h658]))))
    refine z_goto (pc := 673) (tgt := 1272) E dL_law_673 (by decide) ?_
    exact z_loc (lv' := [some (.ref b), some (.ref (ad G 14 0 0)), some (.ref (ad G 11 0 0)), some (.ref (ad G 21 0 0)), some (.int (nI (5 * c))), none, none, none, none]) rfl loc9 (z_widen (by omega) (by omega) (hK _ _ _ _ hI2))

set_option maxRecDepth 100000 in
set_option maxHeartbeats 4000000 in
theorem l_fetch {X : PX} {G : GT} {Q : State → Prop} {b L c : Nat} {xs : Nat → Int32} {v5 v6 v7 v8 : Option Value} (E : EF X G cL_law 9 RL ret 11 601024 7293034) (hl0 : (xL X).stackTraces = false) (hX : va_X b L xs (xS X) (xS X).heap) (hbl : b < (xS X).heap.size) (hG : G.2.2 0 = (xS X).heap.size) (hL : L ≤ 2560) (hc5 : 5 * c + 5 ≤ L) {M : Mem} {n cN d : Nat} (hI : Inv2 M M n cN d c) (hK : LK X G Q b c) : Z X G (0, 0) Q 676 [some (.ref b), some (.ref (ad G 14 0 0)), some (.ref (ad G 11 0 0)), some (.ref (ad G 21 0 0)), some (.int (nI (5 * c))), v5, v6, v7, v8] [] M (154 + 20 * c) (2256 + 700 * c) := by
  have h40 := hI.2.2.2.2.2.1
  have h10 := hI.2.2.2.2.2.2.1
  have hn0 := hI.1.2.2.2.2.1
  have hc0 := hI.1.2.2.2.1
  have hd0 := hI.2.2.2.2.2.2.2.2.2.1
  have hdc := hI.2.2.2.2.2.2.2.2.2.2
  have hd30 : d < 2 ^ 30 := by omega
  have how0 := inv_how hI
  refine z_aload_1 (pc := 676) E dL_law_676 ?_
  refine z_aload_0 (pc := 677) E dL_law_677 ?_
  refine z_iload_4 (pc := 678) E dL_law_678 ?_
  refine z_iconst (v := 1) (pc := 680) E dL_law_680 (by decide) ?_
  refine z_iadd (pc := 681) E dL_law_681 ?_
  refine z_sld (j := 5 * c + 1) (pc := 682) E hX hbl hG dL_law_682 (nI_add (5 * c) 1) (by omega) hL ?_
  refine z_aload_3 (pc := 683) E dL_law_683 ?_
  refine z_wc (pc := 684) E hl0 (w_fetch M n cN (xs (5 * c + 1)) hn0 h40 hc0 h10 how0) rfl rfl kL_fetch mlL_108 dL_law_684 rfl (Nat.le_of_ble_eq_true rfl) rfl (by decide) (by decide) ⟨by omega, by omega⟩ (fun k9 M1 h1 => ?_)
  have hJ := inv2_k hI (EqA.refl M) (eb_fetch (M := M) (M1 := M1) (k9 := k9) (n := n) (cN := cN) (x := (xs (5 * c + 1))) h1)
  have hn6 := hJ.1.2.2.2.2.2.1
  have hc6 := hJ.2.2.2.2.2.2.2.1
  have hd6 := hJ.1.1.symm.trans hd0
  have how6 := hJ.2.1.1
  have how10 := inv_how10 hJ
  have hf7 := fun t ht => rw_7 (t := t) hJ.2.2.2.2.1 ht
  have hp5 := inv_p hJ
  refine z_istore_5 (pc := 687) E dL_law_687 rfl ?_
  refine z_aload_2 (pc := 689) E dL_law_689 ?_
  refine z_aload_0 (pc := 690) E dL_law_690 ?_
  refine z_iload_4 (pc := 691) E dL_law_691 ?_
  refine z_iconst (v := 1) (pc := 693) E dL_law_693 (by decide) ?_
  refine z_iadd (pc := 694) E dL_law_694 ?_
  refine z_sld (j := 5 * c + 1) (pc := 695) E hX hbl hG dL_law_695 (nI_add (5 * c) 1) (by omega) hL ?_
  refine z_iv (pc := 696) E (m_X8_fetch M1 n cN (xs (5 * c + 1)) hn6 h40 hc6 h10 how6) rfl rfl kX8_fetch mlL_110 dL_law_696 ok11 rfl rfl rfl (Nat.le_of_ble_eq_true rfl) rfl (by decide) (by decide) ⟨by omega, by omega⟩ (fun _ _ _ => Or.inl rfl) (fun r M2 h2 => ?_)
  obtain ⟨⟨n2, cN2, d2, hI2⟩, hth, hout⟩ := st_fetch (M := M) (M1 := M1) (M2 := M2) (k9 := k9) (r := r) (n := n) (cN := cN) (d := d) (x := (xs (5 * c + 1))) hI h1 h2
  refine z_istore_6 (pc := 699) E dL_law_699 rfl ?_
  refine z_aload_2 (pc := 701) E dL_law_701 ?_
  refine z_ivp (pc := 702) E (m_X8_thrown M2) rfl rfl kX8_thrown mlL_80 dL_law_702 ok11 rfl rfl rfl (Nat.le_of_ble_eq_true rfl) rfl (by decide) (by decide) ⟨by omega, by omega⟩ ?_
  refine z_iload_5 (pc := 705) E dL_law_705 ?_
  refine z_icmp_eq (pc := 707) (tgt := 712) E dL_law_707 (by decide) (fun h707 => ?_) (fun h707 => absurd h707 (fun z => z hth))
  refine z_iload_5 (pc := 712) E dL_law_712 ?_
  refine z_if_ne (pc := 714) (tgt := 729) E dL_law_714 (by decide) (fun h714 => ?_) (fun h714 => ?_)
  · refine z_goto (pc := 729) (tgt := 1272) E dL_law_729 (by decide) ?_
    exact z_loc (lv' := [some (.ref b), some (.ref (ad G 14 0 0)), some (.ref (ad G 11 0 0)), some (.ref (ad G 21 0 0)), some (.int (nI (5 * c))), none, none, none, none]) rfl loc9 (z_widen (by omega) (by omega) (hK _ _ _ _ hI2))
  · refine z_aload_3 (pc := 717) E dL_law_717 ?_
    refine z_iconst (v := 0) (pc := 718) E dL_law_718 (by decide) ?_
    refine z_lald (pc := 719) E dL_law_719 ?_
    refine z_iload_6 (pc := 720) E dL_law_720 ?_
    refine z_i2l (pc := 722) E dL_law_722 ?_
    refine z_lcmp (pc := 723) E dL_law_723 ?_
    refine z_if_eq (pc := 724) (tgt := 729) E dL_law_724 (by decide) (fun h724 => ?_) (fun h724 => absurd h724 (fun z => z (cmp_e.mpr (by rw [hout h714]))))
    refine z_goto (pc := 729) (tgt := 1272) E dL_law_729 (by decide) ?_
    exact z_loc (lv' := [some (.ref b), some (.ref (ad G 14 0 0)), some (.ref (ad G 11 0 0)), some (.ref (ad G 21 0 0)), some (.int (nI (5 * c))), none, none, none, none]) rfl loc9 (z_widen (by omega) (by omega) (hK _ _ _ _ hI2))

set_option maxRecDepth 100000 in
set_option maxHeartbeats 4000000 in
theorem l_at {X : PX} {G : GT} {Q : State → Prop} {b L c : Nat} {xs : Nat → Int32} {v5 v6 v7 v8 : Option Value} (E : EF X G cL_law 9 RL ret 11 601024 7293034) (hl0 : (xL X).stackTraces = false) (hX : va_X b L xs (xS X) (xS X).heap) (hbl : b < (xS X).heap.size) (hG : G.2.2 0 = (xS X).heap.size) (hL : L ≤ 2560) (hc5 : 5 * c + 5 ≤ L) {M : Mem} {n cN d : Nat} (hI : Inv2 M M n cN d c) (hK : LK X G Q b c) : Z X G (0, 0) Q 732 [some (.ref b), some (.ref (ad G 14 0 0)), some (.ref (ad G 11 0 0)), some (.ref (ad G 21 0 0)), some (.int (nI (5 * c))), v5, v6, v7, v8] [] M (154 + 20 * c) (2256 + 700 * c) := by
  have h40 := hI.2.2.2.2.2.1
  have h10 := hI.2.2.2.2.2.2.1
  have hn0 := hI.1.2.2.2.2.1
  have hc0 := hI.1.2.2.2.1
  have hd0 := hI.2.2.2.2.2.2.2.2.2.1
  have hdc := hI.2.2.2.2.2.2.2.2.2.2
  have hd30 : d < 2 ^ 30 := by omega
  have how0 := inv_how hI
  refine z_aload_1 (pc := 732) E dL_law_732 ?_
  refine z_aload_0 (pc := 733) E dL_law_733 ?_
  refine z_iload_4 (pc := 734) E dL_law_734 ?_
  refine z_iconst (v := 1) (pc := 736) E dL_law_736 (by decide) ?_
  refine z_iadd (pc := 737) E dL_law_737 ?_
  refine z_sld (j := 5 * c + 1) (pc := 738) E hX hbl hG dL_law_738 (nI_add (5 * c) 1) (by omega) hL ?_
  refine z_aload_0 (pc := 739) E dL_law_739 ?_
  refine z_iload_4 (pc := 740) E dL_law_740 ?_
  refine z_iconst (v := 2) (pc := 742) E dL_law_742 (by decide) ?_
  refine z_iadd (pc := 743) E dL_law_743 ?_
  refine z_sld (j := 5 * c + 2) (pc := 744) E hX hbl hG dL_law_744 (nI_add (5 * c) 2) (by omega) hL ?_
  refine z_aload_3 (pc := 745) E dL_law_745 ?_
  refine z_wc (pc := 746) E hl0 (w_at M (xs (5 * c + 1)) (xs (5 * c + 2))) rfl rfl kL_at mlL_111 dL_law_746 rfl (Nat.le_of_ble_eq_true rfl) rfl (by decide) (by decide) ⟨by omega, by omega⟩ (fun k9 M1 h1 => ?_)
  have hJ := inv2_k hI (EqA.refl M) (eb_at (M := M) (M1 := M1) (k9 := k9) (sh := (xs (5 * c + 1))) (pl := (xs (5 * c + 2))) (n := n) (cN := cN) h1)
  have hn6 := hJ.1.2.2.2.2.2.1
  have hc6 := hJ.2.2.2.2.2.2.2.1
  have hd6 := hJ.1.1.symm.trans hd0
  have how6 := hJ.2.1.1
  have how10 := inv_how10 hJ
  have hf7 := fun t ht => rw_7 (t := t) hJ.2.2.2.2.1 ht
  have hp5 := inv_p hJ
  refine z_istore_5 (pc := 749) E dL_law_749 rfl ?_
  refine z_aload_2 (pc := 751) E dL_law_751 ?_
  refine z_aload_0 (pc := 752) E dL_law_752 ?_
  refine z_iload_4 (pc := 753) E dL_law_753 ?_
  refine z_iconst (v := 1) (pc := 755) E dL_law_755 (by decide) ?_
  refine z_iadd (pc := 756) E dL_law_756 ?_
  refine z_sld (j := 5 * c + 1) (pc := 757) E hX hbl hG dL_law_757 (nI_add (5 * c) 1) (by omega) hL ?_
  refine z_aload_0 (pc := 758) E dL_law_758 ?_
  refine z_iload_4 (pc := 759) E dL_law_759 ?_
  refine z_iconst (v := 2) (pc := 761) E dL_law_761 (by decide) ?_
  refine z_iadd (pc := 762) E dL_law_762 ?_
  refine z_sld (j := 5 * c + 2) (pc := 763) E hX hbl hG dL_law_763 (nI_add (5 * c) 2) (by omega) hL ?_
  refine z_iv (pc := 764) E (m_X8_at M1 (xs (5 * c + 1)) (xs (5 * c + 2))) rfl rfl kX8_at mlL_113 dL_law_764 ok11 rfl rfl rfl (Nat.le_of_ble_eq_true rfl) rfl (by decide) (by decide) ⟨by omega, by omega⟩ (fun _ _ _ => Or.inl rfl) (fun r M2 h2 => ?_)
  obtain ⟨⟨n2, cN2, d2, hI2⟩, hth, hout⟩ := st_at (M := M) (M1 := M1) (M2 := M2) (k9 := k9) (r := r) (n := n) (cN := cN) (d := d) (sh := (xs (5 * c + 1))) (pl := (xs (5 * c + 2))) hI h1 h2
  refine z_istore_6 (pc := 767) E dL_law_767 rfl ?_
  refine z_aload_2 (pc := 769) E dL_law_769 ?_
  refine z_ivp (pc := 770) E (m_X8_thrown M2) rfl rfl kX8_thrown mlL_80 dL_law_770 ok11 rfl rfl rfl (Nat.le_of_ble_eq_true rfl) rfl (by decide) (by decide) ⟨by omega, by omega⟩ ?_
  refine z_iload_5 (pc := 773) E dL_law_773 ?_
  refine z_icmp_eq (pc := 775) (tgt := 780) E dL_law_775 (by decide) (fun h775 => ?_) (fun h775 => absurd h775 (fun z => z hth))
  refine z_iload_5 (pc := 780) E dL_law_780 ?_
  refine z_if_ne (pc := 782) (tgt := 797) E dL_law_782 (by decide) (fun h782 => ?_) (fun h782 => ?_)
  · refine z_goto (pc := 797) (tgt := 1272) E dL_law_797 (by decide) ?_
    exact z_loc (lv' := [some (.ref b), some (.ref (ad G 14 0 0)), some (.ref (ad G 11 0 0)), some (.ref (ad G 21 0 0)), some (.int (nI (5 * c))), none, none, none, none]) rfl loc9 (z_widen (by omega) (by omega) (hK _ _ _ _ hI2))
  · refine z_aload_3 (pc := 785) E dL_law_785 ?_
    refine z_iconst (v := 0) (pc := 786) E dL_law_786 (by decide) ?_
    refine z_lald (pc := 787) E dL_law_787 ?_
    refine z_iload_6 (pc := 788) E dL_law_788 ?_
    refine z_i2l (pc := 790) E dL_law_790 ?_
    refine z_lcmp (pc := 791) E dL_law_791 ?_
    refine z_if_eq (pc := 792) (tgt := 797) E dL_law_792 (by decide) (fun h792 => ?_) (fun h792 => absurd h792 (fun z => z (cmp_e.mpr (by rw [hout h782]))))
    refine z_goto (pc := 797) (tgt := 1272) E dL_law_797 (by decide) ?_
    exact z_loc (lv' := [some (.ref b), some (.ref (ad G 14 0 0)), some (.ref (ad G 11 0 0)), some (.ref (ad G 21 0 0)), some (.int (nI (5 * c))), none, none, none, none]) rfl loc9 (z_widen (by omega) (by omega) (hK _ _ _ _ hI2))

set_option maxRecDepth 100000 in
set_option maxHeartbeats 4000000 in
theorem l_room {X : PX} {G : GT} {Q : State → Prop} {b L c : Nat} {xs : Nat → Int32} {v5 v6 v7 v8 : Option Value} (E : EF X G cL_law 9 RL ret 11 601024 7293034) (hl0 : (xL X).stackTraces = false) (hX : va_X b L xs (xS X) (xS X).heap) (hbl : b < (xS X).heap.size) (hG : G.2.2 0 = (xS X).heap.size) (hL : L ≤ 2560) (hc5 : 5 * c + 5 ≤ L) {M : Mem} {n cN d : Nat} (hI : Inv2 M M n cN d c) (hK : LK X G Q b c) : Z X G (0, 0) Q 800 [some (.ref b), some (.ref (ad G 14 0 0)), some (.ref (ad G 11 0 0)), some (.ref (ad G 21 0 0)), some (.int (nI (5 * c))), v5, v6, v7, v8] [] M (154 + 20 * c) (2256 + 700 * c) := by
  have h40 := hI.2.2.2.2.2.1
  have h10 := hI.2.2.2.2.2.2.1
  have hn0 := hI.1.2.2.2.2.1
  have hc0 := hI.1.2.2.2.1
  have hd0 := hI.2.2.2.2.2.2.2.2.2.1
  have hdc := hI.2.2.2.2.2.2.2.2.2.2
  have hd30 : d < 2 ^ 30 := by omega
  have how0 := inv_how hI
  refine z_aload_1 (pc := 800) E dL_law_800 ?_
  refine z_aload_0 (pc := 801) E dL_law_801 ?_
  refine z_iload_4 (pc := 802) E dL_law_802 ?_
  refine z_iconst (v := 1) (pc := 804) E dL_law_804 (by decide) ?_
  refine z_iadd (pc := 805) E dL_law_805 ?_
  refine z_sld (j := 5 * c + 1) (pc := 806) E hX hbl hG dL_law_806 (nI_add (5 * c) 1) (by omega) hL ?_
  refine z_aload_3 (pc := 807) E dL_law_807 ?_
  refine z_wc (pc := 808) E hl0 (w_room M (xs (5 * c + 1))) rfl rfl kL_room mlL_114 dL_law_808 rfl (Nat.le_of_ble_eq_true rfl) rfl (by decide) (by decide) ⟨by omega, by omega⟩ (fun k9 M1 h1 => ?_)
  have hJ := inv2_k hI (EqA.refl M) (eb_room (M := M) (M1 := M1) (k9 := k9) (w := (xs (5 * c + 1))) (n := n) (cN := cN) h1)
  have hn6 := hJ.1.2.2.2.2.2.1
  have hc6 := hJ.2.2.2.2.2.2.2.1
  have hd6 := hJ.1.1.symm.trans hd0
  have how6 := hJ.2.1.1
  have how10 := inv_how10 hJ
  have hf7 := fun t ht => rw_7 (t := t) hJ.2.2.2.2.1 ht
  have hp5 := inv_p hJ
  refine z_istore_5 (pc := 811) E dL_law_811 rfl ?_
  refine z_aload_2 (pc := 813) E dL_law_813 ?_
  refine z_aload_0 (pc := 814) E dL_law_814 ?_
  refine z_iload_4 (pc := 815) E dL_law_815 ?_
  refine z_iconst (v := 1) (pc := 817) E dL_law_817 (by decide) ?_
  refine z_iadd (pc := 818) E dL_law_818 ?_
  refine z_sld (j := 5 * c + 1) (pc := 819) E hX hbl hG dL_law_819 (nI_add (5 * c) 1) (by omega) hL ?_
  refine z_iv (pc := 820) E (m_X8_room M1 (xs (5 * c + 1))) rfl rfl kX8_room mlL_116 dL_law_820 ok11 rfl rfl rfl (Nat.le_of_ble_eq_true rfl) rfl (by decide) (by decide) ⟨by omega, by omega⟩ (fun _ _ _ => Or.inl rfl) (fun r M2 h2 => ?_)
  obtain ⟨⟨n2, cN2, d2, hI2⟩, hth, hout⟩ := st_room (M := M) (M1 := M1) (M2 := M2) (k9 := k9) (r := r) (n := n) (cN := cN) (d := d) (w := (xs (5 * c + 1))) hI h1 h2
  refine z_istore_6 (pc := 823) E dL_law_823 rfl ?_
  refine z_aload_2 (pc := 825) E dL_law_825 ?_
  refine z_ivp (pc := 826) E (m_X8_thrown M2) rfl rfl kX8_thrown mlL_80 dL_law_826 ok11 rfl rfl rfl (Nat.le_of_ble_eq_true rfl) rfl (by decide) (by decide) ⟨by omega, by omega⟩ ?_
  refine z_iload_5 (pc := 829) E dL_law_829 ?_
  refine z_icmp_eq (pc := 831) (tgt := 836) E dL_law_831 (by decide) (fun h831 => ?_) (fun h831 => absurd h831 (fun z => z hth))
  refine z_iload_5 (pc := 836) E dL_law_836 ?_
  refine z_if_ne (pc := 838) (tgt := 853) E dL_law_838 (by decide) (fun h838 => ?_) (fun h838 => ?_)
  · refine z_goto (pc := 853) (tgt := 1272) E dL_law_853 (by decide) ?_
    exact z_loc (lv' := [some (.ref b), some (.ref (ad G 14 0 0)), some (.ref (ad G 11 0 0)), some (.ref (ad G 21 0 0)), some (.int (nI (5 * c))), none, none, none, none]) rfl loc9 (z_widen (by omega) (by omega) (hK _ _ _ _ hI2))
  · refine z_aload_3 (pc := 841) E dL_law_841 ?_
    refine z_iconst (v := 0) (pc := 842) E dL_law_842 (by decide) ?_
    refine z_lald (pc := 843) E dL_law_843 ?_
    refine z_iload_6 (pc := 844) E dL_law_844 ?_
    refine z_i2l (pc := 846) E dL_law_846 ?_
    refine z_lcmp (pc := 847) E dL_law_847 ?_
    refine z_if_eq (pc := 848) (tgt := 853) E dL_law_848 (by decide) (fun h848 => ?_) (fun h848 => absurd h848 (fun z => z (cmp_e.mpr (by rw [hout h838]))))
    refine z_goto (pc := 853) (tgt := 1272) E dL_law_853 (by decide) ?_
    exact z_loc (lv' := [some (.ref b), some (.ref (ad G 14 0 0)), some (.ref (ad G 11 0 0)), some (.ref (ad G 21 0 0)), some (.int (nI (5 * c))), none, none, none, none]) rfl loc9 (z_widen (by omega) (by omega) (hK _ _ _ _ hI2))

set_option maxRecDepth 100000 in
set_option maxHeartbeats 4000000 in
theorem l_pass {X : PX} {G : GT} {Q : State → Prop} {b L c : Nat} {xs : Nat → Int32} {v5 v6 v7 v8 : Option Value} (E : EF X G cL_law 9 RL ret 11 601024 7293034) (hl0 : (xL X).stackTraces = false) (hX : va_X b L xs (xS X) (xS X).heap) (hbl : b < (xS X).heap.size) (hG : G.2.2 0 = (xS X).heap.size) (hL : L ≤ 2560) (hc5 : 5 * c + 5 ≤ L) {M : Mem} {n cN d : Nat} (hI : Inv2 M M n cN d c) (hK : LK X G Q b c) : Z X G (0, 0) Q 869 [some (.ref b), some (.ref (ad G 14 0 0)), some (.ref (ad G 11 0 0)), some (.ref (ad G 21 0 0)), some (.int (nI (5 * c))), v5, v6, v7, v8] [] M (154 + 20 * c) (2256 + 700 * c) := by
  have h40 := hI.2.2.2.2.2.1
  have h10 := hI.2.2.2.2.2.2.1
  have hn0 := hI.1.2.2.2.2.1
  have hc0 := hI.1.2.2.2.1
  have hd0 := hI.2.2.2.2.2.2.2.2.2.1
  have hdc := hI.2.2.2.2.2.2.2.2.2.2
  have hd30 : d < 2 ^ 30 := by omega
  have how0 := inv_how hI
  refine z_aload_1 (pc := 869) E dL_law_869 ?_
  refine z_aload_0 (pc := 870) E dL_law_870 ?_
  refine z_iload_4 (pc := 871) E dL_law_871 ?_
  refine z_iconst (v := 1) (pc := 873) E dL_law_873 (by decide) ?_
  refine z_iadd (pc := 874) E dL_law_874 ?_
  refine z_sld (j := 5 * c + 1) (pc := 875) E hX hbl hG dL_law_875 (nI_add (5 * c) 1) (by omega) hL ?_
  refine z_aload_3 (pc := 876) E dL_law_876 ?_
  refine z_wc (pc := 877) E hl0 (w_pass M n cN d (xs (5 * c + 1)) hn0 h40 hc0 h10 how0 hd0 hd30) rfl rfl kL_pass mlL_121 dL_law_877 rfl (Nat.le_of_ble_eq_true rfl) rfl (by decide) (by decide) ⟨by omega, by omega⟩ (fun k9 M1 h1 => ?_)
  have hJ := inv2_k hI (EqA.refl M) (eb_pass (M := M) (M1 := M1) (k9 := k9) (n := n) (x := (xs (5 * c + 1))) (cN := cN) h1)
  have hn6 := hJ.1.2.2.2.2.2.1
  have hc6 := hJ.2.2.2.2.2.2.2.1
  have hd6 := hJ.1.1.symm.trans hd0
  have how6 := hJ.2.1.1
  have how10 := inv_how10 hJ
  have hf7 := fun t ht => rw_7 (t := t) hJ.2.2.2.2.1 ht
  have hp5 := inv_p hJ
  refine z_istore_5 (pc := 880) E dL_law_880 rfl ?_
  refine z_aload_2 (pc := 882) E dL_law_882 ?_
  refine z_aload_0 (pc := 883) E dL_law_883 ?_
  refine z_iload_4 (pc := 884) E dL_law_884 ?_
  refine z_iconst (v := 1) (pc := 886) E dL_law_886 (by decide) ?_
  refine z_iadd (pc := 887) E dL_law_887 ?_
  refine z_sld (j := 5 * c + 1) (pc := 888) E hX hbl hG dL_law_888 (nI_add (5 * c) 1) (by omega) hL ?_
  refine z_iv (pc := 889) E (m_X8_pass M1 n d (xs (5 * c + 1)) hn6 h40 hd6 hd30 how10) rfl rfl kX8_pass mlL_123 dL_law_889 ok11 rfl rfl rfl (Nat.le_of_ble_eq_true rfl) rfl (by decide) (by decide) ⟨by omega, by omega⟩ (fun _ _ _ => Or.inl rfl) (fun r M2 h2 => ?_)
  obtain ⟨⟨n2, cN2, d2, hI2⟩, hth, hout⟩ := st_pass (M := M) (M1 := M1) (M2 := M2) (k9 := k9) (r := r) (n := n) (cN := cN) (d := d) (x := (xs (5 * c + 1))) hI h1 h2
  refine z_istore_6 (pc := 892) E dL_law_892 rfl ?_
  refine z_aload_2 (pc := 894) E dL_law_894 ?_
  refine z_ivp (pc := 895) E (m_X8_thrown M2) rfl rfl kX8_thrown mlL_80 dL_law_895 ok11 rfl rfl rfl (Nat.le_of_ble_eq_true rfl) rfl (by decide) (by decide) ⟨by omega, by omega⟩ ?_
  refine z_iload_5 (pc := 898) E dL_law_898 ?_
  refine z_icmp_eq (pc := 900) (tgt := 905) E dL_law_900 (by decide) (fun h900 => ?_) (fun h900 => absurd h900 (fun z => z hth))
  refine z_iload_5 (pc := 905) E dL_law_905 ?_
  refine z_if_ne (pc := 907) (tgt := 922) E dL_law_907 (by decide) (fun h907 => ?_) (fun h907 => ?_)
  · refine z_goto (pc := 922) (tgt := 1272) E dL_law_922 (by decide) ?_
    exact z_loc (lv' := [some (.ref b), some (.ref (ad G 14 0 0)), some (.ref (ad G 11 0 0)), some (.ref (ad G 21 0 0)), some (.int (nI (5 * c))), none, none, none, none]) rfl loc9 (z_widen (by omega) (by omega) (hK _ _ _ _ hI2))
  · refine z_aload_3 (pc := 910) E dL_law_910 ?_
    refine z_iconst (v := 0) (pc := 911) E dL_law_911 (by decide) ?_
    refine z_lald (pc := 912) E dL_law_912 ?_
    refine z_iload_6 (pc := 913) E dL_law_913 ?_
    refine z_i2l (pc := 915) E dL_law_915 ?_
    refine z_lcmp (pc := 916) E dL_law_916 ?_
    refine z_if_eq (pc := 917) (tgt := 922) E dL_law_917 (by decide) (fun h917 => ?_) (fun h917 => absurd h917 (fun z => z (cmp_e.mpr (by rw [hout h907]))))
    refine z_goto (pc := 922) (tgt := 1272) E dL_law_922 (by decide) ?_
    exact z_loc (lv' := [some (.ref b), some (.ref (ad G 14 0 0)), some (.ref (ad G 11 0 0)), some (.ref (ad G 21 0 0)), some (.int (nI (5 * c))), none, none, none, none]) rfl loc9 (z_widen (by omega) (by omega) (hK _ _ _ _ hI2))

set_option maxRecDepth 100000 in
set_option maxHeartbeats 4000000 in
theorem l_count {X : PX} {G : GT} {Q : State → Prop} {b L c : Nat} {xs : Nat → Int32} {v5 v6 v7 v8 : Option Value} (E : EF X G cL_law 9 RL ret 11 601024 7293034) (hl0 : (xL X).stackTraces = false) (hX : va_X b L xs (xS X) (xS X).heap) (hbl : b < (xS X).heap.size) (hG : G.2.2 0 = (xS X).heap.size) (hL : L ≤ 2560) (hc5 : 5 * c + 5 ≤ L) {M : Mem} {n cN d : Nat} (hI : Inv2 M M n cN d c) (hK : LK X G Q b c) : Z X G (0, 0) Q 925 [some (.ref b), some (.ref (ad G 14 0 0)), some (.ref (ad G 11 0 0)), some (.ref (ad G 21 0 0)), some (.int (nI (5 * c))), v5, v6, v7, v8] [] M (154 + 20 * c) (2256 + 700 * c) := by
  have h40 := hI.2.2.2.2.2.1
  have h10 := hI.2.2.2.2.2.2.1
  have hn0 := hI.1.2.2.2.2.1
  have hc0 := hI.1.2.2.2.1
  have hd0 := hI.2.2.2.2.2.2.2.2.2.1
  have hdc := hI.2.2.2.2.2.2.2.2.2.2
  have hd30 : d < 2 ^ 30 := by omega
  have how0 := inv_how hI
  refine z_aload_1 (pc := 925) E dL_law_925 ?_
  refine z_aload_0 (pc := 926) E dL_law_926 ?_
  refine z_iload_4 (pc := 927) E dL_law_927 ?_
  refine z_iconst (v := 1) (pc := 929) E dL_law_929 (by decide) ?_
  refine z_iadd (pc := 930) E dL_law_930 ?_
  refine z_sld (j := 5 * c + 1) (pc := 931) E hX hbl hG dL_law_931 (nI_add (5 * c) 1) (by omega) hL ?_
  refine z_aload_3 (pc := 932) E dL_law_932 ?_
  refine z_wc (pc := 933) E hl0 (w_count M n (xs (5 * c + 1)) hn0 h40) rfl rfl kL_count mlL_124 dL_law_933 rfl (Nat.le_of_ble_eq_true rfl) rfl (by decide) (by decide) ⟨by omega, by omega⟩ (fun k9 M1 h1 => ?_)
  have hJ := inv2_k hI (EqA.refl M) (eb_count (M := M) (M1 := M1) (k9 := k9) (n := n) (w := (xs (5 * c + 1))) (cN := cN) h1)
  have hn6 := hJ.1.2.2.2.2.2.1
  have hc6 := hJ.2.2.2.2.2.2.2.1
  have hd6 := hJ.1.1.symm.trans hd0
  have how6 := hJ.2.1.1
  have how10 := inv_how10 hJ
  have hf7 := fun t ht => rw_7 (t := t) hJ.2.2.2.2.1 ht
  have hp5 := inv_p hJ
  refine z_istore_5 (pc := 936) E dL_law_936 rfl ?_
  refine z_aload_2 (pc := 938) E dL_law_938 ?_
  refine z_aload_0 (pc := 939) E dL_law_939 ?_
  refine z_iload_4 (pc := 940) E dL_law_940 ?_
  refine z_iconst (v := 1) (pc := 942) E dL_law_942 (by decide) ?_
  refine z_iadd (pc := 943) E dL_law_943 ?_
  refine z_sld (j := 5 * c + 1) (pc := 944) E hX hbl hG dL_law_944 (nI_add (5 * c) 1) (by omega) hL ?_
  refine z_iv (pc := 945) E (m_X8_count M1 n (xs (5 * c + 1)) hn6 h40) rfl rfl kX8_count mlL_126 dL_law_945 ok11 rfl rfl rfl (Nat.le_of_ble_eq_true rfl) rfl (by decide) (by decide) ⟨by omega, by omega⟩ (fun _ _ _ => Or.inl rfl) (fun r M2 h2 => ?_)
  obtain ⟨⟨n2, cN2, d2, hI2⟩, hth, hout⟩ := st_count (M := M) (M1 := M1) (M2 := M2) (k9 := k9) (r := r) (n := n) (cN := cN) (d := d) (w := (xs (5 * c + 1))) hI h1 h2
  refine z_istore_6 (pc := 948) E dL_law_948 rfl ?_
  refine z_aload_2 (pc := 950) E dL_law_950 ?_
  refine z_ivp (pc := 951) E (m_X8_thrown M2) rfl rfl kX8_thrown mlL_80 dL_law_951 ok11 rfl rfl rfl (Nat.le_of_ble_eq_true rfl) rfl (by decide) (by decide) ⟨by omega, by omega⟩ ?_
  refine z_iload_5 (pc := 954) E dL_law_954 ?_
  refine z_icmp_eq (pc := 956) (tgt := 961) E dL_law_956 (by decide) (fun h956 => ?_) (fun h956 => absurd h956 (fun z => z hth))
  refine z_iload_5 (pc := 961) E dL_law_961 ?_
  refine z_if_ne (pc := 963) (tgt := 978) E dL_law_963 (by decide) (fun h963 => ?_) (fun h963 => ?_)
  · refine z_goto (pc := 978) (tgt := 1272) E dL_law_978 (by decide) ?_
    exact z_loc (lv' := [some (.ref b), some (.ref (ad G 14 0 0)), some (.ref (ad G 11 0 0)), some (.ref (ad G 21 0 0)), some (.int (nI (5 * c))), none, none, none, none]) rfl loc9 (z_widen (by omega) (by omega) (hK _ _ _ _ hI2))
  · refine z_aload_3 (pc := 966) E dL_law_966 ?_
    refine z_iconst (v := 0) (pc := 967) E dL_law_967 (by decide) ?_
    refine z_lald (pc := 968) E dL_law_968 ?_
    refine z_iload_6 (pc := 969) E dL_law_969 ?_
    refine z_i2l (pc := 971) E dL_law_971 ?_
    refine z_lcmp (pc := 972) E dL_law_972 ?_
    refine z_if_eq (pc := 973) (tgt := 978) E dL_law_973 (by decide) (fun h973 => ?_) (fun h973 => absurd h973 (fun z => z (cmp_e.mpr (by rw [hout h963]))))
    refine z_goto (pc := 978) (tgt := 1272) E dL_law_978 (by decide) ?_
    exact z_loc (lv' := [some (.ref b), some (.ref (ad G 14 0 0)), some (.ref (ad G 11 0 0)), some (.ref (ad G 21 0 0)), some (.int (nI (5 * c))), none, none, none, none]) rfl loc9 (z_widen (by omega) (by omega) (hK _ _ _ _ hI2))

set_option maxRecDepth 100000 in
set_option maxHeartbeats 4000000 in
theorem l_fore_0 {X : PX} {G : GT} {Q : State → Prop} {b L c : Nat} {xs : Nat → Int32} {v5 v6 v7 v8 : Option Value} (E : EF X G cL_law 9 RL ret 11 601024 7293034) (hl0 : (xL X).stackTraces = false) (hX : va_X b L xs (xS X) (xS X).heap) (hbl : b < (xS X).heap.size) (hG : G.2.2 0 = (xS X).heap.size) (hL : L ≤ 2560) (hc5 : 5 * c + 5 ≤ L) {M : Mem} {n cN d : Nat} (hI : Inv2 M M n cN d c) (hK : LK X G Q b c) (hw : xs (5 * c + 2) = nI 0) : Z X G (0, 0) Q 981 [some (.ref b), some (.ref (ad G 14 0 0)), some (.ref (ad G 11 0 0)), some (.ref (ad G 21 0 0)), some (.int (nI (5 * c))), v5, v6, v7, v8] [] M (154 + 20 * c) (2256 + 700 * c) := by
  have h40 := hI.2.2.2.2.2.1
  have h10 := hI.2.2.2.2.2.2.1
  have hn0 := hI.1.2.2.2.2.1
  have hc0 := hI.1.2.2.2.1
  have hd0 := hI.2.2.2.2.2.2.2.2.2.1
  have hdc := hI.2.2.2.2.2.2.2.2.2.2
  have hd30 : d < 2 ^ 30 := by omega
  have how0 := inv_how hI
  refine z_aload_1 (pc := 981) E dL_law_981 ?_
  refine z_aload_0 (pc := 982) E dL_law_982 ?_
  refine z_iload_4 (pc := 983) E dL_law_983 ?_
  refine z_iconst (v := 1) (pc := 985) E dL_law_985 (by decide) ?_
  refine z_iadd (pc := 986) E dL_law_986 ?_
  refine z_sld (j := 5 * c + 1) (pc := 987) E hX hbl hG dL_law_987 (nI_add (5 * c) 1) (by omega) hL ?_
  refine z_aload_0 (pc := 988) E dL_law_988 ?_
  refine z_iload_4 (pc := 989) E dL_law_989 ?_
  refine z_iconst (v := 2) (pc := 991) E dL_law_991 (by decide) ?_
  refine z_iadd (pc := 992) E dL_law_992 ?_
  refine z_sld (j := 5 * c + 2) (pc := 993) E hX hbl hG dL_law_993 (nI_add (5 * c) 2) (by omega) hL ?_
  refine z_aload_3 (pc := 994) E dL_law_994 ?_
  refine z_wc (pc := 995) E hl0 (w_foresee_0 M n cN d (xs (5 * c + 1)) (xs (5 * c + 2)) hn0 h40 hc0 h10 how0 hd0 hd30 hw) rfl rfl kL_foresee mlL_127 dL_law_995 rfl (Nat.le_of_ble_eq_true rfl) rfl (by decide) (by decide) ⟨by omega, by omega⟩ (fun k9 M1 h1 => ?_)
  have hJ := inv2_k hI (EqA.refl M) (eb_fore (M := M) (M1 := M1) (k9 := k9) (n := n) (cN := cN) (v := 0) (x := (xs (5 * c + 1))) (w := (xs (5 * c + 2))) h1)
  have hn6 := hJ.1.2.2.2.2.2.1
  have hc6 := hJ.2.2.2.2.2.2.2.1
  have hd6 := hJ.1.1.symm.trans hd0
  have how6 := hJ.2.1.1
  have how10 := inv_how10 hJ
  have hf7 := fun t ht => rw_7 (t := t) hJ.2.2.2.2.1 ht
  have hp5 := inv_p hJ
  refine z_istore_5 (pc := 998) E dL_law_998 rfl ?_
  refine z_aload_2 (pc := 1000) E dL_law_1000 ?_
  refine z_aload_0 (pc := 1001) E dL_law_1001 ?_
  refine z_iload_4 (pc := 1002) E dL_law_1002 ?_
  refine z_iconst (v := 1) (pc := 1004) E dL_law_1004 (by decide) ?_
  refine z_iadd (pc := 1005) E dL_law_1005 ?_
  refine z_sld (j := 5 * c + 1) (pc := 1006) E hX hbl hG dL_law_1006 (nI_add (5 * c) 1) (by omega) hL ?_
  refine z_aload_0 (pc := 1007) E dL_law_1007 ?_
  refine z_iload_4 (pc := 1008) E dL_law_1008 ?_
  refine z_iconst (v := 2) (pc := 1010) E dL_law_1010 (by decide) ?_
  refine z_iadd (pc := 1011) E dL_law_1011 ?_
  refine z_sld (j := 5 * c + 2) (pc := 1012) E hX hbl hG dL_law_1012 (nI_add (5 * c) 2) (by omega) hL ?_
  refine z_iv (pc := 1013) E (m_X8_foresee_0 M1 n d (xs (5 * c + 1)) (xs (5 * c + 2)) hn6 h40 hd6 hd30 how10 hw) rfl rfl kX8_foresee mlL_129 dL_law_1013 ok11 rfl rfl rfl (Nat.le_of_ble_eq_true rfl) rfl (by decide) (by decide) ⟨by omega, by omega⟩ (fun _ _ _ => Or.inl rfl) (fun r M2 h2 => ?_)
  obtain ⟨⟨n2, cN2, d2, hI2⟩, hth, hout⟩ := st_fore (M := M) (M1 := M1) (M2 := M2) (k9 := k9) (r := r) (n := n) (cN := cN) (d := d) (v := 0) (x := (xs (5 * c + 1))) (w := (xs (5 * c + 2))) hI h1 h2
  refine z_istore_6 (pc := 1016) E dL_law_1016 rfl ?_
  refine z_aload_2 (pc := 1018) E dL_law_1018 ?_
  refine z_ivp (pc := 1019) E (m_X8_thrown M2) rfl rfl kX8_thrown mlL_80 dL_law_1019 ok11 rfl rfl rfl (Nat.le_of_ble_eq_true rfl) rfl (by decide) (by decide) ⟨by omega, by omega⟩ ?_
  refine z_iload_5 (pc := 1022) E dL_law_1022 ?_
  refine z_icmp_eq (pc := 1024) (tgt := 1029) E dL_law_1024 (by decide) (fun h1024 => ?_) (fun h1024 => absurd h1024 (fun z => z hth))
  refine z_iload_5 (pc := 1029) E dL_law_1029 ?_
  refine z_if_ne (pc := 1031) (tgt := 1046) E dL_law_1031 (by decide) (fun h1031 => ?_) (fun h1031 => ?_)
  · refine z_goto (pc := 1046) (tgt := 1272) E dL_law_1046 (by decide) ?_
    exact z_loc (lv' := [some (.ref b), some (.ref (ad G 14 0 0)), some (.ref (ad G 11 0 0)), some (.ref (ad G 21 0 0)), some (.int (nI (5 * c))), none, none, none, none]) rfl loc9 (z_widen (by omega) (by omega) (hK _ _ _ _ hI2))
  · refine z_aload_3 (pc := 1034) E dL_law_1034 ?_
    refine z_iconst (v := 0) (pc := 1035) E dL_law_1035 (by decide) ?_
    refine z_lald (pc := 1036) E dL_law_1036 ?_
    refine z_iload_6 (pc := 1037) E dL_law_1037 ?_
    refine z_i2l (pc := 1039) E dL_law_1039 ?_
    refine z_lcmp (pc := 1040) E dL_law_1040 ?_
    refine z_if_eq (pc := 1041) (tgt := 1046) E dL_law_1041 (by decide) (fun h1041 => ?_) (fun h1041 => absurd h1041 (fun z => z (cmp_e.mpr (by rw [hout h1031]))))
    refine z_goto (pc := 1046) (tgt := 1272) E dL_law_1046 (by decide) ?_
    exact z_loc (lv' := [some (.ref b), some (.ref (ad G 14 0 0)), some (.ref (ad G 11 0 0)), some (.ref (ad G 21 0 0)), some (.int (nI (5 * c))), none, none, none, none]) rfl loc9 (z_widen (by omega) (by omega) (hK _ _ _ _ hI2))

set_option maxRecDepth 100000 in
set_option maxHeartbeats 4000000 in
theorem l_fore_1 {X : PX} {G : GT} {Q : State → Prop} {b L c : Nat} {xs : Nat → Int32} {v5 v6 v7 v8 : Option Value} (E : EF X G cL_law 9 RL ret 11 601024 7293034) (hl0 : (xL X).stackTraces = false) (hX : va_X b L xs (xS X) (xS X).heap) (hbl : b < (xS X).heap.size) (hG : G.2.2 0 = (xS X).heap.size) (hL : L ≤ 2560) (hc5 : 5 * c + 5 ≤ L) {M : Mem} {n cN d : Nat} (hI : Inv2 M M n cN d c) (hK : LK X G Q b c) (hw : xs (5 * c + 2) = nI 1) : Z X G (0, 0) Q 981 [some (.ref b), some (.ref (ad G 14 0 0)), some (.ref (ad G 11 0 0)), some (.ref (ad G 21 0 0)), some (.int (nI (5 * c))), v5, v6, v7, v8] [] M (154 + 20 * c) (2256 + 700 * c) := by
  have h40 := hI.2.2.2.2.2.1
  have h10 := hI.2.2.2.2.2.2.1
  have hn0 := hI.1.2.2.2.2.1
  have hc0 := hI.1.2.2.2.1
  have hd0 := hI.2.2.2.2.2.2.2.2.2.1
  have hdc := hI.2.2.2.2.2.2.2.2.2.2
  have hd30 : d < 2 ^ 30 := by omega
  have how0 := inv_how hI
  refine z_aload_1 (pc := 981) E dL_law_981 ?_
  refine z_aload_0 (pc := 982) E dL_law_982 ?_
  refine z_iload_4 (pc := 983) E dL_law_983 ?_
  refine z_iconst (v := 1) (pc := 985) E dL_law_985 (by decide) ?_
  refine z_iadd (pc := 986) E dL_law_986 ?_
  refine z_sld (j := 5 * c + 1) (pc := 987) E hX hbl hG dL_law_987 (nI_add (5 * c) 1) (by omega) hL ?_
  refine z_aload_0 (pc := 988) E dL_law_988 ?_
  refine z_iload_4 (pc := 989) E dL_law_989 ?_
  refine z_iconst (v := 2) (pc := 991) E dL_law_991 (by decide) ?_
  refine z_iadd (pc := 992) E dL_law_992 ?_
  refine z_sld (j := 5 * c + 2) (pc := 993) E hX hbl hG dL_law_993 (nI_add (5 * c) 2) (by omega) hL ?_
  refine z_aload_3 (pc := 994) E dL_law_994 ?_
  refine z_wc (pc := 995) E hl0 (w_foresee_1 M n cN d (xs (5 * c + 1)) (xs (5 * c + 2)) hn0 h40 hc0 h10 how0 hd0 hd30 hw) rfl rfl kL_foresee mlL_127 dL_law_995 rfl (Nat.le_of_ble_eq_true rfl) rfl (by decide) (by decide) ⟨by omega, by omega⟩ (fun k9 M1 h1 => ?_)
  have hJ := inv2_k hI (EqA.refl M) (eb_fore (M := M) (M1 := M1) (k9 := k9) (n := n) (cN := cN) (v := 1) (x := (xs (5 * c + 1))) (w := (xs (5 * c + 2))) h1)
  have hn6 := hJ.1.2.2.2.2.2.1
  have hc6 := hJ.2.2.2.2.2.2.2.1
  have hd6 := hJ.1.1.symm.trans hd0
  have how6 := hJ.2.1.1
  have how10 := inv_how10 hJ
  have hf7 := fun t ht => rw_7 (t := t) hJ.2.2.2.2.1 ht
  have hp5 := inv_p hJ
  refine z_istore_5 (pc := 998) E dL_law_998 rfl ?_
  refine z_aload_2 (pc := 1000) E dL_law_1000 ?_
  refine z_aload_0 (pc := 1001) E dL_law_1001 ?_
  refine z_iload_4 (pc := 1002) E dL_law_1002 ?_
  refine z_iconst (v := 1) (pc := 1004) E dL_law_1004 (by decide) ?_
  refine z_iadd (pc := 1005) E dL_law_1005 ?_
  refine z_sld (j := 5 * c + 1) (pc := 1006) E hX hbl hG dL_law_1006 (nI_add (5 * c) 1) (by omega) hL ?_
  refine z_aload_0 (pc := 1007) E dL_law_1007 ?_
  refine z_iload_4 (pc := 1008) E dL_law_1008 ?_
  refine z_iconst (v := 2) (pc := 1010) E dL_law_1010 (by decide) ?_
  refine z_iadd (pc := 1011) E dL_law_1011 ?_
  refine z_sld (j := 5 * c + 2) (pc := 1012) E hX hbl hG dL_law_1012 (nI_add (5 * c) 2) (by omega) hL ?_
  refine z_iv (pc := 1013) E (m_X8_foresee_1 M1 n d (xs (5 * c + 1)) (xs (5 * c + 2)) hn6 h40 hd6 hd30 how10 hw) rfl rfl kX8_foresee mlL_129 dL_law_1013 ok11 rfl rfl rfl (Nat.le_of_ble_eq_true rfl) rfl (by decide) (by decide) ⟨by omega, by omega⟩ (fun _ _ _ => Or.inl rfl) (fun r M2 h2 => ?_)
  obtain ⟨⟨n2, cN2, d2, hI2⟩, hth, hout⟩ := st_fore (M := M) (M1 := M1) (M2 := M2) (k9 := k9) (r := r) (n := n) (cN := cN) (d := d) (v := 1) (x := (xs (5 * c + 1))) (w := (xs (5 * c + 2))) hI h1 h2
  refine z_istore_6 (pc := 1016) E dL_law_1016 rfl ?_
  refine z_aload_2 (pc := 1018) E dL_law_1018 ?_
  refine z_ivp (pc := 1019) E (m_X8_thrown M2) rfl rfl kX8_thrown mlL_80 dL_law_1019 ok11 rfl rfl rfl (Nat.le_of_ble_eq_true rfl) rfl (by decide) (by decide) ⟨by omega, by omega⟩ ?_
  refine z_iload_5 (pc := 1022) E dL_law_1022 ?_
  refine z_icmp_eq (pc := 1024) (tgt := 1029) E dL_law_1024 (by decide) (fun h1024 => ?_) (fun h1024 => absurd h1024 (fun z => z hth))
  refine z_iload_5 (pc := 1029) E dL_law_1029 ?_
  refine z_if_ne (pc := 1031) (tgt := 1046) E dL_law_1031 (by decide) (fun h1031 => ?_) (fun h1031 => ?_)
  · refine z_goto (pc := 1046) (tgt := 1272) E dL_law_1046 (by decide) ?_
    exact z_loc (lv' := [some (.ref b), some (.ref (ad G 14 0 0)), some (.ref (ad G 11 0 0)), some (.ref (ad G 21 0 0)), some (.int (nI (5 * c))), none, none, none, none]) rfl loc9 (z_widen (by omega) (by omega) (hK _ _ _ _ hI2))
  · refine z_aload_3 (pc := 1034) E dL_law_1034 ?_
    refine z_iconst (v := 0) (pc := 1035) E dL_law_1035 (by decide) ?_
    refine z_lald (pc := 1036) E dL_law_1036 ?_
    refine z_iload_6 (pc := 1037) E dL_law_1037 ?_
    refine z_i2l (pc := 1039) E dL_law_1039 ?_
    refine z_lcmp (pc := 1040) E dL_law_1040 ?_
    refine z_if_eq (pc := 1041) (tgt := 1046) E dL_law_1041 (by decide) (fun h1041 => ?_) (fun h1041 => absurd h1041 (fun z => z (cmp_e.mpr (by rw [hout h1031]))))
    refine z_goto (pc := 1046) (tgt := 1272) E dL_law_1046 (by decide) ?_
    exact z_loc (lv' := [some (.ref b), some (.ref (ad G 14 0 0)), some (.ref (ad G 11 0 0)), some (.ref (ad G 21 0 0)), some (.int (nI (5 * c))), none, none, none, none]) rfl loc9 (z_widen (by omega) (by omega) (hK _ _ _ _ hI2))

set_option maxRecDepth 100000 in
set_option maxHeartbeats 4000000 in
theorem l_fore_2 {X : PX} {G : GT} {Q : State → Prop} {b L c : Nat} {xs : Nat → Int32} {v5 v6 v7 v8 : Option Value} (E : EF X G cL_law 9 RL ret 11 601024 7293034) (hl0 : (xL X).stackTraces = false) (hX : va_X b L xs (xS X) (xS X).heap) (hbl : b < (xS X).heap.size) (hG : G.2.2 0 = (xS X).heap.size) (hL : L ≤ 2560) (hc5 : 5 * c + 5 ≤ L) {M : Mem} {n cN d : Nat} (hI : Inv2 M M n cN d c) (hK : LK X G Q b c) (hw : xs (5 * c + 2) = nI 2) : Z X G (0, 0) Q 981 [some (.ref b), some (.ref (ad G 14 0 0)), some (.ref (ad G 11 0 0)), some (.ref (ad G 21 0 0)), some (.int (nI (5 * c))), v5, v6, v7, v8] [] M (154 + 20 * c) (2256 + 700 * c) := by
  have h40 := hI.2.2.2.2.2.1
  have h10 := hI.2.2.2.2.2.2.1
  have hn0 := hI.1.2.2.2.2.1
  have hc0 := hI.1.2.2.2.1
  have hd0 := hI.2.2.2.2.2.2.2.2.2.1
  have hdc := hI.2.2.2.2.2.2.2.2.2.2
  have hd30 : d < 2 ^ 30 := by omega
  have how0 := inv_how hI
  refine z_aload_1 (pc := 981) E dL_law_981 ?_
  refine z_aload_0 (pc := 982) E dL_law_982 ?_
  refine z_iload_4 (pc := 983) E dL_law_983 ?_
  refine z_iconst (v := 1) (pc := 985) E dL_law_985 (by decide) ?_
  refine z_iadd (pc := 986) E dL_law_986 ?_
  refine z_sld (j := 5 * c + 1) (pc := 987) E hX hbl hG dL_law_987 (nI_add (5 * c) 1) (by omega) hL ?_
  refine z_aload_0 (pc := 988) E dL_law_988 ?_
  refine z_iload_4 (pc := 989) E dL_law_989 ?_
  refine z_iconst (v := 2) (pc := 991) E dL_law_991 (by decide) ?_
  refine z_iadd (pc := 992) E dL_law_992 ?_
  refine z_sld (j := 5 * c + 2) (pc := 993) E hX hbl hG dL_law_993 (nI_add (5 * c) 2) (by omega) hL ?_
  refine z_aload_3 (pc := 994) E dL_law_994 ?_
  refine z_wc (pc := 995) E hl0 (w_foresee_2 M n cN d (xs (5 * c + 1)) (xs (5 * c + 2)) hn0 h40 hc0 h10 how0 hd0 hd30 hw) rfl rfl kL_foresee mlL_127 dL_law_995 rfl (Nat.le_of_ble_eq_true rfl) rfl (by decide) (by decide) ⟨by omega, by omega⟩ (fun k9 M1 h1 => ?_)
  have hJ := inv2_k hI (EqA.refl M) (eb_fore (M := M) (M1 := M1) (k9 := k9) (n := n) (cN := cN) (v := 2) (x := (xs (5 * c + 1))) (w := (xs (5 * c + 2))) h1)
  have hn6 := hJ.1.2.2.2.2.2.1
  have hc6 := hJ.2.2.2.2.2.2.2.1
  have hd6 := hJ.1.1.symm.trans hd0
  have how6 := hJ.2.1.1
  have how10 := inv_how10 hJ
  have hf7 := fun t ht => rw_7 (t := t) hJ.2.2.2.2.1 ht
  have hp5 := inv_p hJ
  refine z_istore_5 (pc := 998) E dL_law_998 rfl ?_
  refine z_aload_2 (pc := 1000) E dL_law_1000 ?_
  refine z_aload_0 (pc := 1001) E dL_law_1001 ?_
  refine z_iload_4 (pc := 1002) E dL_law_1002 ?_
  refine z_iconst (v := 1) (pc := 1004) E dL_law_1004 (by decide) ?_
  refine z_iadd (pc := 1005) E dL_law_1005 ?_
  refine z_sld (j := 5 * c + 1) (pc := 1006) E hX hbl hG dL_law_1006 (nI_add (5 * c) 1) (by omega) hL ?_
  refine z_aload_0 (pc := 1007) E dL_law_1007 ?_
  refine z_iload_4 (pc := 1008) E dL_law_1008 ?_
  refine z_iconst (v := 2) (pc := 1010) E dL_law_1010 (by decide) ?_
  refine z_iadd (pc := 1011) E dL_law_1011 ?_
  refine z_sld (j := 5 * c + 2) (pc := 1012) E hX hbl hG dL_law_1012 (nI_add (5 * c) 2) (by omega) hL ?_
  refine z_iv (pc := 1013) E (m_X8_foresee_2 M1 n d (xs (5 * c + 1)) (xs (5 * c + 2)) hn6 h40 hd6 hd30 how10 hw) rfl rfl kX8_foresee mlL_129 dL_law_1013 ok11 rfl rfl rfl (Nat.le_of_ble_eq_true rfl) rfl (by decide) (by decide) ⟨by omega, by omega⟩ (fun _ _ _ => Or.inl rfl) (fun r M2 h2 => ?_)
  obtain ⟨⟨n2, cN2, d2, hI2⟩, hth, hout⟩ := st_fore (M := M) (M1 := M1) (M2 := M2) (k9 := k9) (r := r) (n := n) (cN := cN) (d := d) (v := 2) (x := (xs (5 * c + 1))) (w := (xs (5 * c + 2))) hI h1 h2
  refine z_istore_6 (pc := 1016) E dL_law_1016 rfl ?_
  refine z_aload_2 (pc := 1018) E dL_law_1018 ?_
  refine z_ivp (pc := 1019) E (m_X8_thrown M2) rfl rfl kX8_thrown mlL_80 dL_law_1019 ok11 rfl rfl rfl (Nat.le_of_ble_eq_true rfl) rfl (by decide) (by decide) ⟨by omega, by omega⟩ ?_
  refine z_iload_5 (pc := 1022) E dL_law_1022 ?_
  refine z_icmp_eq (pc := 1024) (tgt := 1029) E dL_law_1024 (by decide) (fun h1024 => ?_) (fun h1024 => absurd h1024 (fun z => z hth))
  refine z_iload_5 (pc := 1029) E dL_law_1029 ?_
  refine z_if_ne (pc := 1031) (tgt := 1046) E dL_law_1031 (by decide) (fun h1031 => ?_) (fun h1031 => ?_)
  · refine z_goto (pc := 1046) (tgt := 1272) E dL_law_1046 (by decide) ?_
    exact z_loc (lv' := [some (.ref b), some (.ref (ad G 14 0 0)), some (.ref (ad G 11 0 0)), some (.ref (ad G 21 0 0)), some (.int (nI (5 * c))), none, none, none, none]) rfl loc9 (z_widen (by omega) (by omega) (hK _ _ _ _ hI2))
  · refine z_aload_3 (pc := 1034) E dL_law_1034 ?_
    refine z_iconst (v := 0) (pc := 1035) E dL_law_1035 (by decide) ?_
    refine z_lald (pc := 1036) E dL_law_1036 ?_
    refine z_iload_6 (pc := 1037) E dL_law_1037 ?_
    refine z_i2l (pc := 1039) E dL_law_1039 ?_
    refine z_lcmp (pc := 1040) E dL_law_1040 ?_
    refine z_if_eq (pc := 1041) (tgt := 1046) E dL_law_1041 (by decide) (fun h1041 => ?_) (fun h1041 => absurd h1041 (fun z => z (cmp_e.mpr (by rw [hout h1031]))))
    refine z_goto (pc := 1046) (tgt := 1272) E dL_law_1046 (by decide) ?_
    exact z_loc (lv' := [some (.ref b), some (.ref (ad G 14 0 0)), some (.ref (ad G 11 0 0)), some (.ref (ad G 21 0 0)), some (.int (nI (5 * c))), none, none, none, none]) rfl loc9 (z_widen (by omega) (by omega) (hK _ _ _ _ hI2))

set_option maxRecDepth 100000 in
set_option maxHeartbeats 4000000 in
theorem l_fore_x {X : PX} {G : GT} {Q : State → Prop} {b L c : Nat} {xs : Nat → Int32} {v5 v6 v7 v8 : Option Value} (E : EF X G cL_law 9 RL ret 11 601024 7293034) (hl0 : (xL X).stackTraces = false) (hX : va_X b L xs (xS X) (xS X).heap) (hbl : b < (xS X).heap.size) (hG : G.2.2 0 = (xS X).heap.size) (hL : L ≤ 2560) (hc5 : 5 * c + 5 ≤ L) {M : Mem} {n cN d : Nat} (hI : Inv2 M M n cN d c) (hK : LK X G Q b c) (hw : ¬ (0 ≤ xs (5 * c + 2) ∧ xs (5 * c + 2) ≤ 2)) : Z X G (0, 0) Q 981 [some (.ref b), some (.ref (ad G 14 0 0)), some (.ref (ad G 11 0 0)), some (.ref (ad G 21 0 0)), some (.int (nI (5 * c))), v5, v6, v7, v8] [] M (154 + 20 * c) (2256 + 700 * c) := by
  have h40 := hI.2.2.2.2.2.1
  have h10 := hI.2.2.2.2.2.2.1
  have hn0 := hI.1.2.2.2.2.1
  have hc0 := hI.1.2.2.2.1
  have hd0 := hI.2.2.2.2.2.2.2.2.2.1
  have hdc := hI.2.2.2.2.2.2.2.2.2.2
  have hd30 : d < 2 ^ 30 := by omega
  have how0 := inv_how hI
  refine z_aload_1 (pc := 981) E dL_law_981 ?_
  refine z_aload_0 (pc := 982) E dL_law_982 ?_
  refine z_iload_4 (pc := 983) E dL_law_983 ?_
  refine z_iconst (v := 1) (pc := 985) E dL_law_985 (by decide) ?_
  refine z_iadd (pc := 986) E dL_law_986 ?_
  refine z_sld (j := 5 * c + 1) (pc := 987) E hX hbl hG dL_law_987 (nI_add (5 * c) 1) (by omega) hL ?_
  refine z_aload_0 (pc := 988) E dL_law_988 ?_
  refine z_iload_4 (pc := 989) E dL_law_989 ?_
  refine z_iconst (v := 2) (pc := 991) E dL_law_991 (by decide) ?_
  refine z_iadd (pc := 992) E dL_law_992 ?_
  refine z_sld (j := 5 * c + 2) (pc := 993) E hX hbl hG dL_law_993 (nI_add (5 * c) 2) (by omega) hL ?_
  refine z_aload_3 (pc := 994) E dL_law_994 ?_
  refine z_wc (pc := 995) E hl0 (w_foresee_x M n cN d (xs (5 * c + 1)) (xs (5 * c + 2)) hw) rfl rfl kL_foresee mlL_127 dL_law_995 rfl (Nat.le_of_ble_eq_true rfl) rfl (by decide) (by decide) ⟨by omega, by omega⟩ (fun k9 M1 h1 => ?_)
  have hJ := inv2_k hI (EqA.refl M) (eb_forex (M := M) (M1 := M1) (k9 := k9) (x := (xs (5 * c + 1))) (w := (xs (5 * c + 2))) h1)
  have hn6 := hJ.1.2.2.2.2.2.1
  have hc6 := hJ.2.2.2.2.2.2.2.1
  have hd6 := hJ.1.1.symm.trans hd0
  have how6 := hJ.2.1.1
  have how10 := inv_how10 hJ
  have hf7 := fun t ht => rw_7 (t := t) hJ.2.2.2.2.1 ht
  have hp5 := inv_p hJ
  refine z_istore_5 (pc := 998) E dL_law_998 rfl ?_
  refine z_aload_2 (pc := 1000) E dL_law_1000 ?_
  refine z_aload_0 (pc := 1001) E dL_law_1001 ?_
  refine z_iload_4 (pc := 1002) E dL_law_1002 ?_
  refine z_iconst (v := 1) (pc := 1004) E dL_law_1004 (by decide) ?_
  refine z_iadd (pc := 1005) E dL_law_1005 ?_
  refine z_sld (j := 5 * c + 1) (pc := 1006) E hX hbl hG dL_law_1006 (nI_add (5 * c) 1) (by omega) hL ?_
  refine z_aload_0 (pc := 1007) E dL_law_1007 ?_
  refine z_iload_4 (pc := 1008) E dL_law_1008 ?_
  refine z_iconst (v := 2) (pc := 1010) E dL_law_1010 (by decide) ?_
  refine z_iadd (pc := 1011) E dL_law_1011 ?_
  refine z_sld (j := 5 * c + 2) (pc := 1012) E hX hbl hG dL_law_1012 (nI_add (5 * c) 2) (by omega) hL ?_
  refine z_iv (pc := 1013) E (m_X8_foresee_x M1 (xs (5 * c + 1)) (xs (5 * c + 2)) hw) rfl rfl kX8_foresee mlL_129 dL_law_1013 ok11 rfl rfl rfl (Nat.le_of_ble_eq_true rfl) rfl (by decide) (by decide) ⟨by omega, by omega⟩ (fun _ _ _ => Or.inl rfl) (fun r M2 h2 => ?_)
  obtain ⟨⟨n2, cN2, d2, hI2⟩, hth, hout⟩ := st_forex (M := M) (M1 := M1) (M2 := M2) (k9 := k9) (r := r) (n := n) (cN := cN) (d := d) (x := (xs (5 * c + 1))) (w := (xs (5 * c + 2))) hI h1 h2
  refine z_istore_6 (pc := 1016) E dL_law_1016 rfl ?_
  refine z_aload_2 (pc := 1018) E dL_law_1018 ?_
  refine z_ivp (pc := 1019) E (m_X8_thrown M2) rfl rfl kX8_thrown mlL_80 dL_law_1019 ok11 rfl rfl rfl (Nat.le_of_ble_eq_true rfl) rfl (by decide) (by decide) ⟨by omega, by omega⟩ ?_
  refine z_iload_5 (pc := 1022) E dL_law_1022 ?_
  refine z_icmp_eq (pc := 1024) (tgt := 1029) E dL_law_1024 (by decide) (fun h1024 => ?_) (fun h1024 => absurd h1024 (fun z => z hth))
  refine z_iload_5 (pc := 1029) E dL_law_1029 ?_
  refine z_if_ne (pc := 1031) (tgt := 1046) E dL_law_1031 (by decide) (fun h1031 => ?_) (fun h1031 => ?_)
  · refine z_goto (pc := 1046) (tgt := 1272) E dL_law_1046 (by decide) ?_
    exact z_loc (lv' := [some (.ref b), some (.ref (ad G 14 0 0)), some (.ref (ad G 11 0 0)), some (.ref (ad G 21 0 0)), some (.int (nI (5 * c))), none, none, none, none]) rfl loc9 (z_widen (by omega) (by omega) (hK _ _ _ _ hI2))
  · refine z_aload_3 (pc := 1034) E dL_law_1034 ?_
    refine z_iconst (v := 0) (pc := 1035) E dL_law_1035 (by decide) ?_
    refine z_lald (pc := 1036) E dL_law_1036 ?_
    refine z_iload_6 (pc := 1037) E dL_law_1037 ?_
    refine z_i2l (pc := 1039) E dL_law_1039 ?_
    refine z_lcmp (pc := 1040) E dL_law_1040 ?_
    refine z_if_eq (pc := 1041) (tgt := 1046) E dL_law_1041 (by decide) (fun h1041 => ?_) (fun h1041 => absurd h1041 (fun z => z (cmp_e.mpr (by rw [hout h1031]))))
    refine z_goto (pc := 1046) (tgt := 1272) E dL_law_1046 (by decide) ?_
    exact z_loc (lv' := [some (.ref b), some (.ref (ad G 14 0 0)), some (.ref (ad G 11 0 0)), some (.ref (ad G 21 0 0)), some (.int (nI (5 * c))), none, none, none, none]) rfl loc9 (z_widen (by omega) (by omega) (hK _ _ _ _ hI2))

set_option maxRecDepth 100000 in
set_option maxHeartbeats 4000000 in
theorem l_raise {X : PX} {G : GT} {Q : State → Prop} {b L c : Nat} {xs : Nat → Int32} {v5 v6 v7 v8 : Option Value} (E : EF X G cL_law 9 RL ret 11 601024 7293034) (hl0 : (xL X).stackTraces = false) (hX : va_X b L xs (xS X) (xS X).heap) (hbl : b < (xS X).heap.size) (hG : G.2.2 0 = (xS X).heap.size) (hL : L ≤ 2560) (hc5 : 5 * c + 5 ≤ L) {M : Mem} {n cN d : Nat} (hI : Inv2 M M n cN d c) (hK : LK X G Q b c) : Z X G (0, 0) Q 1049 [some (.ref b), some (.ref (ad G 14 0 0)), some (.ref (ad G 11 0 0)), some (.ref (ad G 21 0 0)), some (.int (nI (5 * c))), v5, v6, v7, v8] [] M (154 + 20 * c) (2256 + 700 * c) := by
  have h40 := hI.2.2.2.2.2.1
  have h10 := hI.2.2.2.2.2.2.1
  have hn0 := hI.1.2.2.2.2.1
  have hc0 := hI.1.2.2.2.1
  have hd0 := hI.2.2.2.2.2.2.2.2.2.1
  have hdc := hI.2.2.2.2.2.2.2.2.2.2
  have hd30 : d < 2 ^ 30 := by omega
  have how0 := inv_how hI
  refine z_aload_1 (pc := 1049) E dL_law_1049 ?_
  refine z_aload_0 (pc := 1050) E dL_law_1050 ?_
  refine z_iload_4 (pc := 1051) E dL_law_1051 ?_
  refine z_iconst (v := 1) (pc := 1053) E dL_law_1053 (by decide) ?_
  refine z_iadd (pc := 1054) E dL_law_1054 ?_
  refine z_sld (j := 5 * c + 1) (pc := 1055) E hX hbl hG dL_law_1055 (nI_add (5 * c) 1) (by omega) hL ?_
  refine z_aload_3 (pc := 1056) E dL_law_1056 ?_
  refine z_wc (pc := 1057) E hl0 (w_raise M n (xs (5 * c + 1)) hn0 h40) rfl rfl kL_raise mlL_130 dL_law_1057 rfl (Nat.le_of_ble_eq_true rfl) rfl (by decide) (by decide) ⟨by omega, by omega⟩ (fun k9 M1 h1 => ?_)
  have hJ := inv2_k hI (EqA.refl M) (eb_raise (M := M) (M1 := M1) (k9 := k9) (n := n) (x := (xs (5 * c + 1))) (cN := cN) h1)
  have hn6 := hJ.1.2.2.2.2.2.1
  have hc6 := hJ.2.2.2.2.2.2.2.1
  have hd6 := hJ.1.1.symm.trans hd0
  have how6 := hJ.2.1.1
  have how10 := inv_how10 hJ
  have hf7 := fun t ht => rw_7 (t := t) hJ.2.2.2.2.1 ht
  have hp5 := inv_p hJ
  refine z_istore_5 (pc := 1060) E dL_law_1060 rfl ?_
  refine z_aload_2 (pc := 1062) E dL_law_1062 ?_
  refine z_aload_0 (pc := 1063) E dL_law_1063 ?_
  refine z_iload_4 (pc := 1064) E dL_law_1064 ?_
  refine z_iconst (v := 1) (pc := 1066) E dL_law_1066 (by decide) ?_
  refine z_iadd (pc := 1067) E dL_law_1067 ?_
  refine z_sld (j := 5 * c + 1) (pc := 1068) E hX hbl hG dL_law_1068 (nI_add (5 * c) 1) (by omega) hL ?_
  refine z_iv (pc := 1069) E (m_X8_raise M1 n (xs (5 * c + 1)) hn6 h40 hp5) rfl rfl kX8_raise mlL_132 dL_law_1069 ok11 rfl rfl rfl (Nat.le_of_ble_eq_true rfl) rfl (by decide) (by decide) ⟨by omega, by omega⟩ (fun _ _ _ => Or.inl rfl) (fun r M2 h2 => ?_)
  obtain ⟨⟨n2, cN2, d2, hI2⟩, hth, hout⟩ := st_raise (M := M) (M1 := M1) (M2 := M2) (k9 := k9) (r := r) (n := n) (cN := cN) (d := d) (x := (xs (5 * c + 1))) hI h1 h2
  refine z_istore_6 (pc := 1072) E dL_law_1072 rfl ?_
  refine z_aload_2 (pc := 1074) E dL_law_1074 ?_
  refine z_ivp (pc := 1075) E (m_X8_thrown M2) rfl rfl kX8_thrown mlL_80 dL_law_1075 ok11 rfl rfl rfl (Nat.le_of_ble_eq_true rfl) rfl (by decide) (by decide) ⟨by omega, by omega⟩ ?_
  refine z_iload_5 (pc := 1078) E dL_law_1078 ?_
  refine z_icmp_eq (pc := 1080) (tgt := 1085) E dL_law_1080 (by decide) (fun h1080 => ?_) (fun h1080 => absurd h1080 (fun z => z hth))
  refine z_iload_5 (pc := 1085) E dL_law_1085 ?_
  refine z_if_ne (pc := 1087) (tgt := 1102) E dL_law_1087 (by decide) (fun h1087 => ?_) (fun h1087 => ?_)
  · refine z_goto (pc := 1102) (tgt := 1272) E dL_law_1102 (by decide) ?_
    exact z_loc (lv' := [some (.ref b), some (.ref (ad G 14 0 0)), some (.ref (ad G 11 0 0)), some (.ref (ad G 21 0 0)), some (.int (nI (5 * c))), none, none, none, none]) rfl loc9 (z_widen (by omega) (by omega) (hK _ _ _ _ hI2))
  · refine z_aload_3 (pc := 1090) E dL_law_1090 ?_
    refine z_iconst (v := 0) (pc := 1091) E dL_law_1091 (by decide) ?_
    refine z_lald (pc := 1092) E dL_law_1092 ?_
    refine z_iload_6 (pc := 1093) E dL_law_1093 ?_
    refine z_i2l (pc := 1095) E dL_law_1095 ?_
    refine z_lcmp (pc := 1096) E dL_law_1096 ?_
    refine z_if_eq (pc := 1097) (tgt := 1102) E dL_law_1097 (by decide) (fun h1097 => ?_) (fun h1097 => absurd h1097 (fun z => z (cmp_e.mpr (by rw [hout h1087]))))
    refine z_goto (pc := 1102) (tgt := 1272) E dL_law_1102 (by decide) ?_
    exact z_loc (lv' := [some (.ref b), some (.ref (ad G 14 0 0)), some (.ref (ad G 11 0 0)), some (.ref (ad G 21 0 0)), some (.int (nI (5 * c))), none, none, none, none]) rfl loc9 (z_widen (by omega) (by omega) (hK _ _ _ _ hI2))

set_option maxRecDepth 100000 in
set_option maxHeartbeats 4000000 in
theorem l_best {X : PX} {G : GT} {Q : State → Prop} {b L c : Nat} {xs : Nat → Int32} {v5 v6 v7 v8 : Option Value} (E : EF X G cL_law 9 RL ret 11 601024 7293034) (hl0 : (xL X).stackTraces = false) (hX : va_X b L xs (xS X) (xS X).heap) (hbl : b < (xS X).heap.size) (hG : G.2.2 0 = (xS X).heap.size) (hL : L ≤ 2560) (hc5 : 5 * c + 5 ≤ L) {M : Mem} {n cN d : Nat} (hI : Inv2 M M n cN d c) (hK : LK X G Q b c) : Z X G (0, 0) Q 1105 [some (.ref b), some (.ref (ad G 14 0 0)), some (.ref (ad G 11 0 0)), some (.ref (ad G 21 0 0)), some (.int (nI (5 * c))), v5, v6, v7, v8] [] M (154 + 20 * c) (2256 + 700 * c) := by
  have h40 := hI.2.2.2.2.2.1
  have h10 := hI.2.2.2.2.2.2.1
  have hn0 := hI.1.2.2.2.2.1
  have hc0 := hI.1.2.2.2.1
  have hd0 := hI.2.2.2.2.2.2.2.2.2.1
  have hdc := hI.2.2.2.2.2.2.2.2.2.2
  have hd30 : d < 2 ^ 30 := by omega
  have how0 := inv_how hI
  refine z_aload_1 (pc := 1105) E dL_law_1105 ?_
  refine z_aload_0 (pc := 1106) E dL_law_1106 ?_
  refine z_iload_4 (pc := 1107) E dL_law_1107 ?_
  refine z_iconst (v := 1) (pc := 1109) E dL_law_1109 (by decide) ?_
  refine z_iadd (pc := 1110) E dL_law_1110 ?_
  refine z_sld (j := 5 * c + 1) (pc := 1111) E hX hbl hG dL_law_1111 (nI_add (5 * c) 1) (by omega) hL ?_
  refine z_aload_3 (pc := 1112) E dL_law_1112 ?_
  refine z_wc (pc := 1113) E hl0 (w_best M n cN (xs (5 * c + 1)) hn0 h40 hc0 h10) rfl rfl kL_best mlL_133 dL_law_1113 rfl (Nat.le_of_ble_eq_true rfl) rfl (by decide) (by decide) ⟨by omega, by omega⟩ (fun k9 M1 h1 => ?_)
  have hJ := inv2_k hI (EqA.refl M) (eb_best (M := M) (M1 := M1) (k9 := k9) (n := n) (cN := cN) (x := (xs (5 * c + 1))) h1)
  have hn6 := hJ.1.2.2.2.2.2.1
  have hc6 := hJ.2.2.2.2.2.2.2.1
  have hd6 := hJ.1.1.symm.trans hd0
  have how6 := hJ.2.1.1
  have how10 := inv_how10 hJ
  have hf7 := fun t ht => rw_7 (t := t) hJ.2.2.2.2.1 ht
  have hp5 := inv_p hJ
  refine z_istore_5 (pc := 1116) E dL_law_1116 rfl ?_
  refine z_aload_2 (pc := 1118) E dL_law_1118 ?_
  refine z_aload_0 (pc := 1119) E dL_law_1119 ?_
  refine z_iload_4 (pc := 1120) E dL_law_1120 ?_
  refine z_iconst (v := 1) (pc := 1122) E dL_law_1122 (by decide) ?_
  refine z_iadd (pc := 1123) E dL_law_1123 ?_
  refine z_sld (j := 5 * c + 1) (pc := 1124) E hX hbl hG dL_law_1124 (nI_add (5 * c) 1) (by omega) hL ?_
  refine z_iv (pc := 1125) E (m_X8_best M1 n cN (xs (5 * c + 1)) hn6 h40 hc6 h10) rfl rfl kX8_best mlL_135 dL_law_1125 ok11 rfl rfl rfl (Nat.le_of_ble_eq_true rfl) rfl (by decide) (by decide) ⟨by omega, by omega⟩ (fun _ _ _ => Or.inl rfl) (fun r M2 h2 => ?_)
  obtain ⟨⟨n2, cN2, d2, hI2⟩, hth, hout⟩ := st_best (M := M) (M1 := M1) (M2 := M2) (k9 := k9) (r := r) (n := n) (cN := cN) (d := d) (x := (xs (5 * c + 1))) hI h1 h2
  refine z_istore_6 (pc := 1128) E dL_law_1128 rfl ?_
  refine z_aload_2 (pc := 1130) E dL_law_1130 ?_
  refine z_ivp (pc := 1131) E (m_X8_thrown M2) rfl rfl kX8_thrown mlL_80 dL_law_1131 ok11 rfl rfl rfl (Nat.le_of_ble_eq_true rfl) rfl (by decide) (by decide) ⟨by omega, by omega⟩ ?_
  refine z_iload_5 (pc := 1134) E dL_law_1134 ?_
  refine z_icmp_eq (pc := 1136) (tgt := 1141) E dL_law_1136 (by decide) (fun h1136 => ?_) (fun h1136 => absurd h1136 (fun z => z hth))
  refine z_iload_5 (pc := 1141) E dL_law_1141 ?_
  refine z_if_ne (pc := 1143) (tgt := 1158) E dL_law_1143 (by decide) (fun h1143 => ?_) (fun h1143 => ?_)
  · refine z_goto (pc := 1158) (tgt := 1272) E dL_law_1158 (by decide) ?_
    exact z_loc (lv' := [some (.ref b), some (.ref (ad G 14 0 0)), some (.ref (ad G 11 0 0)), some (.ref (ad G 21 0 0)), some (.int (nI (5 * c))), none, none, none, none]) rfl loc9 (z_widen (by omega) (by omega) (hK _ _ _ _ hI2))
  · refine z_aload_3 (pc := 1146) E dL_law_1146 ?_
    refine z_iconst (v := 0) (pc := 1147) E dL_law_1147 (by decide) ?_
    refine z_lald (pc := 1148) E dL_law_1148 ?_
    refine z_iload_6 (pc := 1149) E dL_law_1149 ?_
    refine z_i2l (pc := 1151) E dL_law_1151 ?_
    refine z_lcmp (pc := 1152) E dL_law_1152 ?_
    refine z_if_eq (pc := 1153) (tgt := 1158) E dL_law_1153 (by decide) (fun h1153 => ?_) (fun h1153 => absurd h1153 (fun z => z (cmp_e.mpr (by rw [hout h1143]))))
    refine z_goto (pc := 1158) (tgt := 1272) E dL_law_1158 (by decide) ?_
    exact z_loc (lv' := [some (.ref b), some (.ref (ad G 14 0 0)), some (.ref (ad G 11 0 0)), some (.ref (ad G 21 0 0)), some (.int (nI (5 * c))), none, none, none, none]) rfl loc9 (z_widen (by omega) (by omega) (hK _ _ _ _ hI2))

set_option maxRecDepth 100000 in
set_option maxHeartbeats 4000000 in
theorem l_most {X : PX} {G : GT} {Q : State → Prop} {b L c : Nat} {xs : Nat → Int32} {v5 v6 v7 v8 : Option Value} (E : EF X G cL_law 9 RL ret 11 601024 7293034) (hl0 : (xL X).stackTraces = false) (hX : va_X b L xs (xS X) (xS X).heap) (hbl : b < (xS X).heap.size) (hG : G.2.2 0 = (xS X).heap.size) (hL : L ≤ 2560) (hc5 : 5 * c + 5 ≤ L) {M : Mem} {n cN d : Nat} (hI : Inv2 M M n cN d c) (hK : LK X G Q b c) : Z X G (0, 0) Q 1161 [some (.ref b), some (.ref (ad G 14 0 0)), some (.ref (ad G 11 0 0)), some (.ref (ad G 21 0 0)), some (.int (nI (5 * c))), v5, v6, v7, v8] [] M (154 + 20 * c) (2256 + 700 * c) := by
  have h40 := hI.2.2.2.2.2.1
  have h10 := hI.2.2.2.2.2.2.1
  have hn0 := hI.1.2.2.2.2.1
  have hc0 := hI.1.2.2.2.1
  have hd0 := hI.2.2.2.2.2.2.2.2.2.1
  have hdc := hI.2.2.2.2.2.2.2.2.2.2
  have hd30 : d < 2 ^ 30 := by omega
  have how0 := inv_how hI
  refine z_aload_1 (pc := 1161) E dL_law_1161 ?_
  refine z_aload_0 (pc := 1162) E dL_law_1162 ?_
  refine z_iload_4 (pc := 1163) E dL_law_1163 ?_
  refine z_iconst (v := 1) (pc := 1165) E dL_law_1165 (by decide) ?_
  refine z_iadd (pc := 1166) E dL_law_1166 ?_
  refine z_sld (j := 5 * c + 1) (pc := 1167) E hX hbl hG dL_law_1167 (nI_add (5 * c) 1) (by omega) hL ?_
  refine z_aload_3 (pc := 1168) E dL_law_1168 ?_
  refine z_wc (pc := 1169) E hl0 (w_most M n cN (xs (5 * c + 1)) hn0 h40 hc0 h10) rfl rfl kL_most mlL_136 dL_law_1169 rfl (Nat.le_of_ble_eq_true rfl) rfl (by decide) (by decide) ⟨by omega, by omega⟩ (fun k9 M1 h1 => ?_)
  have hJ := inv2_k hI (EqA.refl M) (eb_most (M := M) (M1 := M1) (k9 := k9) (n := n) (cN := cN) (x := (xs (5 * c + 1))) h1)
  have hn6 := hJ.1.2.2.2.2.2.1
  have hc6 := hJ.2.2.2.2.2.2.2.1
  have hd6 := hJ.1.1.symm.trans hd0
  have how6 := hJ.2.1.1
  have how10 := inv_how10 hJ
  have hf7 := fun t ht => rw_7 (t := t) hJ.2.2.2.2.1 ht
  have hp5 := inv_p hJ
  refine z_istore_5 (pc := 1172) E dL_law_1172 rfl ?_
  refine z_aload_2 (pc := 1174) E dL_law_1174 ?_
  refine z_aload_0 (pc := 1175) E dL_law_1175 ?_
  refine z_iload_4 (pc := 1176) E dL_law_1176 ?_
  refine z_iconst (v := 1) (pc := 1178) E dL_law_1178 (by decide) ?_
  refine z_iadd (pc := 1179) E dL_law_1179 ?_
  refine z_sld (j := 5 * c + 1) (pc := 1180) E hX hbl hG dL_law_1180 (nI_add (5 * c) 1) (by omega) hL ?_
  refine z_iv (pc := 1181) E (m_X8_most M1 n cN (xs (5 * c + 1)) hn6 h40 hc6 h10) rfl rfl kX8_most mlL_138 dL_law_1181 ok11 rfl rfl rfl (Nat.le_of_ble_eq_true rfl) rfl (by decide) (by decide) ⟨by omega, by omega⟩ (fun _ _ _ => Or.inl rfl) (fun r M2 h2 => ?_)
  obtain ⟨⟨n2, cN2, d2, hI2⟩, hth, hout⟩ := st_most (M := M) (M1 := M1) (M2 := M2) (k9 := k9) (r := r) (n := n) (cN := cN) (d := d) (x := (xs (5 * c + 1))) hI h1 h2
  refine z_istore_6 (pc := 1184) E dL_law_1184 rfl ?_
  refine z_aload_2 (pc := 1186) E dL_law_1186 ?_
  refine z_ivp (pc := 1187) E (m_X8_thrown M2) rfl rfl kX8_thrown mlL_80 dL_law_1187 ok11 rfl rfl rfl (Nat.le_of_ble_eq_true rfl) rfl (by decide) (by decide) ⟨by omega, by omega⟩ ?_
  refine z_iload_5 (pc := 1190) E dL_law_1190 ?_
  refine z_icmp_eq (pc := 1192) (tgt := 1197) E dL_law_1192 (by decide) (fun h1192 => ?_) (fun h1192 => absurd h1192 (fun z => z hth))
  refine z_iload_5 (pc := 1197) E dL_law_1197 ?_
  refine z_if_ne (pc := 1199) (tgt := 1214) E dL_law_1199 (by decide) (fun h1199 => ?_) (fun h1199 => ?_)
  · refine z_goto (pc := 1214) (tgt := 1272) E dL_law_1214 (by decide) ?_
    exact z_loc (lv' := [some (.ref b), some (.ref (ad G 14 0 0)), some (.ref (ad G 11 0 0)), some (.ref (ad G 21 0 0)), some (.int (nI (5 * c))), none, none, none, none]) rfl loc9 (z_widen (by omega) (by omega) (hK _ _ _ _ hI2))
  · refine z_aload_3 (pc := 1202) E dL_law_1202 ?_
    refine z_iconst (v := 0) (pc := 1203) E dL_law_1203 (by decide) ?_
    refine z_lald (pc := 1204) E dL_law_1204 ?_
    refine z_iload_6 (pc := 1205) E dL_law_1205 ?_
    refine z_i2l (pc := 1207) E dL_law_1207 ?_
    refine z_lcmp (pc := 1208) E dL_law_1208 ?_
    refine z_if_eq (pc := 1209) (tgt := 1214) E dL_law_1209 (by decide) (fun h1209 => ?_) (fun h1209 => absurd h1209 (fun z => z (cmp_e.mpr (by rw [hout h1199]))))
    refine z_goto (pc := 1214) (tgt := 1272) E dL_law_1214 (by decide) ?_
    exact z_loc (lv' := [some (.ref b), some (.ref (ad G 14 0 0)), some (.ref (ad G 11 0 0)), some (.ref (ad G 21 0 0)), some (.int (nI (5 * c))), none, none, none, none]) rfl loc9 (z_widen (by omega) (by omega) (hK _ _ _ _ hI2))

theorem l_foresee {X : PX} {G : GT} {Q : State → Prop} {b L c : Nat} {xs : Nat → Int32} {v5 v6 v7 v8 : Option Value} (E : EF X G cL_law 9 RL ret 11 601024 7293034) (hl0 : (xL X).stackTraces = false) (hX : va_X b L xs (xS X) (xS X).heap) (hbl : b < (xS X).heap.size) (hG : G.2.2 0 = (xS X).heap.size) (hL : L ≤ 2560) (hc5 : 5 * c + 5 ≤ L) {M : Mem} {n cN d : Nat} (hI : Inv2 M M n cN d c) (hK : LK X G Q b c) : Z X G (0, 0) Q 981 [some (.ref b), some (.ref (ad G 14 0 0)), some (.ref (ad G 11 0 0)), some (.ref (ad G 21 0 0)), some (.int (nI (5 * c))), v5, v6, v7, v8] [] M (154 + 20 * c) (2256 + 700 * c) := by
  by_cases hw : 0 ≤ xs (5 * c + 2) ∧ xs (5 * c + 2) ≤ 2
  · obtain ⟨v, hv, e⟩ := ix_c (n := 3) hw (by decide) (by decide)
    match v, hv, e with
    | 0, _, e => exact l_fore_0 E hl0 hX hbl hG hL hc5 hI hK e
    | 1, _, e => exact l_fore_1 E hl0 hX hbl hG hL hc5 hI hK e
    | 2, _, e => exact l_fore_2 E hl0 hX hbl hG hL hc5 hI hK e
  · exact l_fore_x E hl0 hX hbl hG hL hc5 hI hK hw

set_option maxRecDepth 100000 in
set_option maxHeartbeats 4000000 in
theorem l_tidy {X : PX} {G : GT} {Q : State → Prop} {b L c : Nat} {xs : Nat → Int32} {v5 v6 v7 v8 : Option Value} (E : EF X G cL_law 9 RL ret 11 601024 7293034) (hl0 : (xL X).stackTraces = false) (hX : va_X b L xs (xS X) (xS X).heap) (hbl : b < (xS X).heap.size) (hG : G.2.2 0 = (xS X).heap.size) (hL : L ≤ 2560) (hc5 : 5 * c + 5 ≤ L) {M : Mem} {n cN d : Nat} (hI : Inv2 M M n cN d c) (hK : LK X G Q b c) : Z X G (0, 0) Q 856 [some (.ref b), some (.ref (ad G 14 0 0)), some (.ref (ad G 11 0 0)), some (.ref (ad G 21 0 0)), some (.int (nI (5 * c))), v5, v6, v7, v8] [] M (154 + 20 * c) (2256 + 700 * c) := by
  have h40 := hI.2.2.2.2.2.1
  have h10 := hI.2.2.2.2.2.2.1
  have hn0 := hI.1.2.2.2.2.1
  have hc0 := hI.1.2.2.2.1
  have hd0 := hI.2.2.2.2.2.2.2.2.2.1
  have hdc := hI.2.2.2.2.2.2.2.2.2.2
  have hd30 : d < 2 ^ 30 := by omega
  have how0 := inv_how hI
  refine z_aload_1 (pc := 856) E dL_law_856 ?_
  refine z_ivf (pc := 857) E (m_X6_tidy M) rfl rfl kX6_tidy mlL_117 dL_law_857 ok14 rfl rfl rfl (Nat.le_of_ble_eq_true rfl) rfl (by decide) (by decide) ⟨by omega, by omega⟩ ?_
  refine z_aload_2 (pc := 860) E dL_law_860 ?_
  refine z_iv (pc := 861) E (m_X8_tidy _ _ (st_tidy hI)) rfl rfl kX8_tidy mlL_120 dL_law_861 ok11 rfl rfl rfl (Nat.le_of_ble_eq_true rfl) rfl (by decide) (by decide) ⟨by omega, by omega⟩ (fun _ _ _ => Or.inl rfl) (fun r M2 h2 => ?_)
  obtain ⟨h2r, n2, cN2, d2, hI2⟩ := h2
  refine z_icmp_eq (pc := 864) (tgt := 1272) E dL_law_864 (by decide) (fun h864 => ?_) (fun h864 => absurd h864 (fun z => z h2r.symm))
  exact z_loc (lv' := [some (.ref b), some (.ref (ad G 14 0 0)), some (.ref (ad G 11 0 0)), some (.ref (ad G 21 0 0)), some (.int (nI (5 * c))), none, none, none, none]) rfl loc9 (z_widen (by omega) (by omega) (hK _ _ _ _ hI2))

set_option maxRecDepth 100000 in
set_option maxHeartbeats 4000000 in
theorem l_fetched {X : PX} {G : GT} {Q : State → Prop} {b L c : Nat} {xs : Nat → Int32} {v5 v6 v7 v8 : Option Value} (E : EF X G cL_law 9 RL ret 11 601024 7293034) (hl0 : (xL X).stackTraces = false) (hX : va_X b L xs (xS X) (xS X).heap) (hbl : b < (xS X).heap.size) (hG : G.2.2 0 = (xS X).heap.size) (hL : L ≤ 2560) (hc5 : 5 * c + 5 ≤ L) {M : Mem} {n cN d : Nat} (hI : Inv2 M M n cN d c) (hK : LK X G Q b c) : Z X G (0, 0) Q 1217 [some (.ref b), some (.ref (ad G 14 0 0)), some (.ref (ad G 11 0 0)), some (.ref (ad G 21 0 0)), some (.int (nI (5 * c))), v5, v6, v7, v8] [] M (154 + 20 * c) (2256 + 700 * c) := by
  have h40 := hI.2.2.2.2.2.1
  have h10 := hI.2.2.2.2.2.2.1
  have hn0 := hI.1.2.2.2.2.1
  have hc0 := hI.1.2.2.2.1
  have hd0 := hI.2.2.2.2.2.2.2.2.2.1
  have hdc := hI.2.2.2.2.2.2.2.2.2.2
  have hd30 : d < 2 ^ 30 := by omega
  have how0 := inv_how hI
  obtain ⟨hfe, n2, cN2, d2, hI2⟩ := st_fetched hI
  refine z_aload_1 (pc := 1217) E dL_law_1217 ?_
  refine z_dvp (pc := 1218) E (m_X6_fetched M n hn0 h40) rfl rfl kX6_fetched mlL_139 dL_law_1218 ok14 rfl rfl rfl (Nat.le_of_ble_eq_true rfl) rfl (by decide) (by decide) ⟨by omega, by omega⟩ ?_
  refine z_dstore_5 (pc := 1221) E dL_law_1221 rfl ?_
  refine z_aload_2 (pc := 1223) E dL_law_1223 ?_
  refine z_dvf (pc := 1224) E (m_X8_fetched M n hI.1.2.2.2.2.2.1 h40) rfl rfl kX8_fetched mlL_143 dL_law_1224 ok11 rfl rfl rfl (Nat.le_of_ble_eq_true rfl) rfl (by decide) (by decide) ⟨by omega, by omega⟩ ?_
  rw [← hfe]
  refine z_dstore_7 (pc := 1227) E dL_law_1227 rfl ?_
  refine z_dload_5 (pc := 1229) E dL_law_1229 ?_
  refine z_dload_7 (pc := 1231) E dL_law_1231 ?_
  refine z_dcmp (pc := 1233) E dL_law_1233 ?_
  refine z_if_eq (pc := 1234) (tgt := 1255) E dL_law_1234 (by decide) (fun h1234 => ?_) (fun h1234 => ?_)
  · refine z_goto (pc := 1255) (tgt := 1272) E dL_law_1255 (by decide) ?_
    exact z_loc (lv' := [some (.ref b), some (.ref (ad G 14 0 0)), some (.ref (ad G 11 0 0)), some (.ref (ad G 21 0 0)), some (.int (nI (5 * c))), none, none, none, none]) rfl loc9 (z_widen (by omega) (by omega) (hK _ _ _ _ hI2))
  · refine z_dload_5 (pc := 1237) E dL_law_1237 ?_
    refine z_dload_5 (pc := 1239) E dL_law_1239 ?_
    refine z_dcmp (pc := 1241) E dL_law_1241 ?_
    refine z_if_eq (pc := 1242) (tgt := 1253) E dL_law_1242 (by decide) (fun h1242 => absurd h1242 h1234) (fun h1242 => ?_)
    refine z_dload_7 (pc := 1245) E dL_law_1245 ?_
    refine z_dload_7 (pc := 1247) E dL_law_1247 ?_
    refine z_dcmp (pc := 1249) E dL_law_1249 ?_
    refine z_if_ne (pc := 1250) (tgt := 1255) E dL_law_1250 (by decide) (fun h1250 => ?_) (fun h1250 => absurd h1250 h1234)
    refine z_goto (pc := 1255) (tgt := 1272) E dL_law_1255 (by decide) ?_
    exact z_loc (lv' := [some (.ref b), some (.ref (ad G 14 0 0)), some (.ref (ad G 11 0 0)), some (.ref (ad G 21 0 0)), some (.int (nI (5 * c))), none, none, none, none]) rfl loc9 (z_widen (by omega) (by omega) (hK _ _ _ _ hI2))

set_option maxRecDepth 100000 in
set_option maxHeartbeats 4000000 in
theorem l_digest {X : PX} {G : GT} {Q : State → Prop} {b L c : Nat} {xs : Nat → Int32} {v5 v6 v7 v8 : Option Value} (E : EF X G cL_law 9 RL ret 11 601024 7293034) (hl0 : (xL X).stackTraces = false) (hX : va_X b L xs (xS X) (xS X).heap) (hbl : b < (xS X).heap.size) (hG : G.2.2 0 = (xS X).heap.size) (hL : L ≤ 2560) (hc5 : 5 * c + 5 ≤ L) {M : Mem} {n cN d : Nat} (hI : Inv2 M M n cN d c) (hK : LK X G Q b c) : Z X G (0, 0) Q 1258 [some (.ref b), some (.ref (ad G 14 0 0)), some (.ref (ad G 11 0 0)), some (.ref (ad G 21 0 0)), some (.int (nI (5 * c))), v5, v6, v7, v8] [] M (154 + 20 * c) (2256 + 700 * c) := by
  have h40 := hI.2.2.2.2.2.1
  have h10 := hI.2.2.2.2.2.2.1
  have hn0 := hI.1.2.2.2.2.1
  have hc0 := hI.1.2.2.2.1
  have hd0 := hI.2.2.2.2.2.2.2.2.2.1
  have hdc := hI.2.2.2.2.2.2.2.2.2.2
  have hd30 : d < 2 ^ 30 := by omega
  have how0 := inv_how hI
  obtain ⟨hde, n2, cN2, d2, hI2⟩ := st_digest hI
  have hf7 := fun t ht => rw_7 (t := t) hI.2.2.2.2.1 ht
  refine z_aload_1 (pc := 1258) E dL_law_1258 ?_
  refine z_lvp (pc := 1259) E (m_X6_digest M n cN hn0 h40 hc0 h10) rfl rfl kX6_digest mlL_144 dL_law_1259 ok14 rfl rfl rfl (Nat.le_of_ble_eq_true rfl) rfl (by decide) (by decide) ⟨by omega, by omega⟩ ?_
  refine z_aload_2 (pc := 1262) E dL_law_1262 ?_
  refine z_lv (pc := 1263) E (m_X8_digest M n cN hI.1.2.2.2.2.2.1 h40 hI.2.2.2.2.2.2.2.1 h10 hf7) rfl rfl kX8_digest mlL_148 dL_law_1263 ok11 rfl rfl rfl (Nat.le_of_ble_eq_true rfl) rfl (by decide) (by decide) ⟨by omega, by omega⟩ (fun _ _ _ => Or.inl rfl) (fun r M2 h2 => ?_)
  obtain ⟨hr, rfl⟩ := h2
  refine z_lcmp (pc := 1266) E dL_law_1266 ?_
  refine z_if_eq (pc := 1267) (tgt := 1272) E dL_law_1267 (by decide) (fun h1267 => ?_) (fun h1267 => absurd h1267 (fun z => z (cmp_e.mpr (hde.trans hr.symm))))
  exact z_loc (lv' := [some (.ref b), some (.ref (ad G 14 0 0)), some (.ref (ad G 11 0 0)), some (.ref (ad G 21 0 0)), some (.int (nI (5 * c))), none, none, none, none]) rfl loc9 (z_widen (by omega) (by omega) (hK _ _ _ _ hI2))
