def zw_La_729 (ln : Nat → Nat) (L : Nat) (xs : Nat → Int32) (k63 : Int32 × Nat × zS × zS × (Nat → Int64) → Prop) (v4 : Int32) (j : Nat) (c g : zS) (o : Nat → Int64) : Prop := k63 ((v4 + (7 : Int32)), j + 1, c, g, o)
set_option maxHeartbeats 4000000 in
set_option maxRecDepth 100000 in
theorem zt_La_729 {x : zC} {w : zW} {b L : Nat} {xs : Nat → Int32} {k0 n0 : Nat} (hL : zq_LW x w b L xs k0 n0) {k63 : Int32 × Nat × zS × zS × (Nat → Int64) → Prop} {j : Nat} (hj : j < 1000) (hk : ∀ q : Int32 × Nat × zS × zS × (Nat → Int64), k63 q → zq_W x w (k0 + q.2.1) (n0 + 6 * q.2.1) (q.2.2.1, q.2.2.2.1, q.2.2.2.2) 63 [some (.ref b), some (.ref (w.2.1 0)), some (.ref (w.2.1 28)), some (.ref (w.2.1 40)), some (.int q.1), none, none] []) {v4 : Int32} {c g : zS} {o : Nat → Int64} (h : zw_La_729 w.2.2.1 L xs k63 v4 j c g o) : zq_W x w (k0 + j + 1) (n0 + 6 * j + 6) (c, g, o) 729 [some (.ref b), some (.ref (w.2.1 0)), some (.ref (w.2.1 28)), some (.ref (w.2.1 40)), some (.int v4), none, none] [] := by
  obtain ⟨hG, hW, hAp, hE, hA0, hX, hbl, hbA, hQ, hfl, hk0, hn0⟩ := id hL
  refine zr_iinc hG (u := (7 : Int32)) [some (.ref b), some (.ref (w.2.1 0)), some (.ref (w.2.1 28)), some (.ref (w.2.1 40)), some (.int (v4 + (7 : Int32))), none, none] zd_La_law_729 rfl (by decide) (Nat.le_of_ble_eq_true rfl) rfl ?_
  refine zr_goto hG 63 zd_La_law_732 (by decide) ?_
  have h := hk _ h
  exact zr_widen (k' := k0 + (j + 1)) (n' := n0 + 6 * (j + 1)) (by omega) (by omega) h
def zw_La_388 (ln : Nat → Nat) (L : Nat) (xs : Nat → Int32) (k63 : Int32 × Nat × zS × zS × (Nat → Int64) → Prop) (v4 : Int32) (u0 : Int32) (j : Nat) (c g : zS) (o : Nat → Int64) : Prop := vp_in (v4 + (2 : Int32)) L ∧ (zw_Mo_all u0 (xs (v4 + (2 : Int32)).toNatClampNeg) g (fun r239 z239 => zw_La_729 ln L xs k63 v4 j c z239 o))
set_option maxHeartbeats 4000000 in
set_option maxRecDepth 100000 in
theorem zt_La_388 {x : zC} {w : zW} {b L : Nat} {xs : Nat → Int32} {k0 n0 : Nat} (hL : zq_LW x w b L xs k0 n0) {k63 : Int32 × Nat × zS × zS × (Nat → Int64) → Prop} {j : Nat} (hj : j < 1000) (hk : ∀ q : Int32 × Nat × zS × zS × (Nat → Int64), k63 q → zq_W x w (k0 + q.2.1) (n0 + 6 * q.2.1) (q.2.2.1, q.2.2.2.1, q.2.2.2.2) 63 [some (.ref b), some (.ref (w.2.1 0)), some (.ref (w.2.1 28)), some (.ref (w.2.1 40)), some (.int q.1), none, none] []) {v4 : Int32} {u0 : Int32} {c g : zS} {o : Nat → Int64} (h : zw_La_388 w.2.2.1 L xs k63 v4 u0 j c g o) : zq_W x w (k0 + j + 1) (n0 + 6 * j + 6) (c, g, o) 388 [some (.ref b), some (.ref (w.2.1 0)), some (.ref (w.2.1 28)), some (.ref (w.2.1 40)), some (.int v4), none, none] [.int u0, .ref (w.2.1 28)] := by
  obtain ⟨hG, hW, hAp, hE, hA0, hX, hbl, hbA, hQ, hfl, hk0, hn0⟩ := id hL
  refine zr_aload_n hG zd_La_law_388 rfl rfl ?_
  refine zr_iload hG zd_La_law_389 rfl ?_
  refine zr_iconst hG (v := (2 : Int32)) zd_La_law_391 (by decide) ?_
  refine zr_iadd hG zd_La_law_392 ?_
  obtain ⟨hi, h⟩ := h
  refine zr_sld hG hX hbl hbA hi zd_La_law_393 ?_
  refine zr_callV hG (zq_F1 hW) (As := [.int u0, .int (xs (v4 + (2 : Int32)).toNatClampNeg)]) (rest := []) (zm_Mo_all (zc_l x) w hAp c o h) 28 rfl rfl rfl zg_La_88 zdd_Mo_all ⟨rfl, rfl, by decide, by decide⟩ ⟨by show _ ≤ 601024; omega, by show _ ≤ 7293000; omega⟩ rfl (Nat.le_of_ble_eq_true rfl) zd_La_law_394 rfl ?_
  rintro _ _ ⟨r239, z239, rfl, rfl, h⟩
  refine zr_istore hG [some (.ref b), some (.ref (w.2.1 0)), some (.ref (w.2.1 28)), some (.ref (w.2.1 40)), some (.int v4), none, some (.int r239)] zd_La_law_397 (Nat.le_of_ble_eq_true rfl) rfl ?_
  refine zr_goto hG 729 zd_La_law_399 (by decide) ?_
  exact zr_mask [true, true, true, true, true, false, false] (zt_La_729 hL hj hk h)
def zw_La_726 (ln : Nat → Nat) (L : Nat) (xs : Nat → Int32) (k63 : Int32 × Nat × zS × zS × (Nat → Int64) → Prop) (v4 : Int32) (j : Nat) (c g : zS) (o : Nat → Int64) : Prop := zw_La_729 ln L xs k63 v4 j c g o
set_option maxHeartbeats 4000000 in
set_option maxRecDepth 100000 in
theorem zt_La_726 {x : zC} {w : zW} {b L : Nat} {xs : Nat → Int32} {k0 n0 : Nat} (hL : zq_LW x w b L xs k0 n0) {k63 : Int32 × Nat × zS × zS × (Nat → Int64) → Prop} {j : Nat} (hj : j < 1000) (hk : ∀ q : Int32 × Nat × zS × zS × (Nat → Int64), k63 q → zq_W x w (k0 + q.2.1) (n0 + 6 * q.2.1) (q.2.2.1, q.2.2.2.1, q.2.2.2.2) 63 [some (.ref b), some (.ref (w.2.1 0)), some (.ref (w.2.1 28)), some (.ref (w.2.1 40)), some (.int q.1), none, none] []) {v4 : Int32} {c g : zS} {o : Nat → Int64} (h : zw_La_726 w.2.2.1 L xs k63 v4 j c g o) : zq_W x w (k0 + j + 1) (n0 + 6 * j + 6) (c, g, o) 726 [some (.ref b), some (.ref (w.2.1 0)), some (.ref (w.2.1 28)), some (.ref (w.2.1 40)), some (.int v4), none, none] [] := by
  obtain ⟨hG, hW, hAp, hE, hA0, hX, hbl, hbA, hQ, hfl, hk0, hn0⟩ := id hL
  refine zr_goto hG 729 zd_La_law_726 (by decide) ?_
  exact zt_La_729 hL hj hk h
def zw_La_c0 (ln : Nat → Nat) (L : Nat) (xs : Nat → Int32) (k63 : Int32 × Nat × zS × zS × (Nat → Int64) → Prop) (v4 : Int32) (j : Nat) (c g : zS) (o : Nat → Int64) : Prop := vp_in (v4 + (1 : Int32)) L ∧ vp_in (v4 + (2 : Int32)) L ∧ vp_in (v4 + (3 : Int32)) L ∧ (zw_La_h_block ln (xs (v4 + (1 : Int32)).toNatClampNeg) (xs (v4 + (2 : Int32)).toNatClampNeg) (xs (v4 + (3 : Int32)).toNatClampNeg) c o (fun r213 c213 o213 => vp_in (v4 + (1 : Int32)) L ∧ vp_in (v4 + (2 : Int32)) L ∧ vp_in (v4 + (3 : Int32)) L ∧ (zw_Mo_block (xs (v4 + (1 : Int32)).toNatClampNeg) (xs (v4 + (2 : Int32)).toNatClampNeg) (xs (v4 + (3 : Int32)).toNatClampNeg) g (fun r214 z214 => zw_La_729 ln L xs k63 v4 j c213 z214 o213))))
set_option maxHeartbeats 4000000 in
set_option maxRecDepth 100000 in
theorem zt_La_c0 {x : zC} {w : zW} {b L : Nat} {xs : Nat → Int32} {k0 n0 : Nat} (hL : zq_LW x w b L xs k0 n0) {k63 : Int32 × Nat × zS × zS × (Nat → Int64) → Prop} {j : Nat} (hj : j < 1000) (hk : ∀ q : Int32 × Nat × zS × zS × (Nat → Int64), k63 q → zq_W x w (k0 + q.2.1) (n0 + 6 * q.2.1) (q.2.2.1, q.2.2.2.1, q.2.2.2.2) 63 [some (.ref b), some (.ref (w.2.1 0)), some (.ref (w.2.1 28)), some (.ref (w.2.1 40)), some (.int q.1), none, none] []) {v4 : Int32} {c g : zS} {o : Nat → Int64} (h : zw_La_c0 w.2.2.1 L xs k63 v4 j c g o) : zq_W x w (k0 + j) (n0 + 6 * j) (c, g, o) 148 [some (.ref b), some (.ref (w.2.1 0)), some (.ref (w.2.1 28)), some (.ref (w.2.1 40)), some (.int v4), none, none] [] := by
  obtain ⟨hG, hW, hAp, hE, hA0, hX, hbl, hbA, hQ, hfl, hk0, hn0⟩ := id hL
  refine zr_aload_n hG zd_La_law_148 rfl rfl ?_
  refine zr_aload_n hG zd_La_law_149 rfl rfl ?_
  refine zr_iload hG zd_La_law_150 rfl ?_
  refine zr_iconst hG (v := (1 : Int32)) zd_La_law_152 (by decide) ?_
  refine zr_iadd hG zd_La_law_153 ?_
  obtain ⟨hi, h⟩ := h
  refine zr_sld hG hX hbl hbA hi zd_La_law_154 ?_
  refine zr_aload_n hG zd_La_law_155 rfl rfl ?_
  refine zr_iload hG zd_La_law_156 rfl ?_
  refine zr_iconst hG (v := (2 : Int32)) zd_La_law_158 (by decide) ?_
  refine zr_iadd hG zd_La_law_159 ?_
  obtain ⟨hi, h⟩ := h
  refine zr_sld hG hX hbl hbA hi zd_La_law_160 ?_
  refine zr_aload_n hG zd_La_law_161 rfl rfl ?_
  refine zr_iload hG zd_La_law_162 rfl ?_
  refine zr_iconst hG (v := (3 : Int32)) zd_La_law_164 (by decide) ?_
  refine zr_iadd hG zd_La_law_165 ?_
  obtain ⟨hi, h⟩ := h
  refine zr_sld hG hX hbl hbA hi zd_La_law_166 ?_
  refine zr_aload_n hG zd_La_law_167 rfl rfl ?_
  refine zr_callH hG (zq_F1 hW) hE hA0 (As := [.ref (w.2.1 0), .int (xs (v4 + (1 : Int32)).toNatClampNeg), .int (xs (v4 + (2 : Int32)).toNatClampNeg), .int (xs (v4 + (3 : Int32)).toNatClampNeg), .ref (w.2.1 40)]) (rest := []) (zm_La_h_block (zc_l x) hfl w hAp g h) rfl zgh_70 zdd_La_h_block ⟨rfl, rfl, by decide, by decide⟩ ⟨by show _ ≤ 601024; omega, by show _ ≤ 7293000; omega⟩ rfl (Nat.le_of_ble_eq_true rfl) zd_La_law_168 rfl ?_
  rintro _ _ ⟨r213, c213, o213, rfl, rfl, h⟩
  refine zr_istore hG [some (.ref b), some (.ref (w.2.1 0)), some (.ref (w.2.1 28)), some (.ref (w.2.1 40)), some (.int v4), some (.int r213), none] zd_La_law_171 (Nat.le_of_ble_eq_true rfl) rfl ?_
  refine zr_aload_n hG zd_La_law_173 rfl rfl ?_
  refine zr_aload_n hG zd_La_law_174 rfl rfl ?_
  refine zr_iload hG zd_La_law_175 rfl ?_
  refine zr_iconst hG (v := (1 : Int32)) zd_La_law_177 (by decide) ?_
  refine zr_iadd hG zd_La_law_178 ?_
  obtain ⟨hi, h⟩ := h
  refine zr_sld hG hX hbl hbA hi zd_La_law_179 ?_
  refine zr_aload_n hG zd_La_law_180 rfl rfl ?_
  refine zr_iload hG zd_La_law_181 rfl ?_
  refine zr_iconst hG (v := (2 : Int32)) zd_La_law_183 (by decide) ?_
  refine zr_iadd hG zd_La_law_184 ?_
  obtain ⟨hi, h⟩ := h
  refine zr_sld hG hX hbl hbA hi zd_La_law_185 ?_
  refine zr_aload_n hG zd_La_law_186 rfl rfl ?_
  refine zr_iload hG zd_La_law_187 rfl ?_
  refine zr_iconst hG (v := (3 : Int32)) zd_La_law_189 (by decide) ?_
  refine zr_iadd hG zd_La_law_190 ?_
  obtain ⟨hi, h⟩ := h
  refine zr_sld hG hX hbl hbA hi zd_La_law_191 ?_
  refine zr_callV hG (zq_F1 hW) (As := [.int (xs (v4 + (1 : Int32)).toNatClampNeg), .int (xs (v4 + (2 : Int32)).toNatClampNeg), .int (xs (v4 + (3 : Int32)).toNatClampNeg)]) (rest := []) (zm_Mo_block (zc_l x) w hAp c213 o213 h) 28 rfl rfl rfl zg_La_73 zdd_Mo_block ⟨rfl, rfl, by decide, by decide⟩ ⟨by show _ ≤ 601024; omega, by show _ ≤ 7293000; omega⟩ rfl (Nat.le_of_ble_eq_true rfl) zd_La_law_192 rfl ?_
  rintro _ _ ⟨r214, z214, rfl, rfl, h⟩
  refine zr_istore hG [some (.ref b), some (.ref (w.2.1 0)), some (.ref (w.2.1 28)), some (.ref (w.2.1 40)), some (.int v4), some (.int r213), some (.int r214)] zd_La_law_195 (Nat.le_of_ble_eq_true rfl) rfl ?_
  refine zr_goto hG 729 zd_La_law_197 (by decide) ?_
  exact zr_mask [true, true, true, true, true, false, false] (zt_La_729 hL hj hk h)
def zw_La_c1 (ln : Nat → Nat) (L : Nat) (xs : Nat → Int32) (k63 : Int32 × Nat × zS × zS × (Nat → Int64) → Prop) (v4 : Int32) (j : Nat) (c g : zS) (o : Nat → Int64) : Prop := vp_in (v4 + (1 : Int32)) L ∧ vp_in (v4 + (2 : Int32)) L ∧ vp_in (v4 + (3 : Int32)) L ∧ vp_in (v4 + (4 : Int32)) L ∧ vp_in (v4 + (5 : Int32)) L ∧ vp_in (v4 + (6 : Int32)) L ∧ (zw_La_h_net ln (xs (v4 + (1 : Int32)).toNatClampNeg) (xs (v4 + (2 : Int32)).toNatClampNeg) (xs (v4 + (3 : Int32)).toNatClampNeg) (xs (v4 + (4 : Int32)).toNatClampNeg) (xs (v4 + (5 : Int32)).toNatClampNeg) (xs (v4 + (6 : Int32)).toNatClampNeg) c o (fun r215 c215 o215 => vp_in (v4 + (1 : Int32)) L ∧ vp_in (v4 + (2 : Int32)) L ∧ vp_in (v4 + (3 : Int32)) L ∧ vp_in (v4 + (4 : Int32)) L ∧ vp_in (v4 + (5 : Int32)) L ∧ vp_in (v4 + (6 : Int32)) L ∧ (zw_Mo_net (xs (v4 + (1 : Int32)).toNatClampNeg) (xs (v4 + (2 : Int32)).toNatClampNeg) (xs (v4 + (3 : Int32)).toNatClampNeg) (xs (v4 + (4 : Int32)).toNatClampNeg) (xs (v4 + (5 : Int32)).toNatClampNeg) (xs (v4 + (6 : Int32)).toNatClampNeg) g (fun r216 z216 => zw_La_729 ln L xs k63 v4 j c215 z216 o215))))
set_option maxHeartbeats 4000000 in
set_option maxRecDepth 100000 in
theorem zt_La_c1 {x : zC} {w : zW} {b L : Nat} {xs : Nat → Int32} {k0 n0 : Nat} (hL : zq_LW x w b L xs k0 n0) {k63 : Int32 × Nat × zS × zS × (Nat → Int64) → Prop} {j : Nat} (hj : j < 1000) (hk : ∀ q : Int32 × Nat × zS × zS × (Nat → Int64), k63 q → zq_W x w (k0 + q.2.1) (n0 + 6 * q.2.1) (q.2.2.1, q.2.2.2.1, q.2.2.2.2) 63 [some (.ref b), some (.ref (w.2.1 0)), some (.ref (w.2.1 28)), some (.ref (w.2.1 40)), some (.int q.1), none, none] []) {v4 : Int32} {c g : zS} {o : Nat → Int64} (h : zw_La_c1 w.2.2.1 L xs k63 v4 j c g o) : zq_W x w (k0 + j) (n0 + 6 * j) (c, g, o) 200 [some (.ref b), some (.ref (w.2.1 0)), some (.ref (w.2.1 28)), some (.ref (w.2.1 40)), some (.int v4), none, none] [] := by
  obtain ⟨hG, hW, hAp, hE, hA0, hX, hbl, hbA, hQ, hfl, hk0, hn0⟩ := id hL
  refine zr_aload_n hG zd_La_law_200 rfl rfl ?_
  refine zr_aload_n hG zd_La_law_201 rfl rfl ?_
  refine zr_iload hG zd_La_law_202 rfl ?_
  refine zr_iconst hG (v := (1 : Int32)) zd_La_law_204 (by decide) ?_
  refine zr_iadd hG zd_La_law_205 ?_
  obtain ⟨hi, h⟩ := h
  refine zr_sld hG hX hbl hbA hi zd_La_law_206 ?_
  refine zr_aload_n hG zd_La_law_207 rfl rfl ?_
  refine zr_iload hG zd_La_law_208 rfl ?_
  refine zr_iconst hG (v := (2 : Int32)) zd_La_law_210 (by decide) ?_
  refine zr_iadd hG zd_La_law_211 ?_
  obtain ⟨hi, h⟩ := h
  refine zr_sld hG hX hbl hbA hi zd_La_law_212 ?_
  refine zr_aload_n hG zd_La_law_213 rfl rfl ?_
  refine zr_iload hG zd_La_law_214 rfl ?_
  refine zr_iconst hG (v := (3 : Int32)) zd_La_law_216 (by decide) ?_
  refine zr_iadd hG zd_La_law_217 ?_
  obtain ⟨hi, h⟩ := h
  refine zr_sld hG hX hbl hbA hi zd_La_law_218 ?_
  refine zr_aload_n hG zd_La_law_219 rfl rfl ?_
  refine zr_iload hG zd_La_law_220 rfl ?_
  refine zr_iconst hG (v := (4 : Int32)) zd_La_law_222 (by decide) ?_
  refine zr_iadd hG zd_La_law_223 ?_
  obtain ⟨hi, h⟩ := h
  refine zr_sld hG hX hbl hbA hi zd_La_law_224 ?_
  refine zr_aload_n hG zd_La_law_225 rfl rfl ?_
  refine zr_iload hG zd_La_law_226 rfl ?_
  refine zr_iconst hG (v := (5 : Int32)) zd_La_law_228 (by decide) ?_
  refine zr_iadd hG zd_La_law_229 ?_
  obtain ⟨hi, h⟩ := h
  refine zr_sld hG hX hbl hbA hi zd_La_law_230 ?_
  refine zr_aload_n hG zd_La_law_231 rfl rfl ?_
  refine zr_iload hG zd_La_law_232 rfl ?_
  refine zr_bipush hG (v := (6 : Int32)) zd_La_law_234 (by decide) ?_
  refine zr_iadd hG zd_La_law_236 ?_
  obtain ⟨hi, h⟩ := h
  refine zr_sld hG hX hbl hbA hi zd_La_law_237 ?_
  refine zr_aload_n hG zd_La_law_238 rfl rfl ?_
  refine zr_callH hG (zq_F1 hW) hE hA0 (As := [.ref (w.2.1 0), .int (xs (v4 + (1 : Int32)).toNatClampNeg), .int (xs (v4 + (2 : Int32)).toNatClampNeg), .int (xs (v4 + (3 : Int32)).toNatClampNeg), .int (xs (v4 + (4 : Int32)).toNatClampNeg), .int (xs (v4 + (5 : Int32)).toNatClampNeg), .int (xs (v4 + (6 : Int32)).toNatClampNeg), .ref (w.2.1 40)]) (rest := []) (zm_La_h_net (zc_l x) hfl w hAp g h) rfl zgh_74 zdd_La_h_net ⟨rfl, rfl, by decide, by decide⟩ ⟨by show _ ≤ 601024; omega, by show _ ≤ 7293000; omega⟩ rfl (Nat.le_of_ble_eq_true rfl) zd_La_law_239 rfl ?_
  rintro _ _ ⟨r215, c215, o215, rfl, rfl, h⟩
  refine zr_istore hG [some (.ref b), some (.ref (w.2.1 0)), some (.ref (w.2.1 28)), some (.ref (w.2.1 40)), some (.int v4), some (.int r215), none] zd_La_law_242 (Nat.le_of_ble_eq_true rfl) rfl ?_
  refine zr_aload_n hG zd_La_law_244 rfl rfl ?_
  refine zr_aload_n hG zd_La_law_245 rfl rfl ?_
  refine zr_iload hG zd_La_law_246 rfl ?_
  refine zr_iconst hG (v := (1 : Int32)) zd_La_law_248 (by decide) ?_
  refine zr_iadd hG zd_La_law_249 ?_
  obtain ⟨hi, h⟩ := h
  refine zr_sld hG hX hbl hbA hi zd_La_law_250 ?_
  refine zr_aload_n hG zd_La_law_251 rfl rfl ?_
  refine zr_iload hG zd_La_law_252 rfl ?_
  refine zr_iconst hG (v := (2 : Int32)) zd_La_law_254 (by decide) ?_
  refine zr_iadd hG zd_La_law_255 ?_
  obtain ⟨hi, h⟩ := h
  refine zr_sld hG hX hbl hbA hi zd_La_law_256 ?_
  refine zr_aload_n hG zd_La_law_257 rfl rfl ?_
  refine zr_iload hG zd_La_law_258 rfl ?_
  refine zr_iconst hG (v := (3 : Int32)) zd_La_law_260 (by decide) ?_
  refine zr_iadd hG zd_La_law_261 ?_
  obtain ⟨hi, h⟩ := h
  refine zr_sld hG hX hbl hbA hi zd_La_law_262 ?_
  refine zr_aload_n hG zd_La_law_263 rfl rfl ?_
  refine zr_iload hG zd_La_law_264 rfl ?_
  refine zr_iconst hG (v := (4 : Int32)) zd_La_law_266 (by decide) ?_
  refine zr_iadd hG zd_La_law_267 ?_
  obtain ⟨hi, h⟩ := h
  refine zr_sld hG hX hbl hbA hi zd_La_law_268 ?_
  refine zr_aload_n hG zd_La_law_269 rfl rfl ?_
  refine zr_iload hG zd_La_law_270 rfl ?_
  refine zr_iconst hG (v := (5 : Int32)) zd_La_law_272 (by decide) ?_
  refine zr_iadd hG zd_La_law_273 ?_
  obtain ⟨hi, h⟩ := h
  refine zr_sld hG hX hbl hbA hi zd_La_law_274 ?_
  refine zr_aload_n hG zd_La_law_275 rfl rfl ?_
  refine zr_iload hG zd_La_law_276 rfl ?_
  refine zr_bipush hG (v := (6 : Int32)) zd_La_law_278 (by decide) ?_
  refine zr_iadd hG zd_La_law_280 ?_
  obtain ⟨hi, h⟩ := h
  refine zr_sld hG hX hbl hbA hi zd_La_law_281 ?_
  refine zr_callV hG (zq_F1 hW) (As := [.int (xs (v4 + (1 : Int32)).toNatClampNeg), .int (xs (v4 + (2 : Int32)).toNatClampNeg), .int (xs (v4 + (3 : Int32)).toNatClampNeg), .int (xs (v4 + (4 : Int32)).toNatClampNeg), .int (xs (v4 + (5 : Int32)).toNatClampNeg), .int (xs (v4 + (6 : Int32)).toNatClampNeg)]) (rest := []) (zm_Mo_net (zc_l x) w hAp c215 o215 h) 28 rfl rfl rfl zg_La_77 zdd_Mo_net ⟨rfl, rfl, by decide, by decide⟩ ⟨by show _ ≤ 601024; omega, by show _ ≤ 7293000; omega⟩ rfl (Nat.le_of_ble_eq_true rfl) zd_La_law_282 rfl ?_
  rintro _ _ ⟨r216, z216, rfl, rfl, h⟩
  refine zr_istore hG [some (.ref b), some (.ref (w.2.1 0)), some (.ref (w.2.1 28)), some (.ref (w.2.1 40)), some (.int v4), some (.int r215), some (.int r216)] zd_La_law_285 (Nat.le_of_ble_eq_true rfl) rfl ?_
  refine zr_goto hG 729 zd_La_law_287 (by decide) ?_
  exact zr_mask [true, true, true, true, true, false, false] (zt_La_729 hL hj hk h)
def zw_La_c10 (ln : Nat → Nat) (L : Nat) (xs : Nat → Int32) (k63 : Int32 × Nat × zS × zS × (Nat → Int64) → Prop) (v4 : Int32) (j : Nat) (c g : zS) (o : Nat → Int64) : Prop := vp_in (v4 + (1 : Int32)) L ∧ (zw_La_h_faults ln (xs (v4 + (1 : Int32)).toNatClampNeg) c o (fun r231 c231 o231 => vp_in (v4 + (1 : Int32)) L ∧ (zw_Mo_faults (xs (v4 + (1 : Int32)).toNatClampNeg) g (fun r232 z232 => zw_La_729 ln L xs k63 v4 j c231 z232 o231))))
set_option maxHeartbeats 4000000 in
set_option maxRecDepth 100000 in
theorem zt_La_c10 {x : zC} {w : zW} {b L : Nat} {xs : Nat → Int32} {k0 n0 : Nat} (hL : zq_LW x w b L xs k0 n0) {k63 : Int32 × Nat × zS × zS × (Nat → Int64) → Prop} {j : Nat} (hj : j < 1000) (hk : ∀ q : Int32 × Nat × zS × zS × (Nat → Int64), k63 q → zq_W x w (k0 + q.2.1) (n0 + 6 * q.2.1) (q.2.2.1, q.2.2.2.1, q.2.2.2.2) 63 [some (.ref b), some (.ref (w.2.1 0)), some (.ref (w.2.1 28)), some (.ref (w.2.1 40)), some (.int q.1), none, none] []) {v4 : Int32} {c g : zS} {o : Nat → Int64} (h : zw_La_c10 w.2.2.1 L xs k63 v4 j c g o) : zq_W x w (k0 + j) (n0 + 6 * j) (c, g, o) 620 [some (.ref b), some (.ref (w.2.1 0)), some (.ref (w.2.1 28)), some (.ref (w.2.1 40)), some (.int v4), none, none] [] := by
  obtain ⟨hG, hW, hAp, hE, hA0, hX, hbl, hbA, hQ, hfl, hk0, hn0⟩ := id hL
  refine zr_aload_n hG zd_La_law_620 rfl rfl ?_
  refine zr_aload_n hG zd_La_law_621 rfl rfl ?_
  refine zr_iload hG zd_La_law_622 rfl ?_
  refine zr_iconst hG (v := (1 : Int32)) zd_La_law_624 (by decide) ?_
  refine zr_iadd hG zd_La_law_625 ?_
  obtain ⟨hi, h⟩ := h
  refine zr_sld hG hX hbl hbA hi zd_La_law_626 ?_
  refine zr_aload_n hG zd_La_law_627 rfl rfl ?_
  refine zr_callH hG (zq_F1 hW) hE hA0 (As := [.ref (w.2.1 0), .int (xs (v4 + (1 : Int32)).toNatClampNeg), .ref (w.2.1 40)]) (rest := []) (zm_La_h_faults (zc_l x) hfl w hAp g h) rfl zgh_107 zdd_La_h_faults ⟨rfl, rfl, by decide, by decide⟩ ⟨by show _ ≤ 601024; omega, by show _ ≤ 7293000; omega⟩ rfl (Nat.le_of_ble_eq_true rfl) zd_La_law_628 rfl ?_
  rintro _ _ ⟨r231, c231, o231, rfl, rfl, h⟩
  refine zr_istore hG [some (.ref b), some (.ref (w.2.1 0)), some (.ref (w.2.1 28)), some (.ref (w.2.1 40)), some (.int v4), some (.int r231), none] zd_La_law_631 (Nat.le_of_ble_eq_true rfl) rfl ?_
  refine zr_aload_n hG zd_La_law_633 rfl rfl ?_
  refine zr_aload_n hG zd_La_law_634 rfl rfl ?_
  refine zr_iload hG zd_La_law_635 rfl ?_
  refine zr_iconst hG (v := (1 : Int32)) zd_La_law_637 (by decide) ?_
  refine zr_iadd hG zd_La_law_638 ?_
  obtain ⟨hi, h⟩ := h
  refine zr_sld hG hX hbl hbA hi zd_La_law_639 ?_
  refine zr_callV hG (zq_F1 hW) (As := [.int (xs (v4 + (1 : Int32)).toNatClampNeg)]) (rest := []) (zm_Mo_faults (zc_l x) w hAp c231 o231 h) 28 rfl rfl rfl zg_La_109 zdd_Mo_faults ⟨rfl, rfl, by decide, by decide⟩ ⟨by show _ ≤ 601024; omega, by show _ ≤ 7293000; omega⟩ rfl (Nat.le_of_ble_eq_true rfl) zd_La_law_640 rfl ?_
  rintro _ _ ⟨r232, z232, rfl, rfl, h⟩
  refine zr_istore hG [some (.ref b), some (.ref (w.2.1 0)), some (.ref (w.2.1 28)), some (.ref (w.2.1 40)), some (.int v4), some (.int r231), some (.int r232)] zd_La_law_643 (Nat.le_of_ble_eq_true rfl) rfl ?_
  refine zr_goto hG 729 zd_La_law_645 (by decide) ?_
  exact zr_mask [true, true, true, true, true, false, false] (zt_La_729 hL hj hk h)
def zw_La_c11 (ln : Nat → Nat) (L : Nat) (xs : Nat → Int32) (k63 : Int32 × Nat × zS × zS × (Nat → Int64) → Prop) (v4 : Int32) (j : Nat) (c g : zS) (o : Nat → Int64) : Prop := (zw_Gr_shapes ln c (fun r233 z233 => (zw_Mo_shapes g (fun r234 z234 => zw_La_729 ln L xs k63 v4 j z233 z234 o))))
set_option maxHeartbeats 4000000 in
set_option maxRecDepth 100000 in
theorem zt_La_c11 {x : zC} {w : zW} {b L : Nat} {xs : Nat → Int32} {k0 n0 : Nat} (hL : zq_LW x w b L xs k0 n0) {k63 : Int32 × Nat × zS × zS × (Nat → Int64) → Prop} {j : Nat} (hj : j < 1000) (hk : ∀ q : Int32 × Nat × zS × zS × (Nat → Int64), k63 q → zq_W x w (k0 + q.2.1) (n0 + 6 * q.2.1) (q.2.2.1, q.2.2.2.1, q.2.2.2.2) 63 [some (.ref b), some (.ref (w.2.1 0)), some (.ref (w.2.1 28)), some (.ref (w.2.1 40)), some (.int q.1), none, none] []) {v4 : Int32} {c g : zS} {o : Nat → Int64} (h : zw_La_c11 w.2.2.1 L xs k63 v4 j c g o) : zq_W x w (k0 + j) (n0 + 6 * j) (c, g, o) 648 [some (.ref b), some (.ref (w.2.1 0)), some (.ref (w.2.1 28)), some (.ref (w.2.1 40)), some (.int v4), none, none] [] := by
  obtain ⟨hG, hW, hAp, hE, hA0, hX, hbl, hbA, hQ, hfl, hk0, hn0⟩ := id hL
  have h : (zw_Gr_shapes w.2.2.1 c (fun r233 z233 => (zw_Mo_shapes g (fun r234 z234 => zw_La_729 w.2.2.1 L xs k63 v4 j z233 z234 o)))) := h
  refine zr_aload_n hG zd_La_law_648 rfl rfl ?_
  refine zr_callV hG zq_F0 (As := []) (rest := []) (zm_Gr_shapes (zc_l x) w hAp g o h) 0 rfl rfl rfl zg_La_110 zdd_Gr_shapes ⟨rfl, rfl, by decide, by decide⟩ ⟨by show _ ≤ 601024; omega, by show _ ≤ 7293000; omega⟩ rfl (Nat.le_of_ble_eq_true rfl) zd_La_law_649 rfl ?_
  rintro _ _ ⟨r233, z233, rfl, rfl, h⟩
  refine zr_pop hG rfl zd_La_law_652 ?_
  refine zr_aload_n hG zd_La_law_653 rfl rfl ?_
  refine zr_callV hG (zq_F1 hW) (As := []) (rest := []) (zm_Mo_shapes (zc_l x) w hAp z233 o h) 28 rfl rfl rfl zg_La_114 zdd_Mo_shapes ⟨rfl, rfl, by decide, by decide⟩ ⟨by show _ ≤ 601024; omega, by show _ ≤ 7293000; omega⟩ rfl (Nat.le_of_ble_eq_true rfl) zd_La_law_654 rfl ?_
  rintro _ _ ⟨r234, z234, rfl, rfl, h⟩
  refine zr_pop hG rfl zd_La_law_657 ?_
  refine zr_goto hG 729 zd_La_law_658 (by decide) ?_
  exact zr_widen (by omega) (by omega) (zt_La_729 hL hj hk h)
def zw_La_c2 (ln : Nat → Nat) (L : Nat) (xs : Nat → Int32) (k63 : Int32 × Nat × zS × zS × (Nat → Int64) → Prop) (v4 : Int32) (j : Nat) (c g : zS) (o : Nat → Int64) : Prop := vp_in (v4 + (1 : Int32)) L ∧ (zw_La_h_route ln (xs (v4 + (1 : Int32)).toNatClampNeg) c o (fun r217 c217 o217 => vp_in (v4 + (1 : Int32)) L ∧ (zw_Mo_route (xs (v4 + (1 : Int32)).toNatClampNeg) g (fun r218 z218 => zw_La_729 ln L xs k63 v4 j c217 z218 o217))))
set_option maxHeartbeats 4000000 in
set_option maxRecDepth 100000 in
theorem zt_La_c2 {x : zC} {w : zW} {b L : Nat} {xs : Nat → Int32} {k0 n0 : Nat} (hL : zq_LW x w b L xs k0 n0) {k63 : Int32 × Nat × zS × zS × (Nat → Int64) → Prop} {j : Nat} (hj : j < 1000) (hk : ∀ q : Int32 × Nat × zS × zS × (Nat → Int64), k63 q → zq_W x w (k0 + q.2.1) (n0 + 6 * q.2.1) (q.2.2.1, q.2.2.2.1, q.2.2.2.2) 63 [some (.ref b), some (.ref (w.2.1 0)), some (.ref (w.2.1 28)), some (.ref (w.2.1 40)), some (.int q.1), none, none] []) {v4 : Int32} {c g : zS} {o : Nat → Int64} (h : zw_La_c2 w.2.2.1 L xs k63 v4 j c g o) : zq_W x w (k0 + j) (n0 + 6 * j) (c, g, o) 290 [some (.ref b), some (.ref (w.2.1 0)), some (.ref (w.2.1 28)), some (.ref (w.2.1 40)), some (.int v4), none, none] [] := by
  obtain ⟨hG, hW, hAp, hE, hA0, hX, hbl, hbA, hQ, hfl, hk0, hn0⟩ := id hL
  refine zr_aload_n hG zd_La_law_290 rfl rfl ?_
  refine zr_aload_n hG zd_La_law_291 rfl rfl ?_
  refine zr_iload hG zd_La_law_292 rfl ?_
  refine zr_iconst hG (v := (1 : Int32)) zd_La_law_294 (by decide) ?_
  refine zr_iadd hG zd_La_law_295 ?_
  obtain ⟨hi, h⟩ := h
  refine zr_sld hG hX hbl hbA hi zd_La_law_296 ?_
  refine zr_aload_n hG zd_La_law_297 rfl rfl ?_
  refine zr_callH hG (zq_F1 hW) hE hA0 (As := [.ref (w.2.1 0), .int (xs (v4 + (1 : Int32)).toNatClampNeg), .ref (w.2.1 40)]) (rest := []) (zm_La_h_route (zc_l x) hfl w hAp g h) rfl zgh_78 zdd_La_h_route ⟨rfl, rfl, by decide, by decide⟩ ⟨by show _ ≤ 601024; omega, by show _ ≤ 7293000; omega⟩ rfl (Nat.le_of_ble_eq_true rfl) zd_La_law_298 rfl ?_
  rintro _ _ ⟨r217, c217, o217, rfl, rfl, h⟩
  refine zr_istore hG [some (.ref b), some (.ref (w.2.1 0)), some (.ref (w.2.1 28)), some (.ref (w.2.1 40)), some (.int v4), some (.int r217), none] zd_La_law_301 (Nat.le_of_ble_eq_true rfl) rfl ?_
  refine zr_aload_n hG zd_La_law_303 rfl rfl ?_
  refine zr_aload_n hG zd_La_law_304 rfl rfl ?_
  refine zr_iload hG zd_La_law_305 rfl ?_
  refine zr_iconst hG (v := (1 : Int32)) zd_La_law_307 (by decide) ?_
  refine zr_iadd hG zd_La_law_308 ?_
  obtain ⟨hi, h⟩ := h
  refine zr_sld hG hX hbl hbA hi zd_La_law_309 ?_
  refine zr_callV hG (zq_F1 hW) (As := [.int (xs (v4 + (1 : Int32)).toNatClampNeg)]) (rest := []) (zm_Mo_route (zc_l x) w hAp c217 o217 h) 28 rfl rfl rfl zg_La_81 zdd_Mo_route ⟨rfl, rfl, by decide, by decide⟩ ⟨by show _ ≤ 601024; omega, by show _ ≤ 7293000; omega⟩ rfl (Nat.le_of_ble_eq_true rfl) zd_La_law_310 rfl ?_
  rintro _ _ ⟨r218, z218, rfl, rfl, h⟩
  refine zr_istore hG [some (.ref b), some (.ref (w.2.1 0)), some (.ref (w.2.1 28)), some (.ref (w.2.1 40)), some (.int v4), some (.int r217), some (.int r218)] zd_La_law_313 (Nat.le_of_ble_eq_true rfl) rfl ?_
  refine zr_goto hG 729 zd_La_law_315 (by decide) ?_
  exact zr_mask [true, true, true, true, true, false, false] (zt_La_729 hL hj hk h)
def zw_La_c3 (ln : Nat → Nat) (L : Nat) (xs : Nat → Int32) (k63 : Int32 × Nat × zS × zS × (Nat → Int64) → Prop) (v4 : Int32) (j : Nat) (c g : zS) (o : Nat → Int64) : Prop := vp_in (v4 + (1 : Int32)) L ∧ (zw_La_h_push ln (xs (v4 + (1 : Int32)).toNatClampNeg) c o (fun r219 c219 o219 => vp_in (v4 + (1 : Int32)) L ∧ (zw_Mo_push (xs (v4 + (1 : Int32)).toNatClampNeg) g (fun r220 z220 => zw_La_729 ln L xs k63 v4 j c219 z220 o219))))
set_option maxHeartbeats 4000000 in
set_option maxRecDepth 100000 in
theorem zt_La_c3 {x : zC} {w : zW} {b L : Nat} {xs : Nat → Int32} {k0 n0 : Nat} (hL : zq_LW x w b L xs k0 n0) {k63 : Int32 × Nat × zS × zS × (Nat → Int64) → Prop} {j : Nat} (hj : j < 1000) (hk : ∀ q : Int32 × Nat × zS × zS × (Nat → Int64), k63 q → zq_W x w (k0 + q.2.1) (n0 + 6 * q.2.1) (q.2.2.1, q.2.2.2.1, q.2.2.2.2) 63 [some (.ref b), some (.ref (w.2.1 0)), some (.ref (w.2.1 28)), some (.ref (w.2.1 40)), some (.int q.1), none, none] []) {v4 : Int32} {c g : zS} {o : Nat → Int64} (h : zw_La_c3 w.2.2.1 L xs k63 v4 j c g o) : zq_W x w (k0 + j) (n0 + 6 * j) (c, g, o) 318 [some (.ref b), some (.ref (w.2.1 0)), some (.ref (w.2.1 28)), some (.ref (w.2.1 40)), some (.int v4), none, none] [] := by
  obtain ⟨hG, hW, hAp, hE, hA0, hX, hbl, hbA, hQ, hfl, hk0, hn0⟩ := id hL
  refine zr_aload_n hG zd_La_law_318 rfl rfl ?_
  refine zr_aload_n hG zd_La_law_319 rfl rfl ?_
  refine zr_iload hG zd_La_law_320 rfl ?_
  refine zr_iconst hG (v := (1 : Int32)) zd_La_law_322 (by decide) ?_
  refine zr_iadd hG zd_La_law_323 ?_
  obtain ⟨hi, h⟩ := h
  refine zr_sld hG hX hbl hbA hi zd_La_law_324 ?_
  refine zr_aload_n hG zd_La_law_325 rfl rfl ?_
  refine zr_callH hG (zq_F1 hW) hE hA0 (As := [.ref (w.2.1 0), .int (xs (v4 + (1 : Int32)).toNatClampNeg), .ref (w.2.1 40)]) (rest := []) (zm_La_h_push (zc_l x) hfl w hAp g h) rfl zgh_82 zdd_La_h_push ⟨rfl, rfl, by decide, by decide⟩ ⟨by show _ ≤ 601024; omega, by show _ ≤ 7293000; omega⟩ rfl (Nat.le_of_ble_eq_true rfl) zd_La_law_326 rfl ?_
  rintro _ _ ⟨r219, c219, o219, rfl, rfl, h⟩
  refine zr_istore hG [some (.ref b), some (.ref (w.2.1 0)), some (.ref (w.2.1 28)), some (.ref (w.2.1 40)), some (.int v4), some (.int r219), none] zd_La_law_329 (Nat.le_of_ble_eq_true rfl) rfl ?_
  refine zr_aload_n hG zd_La_law_331 rfl rfl ?_
  refine zr_aload_n hG zd_La_law_332 rfl rfl ?_
  refine zr_iload hG zd_La_law_333 rfl ?_
  refine zr_iconst hG (v := (1 : Int32)) zd_La_law_335 (by decide) ?_
  refine zr_iadd hG zd_La_law_336 ?_
  obtain ⟨hi, h⟩ := h
  refine zr_sld hG hX hbl hbA hi zd_La_law_337 ?_
  refine zr_callV hG (zq_F1 hW) (As := [.int (xs (v4 + (1 : Int32)).toNatClampNeg)]) (rest := []) (zm_Mo_push (zc_l x) w hAp c219 o219 h) 28 rfl rfl rfl zg_La_84 zdd_Mo_push ⟨rfl, rfl, by decide, by decide⟩ ⟨by show _ ≤ 601024; omega, by show _ ≤ 7293000; omega⟩ rfl (Nat.le_of_ble_eq_true rfl) zd_La_law_338 rfl ?_
  rintro _ _ ⟨r220, z220, rfl, rfl, h⟩
  refine zr_istore hG [some (.ref b), some (.ref (w.2.1 0)), some (.ref (w.2.1 28)), some (.ref (w.2.1 40)), some (.int v4), some (.int r219), some (.int r220)] zd_La_law_341 (Nat.le_of_ble_eq_true rfl) rfl ?_
  refine zr_goto hG 729 zd_La_law_343 (by decide) ?_
  exact zr_mask [true, true, true, true, true, false, false] (zt_La_729 hL hj hk h)
def zw_La_c5 (ln : Nat → Nat) (L : Nat) (xs : Nat → Int32) (k63 : Int32 × Nat × zS × zS × (Nat → Int64) → Prop) (v4 : Int32) (j : Nat) (c g : zS) (o : Nat → Int64) : Prop := vp_in (v4 + (1 : Int32)) L ∧ (zw_La_h_rip ln (xs (v4 + (1 : Int32)).toNatClampNeg) c o (fun r221 c221 o221 => vp_in (v4 + (1 : Int32)) L ∧ (zw_Mo_rip (xs (v4 + (1 : Int32)).toNatClampNeg) g (fun z222 => zw_La_729 ln L xs k63 v4 j c221 z222 o221))))
set_option maxHeartbeats 4000000 in
set_option maxRecDepth 100000 in
theorem zt_La_c5 {x : zC} {w : zW} {b L : Nat} {xs : Nat → Int32} {k0 n0 : Nat} (hL : zq_LW x w b L xs k0 n0) {k63 : Int32 × Nat × zS × zS × (Nat → Int64) → Prop} {j : Nat} (hj : j < 1000) (hk : ∀ q : Int32 × Nat × zS × zS × (Nat → Int64), k63 q → zq_W x w (k0 + q.2.1) (n0 + 6 * q.2.1) (q.2.2.1, q.2.2.2.1, q.2.2.2.2) 63 [some (.ref b), some (.ref (w.2.1 0)), some (.ref (w.2.1 28)), some (.ref (w.2.1 40)), some (.int q.1), none, none] []) {v4 : Int32} {c g : zS} {o : Nat → Int64} (h : zw_La_c5 w.2.2.1 L xs k63 v4 j c g o) : zq_W x w (k0 + j) (n0 + 6 * j) (c, g, o) 402 [some (.ref b), some (.ref (w.2.1 0)), some (.ref (w.2.1 28)), some (.ref (w.2.1 40)), some (.int v4), none, none] [] := by
  obtain ⟨hG, hW, hAp, hE, hA0, hX, hbl, hbA, hQ, hfl, hk0, hn0⟩ := id hL
  refine zr_aload_n hG zd_La_law_402 rfl rfl ?_
  refine zr_aload_n hG zd_La_law_403 rfl rfl ?_
  refine zr_iload hG zd_La_law_404 rfl ?_
  refine zr_iconst hG (v := (1 : Int32)) zd_La_law_406 (by decide) ?_
  refine zr_iadd hG zd_La_law_407 ?_
  obtain ⟨hi, h⟩ := h
  refine zr_sld hG hX hbl hbA hi zd_La_law_408 ?_
  refine zr_callH hG (zq_F1 hW) hE hA0 (As := [.ref (w.2.1 0), .int (xs (v4 + (1 : Int32)).toNatClampNeg)]) (rest := []) (zm_La_h_rip (zc_l x) hfl w hAp g h) rfl zgh_89 zdd_La_h_rip ⟨rfl, rfl, by decide, by decide⟩ ⟨by show _ ≤ 601024; omega, by show _ ≤ 7293000; omega⟩ rfl (Nat.le_of_ble_eq_true rfl) zd_La_law_409 rfl ?_
  rintro _ _ ⟨r221, c221, o221, rfl, rfl, h⟩
  refine zr_istore hG [some (.ref b), some (.ref (w.2.1 0)), some (.ref (w.2.1 28)), some (.ref (w.2.1 40)), some (.int v4), some (.int r221), none] zd_La_law_412 (Nat.le_of_ble_eq_true rfl) rfl ?_
  refine zr_aload_n hG zd_La_law_414 rfl rfl ?_
  refine zr_aload_n hG zd_La_law_415 rfl rfl ?_
  refine zr_iload hG zd_La_law_416 rfl ?_
  refine zr_iconst hG (v := (1 : Int32)) zd_La_law_418 (by decide) ?_
  refine zr_iadd hG zd_La_law_419 ?_
  obtain ⟨hi, h⟩ := h
  refine zr_sld hG hX hbl hbA hi zd_La_law_420 ?_
  refine zr_callV hG (zq_F1 hW) (As := [.int (xs (v4 + (1 : Int32)).toNatClampNeg)]) (rest := []) (zm_Mo_rip (zc_l x) w hAp c221 o221 h) 28 rfl rfl rfl zg_La_92 zdd_Mo_rip ⟨rfl, rfl, by decide, by decide⟩ ⟨by show _ ≤ 601024; omega, by show _ ≤ 7293000; omega⟩ rfl (Nat.le_of_ble_eq_true rfl) zd_La_law_421 rfl ?_
  rintro _ _ ⟨z222, rfl, rfl, h⟩
  refine zr_goto hG 729 zd_La_law_424 (by decide) ?_
  exact zr_mask [true, true, true, true, true, false, false] (zt_La_729 hL hj hk h)
def zw_La_c6 (ln : Nat → Nat) (L : Nat) (xs : Nat → Int32) (k63 : Int32 × Nat × zS × zS × (Nat → Int64) → Prop) (v4 : Int32) (j : Nat) (c g : zS) (o : Nat → Int64) : Prop := vp_in (v4 + (1 : Int32)) L ∧ vp_in (v4 + (2 : Int32)) L ∧ vp_in (v4 + (3 : Int32)) L ∧ vp_in (v4 + (4 : Int32)) L ∧ (zw_La_h_paint ln (xs (v4 + (1 : Int32)).toNatClampNeg) (xs (v4 + (2 : Int32)).toNatClampNeg) (xs (v4 + (3 : Int32)).toNatClampNeg) (xs (v4 + (4 : Int32)).toNatClampNeg) c o (fun r223 c223 o223 => vp_in (v4 + (1 : Int32)) L ∧ vp_in (v4 + (2 : Int32)) L ∧ vp_in (v4 + (3 : Int32)) L ∧ vp_in (v4 + (4 : Int32)) L ∧ (zw_Mo_paint (xs (v4 + (1 : Int32)).toNatClampNeg) (xs (v4 + (2 : Int32)).toNatClampNeg) (xs (v4 + (3 : Int32)).toNatClampNeg) (xs (v4 + (4 : Int32)).toNatClampNeg) g (fun z224 => zw_La_729 ln L xs k63 v4 j c223 z224 o223))))
set_option maxHeartbeats 4000000 in
set_option maxRecDepth 100000 in
theorem zt_La_c6 {x : zC} {w : zW} {b L : Nat} {xs : Nat → Int32} {k0 n0 : Nat} (hL : zq_LW x w b L xs k0 n0) {k63 : Int32 × Nat × zS × zS × (Nat → Int64) → Prop} {j : Nat} (hj : j < 1000) (hk : ∀ q : Int32 × Nat × zS × zS × (Nat → Int64), k63 q → zq_W x w (k0 + q.2.1) (n0 + 6 * q.2.1) (q.2.2.1, q.2.2.2.1, q.2.2.2.2) 63 [some (.ref b), some (.ref (w.2.1 0)), some (.ref (w.2.1 28)), some (.ref (w.2.1 40)), some (.int q.1), none, none] []) {v4 : Int32} {c g : zS} {o : Nat → Int64} (h : zw_La_c6 w.2.2.1 L xs k63 v4 j c g o) : zq_W x w (k0 + j) (n0 + 6 * j) (c, g, o) 427 [some (.ref b), some (.ref (w.2.1 0)), some (.ref (w.2.1 28)), some (.ref (w.2.1 40)), some (.int v4), none, none] [] := by
  obtain ⟨hG, hW, hAp, hE, hA0, hX, hbl, hbA, hQ, hfl, hk0, hn0⟩ := id hL
  refine zr_aload_n hG zd_La_law_427 rfl rfl ?_
  refine zr_aload_n hG zd_La_law_428 rfl rfl ?_
  refine zr_iload hG zd_La_law_429 rfl ?_
  refine zr_iconst hG (v := (1 : Int32)) zd_La_law_431 (by decide) ?_
  refine zr_iadd hG zd_La_law_432 ?_
  obtain ⟨hi, h⟩ := h
  refine zr_sld hG hX hbl hbA hi zd_La_law_433 ?_
  refine zr_aload_n hG zd_La_law_434 rfl rfl ?_
  refine zr_iload hG zd_La_law_435 rfl ?_
  refine zr_iconst hG (v := (2 : Int32)) zd_La_law_437 (by decide) ?_
  refine zr_iadd hG zd_La_law_438 ?_
  obtain ⟨hi, h⟩ := h
  refine zr_sld hG hX hbl hbA hi zd_La_law_439 ?_
  refine zr_aload_n hG zd_La_law_440 rfl rfl ?_
  refine zr_iload hG zd_La_law_441 rfl ?_
  refine zr_iconst hG (v := (3 : Int32)) zd_La_law_443 (by decide) ?_
  refine zr_iadd hG zd_La_law_444 ?_
  obtain ⟨hi, h⟩ := h
  refine zr_sld hG hX hbl hbA hi zd_La_law_445 ?_
  refine zr_aload_n hG zd_La_law_446 rfl rfl ?_
  refine zr_iload hG zd_La_law_447 rfl ?_
  refine zr_iconst hG (v := (4 : Int32)) zd_La_law_449 (by decide) ?_
  refine zr_iadd hG zd_La_law_450 ?_
  obtain ⟨hi, h⟩ := h
  refine zr_sld hG hX hbl hbA hi zd_La_law_451 ?_
  refine zr_callH hG (zq_F1 hW) hE hA0 (As := [.ref (w.2.1 0), .int (xs (v4 + (1 : Int32)).toNatClampNeg), .int (xs (v4 + (2 : Int32)).toNatClampNeg), .int (xs (v4 + (3 : Int32)).toNatClampNeg), .int (xs (v4 + (4 : Int32)).toNatClampNeg)]) (rest := []) (zm_La_h_paint (zc_l x) hfl w hAp g h) rfl zgh_93 zdd_La_h_paint ⟨rfl, rfl, by decide, by decide⟩ ⟨by show _ ≤ 601024; omega, by show _ ≤ 7293000; omega⟩ rfl (Nat.le_of_ble_eq_true rfl) zd_La_law_452 rfl ?_
  rintro _ _ ⟨r223, c223, o223, rfl, rfl, h⟩
  refine zr_istore hG [some (.ref b), some (.ref (w.2.1 0)), some (.ref (w.2.1 28)), some (.ref (w.2.1 40)), some (.int v4), some (.int r223), none] zd_La_law_455 (Nat.le_of_ble_eq_true rfl) rfl ?_
  refine zr_aload_n hG zd_La_law_457 rfl rfl ?_
  refine zr_aload_n hG zd_La_law_458 rfl rfl ?_
  refine zr_iload hG zd_La_law_459 rfl ?_
  refine zr_iconst hG (v := (1 : Int32)) zd_La_law_461 (by decide) ?_
  refine zr_iadd hG zd_La_law_462 ?_
  obtain ⟨hi, h⟩ := h
  refine zr_sld hG hX hbl hbA hi zd_La_law_463 ?_
  refine zr_aload_n hG zd_La_law_464 rfl rfl ?_
  refine zr_iload hG zd_La_law_465 rfl ?_
  refine zr_iconst hG (v := (2 : Int32)) zd_La_law_467 (by decide) ?_
  refine zr_iadd hG zd_La_law_468 ?_
  obtain ⟨hi, h⟩ := h
  refine zr_sld hG hX hbl hbA hi zd_La_law_469 ?_
  refine zr_aload_n hG zd_La_law_470 rfl rfl ?_
  refine zr_iload hG zd_La_law_471 rfl ?_
  refine zr_iconst hG (v := (3 : Int32)) zd_La_law_473 (by decide) ?_
  refine zr_iadd hG zd_La_law_474 ?_
  obtain ⟨hi, h⟩ := h
  refine zr_sld hG hX hbl hbA hi zd_La_law_475 ?_
  refine zr_aload_n hG zd_La_law_476 rfl rfl ?_
  refine zr_iload hG zd_La_law_477 rfl ?_
  refine zr_iconst hG (v := (4 : Int32)) zd_La_law_479 (by decide) ?_
  refine zr_iadd hG zd_La_law_480 ?_
  obtain ⟨hi, h⟩ := h
  refine zr_sld hG hX hbl hbA hi zd_La_law_481 ?_
  refine zr_callV hG (zq_F1 hW) (As := [.int (xs (v4 + (1 : Int32)).toNatClampNeg), .int (xs (v4 + (2 : Int32)).toNatClampNeg), .int (xs (v4 + (3 : Int32)).toNatClampNeg), .int (xs (v4 + (4 : Int32)).toNatClampNeg)]) (rest := []) (zm_Mo_paint (zc_l x) w hAp c223 o223 h) 28 rfl rfl rfl zg_La_96 zdd_Mo_paint ⟨rfl, rfl, by decide, by decide⟩ ⟨by show _ ≤ 601024; omega, by show _ ≤ 7293000; omega⟩ rfl (Nat.le_of_ble_eq_true rfl) zd_La_law_482 rfl ?_
  rintro _ _ ⟨z224, rfl, rfl, h⟩
  refine zr_goto hG 729 zd_La_law_485 (by decide) ?_
  exact zr_mask [true, true, true, true, true, false, false] (zt_La_729 hL hj hk h)
def zw_La_c7 (ln : Nat → Nat) (L : Nat) (xs : Nat → Int32) (k63 : Int32 × Nat × zS × zS × (Nat → Int64) → Prop) (v4 : Int32) (j : Nat) (c g : zS) (o : Nat → Int64) : Prop := vp_in (v4 + (1 : Int32)) L ∧ vp_in (v4 + (2 : Int32)) L ∧ (zw_La_h_stitch ln (xs (v4 + (1 : Int32)).toNatClampNeg) (xs (v4 + (2 : Int32)).toNatClampNeg) c o (fun r225 c225 o225 => vp_in (v4 + (1 : Int32)) L ∧ vp_in (v4 + (2 : Int32)) L ∧ (zw_Mo_stitch (xs (v4 + (1 : Int32)).toNatClampNeg) (xs (v4 + (2 : Int32)).toNatClampNeg) g (fun r226 z226 => zw_La_729 ln L xs k63 v4 j c225 z226 o225))))
set_option maxHeartbeats 4000000 in
set_option maxRecDepth 100000 in
theorem zt_La_c7 {x : zC} {w : zW} {b L : Nat} {xs : Nat → Int32} {k0 n0 : Nat} (hL : zq_LW x w b L xs k0 n0) {k63 : Int32 × Nat × zS × zS × (Nat → Int64) → Prop} {j : Nat} (hj : j < 1000) (hk : ∀ q : Int32 × Nat × zS × zS × (Nat → Int64), k63 q → zq_W x w (k0 + q.2.1) (n0 + 6 * q.2.1) (q.2.2.1, q.2.2.2.1, q.2.2.2.2) 63 [some (.ref b), some (.ref (w.2.1 0)), some (.ref (w.2.1 28)), some (.ref (w.2.1 40)), some (.int q.1), none, none] []) {v4 : Int32} {c g : zS} {o : Nat → Int64} (h : zw_La_c7 w.2.2.1 L xs k63 v4 j c g o) : zq_W x w (k0 + j) (n0 + 6 * j) (c, g, o) 488 [some (.ref b), some (.ref (w.2.1 0)), some (.ref (w.2.1 28)), some (.ref (w.2.1 40)), some (.int v4), none, none] [] := by
  obtain ⟨hG, hW, hAp, hE, hA0, hX, hbl, hbA, hQ, hfl, hk0, hn0⟩ := id hL
  refine zr_aload_n hG zd_La_law_488 rfl rfl ?_
  refine zr_aload_n hG zd_La_law_489 rfl rfl ?_
  refine zr_iload hG zd_La_law_490 rfl ?_
  refine zr_iconst hG (v := (1 : Int32)) zd_La_law_492 (by decide) ?_
  refine zr_iadd hG zd_La_law_493 ?_
  obtain ⟨hi, h⟩ := h
  refine zr_sld hG hX hbl hbA hi zd_La_law_494 ?_
  refine zr_aload_n hG zd_La_law_495 rfl rfl ?_
  refine zr_iload hG zd_La_law_496 rfl ?_
  refine zr_iconst hG (v := (2 : Int32)) zd_La_law_498 (by decide) ?_
  refine zr_iadd hG zd_La_law_499 ?_
  obtain ⟨hi, h⟩ := h
  refine zr_sld hG hX hbl hbA hi zd_La_law_500 ?_
  refine zr_aload_n hG zd_La_law_501 rfl rfl ?_
  refine zr_callH hG (zq_F1 hW) hE hA0 (As := [.ref (w.2.1 0), .int (xs (v4 + (1 : Int32)).toNatClampNeg), .int (xs (v4 + (2 : Int32)).toNatClampNeg), .ref (w.2.1 40)]) (rest := []) (zm_La_h_stitch (zc_l x) hfl w hAp g h) rfl zgh_97 zdd_La_h_stitch ⟨rfl, rfl, by decide, by decide⟩ ⟨by show _ ≤ 601024; omega, by show _ ≤ 7293000; omega⟩ rfl (Nat.le_of_ble_eq_true rfl) zd_La_law_502 rfl ?_
  rintro _ _ ⟨r225, c225, o225, rfl, rfl, h⟩
  refine zr_istore hG [some (.ref b), some (.ref (w.2.1 0)), some (.ref (w.2.1 28)), some (.ref (w.2.1 40)), some (.int v4), some (.int r225), none] zd_La_law_505 (Nat.le_of_ble_eq_true rfl) rfl ?_
  refine zr_aload_n hG zd_La_law_507 rfl rfl ?_
  refine zr_aload_n hG zd_La_law_508 rfl rfl ?_
  refine zr_iload hG zd_La_law_509 rfl ?_
  refine zr_iconst hG (v := (1 : Int32)) zd_La_law_511 (by decide) ?_
  refine zr_iadd hG zd_La_law_512 ?_
  obtain ⟨hi, h⟩ := h
  refine zr_sld hG hX hbl hbA hi zd_La_law_513 ?_
  refine zr_aload_n hG zd_La_law_514 rfl rfl ?_
  refine zr_iload hG zd_La_law_515 rfl ?_
  refine zr_iconst hG (v := (2 : Int32)) zd_La_law_517 (by decide) ?_
  refine zr_iadd hG zd_La_law_518 ?_
  obtain ⟨hi, h⟩ := h
  refine zr_sld hG hX hbl hbA hi zd_La_law_519 ?_
  refine zr_callV hG (zq_F1 hW) (As := [.int (xs (v4 + (1 : Int32)).toNatClampNeg), .int (xs (v4 + (2 : Int32)).toNatClampNeg)]) (rest := []) (zm_Mo_stitch (zc_l x) w hAp c225 o225 h) 28 rfl rfl rfl zg_La_100 zdd_Mo_stitch ⟨rfl, rfl, by decide, by decide⟩ ⟨by show _ ≤ 601024; omega, by show _ ≤ 7293000; omega⟩ rfl (Nat.le_of_ble_eq_true rfl) zd_La_law_520 rfl ?_
  rintro _ _ ⟨r226, z226, rfl, rfl, h⟩
  refine zr_istore hG [some (.ref b), some (.ref (w.2.1 0)), some (.ref (w.2.1 28)), some (.ref (w.2.1 40)), some (.int v4), some (.int r225), some (.int r226)] zd_La_law_523 (Nat.le_of_ble_eq_true rfl) rfl ?_
  refine zr_goto hG 729 zd_La_law_525 (by decide) ?_
  exact zr_mask [true, true, true, true, true, false, false] (zt_La_729 hL hj hk h)
def zw_La_c8 (ln : Nat → Nat) (L : Nat) (xs : Nat → Int32) (k63 : Int32 × Nat × zS × zS × (Nat → Int64) → Prop) (v4 : Int32) (j : Nat) (c g : zS) (o : Nat → Int64) : Prop := vp_in (v4 + (1 : Int32)) L ∧ vp_in (v4 + (2 : Int32)) L ∧ vp_in (v4 + (3 : Int32)) L ∧ (zw_La_h_cell ln (xs (v4 + (1 : Int32)).toNatClampNeg) (xs (v4 + (2 : Int32)).toNatClampNeg) (xs (v4 + (3 : Int32)).toNatClampNeg) c o (fun r227 c227 o227 => vp_in (v4 + (1 : Int32)) L ∧ vp_in (v4 + (2 : Int32)) L ∧ vp_in (v4 + (3 : Int32)) L ∧ (zw_Mo_cell (xs (v4 + (1 : Int32)).toNatClampNeg) (xs (v4 + (2 : Int32)).toNatClampNeg) (xs (v4 + (3 : Int32)).toNatClampNeg) g (fun r228 z228 => zw_La_729 ln L xs k63 v4 j c227 z228 o227))))
set_option maxHeartbeats 4000000 in
set_option maxRecDepth 100000 in
theorem zt_La_c8 {x : zC} {w : zW} {b L : Nat} {xs : Nat → Int32} {k0 n0 : Nat} (hL : zq_LW x w b L xs k0 n0) {k63 : Int32 × Nat × zS × zS × (Nat → Int64) → Prop} {j : Nat} (hj : j < 1000) (hk : ∀ q : Int32 × Nat × zS × zS × (Nat → Int64), k63 q → zq_W x w (k0 + q.2.1) (n0 + 6 * q.2.1) (q.2.2.1, q.2.2.2.1, q.2.2.2.2) 63 [some (.ref b), some (.ref (w.2.1 0)), some (.ref (w.2.1 28)), some (.ref (w.2.1 40)), some (.int q.1), none, none] []) {v4 : Int32} {c g : zS} {o : Nat → Int64} (h : zw_La_c8 w.2.2.1 L xs k63 v4 j c g o) : zq_W x w (k0 + j) (n0 + 6 * j) (c, g, o) 528 [some (.ref b), some (.ref (w.2.1 0)), some (.ref (w.2.1 28)), some (.ref (w.2.1 40)), some (.int v4), none, none] [] := by
  obtain ⟨hG, hW, hAp, hE, hA0, hX, hbl, hbA, hQ, hfl, hk0, hn0⟩ := id hL
  refine zr_aload_n hG zd_La_law_528 rfl rfl ?_
  refine zr_aload_n hG zd_La_law_529 rfl rfl ?_
  refine zr_iload hG zd_La_law_530 rfl ?_
  refine zr_iconst hG (v := (1 : Int32)) zd_La_law_532 (by decide) ?_
  refine zr_iadd hG zd_La_law_533 ?_
  obtain ⟨hi, h⟩ := h
  refine zr_sld hG hX hbl hbA hi zd_La_law_534 ?_
  refine zr_aload_n hG zd_La_law_535 rfl rfl ?_
  refine zr_iload hG zd_La_law_536 rfl ?_
  refine zr_iconst hG (v := (2 : Int32)) zd_La_law_538 (by decide) ?_
  refine zr_iadd hG zd_La_law_539 ?_
  obtain ⟨hi, h⟩ := h
  refine zr_sld hG hX hbl hbA hi zd_La_law_540 ?_
  refine zr_aload_n hG zd_La_law_541 rfl rfl ?_
  refine zr_iload hG zd_La_law_542 rfl ?_
  refine zr_iconst hG (v := (3 : Int32)) zd_La_law_544 (by decide) ?_
  refine zr_iadd hG zd_La_law_545 ?_
  obtain ⟨hi, h⟩ := h
  refine zr_sld hG hX hbl hbA hi zd_La_law_546 ?_
  refine zr_aload_n hG zd_La_law_547 rfl rfl ?_
  refine zr_callH hG (zq_F1 hW) hE hA0 (As := [.ref (w.2.1 0), .int (xs (v4 + (1 : Int32)).toNatClampNeg), .int (xs (v4 + (2 : Int32)).toNatClampNeg), .int (xs (v4 + (3 : Int32)).toNatClampNeg), .ref (w.2.1 40)]) (rest := []) (zm_La_h_cell (zc_l x) hfl w hAp g h) rfl zgh_101 zdd_La_h_cell ⟨rfl, rfl, by decide, by decide⟩ ⟨by show _ ≤ 601024; omega, by show _ ≤ 7293000; omega⟩ rfl (Nat.le_of_ble_eq_true rfl) zd_La_law_548 rfl ?_
  rintro _ _ ⟨r227, c227, o227, rfl, rfl, h⟩
  refine zr_istore hG [some (.ref b), some (.ref (w.2.1 0)), some (.ref (w.2.1 28)), some (.ref (w.2.1 40)), some (.int v4), some (.int r227), none] zd_La_law_551 (Nat.le_of_ble_eq_true rfl) rfl ?_
  refine zr_aload_n hG zd_La_law_553 rfl rfl ?_
  refine zr_aload_n hG zd_La_law_554 rfl rfl ?_
  refine zr_iload hG zd_La_law_555 rfl ?_
  refine zr_iconst hG (v := (1 : Int32)) zd_La_law_557 (by decide) ?_
  refine zr_iadd hG zd_La_law_558 ?_
  obtain ⟨hi, h⟩ := h
  refine zr_sld hG hX hbl hbA hi zd_La_law_559 ?_
  refine zr_aload_n hG zd_La_law_560 rfl rfl ?_
  refine zr_iload hG zd_La_law_561 rfl ?_
  refine zr_iconst hG (v := (2 : Int32)) zd_La_law_563 (by decide) ?_
  refine zr_iadd hG zd_La_law_564 ?_
  obtain ⟨hi, h⟩ := h
  refine zr_sld hG hX hbl hbA hi zd_La_law_565 ?_
  refine zr_aload_n hG zd_La_law_566 rfl rfl ?_
  refine zr_iload hG zd_La_law_567 rfl ?_
  refine zr_iconst hG (v := (3 : Int32)) zd_La_law_569 (by decide) ?_
  refine zr_iadd hG zd_La_law_570 ?_
  obtain ⟨hi, h⟩ := h
  refine zr_sld hG hX hbl hbA hi zd_La_law_571 ?_
  refine zr_callV hG (zq_F1 hW) (As := [.int (xs (v4 + (1 : Int32)).toNatClampNeg), .int (xs (v4 + (2 : Int32)).toNatClampNeg), .int (xs (v4 + (3 : Int32)).toNatClampNeg)]) (rest := []) (zm_Mo_cell (zc_l x) w hAp c227 o227 h) 28 rfl rfl rfl zg_La_103 zdd_Mo_cell ⟨rfl, rfl, by decide, by decide⟩ ⟨by show _ ≤ 601024; omega, by show _ ≤ 7293000; omega⟩ rfl (Nat.le_of_ble_eq_true rfl) zd_La_law_572 rfl ?_
  rintro _ _ ⟨r228, z228, rfl, rfl, h⟩
  refine zr_istore hG [some (.ref b), some (.ref (w.2.1 0)), some (.ref (w.2.1 28)), some (.ref (w.2.1 40)), some (.int v4), some (.int r227), some (.int r228)] zd_La_law_575 (Nat.le_of_ble_eq_true rfl) rfl ?_
  refine zr_goto hG 729 zd_La_law_577 (by decide) ?_
  exact zr_mask [true, true, true, true, true, false, false] (zt_La_729 hL hj hk h)
def zw_La_c9 (ln : Nat → Nat) (L : Nat) (xs : Nat → Int32) (k63 : Int32 × Nat × zS × zS × (Nat → Int64) → Prop) (v4 : Int32) (j : Nat) (c g : zS) (o : Nat → Int64) : Prop := vp_in (v4 + (1 : Int32)) L ∧ vp_in (v4 + (2 : Int32)) L ∧ (zw_La_h_via ln (xs (v4 + (1 : Int32)).toNatClampNeg) (xs (v4 + (2 : Int32)).toNatClampNeg) c o (fun r229 c229 o229 => vp_in (v4 + (1 : Int32)) L ∧ vp_in (v4 + (2 : Int32)) L ∧ (zw_Mo_via (xs (v4 + (1 : Int32)).toNatClampNeg) (xs (v4 + (2 : Int32)).toNatClampNeg) g (fun r230 z230 => zw_La_729 ln L xs k63 v4 j c229 z230 o229))))
set_option maxHeartbeats 4000000 in
set_option maxRecDepth 100000 in
theorem zt_La_c9 {x : zC} {w : zW} {b L : Nat} {xs : Nat → Int32} {k0 n0 : Nat} (hL : zq_LW x w b L xs k0 n0) {k63 : Int32 × Nat × zS × zS × (Nat → Int64) → Prop} {j : Nat} (hj : j < 1000) (hk : ∀ q : Int32 × Nat × zS × zS × (Nat → Int64), k63 q → zq_W x w (k0 + q.2.1) (n0 + 6 * q.2.1) (q.2.2.1, q.2.2.2.1, q.2.2.2.2) 63 [some (.ref b), some (.ref (w.2.1 0)), some (.ref (w.2.1 28)), some (.ref (w.2.1 40)), some (.int q.1), none, none] []) {v4 : Int32} {c g : zS} {o : Nat → Int64} (h : zw_La_c9 w.2.2.1 L xs k63 v4 j c g o) : zq_W x w (k0 + j) (n0 + 6 * j) (c, g, o) 580 [some (.ref b), some (.ref (w.2.1 0)), some (.ref (w.2.1 28)), some (.ref (w.2.1 40)), some (.int v4), none, none] [] := by
  obtain ⟨hG, hW, hAp, hE, hA0, hX, hbl, hbA, hQ, hfl, hk0, hn0⟩ := id hL
  refine zr_aload_n hG zd_La_law_580 rfl rfl ?_
  refine zr_aload_n hG zd_La_law_581 rfl rfl ?_
  refine zr_iload hG zd_La_law_582 rfl ?_
  refine zr_iconst hG (v := (1 : Int32)) zd_La_law_584 (by decide) ?_
  refine zr_iadd hG zd_La_law_585 ?_
  obtain ⟨hi, h⟩ := h
  refine zr_sld hG hX hbl hbA hi zd_La_law_586 ?_
  refine zr_aload_n hG zd_La_law_587 rfl rfl ?_
  refine zr_iload hG zd_La_law_588 rfl ?_
  refine zr_iconst hG (v := (2 : Int32)) zd_La_law_590 (by decide) ?_
  refine zr_iadd hG zd_La_law_591 ?_
  obtain ⟨hi, h⟩ := h
  refine zr_sld hG hX hbl hbA hi zd_La_law_592 ?_
  refine zr_aload_n hG zd_La_law_593 rfl rfl ?_
  refine zr_callH hG (zq_F1 hW) hE hA0 (As := [.ref (w.2.1 0), .int (xs (v4 + (1 : Int32)).toNatClampNeg), .int (xs (v4 + (2 : Int32)).toNatClampNeg), .ref (w.2.1 40)]) (rest := []) (zm_La_h_via (zc_l x) hfl w hAp g h) rfl zgh_104 zdd_La_h_via ⟨rfl, rfl, by decide, by decide⟩ ⟨by show _ ≤ 601024; omega, by show _ ≤ 7293000; omega⟩ rfl (Nat.le_of_ble_eq_true rfl) zd_La_law_594 rfl ?_
  rintro _ _ ⟨r229, c229, o229, rfl, rfl, h⟩
  refine zr_istore hG [some (.ref b), some (.ref (w.2.1 0)), some (.ref (w.2.1 28)), some (.ref (w.2.1 40)), some (.int v4), some (.int r229), none] zd_La_law_597 (Nat.le_of_ble_eq_true rfl) rfl ?_
  refine zr_aload_n hG zd_La_law_599 rfl rfl ?_
  refine zr_aload_n hG zd_La_law_600 rfl rfl ?_
  refine zr_iload hG zd_La_law_601 rfl ?_
  refine zr_iconst hG (v := (1 : Int32)) zd_La_law_603 (by decide) ?_
  refine zr_iadd hG zd_La_law_604 ?_
  obtain ⟨hi, h⟩ := h
  refine zr_sld hG hX hbl hbA hi zd_La_law_605 ?_
  refine zr_aload_n hG zd_La_law_606 rfl rfl ?_
  refine zr_iload hG zd_La_law_607 rfl ?_
  refine zr_iconst hG (v := (2 : Int32)) zd_La_law_609 (by decide) ?_
  refine zr_iadd hG zd_La_law_610 ?_
  obtain ⟨hi, h⟩ := h
  refine zr_sld hG hX hbl hbA hi zd_La_law_611 ?_
  refine zr_callV hG (zq_F1 hW) (As := [.int (xs (v4 + (1 : Int32)).toNatClampNeg), .int (xs (v4 + (2 : Int32)).toNatClampNeg)]) (rest := []) (zm_Mo_via (zc_l x) w hAp c229 o229 h) 28 rfl rfl rfl zg_La_106 zdd_Mo_via ⟨rfl, rfl, by decide, by decide⟩ ⟨by show _ ≤ 601024; omega, by show _ ≤ 7293000; omega⟩ rfl (Nat.le_of_ble_eq_true rfl) zd_La_law_612 rfl ?_
  rintro _ _ ⟨r230, z230, rfl, rfl, h⟩
  refine zr_istore hG [some (.ref b), some (.ref (w.2.1 0)), some (.ref (w.2.1 28)), some (.ref (w.2.1 40)), some (.int v4), some (.int r229), some (.int r230)] zd_La_law_615 (Nat.le_of_ble_eq_true rfl) rfl ?_
  refine zr_goto hG 729 zd_La_law_617 (by decide) ?_
  exact zr_mask [true, true, true, true, true, false, false] (zt_La_729 hL hj hk h)
def zw_La_361 (ln : Nat → Nat) (L : Nat) (xs : Nat → Int32) (k63 : Int32 × Nat × zS × zS × (Nat → Int64) → Prop) (v4 : Int32) (u0 : Int32) (j : Nat) (c g : zS) (o : Nat → Int64) : Prop := vp_in (v4 + (2 : Int32)) L ∧ (zw_La_h_all ln u0 (xs (v4 + (2 : Int32)).toNatClampNeg) c o (fun r238 c238 o238 => vp_in (v4 + (1 : Int32)) L ∧ (((xs (v4 + (1 : Int32)).toNatClampNeg) = 0 → zw_La_388 ln L xs k63 v4 (0 : Int32) j c238 g o238) ∧ (¬ (xs (v4 + (1 : Int32)).toNatClampNeg) = 0 → zw_La_388 ln L xs k63 v4 (1 : Int32) j c238 g o238))))
set_option maxHeartbeats 4000000 in
set_option maxRecDepth 100000 in
theorem zt_La_361 {x : zC} {w : zW} {b L : Nat} {xs : Nat → Int32} {k0 n0 : Nat} (hL : zq_LW x w b L xs k0 n0) {k63 : Int32 × Nat × zS × zS × (Nat → Int64) → Prop} {j : Nat} (hj : j < 1000) (hk : ∀ q : Int32 × Nat × zS × zS × (Nat → Int64), k63 q → zq_W x w (k0 + q.2.1) (n0 + 6 * q.2.1) (q.2.2.1, q.2.2.2.1, q.2.2.2.2) 63 [some (.ref b), some (.ref (w.2.1 0)), some (.ref (w.2.1 28)), some (.ref (w.2.1 40)), some (.int q.1), none, none] []) {v4 : Int32} {u0 : Int32} {c g : zS} {o : Nat → Int64} (h : zw_La_361 w.2.2.1 L xs k63 v4 u0 j c g o) : zq_W x w (k0 + j) (n0 + 6 * j) (c, g, o) 361 [some (.ref b), some (.ref (w.2.1 0)), some (.ref (w.2.1 28)), some (.ref (w.2.1 40)), some (.int v4), none, none] [.int u0, .ref (w.2.1 0)] := by
  obtain ⟨hG, hW, hAp, hE, hA0, hX, hbl, hbA, hQ, hfl, hk0, hn0⟩ := id hL
  refine zr_aload_n hG zd_La_law_361 rfl rfl ?_
  refine zr_iload hG zd_La_law_362 rfl ?_
  refine zr_iconst hG (v := (2 : Int32)) zd_La_law_364 (by decide) ?_
  refine zr_iadd hG zd_La_law_365 ?_
  obtain ⟨hi, h⟩ := h
  refine zr_sld hG hX hbl hbA hi zd_La_law_366 ?_
  refine zr_aload_n hG zd_La_law_367 rfl rfl ?_
  refine zr_callH hG (zq_F1 hW) hE hA0 (As := [.ref (w.2.1 0), .int u0, .int (xs (v4 + (2 : Int32)).toNatClampNeg), .ref (w.2.1 40)]) (rest := []) (zm_La_h_all (zc_l x) hfl w hAp g h) rfl zgh_85 zdd_La_h_all ⟨rfl, rfl, by decide, by decide⟩ ⟨by show _ ≤ 601024; omega, by show _ ≤ 7293000; omega⟩ rfl (Nat.le_of_ble_eq_true rfl) zd_La_law_368 rfl ?_
  rintro _ _ ⟨r238, c238, o238, rfl, rfl, h⟩
  refine zr_istore hG [some (.ref b), some (.ref (w.2.1 0)), some (.ref (w.2.1 28)), some (.ref (w.2.1 40)), some (.int v4), some (.int r238), none] zd_La_law_371 (Nat.le_of_ble_eq_true rfl) rfl ?_
  refine zr_aload_n hG zd_La_law_373 rfl rfl ?_
  refine zr_aload_n hG zd_La_law_374 rfl rfl ?_
  refine zr_iload hG zd_La_law_375 rfl ?_
  refine zr_iconst hG (v := (1 : Int32)) zd_La_law_377 (by decide) ?_
  refine zr_iadd hG zd_La_law_378 ?_
  obtain ⟨hi, h⟩ := h
  refine zr_sld hG hX hbl hbA hi zd_La_law_379 ?_
  refine zr_if_eq hG 387 zd_La_law_380 (by decide) (fun hc => ?_) (fun hc => ?_)
  · have h := h.1 hc
    refine zr_iconst hG (v := (0 : Int32)) zd_La_law_387 (by decide) ?_
    exact zr_mask [true, true, true, true, true, false, false] (zt_La_388 hL hj hk h)
  · have h := h.2 hc
    refine zr_iconst hG (v := (1 : Int32)) zd_La_law_383 (by decide) ?_
    refine zr_goto hG 388 zd_La_law_384 (by decide) ?_
    exact zr_mask [true, true, true, true, true, false, false] (zt_La_388 hL hj hk h)
def zw_La_c12 (ln : Nat → Nat) (L : Nat) (xs : Nat → Int32) (k63 : Int32 × Nat × zS × zS × (Nat → Int64) → Prop) (v4 : Int32) (j : Nat) (c g : zS) (o : Nat → Int64) : Prop := vp_in (v4 + (1 : Int32)) L ∧ vp_in (v4 + (2 : Int32)) L ∧ (zw_La_h_shape ln (xs (v4 + (1 : Int32)).toNatClampNeg) (xs (v4 + (2 : Int32)).toNatClampNeg) c o (fun r235 c235 o235 => vp_in (v4 + (1 : Int32)) L ∧ vp_in (v4 + (2 : Int32)) L ∧ (zw_Mo_shape (xs (v4 + (1 : Int32)).toNatClampNeg) (xs (v4 + (2 : Int32)).toNatClampNeg) g (fun r236 z236 => (zw_Mo_thrown z236 (fun r237 z237 => ((r237 = r235 → ((¬ r235 = 0 → zw_La_726 ln L xs k63 v4 j c235 z237 o235) ∧ (r235 = 0 → (((lg_cmp (o235 (0 : Int32).toNatClampNeg) r236.toInt64) = 0 → zw_La_726 ln L xs k63 v4 j c235 z237 o235) ∧ (¬ (lg_cmp (o235 (0 : Int32).toNatClampNeg) r236.toInt64) = 0 → False))))) ∧ (¬ r237 = r235 → False))))))))
set_option maxHeartbeats 4000000 in
set_option maxRecDepth 100000 in
theorem zt_La_c12 {x : zC} {w : zW} {b L : Nat} {xs : Nat → Int32} {k0 n0 : Nat} (hL : zq_LW x w b L xs k0 n0) {k63 : Int32 × Nat × zS × zS × (Nat → Int64) → Prop} {j : Nat} (hj : j < 1000) (hk : ∀ q : Int32 × Nat × zS × zS × (Nat → Int64), k63 q → zq_W x w (k0 + q.2.1) (n0 + 6 * q.2.1) (q.2.2.1, q.2.2.2.1, q.2.2.2.2) 63 [some (.ref b), some (.ref (w.2.1 0)), some (.ref (w.2.1 28)), some (.ref (w.2.1 40)), some (.int q.1), none, none] []) {v4 : Int32} {c g : zS} {o : Nat → Int64} (h : zw_La_c12 w.2.2.1 L xs k63 v4 j c g o) : zq_W x w (k0 + j) (n0 + 6 * j) (c, g, o) 661 [some (.ref b), some (.ref (w.2.1 0)), some (.ref (w.2.1 28)), some (.ref (w.2.1 40)), some (.int v4), none, none] [] := by
  obtain ⟨hG, hW, hAp, hE, hA0, hX, hbl, hbA, hQ, hfl, hk0, hn0⟩ := id hL
  refine zr_aload_n hG zd_La_law_661 rfl rfl ?_
  refine zr_aload_n hG zd_La_law_662 rfl rfl ?_
  refine zr_iload hG zd_La_law_663 rfl ?_
  refine zr_iconst hG (v := (1 : Int32)) zd_La_law_665 (by decide) ?_
  refine zr_iadd hG zd_La_law_666 ?_
  obtain ⟨hi, h⟩ := h
  refine zr_sld hG hX hbl hbA hi zd_La_law_667 ?_
  refine zr_aload_n hG zd_La_law_668 rfl rfl ?_
  refine zr_iload hG zd_La_law_669 rfl ?_
  refine zr_iconst hG (v := (2 : Int32)) zd_La_law_671 (by decide) ?_
  refine zr_iadd hG zd_La_law_672 ?_
  obtain ⟨hi, h⟩ := h
  refine zr_sld hG hX hbl hbA hi zd_La_law_673 ?_
  refine zr_aload_n hG zd_La_law_674 rfl rfl ?_
  refine zr_callH hG (zq_F1 hW) hE hA0 (As := [.ref (w.2.1 0), .int (xs (v4 + (1 : Int32)).toNatClampNeg), .int (xs (v4 + (2 : Int32)).toNatClampNeg), .ref (w.2.1 40)]) (rest := []) (zm_La_h_shape (zc_l x) hfl w hAp g h) rfl zgh_115 zdd_La_h_shape ⟨rfl, rfl, by decide, by decide⟩ ⟨by show _ ≤ 601024; omega, by show _ ≤ 7293000; omega⟩ rfl (Nat.le_of_ble_eq_true rfl) zd_La_law_675 rfl ?_
  rintro _ _ ⟨r235, c235, o235, rfl, rfl, h⟩
  refine zr_istore hG [some (.ref b), some (.ref (w.2.1 0)), some (.ref (w.2.1 28)), some (.ref (w.2.1 40)), some (.int v4), some (.int r235), none] zd_La_law_678 (Nat.le_of_ble_eq_true rfl) rfl ?_
  refine zr_aload_n hG zd_La_law_680 rfl rfl ?_
  refine zr_aload_n hG zd_La_law_681 rfl rfl ?_
  refine zr_iload hG zd_La_law_682 rfl ?_
  refine zr_iconst hG (v := (1 : Int32)) zd_La_law_684 (by decide) ?_
  refine zr_iadd hG zd_La_law_685 ?_
  obtain ⟨hi, h⟩ := h
  refine zr_sld hG hX hbl hbA hi zd_La_law_686 ?_
  refine zr_aload_n hG zd_La_law_687 rfl rfl ?_
  refine zr_iload hG zd_La_law_688 rfl ?_
  refine zr_iconst hG (v := (2 : Int32)) zd_La_law_690 (by decide) ?_
  refine zr_iadd hG zd_La_law_691 ?_
  obtain ⟨hi, h⟩ := h
  refine zr_sld hG hX hbl hbA hi zd_La_law_692 ?_
  refine zr_callV hG (zq_F1 hW) (As := [.int (xs (v4 + (1 : Int32)).toNatClampNeg), .int (xs (v4 + (2 : Int32)).toNatClampNeg)]) (rest := []) (zm_Mo_shape (zc_l x) w hAp c235 o235 h) 28 rfl rfl rfl zg_La_117 zdd_Mo_shape ⟨rfl, rfl, by decide, by decide⟩ ⟨by show _ ≤ 601024; omega, by show _ ≤ 7293000; omega⟩ rfl (Nat.le_of_ble_eq_true rfl) zd_La_law_693 rfl ?_
  rintro _ _ ⟨r236, z236, rfl, rfl, h⟩
  refine zr_istore hG [some (.ref b), some (.ref (w.2.1 0)), some (.ref (w.2.1 28)), some (.ref (w.2.1 40)), some (.int v4), some (.int r235), some (.int r236)] zd_La_law_696 (Nat.le_of_ble_eq_true rfl) rfl ?_
  refine zr_aload_n hG zd_La_law_698 rfl rfl ?_
  refine zr_callV hG zq_F0 (As := []) (rest := []) (zm_Mo_thrown (zc_l x) w hAp c235 o235 h) 28 rfl rfl rfl zg_La_118 zdd_Mo_thrown ⟨rfl, rfl, by decide, by decide⟩ ⟨by show _ ≤ 601024; omega, by show _ ≤ 7293000; omega⟩ rfl (Nat.le_of_ble_eq_true rfl) zd_La_law_699 rfl ?_
  rintro _ _ ⟨r237, z237, rfl, rfl, h⟩
  refine zr_iload hG zd_La_law_702 rfl ?_
  refine zr_icmp_eq hG 709 zd_La_law_704 (by decide) (fun hc => ?_) (fun hc => ?_)
  · have h := h.1 hc
    refine zr_iload hG zd_La_law_709 rfl ?_
    refine zr_if_ne hG 726 zd_La_law_711 (by decide) (fun hc => ?_) (fun hc => ?_)
    · have h := h.1 hc
      exact zr_mask [true, true, true, true, true, false, false] (zt_La_726 hL hj hk h)
    · have h := h.2 hc
      refine zr_aload_n hG zd_La_law_714 rfl rfl ?_
      refine zr_iconst hG (v := (0 : Int32)) zd_La_law_715 (by decide) ?_
      refine zl_40 hG zd_La_law_716 ?_
      refine zr_iload hG zd_La_law_717 rfl ?_
      refine zr_i2l hG zd_La_law_719 ?_
      refine zr_lcmp hG zd_La_law_720 ?_
      refine zr_if_eq hG 726 zd_La_law_721 (by decide) (fun hc => ?_) (fun hc => ?_)
      · have h := h.1 hc
        exact zr_mask [true, true, true, true, true, false, false] (zt_La_726 hL hj hk h)
      · have h := h.2 hc
        exact h.elim
  · have h := h.2 hc
    exact h.elim
def zw_La_c4 (ln : Nat → Nat) (L : Nat) (xs : Nat → Int32) (k63 : Int32 × Nat × zS × zS × (Nat → Int64) → Prop) (v4 : Int32) (j : Nat) (c g : zS) (o : Nat → Int64) : Prop := vp_in (v4 + (1 : Int32)) L ∧ (((xs (v4 + (1 : Int32)).toNatClampNeg) = 0 → zw_La_361 ln L xs k63 v4 (0 : Int32) j c g o) ∧ (¬ (xs (v4 + (1 : Int32)).toNatClampNeg) = 0 → zw_La_361 ln L xs k63 v4 (1 : Int32) j c g o))
set_option maxHeartbeats 4000000 in
set_option maxRecDepth 100000 in
theorem zt_La_c4 {x : zC} {w : zW} {b L : Nat} {xs : Nat → Int32} {k0 n0 : Nat} (hL : zq_LW x w b L xs k0 n0) {k63 : Int32 × Nat × zS × zS × (Nat → Int64) → Prop} {j : Nat} (hj : j < 1000) (hk : ∀ q : Int32 × Nat × zS × zS × (Nat → Int64), k63 q → zq_W x w (k0 + q.2.1) (n0 + 6 * q.2.1) (q.2.2.1, q.2.2.2.1, q.2.2.2.2) 63 [some (.ref b), some (.ref (w.2.1 0)), some (.ref (w.2.1 28)), some (.ref (w.2.1 40)), some (.int q.1), none, none] []) {v4 : Int32} {c g : zS} {o : Nat → Int64} (h : zw_La_c4 w.2.2.1 L xs k63 v4 j c g o) : zq_W x w (k0 + j) (n0 + 6 * j) (c, g, o) 346 [some (.ref b), some (.ref (w.2.1 0)), some (.ref (w.2.1 28)), some (.ref (w.2.1 40)), some (.int v4), none, none] [] := by
  obtain ⟨hG, hW, hAp, hE, hA0, hX, hbl, hbA, hQ, hfl, hk0, hn0⟩ := id hL
  refine zr_aload_n hG zd_La_law_346 rfl rfl ?_
  refine zr_aload_n hG zd_La_law_347 rfl rfl ?_
  refine zr_iload hG zd_La_law_348 rfl ?_
  refine zr_iconst hG (v := (1 : Int32)) zd_La_law_350 (by decide) ?_
  refine zr_iadd hG zd_La_law_351 ?_
  obtain ⟨hi, h⟩ := h
  refine zr_sld hG hX hbl hbA hi zd_La_law_352 ?_
  refine zr_if_eq hG 360 zd_La_law_353 (by decide) (fun hc => ?_) (fun hc => ?_)
  · have h := h.1 hc
    refine zr_iconst hG (v := (0 : Int32)) zd_La_law_360 (by decide) ?_
    exact zt_La_361 hL hj hk h
  · have h := h.2 hc
    refine zr_iconst hG (v := (1 : Int32)) zd_La_law_356 (by decide) ?_
    refine zr_goto hG 361 zd_La_law_357 (by decide) ?_
    exact zt_La_361 hL hj hk h
def zw_La_63 (ln : Nat → Nat) (L : Nat) (xs : Nat → Int32) (k63 : Int32 × Nat × zS × zS × (Nat → Int64) → Prop) : Int32 × Nat × zS × zS × (Nat → Int64) → Prop := fun q => match q with
  | (v4, j, c, g, o) => j < 1000 ∧ ((((Int32.ofNat L) - (7 : Int32)) < v4 → True) ∧ (¬ ((Int32.ofNat L) - (7 : Int32)) < v4 → vp_in v4 L ∧ ((((xs v4.toNatClampNeg) &&& (15 : Int32)) = 0 → zw_La_c0 ln L xs k63 v4 j c g o) ∧ (((xs v4.toNatClampNeg) &&& (15 : Int32)) = 1 → zw_La_c1 ln L xs k63 v4 j c g o) ∧ (((xs v4.toNatClampNeg) &&& (15 : Int32)) = 2 → zw_La_c2 ln L xs k63 v4 j c g o) ∧ (((xs v4.toNatClampNeg) &&& (15 : Int32)) = 3 → zw_La_c3 ln L xs k63 v4 j c g o) ∧ (((xs v4.toNatClampNeg) &&& (15 : Int32)) = 4 → zw_La_c4 ln L xs k63 v4 j c g o) ∧ (((xs v4.toNatClampNeg) &&& (15 : Int32)) = 5 → zw_La_c5 ln L xs k63 v4 j c g o) ∧ (((xs v4.toNatClampNeg) &&& (15 : Int32)) = 6 → zw_La_c6 ln L xs k63 v4 j c g o) ∧ (((xs v4.toNatClampNeg) &&& (15 : Int32)) = 7 → zw_La_c7 ln L xs k63 v4 j c g o) ∧ (((xs v4.toNatClampNeg) &&& (15 : Int32)) = 8 → zw_La_c8 ln L xs k63 v4 j c g o) ∧ (((xs v4.toNatClampNeg) &&& (15 : Int32)) = 9 → zw_La_c9 ln L xs k63 v4 j c g o) ∧ (((xs v4.toNatClampNeg) &&& (15 : Int32)) = 10 → zw_La_c10 ln L xs k63 v4 j c g o) ∧ (((xs v4.toNatClampNeg) &&& (15 : Int32)) = 11 → zw_La_c11 ln L xs k63 v4 j c g o) ∧ (((xs v4.toNatClampNeg) &&& (15 : Int32)) = 12 → zw_La_c12 ln L xs k63 v4 j c g o) ∧ (¬ ((xs v4.toNatClampNeg) &&& (15 : Int32)) = 0 ∧ ¬ ((xs v4.toNatClampNeg) &&& (15 : Int32)) = 1 ∧ ¬ ((xs v4.toNatClampNeg) &&& (15 : Int32)) = 2 ∧ ¬ ((xs v4.toNatClampNeg) &&& (15 : Int32)) = 3 ∧ ¬ ((xs v4.toNatClampNeg) &&& (15 : Int32)) = 4 ∧ ¬ ((xs v4.toNatClampNeg) &&& (15 : Int32)) = 5 ∧ ¬ ((xs v4.toNatClampNeg) &&& (15 : Int32)) = 6 ∧ ¬ ((xs v4.toNatClampNeg) &&& (15 : Int32)) = 7 ∧ ¬ ((xs v4.toNatClampNeg) &&& (15 : Int32)) = 8 ∧ ¬ ((xs v4.toNatClampNeg) &&& (15 : Int32)) = 9 ∧ ¬ ((xs v4.toNatClampNeg) &&& (15 : Int32)) = 10 ∧ ¬ ((xs v4.toNatClampNeg) &&& (15 : Int32)) = 11 ∧ ¬ ((xs v4.toNatClampNeg) &&& (15 : Int32)) = 12 → zw_La_729 ln L xs k63 v4 j c g o))))
set_option maxHeartbeats 4000000 in
set_option maxRecDepth 100000 in
theorem zt_La_63 {x : zC} {w : zW} {b L : Nat} {xs : Nat → Int32} {k0 n0 : Nat} (hL : zq_LW x w b L xs k0 n0) {v4 : Int32} {j : Nat} {c g : zS} {o : Nat → Int64} (h : zq_Lp (zw_La_63 w.2.2.1 L xs) (v4, j, c, g, o)) : zq_W x w (k0 + j) (n0 + 6 * j) (c, g, o) 63 [some (.ref b), some (.ref (w.2.1 0)), some (.ref (w.2.1 28)), some (.ref (w.2.1 40)), some (.int v4), none, none] [] := by
  obtain ⟨hG, hW, hAp, hE, hA0, hX, hbl, hbA, hQ, hfl, hk0, hn0⟩ := id hL
  refine zq_Lp_W (WW := fun q => zq_W x w (k0 + q.2.1) (n0 + 6 * q.2.1) (q.2.2.1, q.2.2.2.1, q.2.2.2.2) 63 [some (.ref b), some (.ref (w.2.1 0)), some (.ref (w.2.1 28)), some (.ref (w.2.1 40)), some (.int q.1), none, none] []) (fun k63 hk q h => ?_) h
  obtain ⟨v4, j, c, g, o⟩ := q
  obtain ⟨hj, h⟩ := h
  show zq_W x w (k0 + j) (n0 + 6 * j) (c, g, o) 63 [some (.ref b), some (.ref (w.2.1 0)), some (.ref (w.2.1 28)), some (.ref (w.2.1 40)), some (.int v4), none, none] []
  refine zr_iload hG zd_La_law_63 rfl ?_
  refine zr_aload_n hG zd_La_law_65 rfl rfl ?_
  refine zr_slen hG hX hbl hbA zd_La_law_66 ?_
  refine zr_bipush hG (v := (7 : Int32)) zd_La_law_67 (by decide) ?_
  refine zr_isub hG zd_La_law_69 ?_
  refine zr_icmp_gt hG 735 zd_La_law_70 (by decide) (fun hc => ?_) (fun hc => ?_)
  · have h := h.1 hc
    refine zr_iconst hG (v := 1) zd_La_law_735 (by decide) ?_
    exact hQ _ _ _ _ _ (by omega) (by omega) zd_La_law_736
  · have h := h.2 hc
    refine zr_aload_n hG zd_La_law_73 rfl rfl ?_
    refine zr_iload hG zd_La_law_74 rfl ?_
    obtain ⟨hi, h⟩ := h
    refine zr_sld hG hX hbl hbA hi zd_La_law_76 ?_
    refine zr_bipush hG (v := (15 : Int32)) zd_La_law_77 (by decide) ?_
    refine zr_iand hG zd_La_law_79 ?_
    by_cases hc0 : ((xs v4.toNatClampNeg) &&& (15 : Int32)) = 0
    · have h := h.1 hc0
      refine zr_swIn hG 148 zd_La_law_80 (by rw [hc0]; decide) (by rw [hc0]; decide) (by rw [hc0]; rfl) (by decide) ?_
      exact zt_La_c0 hL hj hk h
    have h := h.2
    by_cases hc1 : ((xs v4.toNatClampNeg) &&& (15 : Int32)) = 1
    · have h := h.1 hc1
      refine zr_swIn hG 200 zd_La_law_80 (by rw [hc1]; decide) (by rw [hc1]; decide) (by rw [hc1]; rfl) (by decide) ?_
      exact zt_La_c1 hL hj hk h
    have h := h.2
    by_cases hc2 : ((xs v4.toNatClampNeg) &&& (15 : Int32)) = 2
    · have h := h.1 hc2
      refine zr_swIn hG 290 zd_La_law_80 (by rw [hc2]; decide) (by rw [hc2]; decide) (by rw [hc2]; rfl) (by decide) ?_
      exact zt_La_c2 hL hj hk h
    have h := h.2
    by_cases hc3 : ((xs v4.toNatClampNeg) &&& (15 : Int32)) = 3
    · have h := h.1 hc3
      refine zr_swIn hG 318 zd_La_law_80 (by rw [hc3]; decide) (by rw [hc3]; decide) (by rw [hc3]; rfl) (by decide) ?_
      exact zt_La_c3 hL hj hk h
    have h := h.2
    by_cases hc4 : ((xs v4.toNatClampNeg) &&& (15 : Int32)) = 4
    · have h := h.1 hc4
      refine zr_swIn hG 346 zd_La_law_80 (by rw [hc4]; decide) (by rw [hc4]; decide) (by rw [hc4]; rfl) (by decide) ?_
      exact zt_La_c4 hL hj hk h
    have h := h.2
    by_cases hc5 : ((xs v4.toNatClampNeg) &&& (15 : Int32)) = 5
    · have h := h.1 hc5
      refine zr_swIn hG 402 zd_La_law_80 (by rw [hc5]; decide) (by rw [hc5]; decide) (by rw [hc5]; rfl) (by decide) ?_
      exact zt_La_c5 hL hj hk h
    have h := h.2
    by_cases hc6 : ((xs v4.toNatClampNeg) &&& (15 : Int32)) = 6
    · have h := h.1 hc6
      refine zr_swIn hG 427 zd_La_law_80 (by rw [hc6]; decide) (by rw [hc6]; decide) (by rw [hc6]; rfl) (by decide) ?_
      exact zt_La_c6 hL hj hk h
    have h := h.2
    by_cases hc7 : ((xs v4.toNatClampNeg) &&& (15 : Int32)) = 7
    · have h := h.1 hc7
      refine zr_swIn hG 488 zd_La_law_80 (by rw [hc7]; decide) (by rw [hc7]; decide) (by rw [hc7]; rfl) (by decide) ?_
      exact zt_La_c7 hL hj hk h
    have h := h.2
    by_cases hc8 : ((xs v4.toNatClampNeg) &&& (15 : Int32)) = 8
    · have h := h.1 hc8
      refine zr_swIn hG 528 zd_La_law_80 (by rw [hc8]; decide) (by rw [hc8]; decide) (by rw [hc8]; rfl) (by decide) ?_
      exact zt_La_c8 hL hj hk h
    have h := h.2
    by_cases hc9 : ((xs v4.toNatClampNeg) &&& (15 : Int32)) = 9
    · have h := h.1 hc9
      refine zr_swIn hG 580 zd_La_law_80 (by rw [hc9]; decide) (by rw [hc9]; decide) (by rw [hc9]; rfl) (by decide) ?_
      exact zt_La_c9 hL hj hk h
    have h := h.2
    by_cases hc10 : ((xs v4.toNatClampNeg) &&& (15 : Int32)) = 10
    · have h := h.1 hc10
      refine zr_swIn hG 620 zd_La_law_80 (by rw [hc10]; decide) (by rw [hc10]; decide) (by rw [hc10]; rfl) (by decide) ?_
      exact zt_La_c10 hL hj hk h
    have h := h.2
    by_cases hc11 : ((xs v4.toNatClampNeg) &&& (15 : Int32)) = 11
    · have h := h.1 hc11
      refine zr_swIn hG 648 zd_La_law_80 (by rw [hc11]; decide) (by rw [hc11]; decide) (by rw [hc11]; rfl) (by decide) ?_
      exact zt_La_c11 hL hj hk h
    have h := h.2
    by_cases hc12 : ((xs v4.toNatClampNeg) &&& (15 : Int32)) = 12
    · have h := h.1 hc12
      refine zr_swIn hG 661 zd_La_law_80 (by rw [hc12]; decide) (by rw [hc12]; decide) (by rw [hc12]; rfl) (by decide) ?_
      exact zt_La_c12 hL hj hk h
    have h := h.2
    have h := h ⟨hc0, hc1, hc2, hc3, hc4, hc5, hc6, hc7, hc8, hc9, hc10, hc11, hc12⟩
    refine zr_swOut hG 729 zd_La_law_80 (zq_sw0_12 hc0 hc1 hc2 hc3 hc4 hc5 hc6 hc7 hc8 hc9 hc10 hc11 hc12) (by decide) ?_
    exact zr_widen (by omega) (by omega) (zt_La_729 hL hj hk h)
