def zw_La_729 (ln : Nat → Nat) (L : Nat) (xs : Nat → Int32) (k63 : Int32 × Nat × zS × zS × (Nat → Int64) → Prop) (v4 : Int32) (j : Nat) (c g : zS) (o : Nat → Int64) : Prop := k63 ((v4 + (7 : Int32)), j + 1, c, g, o)
set_option maxHeartbeats 4000000 in
set_option maxRecDepth 100000 in
theorem zt_La_729 {x : zC} {w : zW} {b L : Nat} {xs : Nat → Int32} {k0 n0 : Nat} (hL : zq_LW x w b L xs k0 n0) {k63 : Int32 × Nat × zS × zS × (Nat → Int64) → Prop} {j : Nat} (hj : j < 1000) (hk : ∀ q : Int32 × Nat × zS × zS × (Nat → Int64), k63 q → zq_W x w (k0 + q.2.1) (n0 + 6 * q.2.1) (q.2.2.1, q.2.2.2.1, q.2.2.2.2) 63 [some (.ref b), some (.ref (w.2.1 0)), some (.ref (w.2.1 28)), some (.ref (w.2.1 40)), some (.int q.1), none, none] []) {v4 : Int32} {c g : zS} {o : Nat → Int64} (h : zw_La_729 w.2.2.1 L xs k63 v4 j c g o) : zq_W x w (k0 + j + 1) (n0 + 6 * j + 6) (c, g, o) 729 [some (.ref b), some (.ref (w.2.1 0)), some (.ref (w.2.1 28)), some (.ref (w.2.1 40)), some (.int v4), none, none] [] := by
  obtain ⟨hG, hW, hAp, hE, hA0, hX, hbl, hbA, hQ, hfl, hk0, hn0⟩ := id hL
  refine zr_iinc hG (u := (7 : Int32)) [some (.ref b), some (.ref (w.2.1 0)), some (.ref (w.2.1 28)), some (.ref (w.2.1 40)), some (.int (v4 + (7 : Int32))), none, none] zd_La_law_729 rfl (by decide) (Nat.le_of_ble_eq_true rfl) rfl ?_
  refine zr_goto hG 63 zd_La_law_732 (by decide) ?_
  have h := hk _ h
  exact zr_widen (k' := k0 + (j + 1)) (n' := n0 + 6 * (j + 1)) (by omega) (by omega) h
def zw_La_343 (ln : Nat → Nat) (L : Nat) (xs : Nat → Int32) (k63 : Int32 × Nat × zS × zS × (Nat → Int64) → Prop) (v4 : Int32) (j : Nat) (c g : zS) (o : Nat → Int64) : Prop := zw_La_729 ln L xs k63 v4 j c g o
set_option maxHeartbeats 4000000 in
set_option maxRecDepth 100000 in
theorem zt_La_343 {x : zC} {w : zW} {b L : Nat} {xs : Nat → Int32} {k0 n0 : Nat} (hL : zq_LW x w b L xs k0 n0) {k63 : Int32 × Nat × zS × zS × (Nat → Int64) → Prop} {j : Nat} (hj : j < 1000) (hk : ∀ q : Int32 × Nat × zS × zS × (Nat → Int64), k63 q → zq_W x w (k0 + q.2.1) (n0 + 6 * q.2.1) (q.2.2.1, q.2.2.2.1, q.2.2.2.2) 63 [some (.ref b), some (.ref (w.2.1 0)), some (.ref (w.2.1 28)), some (.ref (w.2.1 40)), some (.int q.1), none, none] []) {v4 : Int32} {c g : zS} {o : Nat → Int64} (h : zw_La_343 w.2.2.1 L xs k63 v4 j c g o) : zq_W x w (k0 + j + 1) (n0 + 6 * j + 6) (c, g, o) 343 [some (.ref b), some (.ref (w.2.1 0)), some (.ref (w.2.1 28)), some (.ref (w.2.1 40)), some (.int v4), none, none] [] := by
  obtain ⟨hG, hW, hAp, hE, hA0, hX, hbl, hbA, hQ, hfl, hk0, hn0⟩ := id hL
  refine zr_goto hG 729 zd_La_law_343 (by decide) ?_
  exact zt_La_729 hL hj hk h
def zw_La_416 (ln : Nat → Nat) (L : Nat) (xs : Nat → Int32) (k63 : Int32 × Nat × zS × zS × (Nat → Int64) → Prop) (v4 : Int32) (u0 : Int32) (j : Nat) (c g : zS) (o : Nat → Int64) : Prop := vp_in (v4 + (2 : Int32)) L ∧ (zw_Mo_all u0 (xs (v4 + (2 : Int32)).toNatClampNeg) g (fun r239 z239 => zw_La_729 ln L xs k63 v4 j c z239 o))
set_option maxHeartbeats 4000000 in
set_option maxRecDepth 100000 in
theorem zt_La_416 {x : zC} {w : zW} {b L : Nat} {xs : Nat → Int32} {k0 n0 : Nat} (hL : zq_LW x w b L xs k0 n0) {k63 : Int32 × Nat × zS × zS × (Nat → Int64) → Prop} {j : Nat} (hj : j < 1000) (hk : ∀ q : Int32 × Nat × zS × zS × (Nat → Int64), k63 q → zq_W x w (k0 + q.2.1) (n0 + 6 * q.2.1) (q.2.2.1, q.2.2.2.1, q.2.2.2.2) 63 [some (.ref b), some (.ref (w.2.1 0)), some (.ref (w.2.1 28)), some (.ref (w.2.1 40)), some (.int q.1), none, none] []) {v4 : Int32} {u0 : Int32} {c g : zS} {o : Nat → Int64} (h : zw_La_416 w.2.2.1 L xs k63 v4 u0 j c g o) : zq_W x w (k0 + j + 1) (n0 + 6 * j + 6) (c, g, o) 416 [some (.ref b), some (.ref (w.2.1 0)), some (.ref (w.2.1 28)), some (.ref (w.2.1 40)), some (.int v4), none, none] [.int u0, .ref (w.2.1 28)] := by
  obtain ⟨hG, hW, hAp, hE, hA0, hX, hbl, hbA, hQ, hfl, hk0, hn0⟩ := id hL
  refine zr_aload_n hG zd_La_law_416 rfl rfl ?_
  refine zr_iload hG zd_La_law_417 rfl ?_
  refine zr_iconst hG (v := (2 : Int32)) zd_La_law_419 (by decide) ?_
  refine zr_iadd hG zd_La_law_420 ?_
  obtain ⟨hi, h⟩ := h
  refine zr_sld hG hX hbl hbA hi zd_La_law_421 ?_
  refine zr_callV hG (zq_F1 hW) (As := [.int u0, .int (xs (v4 + (2 : Int32)).toNatClampNeg)]) (rest := []) (zm_Mo_all (zc_l x) w hAp c o h) 28 rfl rfl rfl zg_La_92 zdd_Mo_all ⟨rfl, rfl, by decide, by decide⟩ ⟨by show _ ≤ 601024; omega, by show _ ≤ 7293000; omega⟩ rfl (Nat.le_of_ble_eq_true rfl) zd_La_law_422 rfl ?_
  rintro _ _ ⟨r239, z239, rfl, rfl, h⟩
  refine zr_istore hG [some (.ref b), some (.ref (w.2.1 0)), some (.ref (w.2.1 28)), some (.ref (w.2.1 40)), some (.int v4), none, some (.int r239)] zd_La_law_425 (Nat.le_of_ble_eq_true rfl) rfl ?_
  refine zr_goto hG 729 zd_La_law_427 (by decide) ?_
  exact zr_mask [true, true, true, true, true, false, false] (zt_La_729 hL hj hk h)
def zw_La_c0 (ln : Nat → Nat) (L : Nat) (xs : Nat → Int32) (k63 : Int32 × Nat × zS × zS × (Nat → Int64) → Prop) (v4 : Int32) (j : Nat) (c g : zS) (o : Nat → Int64) : Prop := vp_in (v4 + (1 : Int32)) L ∧ vp_in (v4 + (2 : Int32)) L ∧ vp_in (v4 + (3 : Int32)) L ∧ (zw_La_h_block ln (xs (v4 + (1 : Int32)).toNatClampNeg) (xs (v4 + (2 : Int32)).toNatClampNeg) (xs (v4 + (3 : Int32)).toNatClampNeg) c o (fun r213 c213 o213 => vp_in (v4 + (1 : Int32)) L ∧ vp_in (v4 + (2 : Int32)) L ∧ vp_in (v4 + (3 : Int32)) L ∧ (zw_Mo_block (xs (v4 + (1 : Int32)).toNatClampNeg) (xs (v4 + (2 : Int32)).toNatClampNeg) (xs (v4 + (3 : Int32)).toNatClampNeg) g (fun r214 z214 => zw_La_729 ln L xs k63 v4 j c213 z214 o213))))
set_option maxHeartbeats 4000000 in
set_option maxRecDepth 100000 in
theorem zt_La_c0 {x : zC} {w : zW} {b L : Nat} {xs : Nat → Int32} {k0 n0 : Nat} (hL : zq_LW x w b L xs k0 n0) {k63 : Int32 × Nat × zS × zS × (Nat → Int64) → Prop} {j : Nat} (hj : j < 1000) (hk : ∀ q : Int32 × Nat × zS × zS × (Nat → Int64), k63 q → zq_W x w (k0 + q.2.1) (n0 + 6 * q.2.1) (q.2.2.1, q.2.2.2.1, q.2.2.2.2) 63 [some (.ref b), some (.ref (w.2.1 0)), some (.ref (w.2.1 28)), some (.ref (w.2.1 40)), some (.int q.1), none, none] []) {v4 : Int32} {c g : zS} {o : Nat → Int64} (h : zw_La_c0 w.2.2.1 L xs k63 v4 j c g o) : zq_W x w (k0 + j) (n0 + 6 * j) (c, g, o) 148 [some (.ref b), some (.ref (w.2.1 0)), some (.ref (w.2.1 28)), some (.ref (w.2.1 40)), some (.int v4), none, none] [] := by
  obtain ⟨hG, hW, hAp, hE, hA0, hX, hbl, hbA, hQ, hfl, hk0, hn0⟩ := id hL
  refine zr_aload_n hG zd_La_law_148 rfl rfl ?_
  refine zr_aload_n hG zd_La_law_149 rfl rfl ?_
  refine zr_iload hG zd_La_law_150 rfl ?_
  refine zr_iconst hG (v := (1 : Int32)) zd_La_law_152 (by decide) ?_
  refine zr_iadd hG zd_La_law_153 ?_
  obtain ⟨hi, h⟩ := h
  refine zr_sld hG hX hbl hbA hi zd_La_law_154 ?_
  refine zr_aload_n hG zd_La_law_155 rfl rfl ?_
  refine zr_iload hG zd_La_law_156 rfl ?_
  refine zr_iconst hG (v := (2 : Int32)) zd_La_law_158 (by decide) ?_
  refine zr_iadd hG zd_La_law_159 ?_
  obtain ⟨hi, h⟩ := h
  refine zr_sld hG hX hbl hbA hi zd_La_law_160 ?_
  refine zr_aload_n hG zd_La_law_161 rfl rfl ?_
  refine zr_iload hG zd_La_law_162 rfl ?_
  refine zr_iconst hG (v := (3 : Int32)) zd_La_law_164 (by decide) ?_
  refine zr_iadd hG zd_La_law_165 ?_
  obtain ⟨hi, h⟩ := h
  refine zr_sld hG hX hbl hbA hi zd_La_law_166 ?_
  refine zr_aload_n hG zd_La_law_167 rfl rfl ?_
  refine zr_callH hG (zq_F1 hW) hE hA0 (As := [.ref (w.2.1 0), .int (xs (v4 + (1 : Int32)).toNatClampNeg), .int (xs (v4 + (2 : Int32)).toNatClampNeg), .int (xs (v4 + (3 : Int32)).toNatClampNeg), .ref (w.2.1 40)]) (rest := []) (zm_La_h_block (zc_l x) hfl w hAp g h) rfl zgh_70 zdd_La_h_block ⟨rfl, rfl, by decide, by decide⟩ ⟨by show _ ≤ 601024; omega, by show _ ≤ 7293000; omega⟩ rfl (Nat.le_of_ble_eq_true rfl) zd_La_law_168 rfl ?_
  rintro _ _ ⟨r213, c213, o213, rfl, rfl, h⟩
  refine zr_istore hG [some (.ref b), some (.ref (w.2.1 0)), some (.ref (w.2.1 28)), some (.ref (w.2.1 40)), some (.int v4), some (.int r213), none] zd_La_law_171 (Nat.le_of_ble_eq_true rfl) rfl ?_
  refine zr_aload_n hG zd_La_law_173 rfl rfl ?_
  refine zr_aload_n hG zd_La_law_174 rfl rfl ?_
  refine zr_iload hG zd_La_law_175 rfl ?_
  refine zr_iconst hG (v := (1 : Int32)) zd_La_law_177 (by decide) ?_
  refine zr_iadd hG zd_La_law_178 ?_
  obtain ⟨hi, h⟩ := h
  refine zr_sld hG hX hbl hbA hi zd_La_law_179 ?_
  refine zr_aload_n hG zd_La_law_180 rfl rfl ?_
  refine zr_iload hG zd_La_law_181 rfl ?_
  refine zr_iconst hG (v := (2 : Int32)) zd_La_law_183 (by decide) ?_
  refine zr_iadd hG zd_La_law_184 ?_
  obtain ⟨hi, h⟩ := h
  refine zr_sld hG hX hbl hbA hi zd_La_law_185 ?_
  refine zr_aload_n hG zd_La_law_186 rfl rfl ?_
  refine zr_iload hG zd_La_law_187 rfl ?_
  refine zr_iconst hG (v := (3 : Int32)) zd_La_law_189 (by decide) ?_
  refine zr_iadd hG zd_La_law_190 ?_
  obtain ⟨hi, h⟩ := h
  refine zr_sld hG hX hbl hbA hi zd_La_law_191 ?_
  refine zr_callV hG (zq_F1 hW) (As := [.int (xs (v4 + (1 : Int32)).toNatClampNeg), .int (xs (v4 + (2 : Int32)).toNatClampNeg), .int (xs (v4 + (3 : Int32)).toNatClampNeg)]) (rest := []) (zm_Mo_block (zc_l x) w hAp c213 o213 h) 28 rfl rfl rfl zg_La_73 zdd_Mo_block ⟨rfl, rfl, by decide, by decide⟩ ⟨by show _ ≤ 601024; omega, by show _ ≤ 7293000; omega⟩ rfl (Nat.le_of_ble_eq_true rfl) zd_La_law_192 rfl ?_
  rintro _ _ ⟨r214, z214, rfl, rfl, h⟩
  refine zr_istore hG [some (.ref b), some (.ref (w.2.1 0)), some (.ref (w.2.1 28)), some (.ref (w.2.1 40)), some (.int v4), some (.int r213), some (.int r214)] zd_La_law_195 (Nat.le_of_ble_eq_true rfl) rfl ?_
  refine zr_goto hG 729 zd_La_law_197 (by decide) ?_
  exact zr_mask [true, true, true, true, true, false, false] (zt_La_729 hL hj hk h)
def zw_La_c1 (ln : Nat → Nat) (L : Nat) (xs : Nat → Int32) (k63 : Int32 × Nat × zS × zS × (Nat → Int64) → Prop) (v4 : Int32) (j : Nat) (c g : zS) (o : Nat → Int64) : Prop := vp_in (v4 + (1 : Int32)) L ∧ vp_in (v4 + (2 : Int32)) L ∧ vp_in (v4 + (3 : Int32)) L ∧ vp_in (v4 + (4 : Int32)) L ∧ vp_in (v4 + (5 : Int32)) L ∧ vp_in (v4 + (6 : Int32)) L ∧ (zw_La_h_net ln (xs (v4 + (1 : Int32)).toNatClampNeg) (xs (v4 + (2 : Int32)).toNatClampNeg) (xs (v4 + (3 : Int32)).toNatClampNeg) (xs (v4 + (4 : Int32)).toNatClampNeg) (xs (v4 + (5 : Int32)).toNatClampNeg) (xs (v4 + (6 : Int32)).toNatClampNeg) c o (fun r215 c215 o215 => vp_in (v4 + (1 : Int32)) L ∧ vp_in (v4 + (2 : Int32)) L ∧ vp_in (v4 + (3 : Int32)) L ∧ vp_in (v4 + (4 : Int32)) L ∧ vp_in (v4 + (5 : Int32)) L ∧ vp_in (v4 + (6 : Int32)) L ∧ (zw_Mo_net (xs (v4 + (1 : Int32)).toNatClampNeg) (xs (v4 + (2 : Int32)).toNatClampNeg) (xs (v4 + (3 : Int32)).toNatClampNeg) (xs (v4 + (4 : Int32)).toNatClampNeg) (xs (v4 + (5 : Int32)).toNatClampNeg) (xs (v4 + (6 : Int32)).toNatClampNeg) g (fun r216 z216 => zw_La_729 ln L xs k63 v4 j c215 z216 o215))))
set_option maxHeartbeats 4000000 in
set_option maxRecDepth 100000 in
theorem zt_La_c1 {x : zC} {w : zW} {b L : Nat} {xs : Nat → Int32} {k0 n0 : Nat} (hL : zq_LW x w b L xs k0 n0) {k63 : Int32 × Nat × zS × zS × (Nat → Int64) → Prop} {j : Nat} (hj : j < 1000) (hk : ∀ q : Int32 × Nat × zS × zS × (Nat → Int64), k63 q → zq_W x w (k0 + q.2.1) (n0 + 6 * q.2.1) (q.2.2.1, q.2.2.2.1, q.2.2.2.2) 63 [some (.ref b), some (.ref (w.2.1 0)), some (.ref (w.2.1 28)), some (.ref (w.2.1 40)), some (.int q.1), none, none] []) {v4 : Int32} {c g : zS} {o : Nat → Int64} (h : zw_La_c1 w.2.2.1 L xs k63 v4 j c g o) : zq_W x w (k0 + j) (n0 + 6 * j) (c, g, o) 200 [some (.ref b), some (.ref (w.2.1 0)), some (.ref (w.2.1 28)), some (.ref (w.2.1 40)), some (.int v4), none, none] [] := by
  obtain ⟨hG, hW, hAp, hE, hA0, hX, hbl, hbA, hQ, hfl, hk0, hn0⟩ := id hL
  refine zr_aload_n hG zd_La_law_200 rfl rfl ?_
  refine zr_aload_n hG zd_La_law_201 rfl rfl ?_
  refine zr_iload hG zd_La_law_202 rfl ?_
  refine zr_iconst hG (v := (1 : Int32)) zd_La_law_204 (by decide) ?_
  refine zr_iadd hG zd_La_law_205 ?_
  obtain ⟨hi, h⟩ := h
  refine zr_sld hG hX hbl hbA hi zd_La_law_206 ?_
  refine zr_aload_n hG zd_La_law_207 rfl rfl ?_
  refine zr_iload hG zd_La_law_208 rfl ?_
  refine zr_iconst hG (v := (2 : Int32)) zd_La_law_210 (by decide) ?_
  refine zr_iadd hG zd_La_law_211 ?_
  obtain ⟨hi, h⟩ := h
  refine zr_sld hG hX hbl hbA hi zd_La_law_212 ?_
  refine zr_aload_n hG zd_La_law_213 rfl rfl ?_
  refine zr_iload hG zd_La_law_214 rfl ?_
  refine zr_iconst hG (v := (3 : Int32)) zd_La_law_216 (by decide) ?_
  refine zr_iadd hG zd_La_law_217 ?_
  obtain ⟨hi, h⟩ := h
  refine zr_sld hG hX hbl hbA hi zd_La_law_218 ?_
  refine zr_aload_n hG zd_La_law_219 rfl rfl ?_
  refine zr_iload hG zd_La_law_220 rfl ?_
  refine zr_iconst hG (v := (4 : Int32)) zd_La_law_222 (by decide) ?_
  refine zr_iadd hG zd_La_law_223 ?_
  obtain ⟨hi, h⟩ := h
  refine zr_sld hG hX hbl hbA hi zd_La_law_224 ?_
  refine zr_aload_n hG zd_La_law_225 rfl rfl ?_
  refine zr_iload hG zd_La_law_226 rfl ?_
  refine zr_iconst hG (v := (5 : Int32)) zd_La_law_228 (by decide) ?_
  refine zr_iadd hG zd_La_law_229 ?_
  obtain ⟨hi, h⟩ := h
  refine zr_sld hG hX hbl hbA hi zd_La_law_230 ?_
  refine zr_aload_n hG zd_La_law_231 rfl rfl ?_
  refine zr_iload hG zd_La_law_232 rfl ?_
  refine zr_bipush hG (v := (6 : Int32)) zd_La_law_234 (by decide) ?_
  refine zr_iadd hG zd_La_law_236 ?_
  obtain ⟨hi, h⟩ := h
  refine zr_sld hG hX hbl hbA hi zd_La_law_237 ?_
  refine zr_aload_n hG zd_La_law_238 rfl rfl ?_
  refine zr_callH hG (zq_F1 hW) hE hA0 (As := [.ref (w.2.1 0), .int (xs (v4 + (1 : Int32)).toNatClampNeg), .int (xs (v4 + (2 : Int32)).toNatClampNeg), .int (xs (v4 + (3 : Int32)).toNatClampNeg), .int (xs (v4 + (4 : Int32)).toNatClampNeg), .int (xs (v4 + (5 : Int32)).toNatClampNeg), .int (xs (v4 + (6 : Int32)).toNatClampNeg), .ref (w.2.1 40)]) (rest := []) (zm_La_h_net (zc_l x) hfl w hAp g h) rfl zgh_74 zdd_La_h_net ⟨rfl, rfl, by decide, by decide⟩ ⟨by show _ ≤ 601024; omega, by show _ ≤ 7293000; omega⟩ rfl (Nat.le_of_ble_eq_true rfl) zd_La_law_239 rfl ?_
  rintro _ _ ⟨r215, c215, o215, rfl, rfl, h⟩
  refine zr_istore hG [some (.ref b), some (.ref (w.2.1 0)), some (.ref (w.2.1 28)), some (.ref (w.2.1 40)), some (.int v4), some (.int r215), none] zd_La_law_242 (Nat.le_of_ble_eq_true rfl) rfl ?_
  refine zr_aload_n hG zd_La_law_244 rfl rfl ?_
  refine zr_aload_n hG zd_La_law_245 rfl rfl ?_
  refine zr_iload hG zd_La_law_246 rfl ?_
  refine zr_iconst hG (v := (1 : Int32)) zd_La_law_248 (by decide) ?_
  refine zr_iadd hG zd_La_law_249 ?_
  obtain ⟨hi, h⟩ := h
  refine zr_sld hG hX hbl hbA hi zd_La_law_250 ?_
  refine zr_aload_n hG zd_La_law_251 rfl rfl ?_
  refine zr_iload hG zd_La_law_252 rfl ?_
  refine zr_iconst hG (v := (2 : Int32)) zd_La_law_254 (by decide) ?_
  refine zr_iadd hG zd_La_law_255 ?_
  obtain ⟨hi, h⟩ := h
  refine zr_sld hG hX hbl hbA hi zd_La_law_256 ?_
  refine zr_aload_n hG zd_La_law_257 rfl rfl ?_
  refine zr_iload hG zd_La_law_258 rfl ?_
  refine zr_iconst hG (v := (3 : Int32)) zd_La_law_260 (by decide) ?_
  refine zr_iadd hG zd_La_law_261 ?_
  obtain ⟨hi, h⟩ := h
  refine zr_sld hG hX hbl hbA hi zd_La_law_262 ?_
  refine zr_aload_n hG zd_La_law_263 rfl rfl ?_
  refine zr_iload hG zd_La_law_264 rfl ?_
  refine zr_iconst hG (v := (4 : Int32)) zd_La_law_266 (by decide) ?_
  refine zr_iadd hG zd_La_law_267 ?_
  obtain ⟨hi, h⟩ := h
  refine zr_sld hG hX hbl hbA hi zd_La_law_268 ?_
  refine zr_aload_n hG zd_La_law_269 rfl rfl ?_
  refine zr_iload hG zd_La_law_270 rfl ?_
  refine zr_iconst hG (v := (5 : Int32)) zd_La_law_272 (by decide) ?_
  refine zr_iadd hG zd_La_law_273 ?_
  obtain ⟨hi, h⟩ := h
  refine zr_sld hG hX hbl hbA hi zd_La_law_274 ?_
  refine zr_aload_n hG zd_La_law_275 rfl rfl ?_
  refine zr_iload hG zd_La_law_276 rfl ?_
  refine zr_bipush hG (v := (6 : Int32)) zd_La_law_278 (by decide) ?_
  refine zr_iadd hG zd_La_law_280 ?_
  obtain ⟨hi, h⟩ := h
  refine zr_sld hG hX hbl hbA hi zd_La_law_281 ?_
  refine zr_callV hG (zq_F1 hW) (As := [.int (xs (v4 + (1 : Int32)).toNatClampNeg), .int (xs (v4 + (2 : Int32)).toNatClampNeg), .int (xs (v4 + (3 : Int32)).toNatClampNeg), .int (xs (v4 + (4 : Int32)).toNatClampNeg), .int (xs (v4 + (5 : Int32)).toNatClampNeg), .int (xs (v4 + (6 : Int32)).toNatClampNeg)]) (rest := []) (zm_Mo_net (zc_l x) w hAp c215 o215 h) 28 rfl rfl rfl zg_La_77 zdd_Mo_net ⟨rfl, rfl, by decide, by decide⟩ ⟨by show _ ≤ 601024; omega, by show _ ≤ 7293000; omega⟩ rfl (Nat.le_of_ble_eq_true rfl) zd_La_law_282 rfl ?_
  rintro _ _ ⟨r216, z216, rfl, rfl, h⟩
  refine zr_istore hG [some (.ref b), some (.ref (w.2.1 0)), some (.ref (w.2.1 28)), some (.ref (w.2.1 40)), some (.int v4), some (.int r215), some (.int r216)] zd_La_law_285 (Nat.le_of_ble_eq_true rfl) rfl ?_
  refine zr_goto hG 729 zd_La_law_287 (by decide) ?_
  exact zr_mask [true, true, true, true, true, false, false] (zt_La_729 hL hj hk h)
def zw_La_c10 (ln : Nat → Nat) (L : Nat) (xs : Nat → Int32) (k63 : Int32 × Nat × zS × zS × (Nat → Int64) → Prop) (v4 : Int32) (j : Nat) (c g : zS) (o : Nat → Int64) : Prop := vp_in (v4 + (1 : Int32)) L ∧ (zw_La_h_faults ln (xs (v4 + (1 : Int32)).toNatClampNeg) c o (fun r232 c232 o232 => vp_in (v4 + (1 : Int32)) L ∧ (zw_Mo_faults (xs (v4 + (1 : Int32)).toNatClampNeg) g (fun r233 z233 => zw_La_729 ln L xs k63 v4 j c232 z233 o232))))
set_option maxHeartbeats 4000000 in
set_option maxRecDepth 100000 in
theorem zt_La_c10 {x : zC} {w : zW} {b L : Nat} {xs : Nat → Int32} {k0 n0 : Nat} (hL : zq_LW x w b L xs k0 n0) {k63 : Int32 × Nat × zS × zS × (Nat → Int64) → Prop} {j : Nat} (hj : j < 1000) (hk : ∀ q : Int32 × Nat × zS × zS × (Nat → Int64), k63 q → zq_W x w (k0 + q.2.1) (n0 + 6 * q.2.1) (q.2.2.1, q.2.2.2.1, q.2.2.2.2) 63 [some (.ref b), some (.ref (w.2.1 0)), some (.ref (w.2.1 28)), some (.ref (w.2.1 40)), some (.int q.1), none, none] []) {v4 : Int32} {c g : zS} {o : Nat → Int64} (h : zw_La_c10 w.2.2.1 L xs k63 v4 j c g o) : zq_W x w (k0 + j) (n0 + 6 * j) (c, g, o) 648 [some (.ref b), some (.ref (w.2.1 0)), some (.ref (w.2.1 28)), some (.ref (w.2.1 40)), some (.int v4), none, none] [] := by
  obtain ⟨hG, hW, hAp, hE, hA0, hX, hbl, hbA, hQ, hfl, hk0, hn0⟩ := id hL
  refine zr_aload_n hG zd_La_law_648 rfl rfl ?_
  refine zr_aload_n hG zd_La_law_649 rfl rfl ?_
  refine zr_iload hG zd_La_law_650 rfl ?_
  refine zr_iconst hG (v := (1 : Int32)) zd_La_law_652 (by decide) ?_
  refine zr_iadd hG zd_La_law_653 ?_
  obtain ⟨hi, h⟩ := h
  refine zr_sld hG hX hbl hbA hi zd_La_law_654 ?_
  refine zr_aload_n hG zd_La_law_655 rfl rfl ?_
  refine zr_callH hG (zq_F1 hW) hE hA0 (As := [.ref (w.2.1 0), .int (xs (v4 + (1 : Int32)).toNatClampNeg), .ref (w.2.1 40)]) (rest := []) (zm_La_h_faults (zc_l x) hfl w hAp g h) rfl zgh_111 zdd_La_h_faults ⟨rfl, rfl, by decide, by decide⟩ ⟨by show _ ≤ 601024; omega, by show _ ≤ 7293000; omega⟩ rfl (Nat.le_of_ble_eq_true rfl) zd_La_law_656 rfl ?_
  rintro _ _ ⟨r232, c232, o232, rfl, rfl, h⟩
  refine zr_istore hG [some (.ref b), some (.ref (w.2.1 0)), some (.ref (w.2.1 28)), some (.ref (w.2.1 40)), some (.int v4), some (.int r232), none] zd_La_law_659 (Nat.le_of_ble_eq_true rfl) rfl ?_
  refine zr_aload_n hG zd_La_law_661 rfl rfl ?_
  refine zr_aload_n hG zd_La_law_662 rfl rfl ?_
  refine zr_iload hG zd_La_law_663 rfl ?_
  refine zr_iconst hG (v := (1 : Int32)) zd_La_law_665 (by decide) ?_
  refine zr_iadd hG zd_La_law_666 ?_
  obtain ⟨hi, h⟩ := h
  refine zr_sld hG hX hbl hbA hi zd_La_law_667 ?_
  refine zr_callV hG (zq_F1 hW) (As := [.int (xs (v4 + (1 : Int32)).toNatClampNeg)]) (rest := []) (zm_Mo_faults (zc_l x) w hAp c232 o232 h) 28 rfl rfl rfl zg_La_113 zdd_Mo_faults ⟨rfl, rfl, by decide, by decide⟩ ⟨by show _ ≤ 601024; omega, by show _ ≤ 7293000; omega⟩ rfl (Nat.le_of_ble_eq_true rfl) zd_La_law_668 rfl ?_
  rintro _ _ ⟨r233, z233, rfl, rfl, h⟩
  refine zr_istore hG [some (.ref b), some (.ref (w.2.1 0)), some (.ref (w.2.1 28)), some (.ref (w.2.1 40)), some (.int v4), some (.int r232), some (.int r233)] zd_La_law_671 (Nat.le_of_ble_eq_true rfl) rfl ?_
  refine zr_goto hG 729 zd_La_law_673 (by decide) ?_
  exact zr_mask [true, true, true, true, true, false, false] (zt_La_729 hL hj hk h)
def zw_La_c11 (ln : Nat → Nat) (L : Nat) (xs : Nat → Int32) (k63 : Int32 × Nat × zS × zS × (Nat → Int64) → Prop) (v4 : Int32) (j : Nat) (c g : zS) (o : Nat → Int64) : Prop := (zw_Gr_shapes ln c (fun r234 z234 => (zw_Mo_shapes g (fun r235 z235 => zw_La_729 ln L xs k63 v4 j z234 z235 o))))
set_option maxHeartbeats 4000000 in
set_option maxRecDepth 100000 in
theorem zt_La_c11 {x : zC} {w : zW} {b L : Nat} {xs : Nat → Int32} {k0 n0 : Nat} (hL : zq_LW x w b L xs k0 n0) {k63 : Int32 × Nat × zS × zS × (Nat → Int64) → Prop} {j : Nat} (hj : j < 1000) (hk : ∀ q : Int32 × Nat × zS × zS × (Nat → Int64), k63 q → zq_W x w (k0 + q.2.1) (n0 + 6 * q.2.1) (q.2.2.1, q.2.2.2.1, q.2.2.2.2) 63 [some (.ref b), some (.ref (w.2.1 0)), some (.ref (w.2.1 28)), some (.ref (w.2.1 40)), some (.int q.1), none, none] []) {v4 : Int32} {c g : zS} {o : Nat → Int64} (h : zw_La_c11 w.2.2.1 L xs k63 v4 j c g o) : zq_W x w (k0 + j) (n0 + 6 * j) (c, g, o) 676 [some (.ref b), some (.ref (w.2.1 0)), some (.ref (w.2.1 28)), some (.ref (w.2.1 40)), some (.int v4), none, none] [] := by
  obtain ⟨hG, hW, hAp, hE, hA0, hX, hbl, hbA, hQ, hfl, hk0, hn0⟩ := id hL
  have h : (zw_Gr_shapes w.2.2.1 c (fun r234 z234 => (zw_Mo_shapes g (fun r235 z235 => zw_La_729 w.2.2.1 L xs k63 v4 j z234 z235 o)))) := h
  refine zr_aload_n hG zd_La_law_676 rfl rfl ?_
  refine zr_callV hG zq_F0 (As := []) (rest := []) (zm_Gr_shapes (zc_l x) w hAp g o h) 0 rfl rfl rfl zg_La_114 zdd_Gr_shapes ⟨rfl, rfl, by decide, by decide⟩ ⟨by show _ ≤ 601024; omega, by show _ ≤ 7293000; omega⟩ rfl (Nat.le_of_ble_eq_true rfl) zd_La_law_677 rfl ?_
  rintro _ _ ⟨r234, z234, rfl, rfl, h⟩
  refine zr_pop hG rfl zd_La_law_680 ?_
  refine zr_aload_n hG zd_La_law_681 rfl rfl ?_
  refine zr_callV hG (zq_F1 hW) (As := []) (rest := []) (zm_Mo_shapes (zc_l x) w hAp z234 o h) 28 rfl rfl rfl zg_La_117 zdd_Mo_shapes ⟨rfl, rfl, by decide, by decide⟩ ⟨by show _ ≤ 601024; omega, by show _ ≤ 7293000; omega⟩ rfl (Nat.le_of_ble_eq_true rfl) zd_La_law_682 rfl ?_
  rintro _ _ ⟨r235, z235, rfl, rfl, h⟩
  refine zr_pop hG rfl zd_La_law_685 ?_
  refine zr_goto hG 729 zd_La_law_686 (by decide) ?_
  exact zr_widen (by omega) (by omega) (zt_La_729 hL hj hk h)
def zw_La_c12 (ln : Nat → Nat) (L : Nat) (xs : Nat → Int32) (k63 : Int32 × Nat × zS × zS × (Nat → Int64) → Prop) (v4 : Int32) (j : Nat) (c g : zS) (o : Nat → Int64) : Prop := vp_in (v4 + (1 : Int32)) L ∧ vp_in (v4 + (2 : Int32)) L ∧ (zw_La_h_shape ln (xs (v4 + (1 : Int32)).toNatClampNeg) (xs (v4 + (2 : Int32)).toNatClampNeg) c o (fun r236 c236 o236 => vp_in (v4 + (1 : Int32)) L ∧ vp_in (v4 + (2 : Int32)) L ∧ (zw_Mo_shape (xs (v4 + (1 : Int32)).toNatClampNeg) (xs (v4 + (2 : Int32)).toNatClampNeg) g (fun r237 z237 => zw_La_729 ln L xs k63 v4 j c236 z237 o236))))
set_option maxHeartbeats 4000000 in
set_option maxRecDepth 100000 in
theorem zt_La_c12 {x : zC} {w : zW} {b L : Nat} {xs : Nat → Int32} {k0 n0 : Nat} (hL : zq_LW x w b L xs k0 n0) {k63 : Int32 × Nat × zS × zS × (Nat → Int64) → Prop} {j : Nat} (hj : j < 1000) (hk : ∀ q : Int32 × Nat × zS × zS × (Nat → Int64), k63 q → zq_W x w (k0 + q.2.1) (n0 + 6 * q.2.1) (q.2.2.1, q.2.2.2.1, q.2.2.2.2) 63 [some (.ref b), some (.ref (w.2.1 0)), some (.ref (w.2.1 28)), some (.ref (w.2.1 40)), some (.int q.1), none, none] []) {v4 : Int32} {c g : zS} {o : Nat → Int64} (h : zw_La_c12 w.2.2.1 L xs k63 v4 j c g o) : zq_W x w (k0 + j) (n0 + 6 * j) (c, g, o) 689 [some (.ref b), some (.ref (w.2.1 0)), some (.ref (w.2.1 28)), some (.ref (w.2.1 40)), some (.int v4), none, none] [] := by
  obtain ⟨hG, hW, hAp, hE, hA0, hX, hbl, hbA, hQ, hfl, hk0, hn0⟩ := id hL
  refine zr_aload_n hG zd_La_law_689 rfl rfl ?_
  refine zr_aload_n hG zd_La_law_690 rfl rfl ?_
  refine zr_iload hG zd_La_law_691 rfl ?_
  refine zr_iconst hG (v := (1 : Int32)) zd_La_law_693 (by decide) ?_
  refine zr_iadd hG zd_La_law_694 ?_
  obtain ⟨hi, h⟩ := h
  refine zr_sld hG hX hbl hbA hi zd_La_law_695 ?_
  refine zr_aload_n hG zd_La_law_696 rfl rfl ?_
  refine zr_iload hG zd_La_law_697 rfl ?_
  refine zr_iconst hG (v := (2 : Int32)) zd_La_law_699 (by decide) ?_
  refine zr_iadd hG zd_La_law_700 ?_
  obtain ⟨hi, h⟩ := h
  refine zr_sld hG hX hbl hbA hi zd_La_law_701 ?_
  refine zr_aload_n hG zd_La_law_702 rfl rfl ?_
  refine zr_callH hG (zq_F1 hW) hE hA0 (As := [.ref (w.2.1 0), .int (xs (v4 + (1 : Int32)).toNatClampNeg), .int (xs (v4 + (2 : Int32)).toNatClampNeg), .ref (w.2.1 40)]) (rest := []) (zm_La_h_shape (zc_l x) hfl w hAp g h) rfl zgh_118 zdd_La_h_shape ⟨rfl, rfl, by decide, by decide⟩ ⟨by show _ ≤ 601024; omega, by show _ ≤ 7293000; omega⟩ rfl (Nat.le_of_ble_eq_true rfl) zd_La_law_703 rfl ?_
  rintro _ _ ⟨r236, c236, o236, rfl, rfl, h⟩
  refine zr_istore hG [some (.ref b), some (.ref (w.2.1 0)), some (.ref (w.2.1 28)), some (.ref (w.2.1 40)), some (.int v4), some (.int r236), none] zd_La_law_706 (Nat.le_of_ble_eq_true rfl) rfl ?_
  refine zr_aload_n hG zd_La_law_708 rfl rfl ?_
  refine zr_aload_n hG zd_La_law_709 rfl rfl ?_
  refine zr_iload hG zd_La_law_710 rfl ?_
  refine zr_iconst hG (v := (1 : Int32)) zd_La_law_712 (by decide) ?_
  refine zr_iadd hG zd_La_law_713 ?_
  obtain ⟨hi, h⟩ := h
  refine zr_sld hG hX hbl hbA hi zd_La_law_714 ?_
  refine zr_aload_n hG zd_La_law_715 rfl rfl ?_
  refine zr_iload hG zd_La_law_716 rfl ?_
  refine zr_iconst hG (v := (2 : Int32)) zd_La_law_718 (by decide) ?_
  refine zr_iadd hG zd_La_law_719 ?_
  obtain ⟨hi, h⟩ := h
  refine zr_sld hG hX hbl hbA hi zd_La_law_720 ?_
  refine zr_callV hG (zq_F1 hW) (As := [.int (xs (v4 + (1 : Int32)).toNatClampNeg), .int (xs (v4 + (2 : Int32)).toNatClampNeg)]) (rest := []) (zm_Mo_shape (zc_l x) w hAp c236 o236 h) 28 rfl rfl rfl zg_La_120 zdd_Mo_shape ⟨rfl, rfl, by decide, by decide⟩ ⟨by show _ ≤ 601024; omega, by show _ ≤ 7293000; omega⟩ rfl (Nat.le_of_ble_eq_true rfl) zd_La_law_721 rfl ?_
  rintro _ _ ⟨r237, z237, rfl, rfl, h⟩
  refine zr_istore hG [some (.ref b), some (.ref (w.2.1 0)), some (.ref (w.2.1 28)), some (.ref (w.2.1 40)), some (.int v4), some (.int r236), some (.int r237)] zd_La_law_724 (Nat.le_of_ble_eq_true rfl) rfl ?_
  refine zr_goto hG 729 zd_La_law_726 (by decide) ?_
  exact zr_mask [true, true, true, true, true, false, false] (zt_La_729 hL hj hk h)
def zw_La_c3 (ln : Nat → Nat) (L : Nat) (xs : Nat → Int32) (k63 : Int32 × Nat × zS × zS × (Nat → Int64) → Prop) (v4 : Int32) (j : Nat) (c g : zS) (o : Nat → Int64) : Prop := vp_in (v4 + (1 : Int32)) L ∧ (zw_La_h_push ln (xs (v4 + (1 : Int32)).toNatClampNeg) c o (fun r220 c220 o220 => vp_in (v4 + (1 : Int32)) L ∧ (zw_Mo_push (xs (v4 + (1 : Int32)).toNatClampNeg) g (fun r221 z221 => zw_La_729 ln L xs k63 v4 j c220 z221 o220))))
set_option maxHeartbeats 4000000 in
set_option maxRecDepth 100000 in
theorem zt_La_c3 {x : zC} {w : zW} {b L : Nat} {xs : Nat → Int32} {k0 n0 : Nat} (hL : zq_LW x w b L xs k0 n0) {k63 : Int32 × Nat × zS × zS × (Nat → Int64) → Prop} {j : Nat} (hj : j < 1000) (hk : ∀ q : Int32 × Nat × zS × zS × (Nat → Int64), k63 q → zq_W x w (k0 + q.2.1) (n0 + 6 * q.2.1) (q.2.2.1, q.2.2.2.1, q.2.2.2.2) 63 [some (.ref b), some (.ref (w.2.1 0)), some (.ref (w.2.1 28)), some (.ref (w.2.1 40)), some (.int q.1), none, none] []) {v4 : Int32} {c g : zS} {o : Nat → Int64} (h : zw_La_c3 w.2.2.1 L xs k63 v4 j c g o) : zq_W x w (k0 + j) (n0 + 6 * j) (c, g, o) 346 [some (.ref b), some (.ref (w.2.1 0)), some (.ref (w.2.1 28)), some (.ref (w.2.1 40)), some (.int v4), none, none] [] := by
  obtain ⟨hG, hW, hAp, hE, hA0, hX, hbl, hbA, hQ, hfl, hk0, hn0⟩ := id hL
  refine zr_aload_n hG zd_La_law_346 rfl rfl ?_
  refine zr_aload_n hG zd_La_law_347 rfl rfl ?_
  refine zr_iload hG zd_La_law_348 rfl ?_
  refine zr_iconst hG (v := (1 : Int32)) zd_La_law_350 (by decide) ?_
  refine zr_iadd hG zd_La_law_351 ?_
  obtain ⟨hi, h⟩ := h
  refine zr_sld hG hX hbl hbA hi zd_La_law_352 ?_
  refine zr_aload_n hG zd_La_law_353 rfl rfl ?_
  refine zr_callH hG (zq_F1 hW) hE hA0 (As := [.ref (w.2.1 0), .int (xs (v4 + (1 : Int32)).toNatClampNeg), .ref (w.2.1 40)]) (rest := []) (zm_La_h_push (zc_l x) hfl w hAp g h) rfl zgh_86 zdd_La_h_push ⟨rfl, rfl, by decide, by decide⟩ ⟨by show _ ≤ 601024; omega, by show _ ≤ 7293000; omega⟩ rfl (Nat.le_of_ble_eq_true rfl) zd_La_law_354 rfl ?_
  rintro _ _ ⟨r220, c220, o220, rfl, rfl, h⟩
  refine zr_istore hG [some (.ref b), some (.ref (w.2.1 0)), some (.ref (w.2.1 28)), some (.ref (w.2.1 40)), some (.int v4), some (.int r220), none] zd_La_law_357 (Nat.le_of_ble_eq_true rfl) rfl ?_
  refine zr_aload_n hG zd_La_law_359 rfl rfl ?_
  refine zr_aload_n hG zd_La_law_360 rfl rfl ?_
  refine zr_iload hG zd_La_law_361 rfl ?_
  refine zr_iconst hG (v := (1 : Int32)) zd_La_law_363 (by decide) ?_
  refine zr_iadd hG zd_La_law_364 ?_
  obtain ⟨hi, h⟩ := h
  refine zr_sld hG hX hbl hbA hi zd_La_law_365 ?_
  refine zr_callV hG (zq_F1 hW) (As := [.int (xs (v4 + (1 : Int32)).toNatClampNeg)]) (rest := []) (zm_Mo_push (zc_l x) w hAp c220 o220 h) 28 rfl rfl rfl zg_La_88 zdd_Mo_push ⟨rfl, rfl, by decide, by decide⟩ ⟨by show _ ≤ 601024; omega, by show _ ≤ 7293000; omega⟩ rfl (Nat.le_of_ble_eq_true rfl) zd_La_law_366 rfl ?_
  rintro _ _ ⟨r221, z221, rfl, rfl, h⟩
  refine zr_istore hG [some (.ref b), some (.ref (w.2.1 0)), some (.ref (w.2.1 28)), some (.ref (w.2.1 40)), some (.int v4), some (.int r220), some (.int r221)] zd_La_law_369 (Nat.le_of_ble_eq_true rfl) rfl ?_
  refine zr_goto hG 729 zd_La_law_371 (by decide) ?_
  exact zr_mask [true, true, true, true, true, false, false] (zt_La_729 hL hj hk h)
def zw_La_c5 (ln : Nat → Nat) (L : Nat) (xs : Nat → Int32) (k63 : Int32 × Nat × zS × zS × (Nat → Int64) → Prop) (v4 : Int32) (j : Nat) (c g : zS) (o : Nat → Int64) : Prop := vp_in (v4 + (1 : Int32)) L ∧ (zw_La_h_rip ln (xs (v4 + (1 : Int32)).toNatClampNeg) c o (fun r222 c222 o222 => vp_in (v4 + (1 : Int32)) L ∧ (zw_Mo_rip (xs (v4 + (1 : Int32)).toNatClampNeg) g (fun z223 => zw_La_729 ln L xs k63 v4 j c222 z223 o222))))
set_option maxHeartbeats 4000000 in
set_option maxRecDepth 100000 in
theorem zt_La_c5 {x : zC} {w : zW} {b L : Nat} {xs : Nat → Int32} {k0 n0 : Nat} (hL : zq_LW x w b L xs k0 n0) {k63 : Int32 × Nat × zS × zS × (Nat → Int64) → Prop} {j : Nat} (hj : j < 1000) (hk : ∀ q : Int32 × Nat × zS × zS × (Nat → Int64), k63 q → zq_W x w (k0 + q.2.1) (n0 + 6 * q.2.1) (q.2.2.1, q.2.2.2.1, q.2.2.2.2) 63 [some (.ref b), some (.ref (w.2.1 0)), some (.ref (w.2.1 28)), some (.ref (w.2.1 40)), some (.int q.1), none, none] []) {v4 : Int32} {c g : zS} {o : Nat → Int64} (h : zw_La_c5 w.2.2.1 L xs k63 v4 j c g o) : zq_W x w (k0 + j) (n0 + 6 * j) (c, g, o) 430 [some (.ref b), some (.ref (w.2.1 0)), some (.ref (w.2.1 28)), some (.ref (w.2.1 40)), some (.int v4), none, none] [] := by
  obtain ⟨hG, hW, hAp, hE, hA0, hX, hbl, hbA, hQ, hfl, hk0, hn0⟩ := id hL
  refine zr_aload_n hG zd_La_law_430 rfl rfl ?_
  refine zr_aload_n hG zd_La_law_431 rfl rfl ?_
  refine zr_iload hG zd_La_law_432 rfl ?_
  refine zr_iconst hG (v := (1 : Int32)) zd_La_law_434 (by decide) ?_
  refine zr_iadd hG zd_La_law_435 ?_
  obtain ⟨hi, h⟩ := h
  refine zr_sld hG hX hbl hbA hi zd_La_law_436 ?_
  refine zr_callH hG (zq_F1 hW) hE hA0 (As := [.ref (w.2.1 0), .int (xs (v4 + (1 : Int32)).toNatClampNeg)]) (rest := []) (zm_La_h_rip (zc_l x) hfl w hAp g h) rfl zgh_93 zdd_La_h_rip ⟨rfl, rfl, by decide, by decide⟩ ⟨by show _ ≤ 601024; omega, by show _ ≤ 7293000; omega⟩ rfl (Nat.le_of_ble_eq_true rfl) zd_La_law_437 rfl ?_
  rintro _ _ ⟨r222, c222, o222, rfl, rfl, h⟩
  refine zr_istore hG [some (.ref b), some (.ref (w.2.1 0)), some (.ref (w.2.1 28)), some (.ref (w.2.1 40)), some (.int v4), some (.int r222), none] zd_La_law_440 (Nat.le_of_ble_eq_true rfl) rfl ?_
  refine zr_aload_n hG zd_La_law_442 rfl rfl ?_
  refine zr_aload_n hG zd_La_law_443 rfl rfl ?_
  refine zr_iload hG zd_La_law_444 rfl ?_
  refine zr_iconst hG (v := (1 : Int32)) zd_La_law_446 (by decide) ?_
  refine zr_iadd hG zd_La_law_447 ?_
  obtain ⟨hi, h⟩ := h
  refine zr_sld hG hX hbl hbA hi zd_La_law_448 ?_
  refine zr_callV hG (zq_F1 hW) (As := [.int (xs (v4 + (1 : Int32)).toNatClampNeg)]) (rest := []) (zm_Mo_rip (zc_l x) w hAp c222 o222 h) 28 rfl rfl rfl zg_La_96 zdd_Mo_rip ⟨rfl, rfl, by decide, by decide⟩ ⟨by show _ ≤ 601024; omega, by show _ ≤ 7293000; omega⟩ rfl (Nat.le_of_ble_eq_true rfl) zd_La_law_449 rfl ?_
  rintro _ _ ⟨z223, rfl, rfl, h⟩
  refine zr_goto hG 729 zd_La_law_452 (by decide) ?_
  exact zr_mask [true, true, true, true, true, false, false] (zt_La_729 hL hj hk h)
def zw_La_c6 (ln : Nat → Nat) (L : Nat) (xs : Nat → Int32) (k63 : Int32 × Nat × zS × zS × (Nat → Int64) → Prop) (v4 : Int32) (j : Nat) (c g : zS) (o : Nat → Int64) : Prop := vp_in (v4 + (1 : Int32)) L ∧ vp_in (v4 + (2 : Int32)) L ∧ vp_in (v4 + (3 : Int32)) L ∧ vp_in (v4 + (4 : Int32)) L ∧ (zw_La_h_paint ln (xs (v4 + (1 : Int32)).toNatClampNeg) (xs (v4 + (2 : Int32)).toNatClampNeg) (xs (v4 + (3 : Int32)).toNatClampNeg) (xs (v4 + (4 : Int32)).toNatClampNeg) c o (fun r224 c224 o224 => vp_in (v4 + (1 : Int32)) L ∧ vp_in (v4 + (2 : Int32)) L ∧ vp_in (v4 + (3 : Int32)) L ∧ vp_in (v4 + (4 : Int32)) L ∧ (zw_Mo_paint (xs (v4 + (1 : Int32)).toNatClampNeg) (xs (v4 + (2 : Int32)).toNatClampNeg) (xs (v4 + (3 : Int32)).toNatClampNeg) (xs (v4 + (4 : Int32)).toNatClampNeg) g (fun z225 => zw_La_729 ln L xs k63 v4 j c224 z225 o224))))
set_option maxHeartbeats 4000000 in
set_option maxRecDepth 100000 in
theorem zt_La_c6 {x : zC} {w : zW} {b L : Nat} {xs : Nat → Int32} {k0 n0 : Nat} (hL : zq_LW x w b L xs k0 n0) {k63 : Int32 × Nat × zS × zS × (Nat → Int64) → Prop} {j : Nat} (hj : j < 1000) (hk : ∀ q : Int32 × Nat × zS × zS × (Nat → Int64), k63 q → zq_W x w (k0 + q.2.1) (n0 + 6 * q.2.1) (q.2.2.1, q.2.2.2.1, q.2.2.2.2) 63 [some (.ref b), some (.ref (w.2.1 0)), some (.ref (w.2.1 28)), some (.ref (w.2.1 40)), some (.int q.1), none, none] []) {v4 : Int32} {c g : zS} {o : Nat → Int64} (h : zw_La_c6 w.2.2.1 L xs k63 v4 j c g o) : zq_W x w (k0 + j) (n0 + 6 * j) (c, g, o) 455 [some (.ref b), some (.ref (w.2.1 0)), some (.ref (w.2.1 28)), some (.ref (w.2.1 40)), some (.int v4), none, none] [] := by
  obtain ⟨hG, hW, hAp, hE, hA0, hX, hbl, hbA, hQ, hfl, hk0, hn0⟩ := id hL
  refine zr_aload_n hG zd_La_law_455 rfl rfl ?_
  refine zr_aload_n hG zd_La_law_456 rfl rfl ?_
  refine zr_iload hG zd_La_law_457 rfl ?_
  refine zr_iconst hG (v := (1 : Int32)) zd_La_law_459 (by decide) ?_
  refine zr_iadd hG zd_La_law_460 ?_
  obtain ⟨hi, h⟩ := h
  refine zr_sld hG hX hbl hbA hi zd_La_law_461 ?_
  refine zr_aload_n hG zd_La_law_462 rfl rfl ?_
  refine zr_iload hG zd_La_law_463 rfl ?_
  refine zr_iconst hG (v := (2 : Int32)) zd_La_law_465 (by decide) ?_
  refine zr_iadd hG zd_La_law_466 ?_
  obtain ⟨hi, h⟩ := h
  refine zr_sld hG hX hbl hbA hi zd_La_law_467 ?_
  refine zr_aload_n hG zd_La_law_468 rfl rfl ?_
  refine zr_iload hG zd_La_law_469 rfl ?_
  refine zr_iconst hG (v := (3 : Int32)) zd_La_law_471 (by decide) ?_
  refine zr_iadd hG zd_La_law_472 ?_
  obtain ⟨hi, h⟩ := h
  refine zr_sld hG hX hbl hbA hi zd_La_law_473 ?_
  refine zr_aload_n hG zd_La_law_474 rfl rfl ?_
  refine zr_iload hG zd_La_law_475 rfl ?_
  refine zr_iconst hG (v := (4 : Int32)) zd_La_law_477 (by decide) ?_
  refine zr_iadd hG zd_La_law_478 ?_
  obtain ⟨hi, h⟩ := h
  refine zr_sld hG hX hbl hbA hi zd_La_law_479 ?_
  refine zr_callH hG (zq_F1 hW) hE hA0 (As := [.ref (w.2.1 0), .int (xs (v4 + (1 : Int32)).toNatClampNeg), .int (xs (v4 + (2 : Int32)).toNatClampNeg), .int (xs (v4 + (3 : Int32)).toNatClampNeg), .int (xs (v4 + (4 : Int32)).toNatClampNeg)]) (rest := []) (zm_La_h_paint (zc_l x) hfl w hAp g h) rfl zgh_97 zdd_La_h_paint ⟨rfl, rfl, by decide, by decide⟩ ⟨by show _ ≤ 601024; omega, by show _ ≤ 7293000; omega⟩ rfl (Nat.le_of_ble_eq_true rfl) zd_La_law_480 rfl ?_
  rintro _ _ ⟨r224, c224, o224, rfl, rfl, h⟩
  refine zr_istore hG [some (.ref b), some (.ref (w.2.1 0)), some (.ref (w.2.1 28)), some (.ref (w.2.1 40)), some (.int v4), some (.int r224), none] zd_La_law_483 (Nat.le_of_ble_eq_true rfl) rfl ?_
  refine zr_aload_n hG zd_La_law_485 rfl rfl ?_
  refine zr_aload_n hG zd_La_law_486 rfl rfl ?_
  refine zr_iload hG zd_La_law_487 rfl ?_
  refine zr_iconst hG (v := (1 : Int32)) zd_La_law_489 (by decide) ?_
  refine zr_iadd hG zd_La_law_490 ?_
  obtain ⟨hi, h⟩ := h
  refine zr_sld hG hX hbl hbA hi zd_La_law_491 ?_
  refine zr_aload_n hG zd_La_law_492 rfl rfl ?_
  refine zr_iload hG zd_La_law_493 rfl ?_
  refine zr_iconst hG (v := (2 : Int32)) zd_La_law_495 (by decide) ?_
  refine zr_iadd hG zd_La_law_496 ?_
  obtain ⟨hi, h⟩ := h
  refine zr_sld hG hX hbl hbA hi zd_La_law_497 ?_
  refine zr_aload_n hG zd_La_law_498 rfl rfl ?_
  refine zr_iload hG zd_La_law_499 rfl ?_
  refine zr_iconst hG (v := (3 : Int32)) zd_La_law_501 (by decide) ?_
  refine zr_iadd hG zd_La_law_502 ?_
  obtain ⟨hi, h⟩ := h
  refine zr_sld hG hX hbl hbA hi zd_La_law_503 ?_
  refine zr_aload_n hG zd_La_law_504 rfl rfl ?_
  refine zr_iload hG zd_La_law_505 rfl ?_
  refine zr_iconst hG (v := (4 : Int32)) zd_La_law_507 (by decide) ?_
  refine zr_iadd hG zd_La_law_508 ?_
  obtain ⟨hi, h⟩ := h
  refine zr_sld hG hX hbl hbA hi zd_La_law_509 ?_
  refine zr_callV hG (zq_F1 hW) (As := [.int (xs (v4 + (1 : Int32)).toNatClampNeg), .int (xs (v4 + (2 : Int32)).toNatClampNeg), .int (xs (v4 + (3 : Int32)).toNatClampNeg), .int (xs (v4 + (4 : Int32)).toNatClampNeg)]) (rest := []) (zm_Mo_paint (zc_l x) w hAp c224 o224 h) 28 rfl rfl rfl zg_La_100 zdd_Mo_paint ⟨rfl, rfl, by decide, by decide⟩ ⟨by show _ ≤ 601024; omega, by show _ ≤ 7293000; omega⟩ rfl (Nat.le_of_ble_eq_true rfl) zd_La_law_510 rfl ?_
  rintro _ _ ⟨z225, rfl, rfl, h⟩
  refine zr_goto hG 729 zd_La_law_513 (by decide) ?_
  exact zr_mask [true, true, true, true, true, false, false] (zt_La_729 hL hj hk h)
def zw_La_c7 (ln : Nat → Nat) (L : Nat) (xs : Nat → Int32) (k63 : Int32 × Nat × zS × zS × (Nat → Int64) → Prop) (v4 : Int32) (j : Nat) (c g : zS) (o : Nat → Int64) : Prop := vp_in (v4 + (1 : Int32)) L ∧ vp_in (v4 + (2 : Int32)) L ∧ (zw_La_h_stitch ln (xs (v4 + (1 : Int32)).toNatClampNeg) (xs (v4 + (2 : Int32)).toNatClampNeg) c o (fun r226 c226 o226 => vp_in (v4 + (1 : Int32)) L ∧ vp_in (v4 + (2 : Int32)) L ∧ (zw_Mo_stitch (xs (v4 + (1 : Int32)).toNatClampNeg) (xs (v4 + (2 : Int32)).toNatClampNeg) g (fun r227 z227 => zw_La_729 ln L xs k63 v4 j c226 z227 o226))))
set_option maxHeartbeats 4000000 in
set_option maxRecDepth 100000 in
theorem zt_La_c7 {x : zC} {w : zW} {b L : Nat} {xs : Nat → Int32} {k0 n0 : Nat} (hL : zq_LW x w b L xs k0 n0) {k63 : Int32 × Nat × zS × zS × (Nat → Int64) → Prop} {j : Nat} (hj : j < 1000) (hk : ∀ q : Int32 × Nat × zS × zS × (Nat → Int64), k63 q → zq_W x w (k0 + q.2.1) (n0 + 6 * q.2.1) (q.2.2.1, q.2.2.2.1, q.2.2.2.2) 63 [some (.ref b), some (.ref (w.2.1 0)), some (.ref (w.2.1 28)), some (.ref (w.2.1 40)), some (.int q.1), none, none] []) {v4 : Int32} {c g : zS} {o : Nat → Int64} (h : zw_La_c7 w.2.2.1 L xs k63 v4 j c g o) : zq_W x w (k0 + j) (n0 + 6 * j) (c, g, o) 516 [some (.ref b), some (.ref (w.2.1 0)), some (.ref (w.2.1 28)), some (.ref (w.2.1 40)), some (.int v4), none, none] [] := by
  obtain ⟨hG, hW, hAp, hE, hA0, hX, hbl, hbA, hQ, hfl, hk0, hn0⟩ := id hL
  refine zr_aload_n hG zd_La_law_516 rfl rfl ?_
  refine zr_aload_n hG zd_La_law_517 rfl rfl ?_
  refine zr_iload hG zd_La_law_518 rfl ?_
  refine zr_iconst hG (v := (1 : Int32)) zd_La_law_520 (by decide) ?_
  refine zr_iadd hG zd_La_law_521 ?_
  obtain ⟨hi, h⟩ := h
  refine zr_sld hG hX hbl hbA hi zd_La_law_522 ?_
  refine zr_aload_n hG zd_La_law_523 rfl rfl ?_
  refine zr_iload hG zd_La_law_524 rfl ?_
  refine zr_iconst hG (v := (2 : Int32)) zd_La_law_526 (by decide) ?_
  refine zr_iadd hG zd_La_law_527 ?_
  obtain ⟨hi, h⟩ := h
  refine zr_sld hG hX hbl hbA hi zd_La_law_528 ?_
  refine zr_aload_n hG zd_La_law_529 rfl rfl ?_
  refine zr_callH hG (zq_F1 hW) hE hA0 (As := [.ref (w.2.1 0), .int (xs (v4 + (1 : Int32)).toNatClampNeg), .int (xs (v4 + (2 : Int32)).toNatClampNeg), .ref (w.2.1 40)]) (rest := []) (zm_La_h_stitch (zc_l x) hfl w hAp g h) rfl zgh_101 zdd_La_h_stitch ⟨rfl, rfl, by decide, by decide⟩ ⟨by show _ ≤ 601024; omega, by show _ ≤ 7293000; omega⟩ rfl (Nat.le_of_ble_eq_true rfl) zd_La_law_530 rfl ?_
  rintro _ _ ⟨r226, c226, o226, rfl, rfl, h⟩
  refine zr_istore hG [some (.ref b), some (.ref (w.2.1 0)), some (.ref (w.2.1 28)), some (.ref (w.2.1 40)), some (.int v4), some (.int r226), none] zd_La_law_533 (Nat.le_of_ble_eq_true rfl) rfl ?_
  refine zr_aload_n hG zd_La_law_535 rfl rfl ?_
  refine zr_aload_n hG zd_La_law_536 rfl rfl ?_
  refine zr_iload hG zd_La_law_537 rfl ?_
  refine zr_iconst hG (v := (1 : Int32)) zd_La_law_539 (by decide) ?_
  refine zr_iadd hG zd_La_law_540 ?_
  obtain ⟨hi, h⟩ := h
  refine zr_sld hG hX hbl hbA hi zd_La_law_541 ?_
  refine zr_aload_n hG zd_La_law_542 rfl rfl ?_
  refine zr_iload hG zd_La_law_543 rfl ?_
  refine zr_iconst hG (v := (2 : Int32)) zd_La_law_545 (by decide) ?_
  refine zr_iadd hG zd_La_law_546 ?_
  obtain ⟨hi, h⟩ := h
  refine zr_sld hG hX hbl hbA hi zd_La_law_547 ?_
  refine zr_callV hG (zq_F1 hW) (As := [.int (xs (v4 + (1 : Int32)).toNatClampNeg), .int (xs (v4 + (2 : Int32)).toNatClampNeg)]) (rest := []) (zm_Mo_stitch (zc_l x) w hAp c226 o226 h) 28 rfl rfl rfl zg_La_104 zdd_Mo_stitch ⟨rfl, rfl, by decide, by decide⟩ ⟨by show _ ≤ 601024; omega, by show _ ≤ 7293000; omega⟩ rfl (Nat.le_of_ble_eq_true rfl) zd_La_law_548 rfl ?_
  rintro _ _ ⟨r227, z227, rfl, rfl, h⟩
  refine zr_istore hG [some (.ref b), some (.ref (w.2.1 0)), some (.ref (w.2.1 28)), some (.ref (w.2.1 40)), some (.int v4), some (.int r226), some (.int r227)] zd_La_law_551 (Nat.le_of_ble_eq_true rfl) rfl ?_
  refine zr_goto hG 729 zd_La_law_553 (by decide) ?_
  exact zr_mask [true, true, true, true, true, false, false] (zt_La_729 hL hj hk h)
def zw_La_c8 (ln : Nat → Nat) (L : Nat) (xs : Nat → Int32) (k63 : Int32 × Nat × zS × zS × (Nat → Int64) → Prop) (v4 : Int32) (j : Nat) (c g : zS) (o : Nat → Int64) : Prop := vp_in (v4 + (1 : Int32)) L ∧ vp_in (v4 + (2 : Int32)) L ∧ vp_in (v4 + (3 : Int32)) L ∧ (zw_La_h_cell ln (xs (v4 + (1 : Int32)).toNatClampNeg) (xs (v4 + (2 : Int32)).toNatClampNeg) (xs (v4 + (3 : Int32)).toNatClampNeg) c o (fun r228 c228 o228 => vp_in (v4 + (1 : Int32)) L ∧ vp_in (v4 + (2 : Int32)) L ∧ vp_in (v4 + (3 : Int32)) L ∧ (zw_Mo_cell (xs (v4 + (1 : Int32)).toNatClampNeg) (xs (v4 + (2 : Int32)).toNatClampNeg) (xs (v4 + (3 : Int32)).toNatClampNeg) g (fun r229 z229 => zw_La_729 ln L xs k63 v4 j c228 z229 o228))))
set_option maxHeartbeats 4000000 in
set_option maxRecDepth 100000 in
theorem zt_La_c8 {x : zC} {w : zW} {b L : Nat} {xs : Nat → Int32} {k0 n0 : Nat} (hL : zq_LW x w b L xs k0 n0) {k63 : Int32 × Nat × zS × zS × (Nat → Int64) → Prop} {j : Nat} (hj : j < 1000) (hk : ∀ q : Int32 × Nat × zS × zS × (Nat → Int64), k63 q → zq_W x w (k0 + q.2.1) (n0 + 6 * q.2.1) (q.2.2.1, q.2.2.2.1, q.2.2.2.2) 63 [some (.ref b), some (.ref (w.2.1 0)), some (.ref (w.2.1 28)), some (.ref (w.2.1 40)), some (.int q.1), none, none] []) {v4 : Int32} {c g : zS} {o : Nat → Int64} (h : zw_La_c8 w.2.2.1 L xs k63 v4 j c g o) : zq_W x w (k0 + j) (n0 + 6 * j) (c, g, o) 556 [some (.ref b), some (.ref (w.2.1 0)), some (.ref (w.2.1 28)), some (.ref (w.2.1 40)), some (.int v4), none, none] [] := by
  obtain ⟨hG, hW, hAp, hE, hA0, hX, hbl, hbA, hQ, hfl, hk0, hn0⟩ := id hL
  refine zr_aload_n hG zd_La_law_556 rfl rfl ?_
  refine zr_aload_n hG zd_La_law_557 rfl rfl ?_
  refine zr_iload hG zd_La_law_558 rfl ?_
  refine zr_iconst hG (v := (1 : Int32)) zd_La_law_560 (by decide) ?_
  refine zr_iadd hG zd_La_law_561 ?_
  obtain ⟨hi, h⟩ := h
  refine zr_sld hG hX hbl hbA hi zd_La_law_562 ?_
  refine zr_aload_n hG zd_La_law_563 rfl rfl ?_
  refine zr_iload hG zd_La_law_564 rfl ?_
  refine zr_iconst hG (v := (2 : Int32)) zd_La_law_566 (by decide) ?_
  refine zr_iadd hG zd_La_law_567 ?_
  obtain ⟨hi, h⟩ := h
  refine zr_sld hG hX hbl hbA hi zd_La_law_568 ?_
  refine zr_aload_n hG zd_La_law_569 rfl rfl ?_
  refine zr_iload hG zd_La_law_570 rfl ?_
  refine zr_iconst hG (v := (3 : Int32)) zd_La_law_572 (by decide) ?_
  refine zr_iadd hG zd_La_law_573 ?_
  obtain ⟨hi, h⟩ := h
  refine zr_sld hG hX hbl hbA hi zd_La_law_574 ?_
  refine zr_aload_n hG zd_La_law_575 rfl rfl ?_
  refine zr_callH hG (zq_F1 hW) hE hA0 (As := [.ref (w.2.1 0), .int (xs (v4 + (1 : Int32)).toNatClampNeg), .int (xs (v4 + (2 : Int32)).toNatClampNeg), .int (xs (v4 + (3 : Int32)).toNatClampNeg), .ref (w.2.1 40)]) (rest := []) (zm_La_h_cell (zc_l x) hfl w hAp g h) rfl zgh_105 zdd_La_h_cell ⟨rfl, rfl, by decide, by decide⟩ ⟨by show _ ≤ 601024; omega, by show _ ≤ 7293000; omega⟩ rfl (Nat.le_of_ble_eq_true rfl) zd_La_law_576 rfl ?_
  rintro _ _ ⟨r228, c228, o228, rfl, rfl, h⟩
  refine zr_istore hG [some (.ref b), some (.ref (w.2.1 0)), some (.ref (w.2.1 28)), some (.ref (w.2.1 40)), some (.int v4), some (.int r228), none] zd_La_law_579 (Nat.le_of_ble_eq_true rfl) rfl ?_
  refine zr_aload_n hG zd_La_law_581 rfl rfl ?_
  refine zr_aload_n hG zd_La_law_582 rfl rfl ?_
  refine zr_iload hG zd_La_law_583 rfl ?_
  refine zr_iconst hG (v := (1 : Int32)) zd_La_law_585 (by decide) ?_
  refine zr_iadd hG zd_La_law_586 ?_
  obtain ⟨hi, h⟩ := h
  refine zr_sld hG hX hbl hbA hi zd_La_law_587 ?_
  refine zr_aload_n hG zd_La_law_588 rfl rfl ?_
  refine zr_iload hG zd_La_law_589 rfl ?_
  refine zr_iconst hG (v := (2 : Int32)) zd_La_law_591 (by decide) ?_
  refine zr_iadd hG zd_La_law_592 ?_
  obtain ⟨hi, h⟩ := h
  refine zr_sld hG hX hbl hbA hi zd_La_law_593 ?_
  refine zr_aload_n hG zd_La_law_594 rfl rfl ?_
  refine zr_iload hG zd_La_law_595 rfl ?_
  refine zr_iconst hG (v := (3 : Int32)) zd_La_law_597 (by decide) ?_
  refine zr_iadd hG zd_La_law_598 ?_
  obtain ⟨hi, h⟩ := h
  refine zr_sld hG hX hbl hbA hi zd_La_law_599 ?_
  refine zr_callV hG (zq_F1 hW) (As := [.int (xs (v4 + (1 : Int32)).toNatClampNeg), .int (xs (v4 + (2 : Int32)).toNatClampNeg), .int (xs (v4 + (3 : Int32)).toNatClampNeg)]) (rest := []) (zm_Mo_cell (zc_l x) w hAp c228 o228 h) 28 rfl rfl rfl zg_La_107 zdd_Mo_cell ⟨rfl, rfl, by decide, by decide⟩ ⟨by show _ ≤ 601024; omega, by show _ ≤ 7293000; omega⟩ rfl (Nat.le_of_ble_eq_true rfl) zd_La_law_600 rfl ?_
  rintro _ _ ⟨r229, z229, rfl, rfl, h⟩
  refine zr_istore hG [some (.ref b), some (.ref (w.2.1 0)), some (.ref (w.2.1 28)), some (.ref (w.2.1 40)), some (.int v4), some (.int r228), some (.int r229)] zd_La_law_603 (Nat.le_of_ble_eq_true rfl) rfl ?_
  refine zr_goto hG 729 zd_La_law_605 (by decide) ?_
  exact zr_mask [true, true, true, true, true, false, false] (zt_La_729 hL hj hk h)
def zw_La_c9 (ln : Nat → Nat) (L : Nat) (xs : Nat → Int32) (k63 : Int32 × Nat × zS × zS × (Nat → Int64) → Prop) (v4 : Int32) (j : Nat) (c g : zS) (o : Nat → Int64) : Prop := vp_in (v4 + (1 : Int32)) L ∧ vp_in (v4 + (2 : Int32)) L ∧ (zw_La_h_via ln (xs (v4 + (1 : Int32)).toNatClampNeg) (xs (v4 + (2 : Int32)).toNatClampNeg) c o (fun r230 c230 o230 => vp_in (v4 + (1 : Int32)) L ∧ vp_in (v4 + (2 : Int32)) L ∧ (zw_Mo_via (xs (v4 + (1 : Int32)).toNatClampNeg) (xs (v4 + (2 : Int32)).toNatClampNeg) g (fun r231 z231 => zw_La_729 ln L xs k63 v4 j c230 z231 o230))))
set_option maxHeartbeats 4000000 in
set_option maxRecDepth 100000 in
theorem zt_La_c9 {x : zC} {w : zW} {b L : Nat} {xs : Nat → Int32} {k0 n0 : Nat} (hL : zq_LW x w b L xs k0 n0) {k63 : Int32 × Nat × zS × zS × (Nat → Int64) → Prop} {j : Nat} (hj : j < 1000) (hk : ∀ q : Int32 × Nat × zS × zS × (Nat → Int64), k63 q → zq_W x w (k0 + q.2.1) (n0 + 6 * q.2.1) (q.2.2.1, q.2.2.2.1, q.2.2.2.2) 63 [some (.ref b), some (.ref (w.2.1 0)), some (.ref (w.2.1 28)), some (.ref (w.2.1 40)), some (.int q.1), none, none] []) {v4 : Int32} {c g : zS} {o : Nat → Int64} (h : zw_La_c9 w.2.2.1 L xs k63 v4 j c g o) : zq_W x w (k0 + j) (n0 + 6 * j) (c, g, o) 608 [some (.ref b), some (.ref (w.2.1 0)), some (.ref (w.2.1 28)), some (.ref (w.2.1 40)), some (.int v4), none, none] [] := by
  obtain ⟨hG, hW, hAp, hE, hA0, hX, hbl, hbA, hQ, hfl, hk0, hn0⟩ := id hL
  refine zr_aload_n hG zd_La_law_608 rfl rfl ?_
  refine zr_aload_n hG zd_La_law_609 rfl rfl ?_
  refine zr_iload hG zd_La_law_610 rfl ?_
  refine zr_iconst hG (v := (1 : Int32)) zd_La_law_612 (by decide) ?_
  refine zr_iadd hG zd_La_law_613 ?_
  obtain ⟨hi, h⟩ := h
  refine zr_sld hG hX hbl hbA hi zd_La_law_614 ?_
  refine zr_aload_n hG zd_La_law_615 rfl rfl ?_
  refine zr_iload hG zd_La_law_616 rfl ?_
  refine zr_iconst hG (v := (2 : Int32)) zd_La_law_618 (by decide) ?_
  refine zr_iadd hG zd_La_law_619 ?_
  obtain ⟨hi, h⟩ := h
  refine zr_sld hG hX hbl hbA hi zd_La_law_620 ?_
  refine zr_aload_n hG zd_La_law_621 rfl rfl ?_
  refine zr_callH hG (zq_F1 hW) hE hA0 (As := [.ref (w.2.1 0), .int (xs (v4 + (1 : Int32)).toNatClampNeg), .int (xs (v4 + (2 : Int32)).toNatClampNeg), .ref (w.2.1 40)]) (rest := []) (zm_La_h_via (zc_l x) hfl w hAp g h) rfl zgh_108 zdd_La_h_via ⟨rfl, rfl, by decide, by decide⟩ ⟨by show _ ≤ 601024; omega, by show _ ≤ 7293000; omega⟩ rfl (Nat.le_of_ble_eq_true rfl) zd_La_law_622 rfl ?_
  rintro _ _ ⟨r230, c230, o230, rfl, rfl, h⟩
  refine zr_istore hG [some (.ref b), some (.ref (w.2.1 0)), some (.ref (w.2.1 28)), some (.ref (w.2.1 40)), some (.int v4), some (.int r230), none] zd_La_law_625 (Nat.le_of_ble_eq_true rfl) rfl ?_
  refine zr_aload_n hG zd_La_law_627 rfl rfl ?_
  refine zr_aload_n hG zd_La_law_628 rfl rfl ?_
  refine zr_iload hG zd_La_law_629 rfl ?_
  refine zr_iconst hG (v := (1 : Int32)) zd_La_law_631 (by decide) ?_
  refine zr_iadd hG zd_La_law_632 ?_
  obtain ⟨hi, h⟩ := h
  refine zr_sld hG hX hbl hbA hi zd_La_law_633 ?_
  refine zr_aload_n hG zd_La_law_634 rfl rfl ?_
  refine zr_iload hG zd_La_law_635 rfl ?_
  refine zr_iconst hG (v := (2 : Int32)) zd_La_law_637 (by decide) ?_
  refine zr_iadd hG zd_La_law_638 ?_
  obtain ⟨hi, h⟩ := h
  refine zr_sld hG hX hbl hbA hi zd_La_law_639 ?_
  refine zr_callV hG (zq_F1 hW) (As := [.int (xs (v4 + (1 : Int32)).toNatClampNeg), .int (xs (v4 + (2 : Int32)).toNatClampNeg)]) (rest := []) (zm_Mo_via (zc_l x) w hAp c230 o230 h) 28 rfl rfl rfl zg_La_110 zdd_Mo_via ⟨rfl, rfl, by decide, by decide⟩ ⟨by show _ ≤ 601024; omega, by show _ ≤ 7293000; omega⟩ rfl (Nat.le_of_ble_eq_true rfl) zd_La_law_640 rfl ?_
  rintro _ _ ⟨r231, z231, rfl, rfl, h⟩
  refine zr_istore hG [some (.ref b), some (.ref (w.2.1 0)), some (.ref (w.2.1 28)), some (.ref (w.2.1 40)), some (.int v4), some (.int r230), some (.int r231)] zd_La_law_643 (Nat.le_of_ble_eq_true rfl) rfl ?_
  refine zr_goto hG 729 zd_La_law_645 (by decide) ?_
  exact zr_mask [true, true, true, true, true, false, false] (zt_La_729 hL hj hk h)
def zw_La_389 (ln : Nat → Nat) (L : Nat) (xs : Nat → Int32) (k63 : Int32 × Nat × zS × zS × (Nat → Int64) → Prop) (v4 : Int32) (u0 : Int32) (j : Nat) (c g : zS) (o : Nat → Int64) : Prop := vp_in (v4 + (2 : Int32)) L ∧ (zw_La_h_all ln u0 (xs (v4 + (2 : Int32)).toNatClampNeg) c o (fun r238 c238 o238 => vp_in (v4 + (1 : Int32)) L ∧ (((xs (v4 + (1 : Int32)).toNatClampNeg) = 0 → zw_La_416 ln L xs k63 v4 (0 : Int32) j c238 g o238) ∧ (¬ (xs (v4 + (1 : Int32)).toNatClampNeg) = 0 → zw_La_416 ln L xs k63 v4 (1 : Int32) j c238 g o238))))
set_option maxHeartbeats 4000000 in
set_option maxRecDepth 100000 in
theorem zt_La_389 {x : zC} {w : zW} {b L : Nat} {xs : Nat → Int32} {k0 n0 : Nat} (hL : zq_LW x w b L xs k0 n0) {k63 : Int32 × Nat × zS × zS × (Nat → Int64) → Prop} {j : Nat} (hj : j < 1000) (hk : ∀ q : Int32 × Nat × zS × zS × (Nat → Int64), k63 q → zq_W x w (k0 + q.2.1) (n0 + 6 * q.2.1) (q.2.2.1, q.2.2.2.1, q.2.2.2.2) 63 [some (.ref b), some (.ref (w.2.1 0)), some (.ref (w.2.1 28)), some (.ref (w.2.1 40)), some (.int q.1), none, none] []) {v4 : Int32} {u0 : Int32} {c g : zS} {o : Nat → Int64} (h : zw_La_389 w.2.2.1 L xs k63 v4 u0 j c g o) : zq_W x w (k0 + j) (n0 + 6 * j) (c, g, o) 389 [some (.ref b), some (.ref (w.2.1 0)), some (.ref (w.2.1 28)), some (.ref (w.2.1 40)), some (.int v4), none, none] [.int u0, .ref (w.2.1 0)] := by
  obtain ⟨hG, hW, hAp, hE, hA0, hX, hbl, hbA, hQ, hfl, hk0, hn0⟩ := id hL
  refine zr_aload_n hG zd_La_law_389 rfl rfl ?_
  refine zr_iload hG zd_La_law_390 rfl ?_
  refine zr_iconst hG (v := (2 : Int32)) zd_La_law_392 (by decide) ?_
  refine zr_iadd hG zd_La_law_393 ?_
  obtain ⟨hi, h⟩ := h
  refine zr_sld hG hX hbl hbA hi zd_La_law_394 ?_
  refine zr_aload_n hG zd_La_law_395 rfl rfl ?_
  refine zr_callH hG (zq_F1 hW) hE hA0 (As := [.ref (w.2.1 0), .int u0, .int (xs (v4 + (2 : Int32)).toNatClampNeg), .ref (w.2.1 40)]) (rest := []) (zm_La_h_all (zc_l x) hfl w hAp g h) rfl zgh_89 zdd_La_h_all ⟨rfl, rfl, by decide, by decide⟩ ⟨by show _ ≤ 601024; omega, by show _ ≤ 7293000; omega⟩ rfl (Nat.le_of_ble_eq_true rfl) zd_La_law_396 rfl ?_
  rintro _ _ ⟨r238, c238, o238, rfl, rfl, h⟩
  refine zr_istore hG [some (.ref b), some (.ref (w.2.1 0)), some (.ref (w.2.1 28)), some (.ref (w.2.1 40)), some (.int v4), some (.int r238), none] zd_La_law_399 (Nat.le_of_ble_eq_true rfl) rfl ?_
  refine zr_aload_n hG zd_La_law_401 rfl rfl ?_
  refine zr_aload_n hG zd_La_law_402 rfl rfl ?_
  refine zr_iload hG zd_La_law_403 rfl ?_
  refine zr_iconst hG (v := (1 : Int32)) zd_La_law_405 (by decide) ?_
  refine zr_iadd hG zd_La_law_406 ?_
  obtain ⟨hi, h⟩ := h
  refine zr_sld hG hX hbl hbA hi zd_La_law_407 ?_
  refine zr_if_eq hG 415 zd_La_law_408 (by decide) (fun hc => ?_) (fun hc => ?_)
  · have h := h.1 hc
    refine zr_iconst hG (v := (0 : Int32)) zd_La_law_415 (by decide) ?_
    exact zr_mask [true, true, true, true, true, false, false] (zt_La_416 hL hj hk h)
  · have h := h.2 hc
    refine zr_iconst hG (v := (1 : Int32)) zd_La_law_411 (by decide) ?_
    refine zr_goto hG 416 zd_La_law_412 (by decide) ?_
    exact zr_mask [true, true, true, true, true, false, false] (zt_La_416 hL hj hk h)
def zw_La_c2 (ln : Nat → Nat) (L : Nat) (xs : Nat → Int32) (k63 : Int32 × Nat × zS × zS × (Nat → Int64) → Prop) (v4 : Int32) (j : Nat) (c g : zS) (o : Nat → Int64) : Prop := vp_in (v4 + (1 : Int32)) L ∧ (zw_La_h_route ln (xs (v4 + (1 : Int32)).toNatClampNeg) c o (fun r217 c217 o217 => vp_in (v4 + (1 : Int32)) L ∧ (zw_Mo_route (xs (v4 + (1 : Int32)).toNatClampNeg) g (fun r218 z218 => (zw_Mo_thrown z218 (fun r219 z219 => ((r219 = r217 → ((¬ r217 = 0 → zw_La_343 ln L xs k63 v4 j c217 z219 o217) ∧ (r217 = 0 → (((lg_cmp (o217 (0 : Int32).toNatClampNeg) r218.toInt64) = 0 → zw_La_343 ln L xs k63 v4 j c217 z219 o217) ∧ (¬ (lg_cmp (o217 (0 : Int32).toNatClampNeg) r218.toInt64) = 0 → False))))) ∧ (¬ r219 = r217 → False))))))))
set_option maxHeartbeats 4000000 in
set_option maxRecDepth 100000 in
theorem zt_La_c2 {x : zC} {w : zW} {b L : Nat} {xs : Nat → Int32} {k0 n0 : Nat} (hL : zq_LW x w b L xs k0 n0) {k63 : Int32 × Nat × zS × zS × (Nat → Int64) → Prop} {j : Nat} (hj : j < 1000) (hk : ∀ q : Int32 × Nat × zS × zS × (Nat → Int64), k63 q → zq_W x w (k0 + q.2.1) (n0 + 6 * q.2.1) (q.2.2.1, q.2.2.2.1, q.2.2.2.2) 63 [some (.ref b), some (.ref (w.2.1 0)), some (.ref (w.2.1 28)), some (.ref (w.2.1 40)), some (.int q.1), none, none] []) {v4 : Int32} {c g : zS} {o : Nat → Int64} (h : zw_La_c2 w.2.2.1 L xs k63 v4 j c g o) : zq_W x w (k0 + j) (n0 + 6 * j) (c, g, o) 290 [some (.ref b), some (.ref (w.2.1 0)), some (.ref (w.2.1 28)), some (.ref (w.2.1 40)), some (.int v4), none, none] [] := by
  obtain ⟨hG, hW, hAp, hE, hA0, hX, hbl, hbA, hQ, hfl, hk0, hn0⟩ := id hL
  refine zr_aload_n hG zd_La_law_290 rfl rfl ?_
  refine zr_aload_n hG zd_La_law_291 rfl rfl ?_
  refine zr_iload hG zd_La_law_292 rfl ?_
  refine zr_iconst hG (v := (1 : Int32)) zd_La_law_294 (by decide) ?_
  refine zr_iadd hG zd_La_law_295 ?_
  obtain ⟨hi, h⟩ := h
  refine zr_sld hG hX hbl hbA hi zd_La_law_296 ?_
  refine zr_aload_n hG zd_La_law_297 rfl rfl ?_
  refine zr_callH hG (zq_F1 hW) hE hA0 (As := [.ref (w.2.1 0), .int (xs (v4 + (1 : Int32)).toNatClampNeg), .ref (w.2.1 40)]) (rest := []) (zm_La_h_route (zc_l x) hfl w hAp g h) rfl zgh_78 zdd_La_h_route ⟨rfl, rfl, by decide, by decide⟩ ⟨by show _ ≤ 601024; omega, by show _ ≤ 7293000; omega⟩ rfl (Nat.le_of_ble_eq_true rfl) zd_La_law_298 rfl ?_
  rintro _ _ ⟨r217, c217, o217, rfl, rfl, h⟩
  refine zr_istore hG [some (.ref b), some (.ref (w.2.1 0)), some (.ref (w.2.1 28)), some (.ref (w.2.1 40)), some (.int v4), some (.int r217), none] zd_La_law_301 (Nat.le_of_ble_eq_true rfl) rfl ?_
  refine zr_aload_n hG zd_La_law_303 rfl rfl ?_
  refine zr_aload_n hG zd_La_law_304 rfl rfl ?_
  refine zr_iload hG zd_La_law_305 rfl ?_
  refine zr_iconst hG (v := (1 : Int32)) zd_La_law_307 (by decide) ?_
  refine zr_iadd hG zd_La_law_308 ?_
  obtain ⟨hi, h⟩ := h
  refine zr_sld hG hX hbl hbA hi zd_La_law_309 ?_
  refine zr_callV hG (zq_F1 hW) (As := [.int (xs (v4 + (1 : Int32)).toNatClampNeg)]) (rest := []) (zm_Mo_route (zc_l x) w hAp c217 o217 h) 28 rfl rfl rfl zg_La_81 zdd_Mo_route ⟨rfl, rfl, by decide, by decide⟩ ⟨by show _ ≤ 601024; omega, by show _ ≤ 7293000; omega⟩ rfl (Nat.le_of_ble_eq_true rfl) zd_La_law_310 rfl ?_
  rintro _ _ ⟨r218, z218, rfl, rfl, h⟩
  refine zr_istore hG [some (.ref b), some (.ref (w.2.1 0)), some (.ref (w.2.1 28)), some (.ref (w.2.1 40)), some (.int v4), some (.int r217), some (.int r218)] zd_La_law_313 (Nat.le_of_ble_eq_true rfl) rfl ?_
  refine zr_aload_n hG zd_La_law_315 rfl rfl ?_
  refine zr_callV hG zq_F0 (As := []) (rest := []) (zm_Mo_thrown (zc_l x) w hAp c217 o217 h) 28 rfl rfl rfl zg_La_82 zdd_Mo_thrown ⟨rfl, rfl, by decide, by decide⟩ ⟨by show _ ≤ 601024; omega, by show _ ≤ 7293000; omega⟩ rfl (Nat.le_of_ble_eq_true rfl) zd_La_law_316 rfl ?_
  rintro _ _ ⟨r219, z219, rfl, rfl, h⟩
  refine zr_iload hG zd_La_law_319 rfl ?_
  refine zr_icmp_eq hG 326 zd_La_law_321 (by decide) (fun hc => ?_) (fun hc => ?_)
  · have h := h.1 hc
    refine zr_iload hG zd_La_law_326 rfl ?_
    refine zr_if_ne hG 343 zd_La_law_328 (by decide) (fun hc => ?_) (fun hc => ?_)
    · have h := h.1 hc
      exact zr_mask [true, true, true, true, true, false, false] (zt_La_343 hL hj hk h)
    · have h := h.2 hc
      refine zr_aload_n hG zd_La_law_331 rfl rfl ?_
      refine zr_iconst hG (v := (0 : Int32)) zd_La_law_332 (by decide) ?_
      refine zl_40 hG zd_La_law_333 ?_
      refine zr_iload hG zd_La_law_334 rfl ?_
      refine zr_i2l hG zd_La_law_336 ?_
      refine zr_lcmp hG zd_La_law_337 ?_
      refine zr_if_eq hG 343 zd_La_law_338 (by decide) (fun hc => ?_) (fun hc => ?_)
      · have h := h.1 hc
        exact zr_mask [true, true, true, true, true, false, false] (zt_La_343 hL hj hk h)
      · have h := h.2 hc
        exact h.elim
  · have h := h.2 hc
    exact h.elim
def zw_La_c4 (ln : Nat → Nat) (L : Nat) (xs : Nat → Int32) (k63 : Int32 × Nat × zS × zS × (Nat → Int64) → Prop) (v4 : Int32) (j : Nat) (c g : zS) (o : Nat → Int64) : Prop := vp_in (v4 + (1 : Int32)) L ∧ (((xs (v4 + (1 : Int32)).toNatClampNeg) = 0 → zw_La_389 ln L xs k63 v4 (0 : Int32) j c g o) ∧ (¬ (xs (v4 + (1 : Int32)).toNatClampNeg) = 0 → zw_La_389 ln L xs k63 v4 (1 : Int32) j c g o))
set_option maxHeartbeats 4000000 in
set_option maxRecDepth 100000 in
theorem zt_La_c4 {x : zC} {w : zW} {b L : Nat} {xs : Nat → Int32} {k0 n0 : Nat} (hL : zq_LW x w b L xs k0 n0) {k63 : Int32 × Nat × zS × zS × (Nat → Int64) → Prop} {j : Nat} (hj : j < 1000) (hk : ∀ q : Int32 × Nat × zS × zS × (Nat → Int64), k63 q → zq_W x w (k0 + q.2.1) (n0 + 6 * q.2.1) (q.2.2.1, q.2.2.2.1, q.2.2.2.2) 63 [some (.ref b), some (.ref (w.2.1 0)), some (.ref (w.2.1 28)), some (.ref (w.2.1 40)), some (.int q.1), none, none] []) {v4 : Int32} {c g : zS} {o : Nat → Int64} (h : zw_La_c4 w.2.2.1 L xs k63 v4 j c g o) : zq_W x w (k0 + j) (n0 + 6 * j) (c, g, o) 374 [some (.ref b), some (.ref (w.2.1 0)), some (.ref (w.2.1 28)), some (.ref (w.2.1 40)), some (.int v4), none, none] [] := by
  obtain ⟨hG, hW, hAp, hE, hA0, hX, hbl, hbA, hQ, hfl, hk0, hn0⟩ := id hL
  refine zr_aload_n hG zd_La_law_374 rfl rfl ?_
  refine zr_aload_n hG zd_La_law_375 rfl rfl ?_
  refine zr_iload hG zd_La_law_376 rfl ?_
  refine zr_iconst hG (v := (1 : Int32)) zd_La_law_378 (by decide) ?_
  refine zr_iadd hG zd_La_law_379 ?_
  obtain ⟨hi, h⟩ := h
  refine zr_sld hG hX hbl hbA hi zd_La_law_380 ?_
  refine zr_if_eq hG 388 zd_La_law_381 (by decide) (fun hc => ?_) (fun hc => ?_)
  · have h := h.1 hc
    refine zr_iconst hG (v := (0 : Int32)) zd_La_law_388 (by decide) ?_
    exact zt_La_389 hL hj hk h
  · have h := h.2 hc
    refine zr_iconst hG (v := (1 : Int32)) zd_La_law_384 (by decide) ?_
    refine zr_goto hG 389 zd_La_law_385 (by decide) ?_
    exact zt_La_389 hL hj hk h
def zw_La_63 (ln : Nat → Nat) (L : Nat) (xs : Nat → Int32) (k63 : Int32 × Nat × zS × zS × (Nat → Int64) → Prop) : Int32 × Nat × zS × zS × (Nat → Int64) → Prop := fun q => match q with
  | (v4, j, c, g, o) => j < 1000 ∧ ((((Int32.ofNat L) - (7 : Int32)) < v4 → True) ∧ (¬ ((Int32.ofNat L) - (7 : Int32)) < v4 → vp_in v4 L ∧ ((((xs v4.toNatClampNeg) &&& (15 : Int32)) = 0 → zw_La_c0 ln L xs k63 v4 j c g o) ∧ (((xs v4.toNatClampNeg) &&& (15 : Int32)) = 1 → zw_La_c1 ln L xs k63 v4 j c g o) ∧ (((xs v4.toNatClampNeg) &&& (15 : Int32)) = 2 → zw_La_c2 ln L xs k63 v4 j c g o) ∧ (((xs v4.toNatClampNeg) &&& (15 : Int32)) = 3 → zw_La_c3 ln L xs k63 v4 j c g o) ∧ (((xs v4.toNatClampNeg) &&& (15 : Int32)) = 4 → zw_La_c4 ln L xs k63 v4 j c g o) ∧ (((xs v4.toNatClampNeg) &&& (15 : Int32)) = 5 → zw_La_c5 ln L xs k63 v4 j c g o) ∧ (((xs v4.toNatClampNeg) &&& (15 : Int32)) = 6 → zw_La_c6 ln L xs k63 v4 j c g o) ∧ (((xs v4.toNatClampNeg) &&& (15 : Int32)) = 7 → zw_La_c7 ln L xs k63 v4 j c g o) ∧ (((xs v4.toNatClampNeg) &&& (15 : Int32)) = 8 → zw_La_c8 ln L xs k63 v4 j c g o) ∧ (((xs v4.toNatClampNeg) &&& (15 : Int32)) = 9 → zw_La_c9 ln L xs k63 v4 j c g o) ∧ (((xs v4.toNatClampNeg) &&& (15 : Int32)) = 10 → zw_La_c10 ln L xs k63 v4 j c g o) ∧ (((xs v4.toNatClampNeg) &&& (15 : Int32)) = 11 → zw_La_c11 ln L xs k63 v4 j c g o) ∧ (((xs v4.toNatClampNeg) &&& (15 : Int32)) = 12 → zw_La_c12 ln L xs k63 v4 j c g o) ∧ (¬ ((xs v4.toNatClampNeg) &&& (15 : Int32)) = 0 ∧ ¬ ((xs v4.toNatClampNeg) &&& (15 : Int32)) = 1 ∧ ¬ ((xs v4.toNatClampNeg) &&& (15 : Int32)) = 2 ∧ ¬ ((xs v4.toNatClampNeg) &&& (15 : Int32)) = 3 ∧ ¬ ((xs v4.toNatClampNeg) &&& (15 : Int32)) = 4 ∧ ¬ ((xs v4.toNatClampNeg) &&& (15 : Int32)) = 5 ∧ ¬ ((xs v4.toNatClampNeg) &&& (15 : Int32)) = 6 ∧ ¬ ((xs v4.toNatClampNeg) &&& (15 : Int32)) = 7 ∧ ¬ ((xs v4.toNatClampNeg) &&& (15 : Int32)) = 8 ∧ ¬ ((xs v4.toNatClampNeg) &&& (15 : Int32)) = 9 ∧ ¬ ((xs v4.toNatClampNeg) &&& (15 : Int32)) = 10 ∧ ¬ ((xs v4.toNatClampNeg) &&& (15 : Int32)) = 11 ∧ ¬ ((xs v4.toNatClampNeg) &&& (15 : Int32)) = 12 → zw_La_729 ln L xs k63 v4 j c g o))))
set_option maxHeartbeats 4000000 in
set_option maxRecDepth 100000 in
theorem zt_La_63 {x : zC} {w : zW} {b L : Nat} {xs : Nat → Int32} {k0 n0 : Nat} (hL : zq_LW x w b L xs k0 n0) {v4 : Int32} {j : Nat} {c g : zS} {o : Nat → Int64} (h : zq_Lp (zw_La_63 w.2.2.1 L xs) (v4, j, c, g, o)) : zq_W x w (k0 + j) (n0 + 6 * j) (c, g, o) 63 [some (.ref b), some (.ref (w.2.1 0)), some (.ref (w.2.1 28)), some (.ref (w.2.1 40)), some (.int v4), none, none] [] := by
  obtain ⟨hG, hW, hAp, hE, hA0, hX, hbl, hbA, hQ, hfl, hk0, hn0⟩ := id hL
  refine zq_Lp_W (WW := fun q => zq_W x w (k0 + q.2.1) (n0 + 6 * q.2.1) (q.2.2.1, q.2.2.2.1, q.2.2.2.2) 63 [some (.ref b), some (.ref (w.2.1 0)), some (.ref (w.2.1 28)), some (.ref (w.2.1 40)), some (.int q.1), none, none] []) (fun k63 hk q h => ?_) h
  obtain ⟨v4, j, c, g, o⟩ := q
  obtain ⟨hj, h⟩ := h
  show zq_W x w (k0 + j) (n0 + 6 * j) (c, g, o) 63 [some (.ref b), some (.ref (w.2.1 0)), some (.ref (w.2.1 28)), some (.ref (w.2.1 40)), some (.int v4), none, none] []
  refine zr_iload hG zd_La_law_63 rfl ?_
  refine zr_aload_n hG zd_La_law_65 rfl rfl ?_
  refine zr_slen hG hX hbl hbA zd_La_law_66 ?_
  refine zr_bipush hG (v := (7 : Int32)) zd_La_law_67 (by decide) ?_
  refine zr_isub hG zd_La_law_69 ?_
  refine zr_icmp_gt hG 735 zd_La_law_70 (by decide) (fun hc => ?_) (fun hc => ?_)
  · have h := h.1 hc
    refine zr_iconst hG (v := 1) zd_La_law_735 (by decide) ?_
    exact hQ _ _ _ _ _ (by omega) (by omega) zd_La_law_736
  · have h := h.2 hc
    refine zr_aload_n hG zd_La_law_73 rfl rfl ?_
    refine zr_iload hG zd_La_law_74 rfl ?_
    obtain ⟨hi, h⟩ := h
    refine zr_sld hG hX hbl hbA hi zd_La_law_76 ?_
    refine zr_bipush hG (v := (15 : Int32)) zd_La_law_77 (by decide) ?_
    refine zr_iand hG zd_La_law_79 ?_
    by_cases hc0 : ((xs v4.toNatClampNeg) &&& (15 : Int32)) = 0
    · have h := h.1 hc0
      refine zr_swIn hG 148 zd_La_law_80 (by rw [hc0]; decide) (by rw [hc0]; decide) (by rw [hc0]; rfl) (by decide) ?_
      exact zt_La_c0 hL hj hk h
    have h := h.2
    by_cases hc1 : ((xs v4.toNatClampNeg) &&& (15 : Int32)) = 1
    · have h := h.1 hc1
      refine zr_swIn hG 200 zd_La_law_80 (by rw [hc1]; decide) (by rw [hc1]; decide) (by rw [hc1]; rfl) (by decide) ?_
      exact zt_La_c1 hL hj hk h
    have h := h.2
    by_cases hc2 : ((xs v4.toNatClampNeg) &&& (15 : Int32)) = 2
    · have h := h.1 hc2
      refine zr_swIn hG 290 zd_La_law_80 (by rw [hc2]; decide) (by rw [hc2]; decide) (by rw [hc2]; rfl) (by decide) ?_
      exact zt_La_c2 hL hj hk h
    have h := h.2
    by_cases hc3 : ((xs v4.toNatClampNeg) &&& (15 : Int32)) = 3
    · have h := h.1 hc3
      refine zr_swIn hG 346 zd_La_law_80 (by rw [hc3]; decide) (by rw [hc3]; decide) (by rw [hc3]; rfl) (by decide) ?_
      exact zt_La_c3 hL hj hk h
    have h := h.2
    by_cases hc4 : ((xs v4.toNatClampNeg) &&& (15 : Int32)) = 4
    · have h := h.1 hc4
      refine zr_swIn hG 374 zd_La_law_80 (by rw [hc4]; decide) (by rw [hc4]; decide) (by rw [hc4]; rfl) (by decide) ?_
      exact zt_La_c4 hL hj hk h
    have h := h.2
    by_cases hc5 : ((xs v4.toNatClampNeg) &&& (15 : Int32)) = 5
    · have h := h.1 hc5
      refine zr_swIn hG 430 zd_La_law_80 (by rw [hc5]; decide) (by rw [hc5]; decide) (by rw [hc5]; rfl) (by decide) ?_
      exact zt_La_c5 hL hj hk h
    have h := h.2
    by_cases hc6 : ((xs v4.toNatClampNeg) &&& (15 : Int32)) = 6
    · have h := h.1 hc6
      refine zr_swIn hG 455 zd_La_law_80 (by rw [hc6]; decide) (by rw [hc6]; decide) (by rw [hc6]; rfl) (by decide) ?_
      exact zt_La_c6 hL hj hk h
    have h := h.2
    by_cases hc7 : ((xs v4.toNatClampNeg) &&& (15 : Int32)) = 7
    · have h := h.1 hc7
      refine zr_swIn hG 516 zd_La_law_80 (by rw [hc7]; decide) (by rw [hc7]; decide) (by rw [hc7]; rfl) (by decide) ?_
      exact zt_La_c7 hL hj hk h
    have h := h.2
    by_cases hc8 : ((xs v4.toNatClampNeg) &&& (15 : Int32)) = 8
    · have h := h.1 hc8
      refine zr_swIn hG 556 zd_La_law_80 (by rw [hc8]; decide) (by rw [hc8]; decide) (by rw [hc8]; rfl) (by decide) ?_
      exact zt_La_c8 hL hj hk h
    have h := h.2
    by_cases hc9 : ((xs v4.toNatClampNeg) &&& (15 : Int32)) = 9
    · have h := h.1 hc9
      refine zr_swIn hG 608 zd_La_law_80 (by rw [hc9]; decide) (by rw [hc9]; decide) (by rw [hc9]; rfl) (by decide) ?_
      exact zt_La_c9 hL hj hk h
    have h := h.2
    by_cases hc10 : ((xs v4.toNatClampNeg) &&& (15 : Int32)) = 10
    · have h := h.1 hc10
      refine zr_swIn hG 648 zd_La_law_80 (by rw [hc10]; decide) (by rw [hc10]; decide) (by rw [hc10]; rfl) (by decide) ?_
      exact zt_La_c10 hL hj hk h
    have h := h.2
    by_cases hc11 : ((xs v4.toNatClampNeg) &&& (15 : Int32)) = 11
    · have h := h.1 hc11
      refine zr_swIn hG 676 zd_La_law_80 (by rw [hc11]; decide) (by rw [hc11]; decide) (by rw [hc11]; rfl) (by decide) ?_
      exact zt_La_c11 hL hj hk h
    have h := h.2
    by_cases hc12 : ((xs v4.toNatClampNeg) &&& (15 : Int32)) = 12
    · have h := h.1 hc12
      refine zr_swIn hG 689 zd_La_law_80 (by rw [hc12]; decide) (by rw [hc12]; decide) (by rw [hc12]; rfl) (by decide) ?_
      exact zt_La_c12 hL hj hk h
    have h := h.2
    have h := h ⟨hc0, hc1, hc2, hc3, hc4, hc5, hc6, hc7, hc8, hc9, hc10, hc11, hc12⟩
    refine zr_swOut hG 729 zd_La_law_80 (zq_sw0_12 hc0 hc1 hc2 hc3 hc4 hc5 hc6 hc7 hc8 hc9 hc10 hc11 hc12) (by decide) ?_
    exact zr_widen (by omega) (by omega) (zt_La_729 hL hj hk h)
