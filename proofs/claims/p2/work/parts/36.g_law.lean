def zw_La_736 (ln : Nat → Nat) (L : Nat) (xs : Nat → Int32) (k63 : Int32 × Nat × zS × zS × (Nat → Int64) → Prop) (v4 : Int32) (j : Nat) (c g : zS) (o : Nat → Int64) : Prop := k63 ((v4 + (7 : Int32)), j + 1, c, g, o)
set_option maxHeartbeats 4000000 in
set_option maxRecDepth 100000 in
theorem zt_La_736 {x : zC} {w : zW} {b L : Nat} {xs : Nat → Int32} {k0 n0 : Nat} (hL : zq_LW x w b L xs k0 n0) {k63 : Int32 × Nat × zS × zS × (Nat → Int64) → Prop} {j : Nat} (hj : j < 1000) (hk : ∀ q : Int32 × Nat × zS × zS × (Nat → Int64), k63 q → zq_W x w (k0 + q.2.1) (n0 + 6 * q.2.1) (q.2.2.1, q.2.2.2.1, q.2.2.2.2) 63 [some (.ref b), some (.ref (w.2.1 0)), some (.ref (w.2.1 28)), some (.ref (w.2.1 40)), some (.int q.1), none, none] []) {v4 : Int32} {c g : zS} {o : Nat → Int64} (h : zw_La_736 w.2.2.1 L xs k63 v4 j c g o) : zq_W x w (k0 + j + 1) (n0 + 6 * j + 6) (c, g, o) 736 [some (.ref b), some (.ref (w.2.1 0)), some (.ref (w.2.1 28)), some (.ref (w.2.1 40)), some (.int v4), none, none] [] := by
  obtain ⟨hG, hW, hAp, hE, hA0, hX, hbl, hbA, hQ, hfl, hk0, hn0⟩ := id hL
  refine zr_iinc hG (u := (7 : Int32)) [some (.ref b), some (.ref (w.2.1 0)), some (.ref (w.2.1 28)), some (.ref (w.2.1 40)), some (.int (v4 + (7 : Int32))), none, none] zd_La_law_736 rfl (by decide) (Nat.le_of_ble_eq_true rfl) rfl ?_
  refine zr_goto hG 63 zd_La_law_739 (by decide) ?_
  have h := hk _ h
  exact zr_widen (k' := k0 + (j + 1)) (n' := n0 + 6 * (j + 1)) (by omega) (by omega) h
def zw_La_232 (ln : Nat → Nat) (L : Nat) (xs : Nat → Int32) (k63 : Int32 × Nat × zS × zS × (Nat → Int64) → Prop) (v4 : Int32) (j : Nat) (c g : zS) (o : Nat → Int64) : Prop := zw_La_736 ln L xs k63 v4 j c g o
set_option maxHeartbeats 4000000 in
set_option maxRecDepth 100000 in
theorem zt_La_232 {x : zC} {w : zW} {b L : Nat} {xs : Nat → Int32} {k0 n0 : Nat} (hL : zq_LW x w b L xs k0 n0) {k63 : Int32 × Nat × zS × zS × (Nat → Int64) → Prop} {j : Nat} (hj : j < 1000) (hk : ∀ q : Int32 × Nat × zS × zS × (Nat → Int64), k63 q → zq_W x w (k0 + q.2.1) (n0 + 6 * q.2.1) (q.2.2.1, q.2.2.2.1, q.2.2.2.2) 63 [some (.ref b), some (.ref (w.2.1 0)), some (.ref (w.2.1 28)), some (.ref (w.2.1 40)), some (.int q.1), none, none] []) {v4 : Int32} {c g : zS} {o : Nat → Int64} (h : zw_La_232 w.2.2.1 L xs k63 v4 j c g o) : zq_W x w (k0 + j + 1) (n0 + 6 * j + 6) (c, g, o) 232 [some (.ref b), some (.ref (w.2.1 0)), some (.ref (w.2.1 28)), some (.ref (w.2.1 40)), some (.int v4), none, none] [] := by
  obtain ⟨hG, hW, hAp, hE, hA0, hX, hbl, hbA, hQ, hfl, hk0, hn0⟩ := id hL
  refine zr_goto hG 736 zd_La_law_232 (by decide) ?_
  exact zt_La_736 hL hj hk h
def zw_La_423 (ln : Nat → Nat) (L : Nat) (xs : Nat → Int32) (k63 : Int32 × Nat × zS × zS × (Nat → Int64) → Prop) (v4 : Int32) (u0 : Int32) (j : Nat) (c g : zS) (o : Nat → Int64) : Prop := vp_in (v4 + (2 : Int32)) L ∧ (zw_Mo_all u0 (xs (v4 + (2 : Int32)).toNatClampNeg) g (fun r239 z239 => zw_La_736 ln L xs k63 v4 j c z239 o))
set_option maxHeartbeats 4000000 in
set_option maxRecDepth 100000 in
theorem zt_La_423 {x : zC} {w : zW} {b L : Nat} {xs : Nat → Int32} {k0 n0 : Nat} (hL : zq_LW x w b L xs k0 n0) {k63 : Int32 × Nat × zS × zS × (Nat → Int64) → Prop} {j : Nat} (hj : j < 1000) (hk : ∀ q : Int32 × Nat × zS × zS × (Nat → Int64), k63 q → zq_W x w (k0 + q.2.1) (n0 + 6 * q.2.1) (q.2.2.1, q.2.2.2.1, q.2.2.2.2) 63 [some (.ref b), some (.ref (w.2.1 0)), some (.ref (w.2.1 28)), some (.ref (w.2.1 40)), some (.int q.1), none, none] []) {v4 : Int32} {u0 : Int32} {c g : zS} {o : Nat → Int64} (h : zw_La_423 w.2.2.1 L xs k63 v4 u0 j c g o) : zq_W x w (k0 + j + 1) (n0 + 6 * j + 6) (c, g, o) 423 [some (.ref b), some (.ref (w.2.1 0)), some (.ref (w.2.1 28)), some (.ref (w.2.1 40)), some (.int v4), none, none] [.int u0, .ref (w.2.1 28)] := by
  obtain ⟨hG, hW, hAp, hE, hA0, hX, hbl, hbA, hQ, hfl, hk0, hn0⟩ := id hL
  refine zr_aload_n hG zd_La_law_423 rfl rfl ?_
  refine zr_iload hG zd_La_law_424 rfl ?_
  refine zr_iconst hG (v := (2 : Int32)) zd_La_law_426 (by decide) ?_
  refine zr_iadd hG zd_La_law_427 ?_
  obtain ⟨hi, h⟩ := h
  refine zr_sld hG hX hbl hbA hi zd_La_law_428 ?_
  refine zr_callV hG (zq_F1 hW) (As := [.int u0, .int (xs (v4 + (2 : Int32)).toNatClampNeg)]) (rest := []) (zm_Mo_all (zc_l x) w hAp c o h) 28 rfl rfl rfl zg_La_92 zdd_Mo_all ⟨rfl, rfl, by decide, by decide⟩ ⟨by show _ ≤ 601024; omega, by show _ ≤ 7293000; omega⟩ rfl (Nat.le_of_ble_eq_true rfl) zd_La_law_429 rfl ?_
  rintro _ _ ⟨r239, z239, rfl, rfl, h⟩
  refine zr_istore hG [some (.ref b), some (.ref (w.2.1 0)), some (.ref (w.2.1 28)), some (.ref (w.2.1 40)), some (.int v4), none, some (.int r239)] zd_La_law_432 (Nat.le_of_ble_eq_true rfl) rfl ?_
  refine zr_goto hG 736 zd_La_law_434 (by decide) ?_
  exact zr_mask [true, true, true, true, true, false, false] (zt_La_736 hL hj hk h)
def zw_La_c1 (ln : Nat → Nat) (L : Nat) (xs : Nat → Int32) (k63 : Int32 × Nat × zS × zS × (Nat → Int64) → Prop) (v4 : Int32) (j : Nat) (c g : zS) (o : Nat → Int64) : Prop := vp_in (v4 + (1 : Int32)) L ∧ vp_in (v4 + (2 : Int32)) L ∧ vp_in (v4 + (3 : Int32)) L ∧ vp_in (v4 + (4 : Int32)) L ∧ vp_in (v4 + (5 : Int32)) L ∧ vp_in (v4 + (6 : Int32)) L ∧ (zw_La_h_net ln (xs (v4 + (1 : Int32)).toNatClampNeg) (xs (v4 + (2 : Int32)).toNatClampNeg) (xs (v4 + (3 : Int32)).toNatClampNeg) (xs (v4 + (4 : Int32)).toNatClampNeg) (xs (v4 + (5 : Int32)).toNatClampNeg) (xs (v4 + (6 : Int32)).toNatClampNeg) c o (fun r216 c216 o216 => vp_in (v4 + (1 : Int32)) L ∧ vp_in (v4 + (2 : Int32)) L ∧ vp_in (v4 + (3 : Int32)) L ∧ vp_in (v4 + (4 : Int32)) L ∧ vp_in (v4 + (5 : Int32)) L ∧ vp_in (v4 + (6 : Int32)) L ∧ (zw_Mo_net (xs (v4 + (1 : Int32)).toNatClampNeg) (xs (v4 + (2 : Int32)).toNatClampNeg) (xs (v4 + (3 : Int32)).toNatClampNeg) (xs (v4 + (4 : Int32)).toNatClampNeg) (xs (v4 + (5 : Int32)).toNatClampNeg) (xs (v4 + (6 : Int32)).toNatClampNeg) g (fun r217 z217 => zw_La_736 ln L xs k63 v4 j c216 z217 o216))))
set_option maxHeartbeats 4000000 in
set_option maxRecDepth 100000 in
theorem zt_La_c1 {x : zC} {w : zW} {b L : Nat} {xs : Nat → Int32} {k0 n0 : Nat} (hL : zq_LW x w b L xs k0 n0) {k63 : Int32 × Nat × zS × zS × (Nat → Int64) → Prop} {j : Nat} (hj : j < 1000) (hk : ∀ q : Int32 × Nat × zS × zS × (Nat → Int64), k63 q → zq_W x w (k0 + q.2.1) (n0 + 6 * q.2.1) (q.2.2.1, q.2.2.2.1, q.2.2.2.2) 63 [some (.ref b), some (.ref (w.2.1 0)), some (.ref (w.2.1 28)), some (.ref (w.2.1 40)), some (.int q.1), none, none] []) {v4 : Int32} {c g : zS} {o : Nat → Int64} (h : zw_La_c1 w.2.2.1 L xs k63 v4 j c g o) : zq_W x w (k0 + j) (n0 + 6 * j) (c, g, o) 235 [some (.ref b), some (.ref (w.2.1 0)), some (.ref (w.2.1 28)), some (.ref (w.2.1 40)), some (.int v4), none, none] [] := by
  obtain ⟨hG, hW, hAp, hE, hA0, hX, hbl, hbA, hQ, hfl, hk0, hn0⟩ := id hL
  refine zr_aload_n hG zd_La_law_235 rfl rfl ?_
  refine zr_aload_n hG zd_La_law_236 rfl rfl ?_
  refine zr_iload hG zd_La_law_237 rfl ?_
  refine zr_iconst hG (v := (1 : Int32)) zd_La_law_239 (by decide) ?_
  refine zr_iadd hG zd_La_law_240 ?_
  obtain ⟨hi, h⟩ := h
  refine zr_sld hG hX hbl hbA hi zd_La_law_241 ?_
  refine zr_aload_n hG zd_La_law_242 rfl rfl ?_
  refine zr_iload hG zd_La_law_243 rfl ?_
  refine zr_iconst hG (v := (2 : Int32)) zd_La_law_245 (by decide) ?_
  refine zr_iadd hG zd_La_law_246 ?_
  obtain ⟨hi, h⟩ := h
  refine zr_sld hG hX hbl hbA hi zd_La_law_247 ?_
  refine zr_aload_n hG zd_La_law_248 rfl rfl ?_
  refine zr_iload hG zd_La_law_249 rfl ?_
  refine zr_iconst hG (v := (3 : Int32)) zd_La_law_251 (by decide) ?_
  refine zr_iadd hG zd_La_law_252 ?_
  obtain ⟨hi, h⟩ := h
  refine zr_sld hG hX hbl hbA hi zd_La_law_253 ?_
  refine zr_aload_n hG zd_La_law_254 rfl rfl ?_
  refine zr_iload hG zd_La_law_255 rfl ?_
  refine zr_iconst hG (v := (4 : Int32)) zd_La_law_257 (by decide) ?_
  refine zr_iadd hG zd_La_law_258 ?_
  obtain ⟨hi, h⟩ := h
  refine zr_sld hG hX hbl hbA hi zd_La_law_259 ?_
  refine zr_aload_n hG zd_La_law_260 rfl rfl ?_
  refine zr_iload hG zd_La_law_261 rfl ?_
  refine zr_iconst hG (v := (5 : Int32)) zd_La_law_263 (by decide) ?_
  refine zr_iadd hG zd_La_law_264 ?_
  obtain ⟨hi, h⟩ := h
  refine zr_sld hG hX hbl hbA hi zd_La_law_265 ?_
  refine zr_aload_n hG zd_La_law_266 rfl rfl ?_
  refine zr_iload hG zd_La_law_267 rfl ?_
  refine zr_bipush hG (v := (6 : Int32)) zd_La_law_269 (by decide) ?_
  refine zr_iadd hG zd_La_law_271 ?_
  obtain ⟨hi, h⟩ := h
  refine zr_sld hG hX hbl hbA hi zd_La_law_272 ?_
  refine zr_aload_n hG zd_La_law_273 rfl rfl ?_
  refine zr_callH hG (zq_F1 hW) hE hA0 (As := [.ref (w.2.1 0), .int (xs (v4 + (1 : Int32)).toNatClampNeg), .int (xs (v4 + (2 : Int32)).toNatClampNeg), .int (xs (v4 + (3 : Int32)).toNatClampNeg), .int (xs (v4 + (4 : Int32)).toNatClampNeg), .int (xs (v4 + (5 : Int32)).toNatClampNeg), .int (xs (v4 + (6 : Int32)).toNatClampNeg), .ref (w.2.1 40)]) (rest := []) (zm_La_h_net (zc_l x) hfl w hAp g h) rfl zgh_78 zdd_La_h_net ⟨rfl, rfl, by decide, by decide⟩ ⟨by show _ ≤ 601024; omega, by show _ ≤ 7293000; omega⟩ rfl (Nat.le_of_ble_eq_true rfl) zd_La_law_274 rfl ?_
  rintro _ _ ⟨r216, c216, o216, rfl, rfl, h⟩
  refine zr_istore hG [some (.ref b), some (.ref (w.2.1 0)), some (.ref (w.2.1 28)), some (.ref (w.2.1 40)), some (.int v4), some (.int r216), none] zd_La_law_277 (Nat.le_of_ble_eq_true rfl) rfl ?_
  refine zr_aload_n hG zd_La_law_279 rfl rfl ?_
  refine zr_aload_n hG zd_La_law_280 rfl rfl ?_
  refine zr_iload hG zd_La_law_281 rfl ?_
  refine zr_iconst hG (v := (1 : Int32)) zd_La_law_283 (by decide) ?_
  refine zr_iadd hG zd_La_law_284 ?_
  obtain ⟨hi, h⟩ := h
  refine zr_sld hG hX hbl hbA hi zd_La_law_285 ?_
  refine zr_aload_n hG zd_La_law_286 rfl rfl ?_
  refine zr_iload hG zd_La_law_287 rfl ?_
  refine zr_iconst hG (v := (2 : Int32)) zd_La_law_289 (by decide) ?_
  refine zr_iadd hG zd_La_law_290 ?_
  obtain ⟨hi, h⟩ := h
  refine zr_sld hG hX hbl hbA hi zd_La_law_291 ?_
  refine zr_aload_n hG zd_La_law_292 rfl rfl ?_
  refine zr_iload hG zd_La_law_293 rfl ?_
  refine zr_iconst hG (v := (3 : Int32)) zd_La_law_295 (by decide) ?_
  refine zr_iadd hG zd_La_law_296 ?_
  obtain ⟨hi, h⟩ := h
  refine zr_sld hG hX hbl hbA hi zd_La_law_297 ?_
  refine zr_aload_n hG zd_La_law_298 rfl rfl ?_
  refine zr_iload hG zd_La_law_299 rfl ?_
  refine zr_iconst hG (v := (4 : Int32)) zd_La_law_301 (by decide) ?_
  refine zr_iadd hG zd_La_law_302 ?_
  obtain ⟨hi, h⟩ := h
  refine zr_sld hG hX hbl hbA hi zd_La_law_303 ?_
  refine zr_aload_n hG zd_La_law_304 rfl rfl ?_
  refine zr_iload hG zd_La_law_305 rfl ?_
  refine zr_iconst hG (v := (5 : Int32)) zd_La_law_307 (by decide) ?_
  refine zr_iadd hG zd_La_law_308 ?_
  obtain ⟨hi, h⟩ := h
  refine zr_sld hG hX hbl hbA hi zd_La_law_309 ?_
  refine zr_aload_n hG zd_La_law_310 rfl rfl ?_
  refine zr_iload hG zd_La_law_311 rfl ?_
  refine zr_bipush hG (v := (6 : Int32)) zd_La_law_313 (by decide) ?_
  refine zr_iadd hG zd_La_law_315 ?_
  obtain ⟨hi, h⟩ := h
  refine zr_sld hG hX hbl hbA hi zd_La_law_316 ?_
  refine zr_callV hG (zq_F1 hW) (As := [.int (xs (v4 + (1 : Int32)).toNatClampNeg), .int (xs (v4 + (2 : Int32)).toNatClampNeg), .int (xs (v4 + (3 : Int32)).toNatClampNeg), .int (xs (v4 + (4 : Int32)).toNatClampNeg), .int (xs (v4 + (5 : Int32)).toNatClampNeg), .int (xs (v4 + (6 : Int32)).toNatClampNeg)]) (rest := []) (zm_Mo_net (zc_l x) w hAp c216 o216 h) 28 rfl rfl rfl zg_La_81 zdd_Mo_net ⟨rfl, rfl, by decide, by decide⟩ ⟨by show _ ≤ 601024; omega, by show _ ≤ 7293000; omega⟩ rfl (Nat.le_of_ble_eq_true rfl) zd_La_law_317 rfl ?_
  rintro _ _ ⟨r217, z217, rfl, rfl, h⟩
  refine zr_istore hG [some (.ref b), some (.ref (w.2.1 0)), some (.ref (w.2.1 28)), some (.ref (w.2.1 40)), some (.int v4), some (.int r216), some (.int r217)] zd_La_law_320 (Nat.le_of_ble_eq_true rfl) rfl ?_
  refine zr_goto hG 736 zd_La_law_322 (by decide) ?_
  exact zr_mask [true, true, true, true, true, false, false] (zt_La_736 hL hj hk h)
def zw_La_c10 (ln : Nat → Nat) (L : Nat) (xs : Nat → Int32) (k63 : Int32 × Nat × zS × zS × (Nat → Int64) → Prop) (v4 : Int32) (j : Nat) (c g : zS) (o : Nat → Int64) : Prop := vp_in (v4 + (1 : Int32)) L ∧ (zw_La_h_faults ln (xs (v4 + (1 : Int32)).toNatClampNeg) c o (fun r232 c232 o232 => vp_in (v4 + (1 : Int32)) L ∧ (zw_Mo_faults (xs (v4 + (1 : Int32)).toNatClampNeg) g (fun r233 z233 => zw_La_736 ln L xs k63 v4 j c232 z233 o232))))
set_option maxHeartbeats 4000000 in
set_option maxRecDepth 100000 in
theorem zt_La_c10 {x : zC} {w : zW} {b L : Nat} {xs : Nat → Int32} {k0 n0 : Nat} (hL : zq_LW x w b L xs k0 n0) {k63 : Int32 × Nat × zS × zS × (Nat → Int64) → Prop} {j : Nat} (hj : j < 1000) (hk : ∀ q : Int32 × Nat × zS × zS × (Nat → Int64), k63 q → zq_W x w (k0 + q.2.1) (n0 + 6 * q.2.1) (q.2.2.1, q.2.2.2.1, q.2.2.2.2) 63 [some (.ref b), some (.ref (w.2.1 0)), some (.ref (w.2.1 28)), some (.ref (w.2.1 40)), some (.int q.1), none, none] []) {v4 : Int32} {c g : zS} {o : Nat → Int64} (h : zw_La_c10 w.2.2.1 L xs k63 v4 j c g o) : zq_W x w (k0 + j) (n0 + 6 * j) (c, g, o) 655 [some (.ref b), some (.ref (w.2.1 0)), some (.ref (w.2.1 28)), some (.ref (w.2.1 40)), some (.int v4), none, none] [] := by
  obtain ⟨hG, hW, hAp, hE, hA0, hX, hbl, hbA, hQ, hfl, hk0, hn0⟩ := id hL
  refine zr_aload_n hG zd_La_law_655 rfl rfl ?_
  refine zr_aload_n hG zd_La_law_656 rfl rfl ?_
  refine zr_iload hG zd_La_law_657 rfl ?_
  refine zr_iconst hG (v := (1 : Int32)) zd_La_law_659 (by decide) ?_
  refine zr_iadd hG zd_La_law_660 ?_
  obtain ⟨hi, h⟩ := h
  refine zr_sld hG hX hbl hbA hi zd_La_law_661 ?_
  refine zr_aload_n hG zd_La_law_662 rfl rfl ?_
  refine zr_callH hG (zq_F1 hW) hE hA0 (As := [.ref (w.2.1 0), .int (xs (v4 + (1 : Int32)).toNatClampNeg), .ref (w.2.1 40)]) (rest := []) (zm_La_h_faults (zc_l x) hfl w hAp g h) rfl zgh_111 zdd_La_h_faults ⟨rfl, rfl, by decide, by decide⟩ ⟨by show _ ≤ 601024; omega, by show _ ≤ 7293000; omega⟩ rfl (Nat.le_of_ble_eq_true rfl) zd_La_law_663 rfl ?_
  rintro _ _ ⟨r232, c232, o232, rfl, rfl, h⟩
  refine zr_istore hG [some (.ref b), some (.ref (w.2.1 0)), some (.ref (w.2.1 28)), some (.ref (w.2.1 40)), some (.int v4), some (.int r232), none] zd_La_law_666 (Nat.le_of_ble_eq_true rfl) rfl ?_
  refine zr_aload_n hG zd_La_law_668 rfl rfl ?_
  refine zr_aload_n hG zd_La_law_669 rfl rfl ?_
  refine zr_iload hG zd_La_law_670 rfl ?_
  refine zr_iconst hG (v := (1 : Int32)) zd_La_law_672 (by decide) ?_
  refine zr_iadd hG zd_La_law_673 ?_
  obtain ⟨hi, h⟩ := h
  refine zr_sld hG hX hbl hbA hi zd_La_law_674 ?_
  refine zr_callV hG (zq_F1 hW) (As := [.int (xs (v4 + (1 : Int32)).toNatClampNeg)]) (rest := []) (zm_Mo_faults (zc_l x) w hAp c232 o232 h) 28 rfl rfl rfl zg_La_113 zdd_Mo_faults ⟨rfl, rfl, by decide, by decide⟩ ⟨by show _ ≤ 601024; omega, by show _ ≤ 7293000; omega⟩ rfl (Nat.le_of_ble_eq_true rfl) zd_La_law_675 rfl ?_
  rintro _ _ ⟨r233, z233, rfl, rfl, h⟩
  refine zr_istore hG [some (.ref b), some (.ref (w.2.1 0)), some (.ref (w.2.1 28)), some (.ref (w.2.1 40)), some (.int v4), some (.int r232), some (.int r233)] zd_La_law_678 (Nat.le_of_ble_eq_true rfl) rfl ?_
  refine zr_goto hG 736 zd_La_law_680 (by decide) ?_
  exact zr_mask [true, true, true, true, true, false, false] (zt_La_736 hL hj hk h)
def zw_La_c11 (ln : Nat → Nat) (L : Nat) (xs : Nat → Int32) (k63 : Int32 × Nat × zS × zS × (Nat → Int64) → Prop) (v4 : Int32) (j : Nat) (c g : zS) (o : Nat → Int64) : Prop := (zw_Gr_shapes ln c (fun r234 z234 => (zw_Mo_shapes g (fun r235 z235 => zw_La_736 ln L xs k63 v4 j z234 z235 o))))
set_option maxHeartbeats 4000000 in
set_option maxRecDepth 100000 in
theorem zt_La_c11 {x : zC} {w : zW} {b L : Nat} {xs : Nat → Int32} {k0 n0 : Nat} (hL : zq_LW x w b L xs k0 n0) {k63 : Int32 × Nat × zS × zS × (Nat → Int64) → Prop} {j : Nat} (hj : j < 1000) (hk : ∀ q : Int32 × Nat × zS × zS × (Nat → Int64), k63 q → zq_W x w (k0 + q.2.1) (n0 + 6 * q.2.1) (q.2.2.1, q.2.2.2.1, q.2.2.2.2) 63 [some (.ref b), some (.ref (w.2.1 0)), some (.ref (w.2.1 28)), some (.ref (w.2.1 40)), some (.int q.1), none, none] []) {v4 : Int32} {c g : zS} {o : Nat → Int64} (h : zw_La_c11 w.2.2.1 L xs k63 v4 j c g o) : zq_W x w (k0 + j) (n0 + 6 * j) (c, g, o) 683 [some (.ref b), some (.ref (w.2.1 0)), some (.ref (w.2.1 28)), some (.ref (w.2.1 40)), some (.int v4), none, none] [] := by
  obtain ⟨hG, hW, hAp, hE, hA0, hX, hbl, hbA, hQ, hfl, hk0, hn0⟩ := id hL
  have h : (zw_Gr_shapes w.2.2.1 c (fun r234 z234 => (zw_Mo_shapes g (fun r235 z235 => zw_La_736 w.2.2.1 L xs k63 v4 j z234 z235 o)))) := h
  refine zr_aload_n hG zd_La_law_683 rfl rfl ?_
  refine zr_callV hG zq_F0 (As := []) (rest := []) (zm_Gr_shapes (zc_l x) w hAp g o h) 0 rfl rfl rfl zg_La_114 zdd_Gr_shapes ⟨rfl, rfl, by decide, by decide⟩ ⟨by show _ ≤ 601024; omega, by show _ ≤ 7293000; omega⟩ rfl (Nat.le_of_ble_eq_true rfl) zd_La_law_684 rfl ?_
  rintro _ _ ⟨r234, z234, rfl, rfl, h⟩
  refine zr_pop hG rfl zd_La_law_687 ?_
  refine zr_aload_n hG zd_La_law_688 rfl rfl ?_
  refine zr_callV hG (zq_F1 hW) (As := []) (rest := []) (zm_Mo_shapes (zc_l x) w hAp z234 o h) 28 rfl rfl rfl zg_La_117 zdd_Mo_shapes ⟨rfl, rfl, by decide, by decide⟩ ⟨by show _ ≤ 601024; omega, by show _ ≤ 7293000; omega⟩ rfl (Nat.le_of_ble_eq_true rfl) zd_La_law_689 rfl ?_
  rintro _ _ ⟨r235, z235, rfl, rfl, h⟩
  refine zr_pop hG rfl zd_La_law_692 ?_
  refine zr_goto hG 736 zd_La_law_693 (by decide) ?_
  exact zr_widen (by omega) (by omega) (zt_La_736 hL hj hk h)
def zw_La_c12 (ln : Nat → Nat) (L : Nat) (xs : Nat → Int32) (k63 : Int32 × Nat × zS × zS × (Nat → Int64) → Prop) (v4 : Int32) (j : Nat) (c g : zS) (o : Nat → Int64) : Prop := vp_in (v4 + (1 : Int32)) L ∧ vp_in (v4 + (2 : Int32)) L ∧ (zw_La_h_shape ln (xs (v4 + (1 : Int32)).toNatClampNeg) (xs (v4 + (2 : Int32)).toNatClampNeg) c o (fun r236 c236 o236 => vp_in (v4 + (1 : Int32)) L ∧ vp_in (v4 + (2 : Int32)) L ∧ (zw_Mo_shape (xs (v4 + (1 : Int32)).toNatClampNeg) (xs (v4 + (2 : Int32)).toNatClampNeg) g (fun r237 z237 => zw_La_736 ln L xs k63 v4 j c236 z237 o236))))
set_option maxHeartbeats 4000000 in
set_option maxRecDepth 100000 in
theorem zt_La_c12 {x : zC} {w : zW} {b L : Nat} {xs : Nat → Int32} {k0 n0 : Nat} (hL : zq_LW x w b L xs k0 n0) {k63 : Int32 × Nat × zS × zS × (Nat → Int64) → Prop} {j : Nat} (hj : j < 1000) (hk : ∀ q : Int32 × Nat × zS × zS × (Nat → Int64), k63 q → zq_W x w (k0 + q.2.1) (n0 + 6 * q.2.1) (q.2.2.1, q.2.2.2.1, q.2.2.2.2) 63 [some (.ref b), some (.ref (w.2.1 0)), some (.ref (w.2.1 28)), some (.ref (w.2.1 40)), some (.int q.1), none, none] []) {v4 : Int32} {c g : zS} {o : Nat → Int64} (h : zw_La_c12 w.2.2.1 L xs k63 v4 j c g o) : zq_W x w (k0 + j) (n0 + 6 * j) (c, g, o) 696 [some (.ref b), some (.ref (w.2.1 0)), some (.ref (w.2.1 28)), some (.ref (w.2.1 40)), some (.int v4), none, none] [] := by
  obtain ⟨hG, hW, hAp, hE, hA0, hX, hbl, hbA, hQ, hfl, hk0, hn0⟩ := id hL
  refine zr_aload_n hG zd_La_law_696 rfl rfl ?_
  refine zr_aload_n hG zd_La_law_697 rfl rfl ?_
  refine zr_iload hG zd_La_law_698 rfl ?_
  refine zr_iconst hG (v := (1 : Int32)) zd_La_law_700 (by decide) ?_
  refine zr_iadd hG zd_La_law_701 ?_
  obtain ⟨hi, h⟩ := h
  refine zr_sld hG hX hbl hbA hi zd_La_law_702 ?_
  refine zr_aload_n hG zd_La_law_703 rfl rfl ?_
  refine zr_iload hG zd_La_law_704 rfl ?_
  refine zr_iconst hG (v := (2 : Int32)) zd_La_law_706 (by decide) ?_
  refine zr_iadd hG zd_La_law_707 ?_
  obtain ⟨hi, h⟩ := h
  refine zr_sld hG hX hbl hbA hi zd_La_law_708 ?_
  refine zr_aload_n hG zd_La_law_709 rfl rfl ?_
  refine zr_callH hG (zq_F1 hW) hE hA0 (As := [.ref (w.2.1 0), .int (xs (v4 + (1 : Int32)).toNatClampNeg), .int (xs (v4 + (2 : Int32)).toNatClampNeg), .ref (w.2.1 40)]) (rest := []) (zm_La_h_shape (zc_l x) hfl w hAp g h) rfl zgh_118 zdd_La_h_shape ⟨rfl, rfl, by decide, by decide⟩ ⟨by show _ ≤ 601024; omega, by show _ ≤ 7293000; omega⟩ rfl (Nat.le_of_ble_eq_true rfl) zd_La_law_710 rfl ?_
  rintro _ _ ⟨r236, c236, o236, rfl, rfl, h⟩
  refine zr_istore hG [some (.ref b), some (.ref (w.2.1 0)), some (.ref (w.2.1 28)), some (.ref (w.2.1 40)), some (.int v4), some (.int r236), none] zd_La_law_713 (Nat.le_of_ble_eq_true rfl) rfl ?_
  refine zr_aload_n hG zd_La_law_715 rfl rfl ?_
  refine zr_aload_n hG zd_La_law_716 rfl rfl ?_
  refine zr_iload hG zd_La_law_717 rfl ?_
  refine zr_iconst hG (v := (1 : Int32)) zd_La_law_719 (by decide) ?_
  refine zr_iadd hG zd_La_law_720 ?_
  obtain ⟨hi, h⟩ := h
  refine zr_sld hG hX hbl hbA hi zd_La_law_721 ?_
  refine zr_aload_n hG zd_La_law_722 rfl rfl ?_
  refine zr_iload hG zd_La_law_723 rfl ?_
  refine zr_iconst hG (v := (2 : Int32)) zd_La_law_725 (by decide) ?_
  refine zr_iadd hG zd_La_law_726 ?_
  obtain ⟨hi, h⟩ := h
  refine zr_sld hG hX hbl hbA hi zd_La_law_727 ?_
  refine zr_callV hG (zq_F1 hW) (As := [.int (xs (v4 + (1 : Int32)).toNatClampNeg), .int (xs (v4 + (2 : Int32)).toNatClampNeg)]) (rest := []) (zm_Mo_shape (zc_l x) w hAp c236 o236 h) 28 rfl rfl rfl zg_La_120 zdd_Mo_shape ⟨rfl, rfl, by decide, by decide⟩ ⟨by show _ ≤ 601024; omega, by show _ ≤ 7293000; omega⟩ rfl (Nat.le_of_ble_eq_true rfl) zd_La_law_728 rfl ?_
  rintro _ _ ⟨r237, z237, rfl, rfl, h⟩
  refine zr_istore hG [some (.ref b), some (.ref (w.2.1 0)), some (.ref (w.2.1 28)), some (.ref (w.2.1 40)), some (.int v4), some (.int r236), some (.int r237)] zd_La_law_731 (Nat.le_of_ble_eq_true rfl) rfl ?_
  refine zr_goto hG 736 zd_La_law_733 (by decide) ?_
  exact zr_mask [true, true, true, true, true, false, false] (zt_La_736 hL hj hk h)
def zw_La_c2 (ln : Nat → Nat) (L : Nat) (xs : Nat → Int32) (k63 : Int32 × Nat × zS × zS × (Nat → Int64) → Prop) (v4 : Int32) (j : Nat) (c g : zS) (o : Nat → Int64) : Prop := vp_in (v4 + (1 : Int32)) L ∧ (zw_La_h_route ln (xs (v4 + (1 : Int32)).toNatClampNeg) c o (fun r218 c218 o218 => vp_in (v4 + (1 : Int32)) L ∧ (zw_Mo_route (xs (v4 + (1 : Int32)).toNatClampNeg) g (fun r219 z219 => zw_La_736 ln L xs k63 v4 j c218 z219 o218))))
set_option maxHeartbeats 4000000 in
set_option maxRecDepth 100000 in
theorem zt_La_c2 {x : zC} {w : zW} {b L : Nat} {xs : Nat → Int32} {k0 n0 : Nat} (hL : zq_LW x w b L xs k0 n0) {k63 : Int32 × Nat × zS × zS × (Nat → Int64) → Prop} {j : Nat} (hj : j < 1000) (hk : ∀ q : Int32 × Nat × zS × zS × (Nat → Int64), k63 q → zq_W x w (k0 + q.2.1) (n0 + 6 * q.2.1) (q.2.2.1, q.2.2.2.1, q.2.2.2.2) 63 [some (.ref b), some (.ref (w.2.1 0)), some (.ref (w.2.1 28)), some (.ref (w.2.1 40)), some (.int q.1), none, none] []) {v4 : Int32} {c g : zS} {o : Nat → Int64} (h : zw_La_c2 w.2.2.1 L xs k63 v4 j c g o) : zq_W x w (k0 + j) (n0 + 6 * j) (c, g, o) 325 [some (.ref b), some (.ref (w.2.1 0)), some (.ref (w.2.1 28)), some (.ref (w.2.1 40)), some (.int v4), none, none] [] := by
  obtain ⟨hG, hW, hAp, hE, hA0, hX, hbl, hbA, hQ, hfl, hk0, hn0⟩ := id hL
  refine zr_aload_n hG zd_La_law_325 rfl rfl ?_
  refine zr_aload_n hG zd_La_law_326 rfl rfl ?_
  refine zr_iload hG zd_La_law_327 rfl ?_
  refine zr_iconst hG (v := (1 : Int32)) zd_La_law_329 (by decide) ?_
  refine zr_iadd hG zd_La_law_330 ?_
  obtain ⟨hi, h⟩ := h
  refine zr_sld hG hX hbl hbA hi zd_La_law_331 ?_
  refine zr_aload_n hG zd_La_law_332 rfl rfl ?_
  refine zr_callH hG (zq_F1 hW) hE hA0 (As := [.ref (w.2.1 0), .int (xs (v4 + (1 : Int32)).toNatClampNeg), .ref (w.2.1 40)]) (rest := []) (zm_La_h_route (zc_l x) hfl w hAp g h) rfl zgh_82 zdd_La_h_route ⟨rfl, rfl, by decide, by decide⟩ ⟨by show _ ≤ 601024; omega, by show _ ≤ 7293000; omega⟩ rfl (Nat.le_of_ble_eq_true rfl) zd_La_law_333 rfl ?_
  rintro _ _ ⟨r218, c218, o218, rfl, rfl, h⟩
  refine zr_istore hG [some (.ref b), some (.ref (w.2.1 0)), some (.ref (w.2.1 28)), some (.ref (w.2.1 40)), some (.int v4), some (.int r218), none] zd_La_law_336 (Nat.le_of_ble_eq_true rfl) rfl ?_
  refine zr_aload_n hG zd_La_law_338 rfl rfl ?_
  refine zr_aload_n hG zd_La_law_339 rfl rfl ?_
  refine zr_iload hG zd_La_law_340 rfl ?_
  refine zr_iconst hG (v := (1 : Int32)) zd_La_law_342 (by decide) ?_
  refine zr_iadd hG zd_La_law_343 ?_
  obtain ⟨hi, h⟩ := h
  refine zr_sld hG hX hbl hbA hi zd_La_law_344 ?_
  refine zr_callV hG (zq_F1 hW) (As := [.int (xs (v4 + (1 : Int32)).toNatClampNeg)]) (rest := []) (zm_Mo_route (zc_l x) w hAp c218 o218 h) 28 rfl rfl rfl zg_La_85 zdd_Mo_route ⟨rfl, rfl, by decide, by decide⟩ ⟨by show _ ≤ 601024; omega, by show _ ≤ 7293000; omega⟩ rfl (Nat.le_of_ble_eq_true rfl) zd_La_law_345 rfl ?_
  rintro _ _ ⟨r219, z219, rfl, rfl, h⟩
  refine zr_istore hG [some (.ref b), some (.ref (w.2.1 0)), some (.ref (w.2.1 28)), some (.ref (w.2.1 40)), some (.int v4), some (.int r218), some (.int r219)] zd_La_law_348 (Nat.le_of_ble_eq_true rfl) rfl ?_
  refine zr_goto hG 736 zd_La_law_350 (by decide) ?_
  exact zr_mask [true, true, true, true, true, false, false] (zt_La_736 hL hj hk h)
def zw_La_c3 (ln : Nat → Nat) (L : Nat) (xs : Nat → Int32) (k63 : Int32 × Nat × zS × zS × (Nat → Int64) → Prop) (v4 : Int32) (j : Nat) (c g : zS) (o : Nat → Int64) : Prop := vp_in (v4 + (1 : Int32)) L ∧ (zw_La_h_push ln (xs (v4 + (1 : Int32)).toNatClampNeg) c o (fun r220 c220 o220 => vp_in (v4 + (1 : Int32)) L ∧ (zw_Mo_push (xs (v4 + (1 : Int32)).toNatClampNeg) g (fun r221 z221 => zw_La_736 ln L xs k63 v4 j c220 z221 o220))))
set_option maxHeartbeats 4000000 in
set_option maxRecDepth 100000 in
theorem zt_La_c3 {x : zC} {w : zW} {b L : Nat} {xs : Nat → Int32} {k0 n0 : Nat} (hL : zq_LW x w b L xs k0 n0) {k63 : Int32 × Nat × zS × zS × (Nat → Int64) → Prop} {j : Nat} (hj : j < 1000) (hk : ∀ q : Int32 × Nat × zS × zS × (Nat → Int64), k63 q → zq_W x w (k0 + q.2.1) (n0 + 6 * q.2.1) (q.2.2.1, q.2.2.2.1, q.2.2.2.2) 63 [some (.ref b), some (.ref (w.2.1 0)), some (.ref (w.2.1 28)), some (.ref (w.2.1 40)), some (.int q.1), none, none] []) {v4 : Int32} {c g : zS} {o : Nat → Int64} (h : zw_La_c3 w.2.2.1 L xs k63 v4 j c g o) : zq_W x w (k0 + j) (n0 + 6 * j) (c, g, o) 353 [some (.ref b), some (.ref (w.2.1 0)), some (.ref (w.2.1 28)), some (.ref (w.2.1 40)), some (.int v4), none, none] [] := by
  obtain ⟨hG, hW, hAp, hE, hA0, hX, hbl, hbA, hQ, hfl, hk0, hn0⟩ := id hL
  refine zr_aload_n hG zd_La_law_353 rfl rfl ?_
  refine zr_aload_n hG zd_La_law_354 rfl rfl ?_
  refine zr_iload hG zd_La_law_355 rfl ?_
  refine zr_iconst hG (v := (1 : Int32)) zd_La_law_357 (by decide) ?_
  refine zr_iadd hG zd_La_law_358 ?_
  obtain ⟨hi, h⟩ := h
  refine zr_sld hG hX hbl hbA hi zd_La_law_359 ?_
  refine zr_aload_n hG zd_La_law_360 rfl rfl ?_
  refine zr_callH hG (zq_F1 hW) hE hA0 (As := [.ref (w.2.1 0), .int (xs (v4 + (1 : Int32)).toNatClampNeg), .ref (w.2.1 40)]) (rest := []) (zm_La_h_push (zc_l x) hfl w hAp g h) rfl zgh_86 zdd_La_h_push ⟨rfl, rfl, by decide, by decide⟩ ⟨by show _ ≤ 601024; omega, by show _ ≤ 7293000; omega⟩ rfl (Nat.le_of_ble_eq_true rfl) zd_La_law_361 rfl ?_
  rintro _ _ ⟨r220, c220, o220, rfl, rfl, h⟩
  refine zr_istore hG [some (.ref b), some (.ref (w.2.1 0)), some (.ref (w.2.1 28)), some (.ref (w.2.1 40)), some (.int v4), some (.int r220), none] zd_La_law_364 (Nat.le_of_ble_eq_true rfl) rfl ?_
  refine zr_aload_n hG zd_La_law_366 rfl rfl ?_
  refine zr_aload_n hG zd_La_law_367 rfl rfl ?_
  refine zr_iload hG zd_La_law_368 rfl ?_
  refine zr_iconst hG (v := (1 : Int32)) zd_La_law_370 (by decide) ?_
  refine zr_iadd hG zd_La_law_371 ?_
  obtain ⟨hi, h⟩ := h
  refine zr_sld hG hX hbl hbA hi zd_La_law_372 ?_
  refine zr_callV hG (zq_F1 hW) (As := [.int (xs (v4 + (1 : Int32)).toNatClampNeg)]) (rest := []) (zm_Mo_push (zc_l x) w hAp c220 o220 h) 28 rfl rfl rfl zg_La_88 zdd_Mo_push ⟨rfl, rfl, by decide, by decide⟩ ⟨by show _ ≤ 601024; omega, by show _ ≤ 7293000; omega⟩ rfl (Nat.le_of_ble_eq_true rfl) zd_La_law_373 rfl ?_
  rintro _ _ ⟨r221, z221, rfl, rfl, h⟩
  refine zr_istore hG [some (.ref b), some (.ref (w.2.1 0)), some (.ref (w.2.1 28)), some (.ref (w.2.1 40)), some (.int v4), some (.int r220), some (.int r221)] zd_La_law_376 (Nat.le_of_ble_eq_true rfl) rfl ?_
  refine zr_goto hG 736 zd_La_law_378 (by decide) ?_
  exact zr_mask [true, true, true, true, true, false, false] (zt_La_736 hL hj hk h)
def zw_La_c5 (ln : Nat → Nat) (L : Nat) (xs : Nat → Int32) (k63 : Int32 × Nat × zS × zS × (Nat → Int64) → Prop) (v4 : Int32) (j : Nat) (c g : zS) (o : Nat → Int64) : Prop := vp_in (v4 + (1 : Int32)) L ∧ (zw_La_h_rip ln (xs (v4 + (1 : Int32)).toNatClampNeg) c o (fun r222 c222 o222 => vp_in (v4 + (1 : Int32)) L ∧ (zw_Mo_rip (xs (v4 + (1 : Int32)).toNatClampNeg) g (fun z223 => zw_La_736 ln L xs k63 v4 j c222 z223 o222))))
set_option maxHeartbeats 4000000 in
set_option maxRecDepth 100000 in
theorem zt_La_c5 {x : zC} {w : zW} {b L : Nat} {xs : Nat → Int32} {k0 n0 : Nat} (hL : zq_LW x w b L xs k0 n0) {k63 : Int32 × Nat × zS × zS × (Nat → Int64) → Prop} {j : Nat} (hj : j < 1000) (hk : ∀ q : Int32 × Nat × zS × zS × (Nat → Int64), k63 q → zq_W x w (k0 + q.2.1) (n0 + 6 * q.2.1) (q.2.2.1, q.2.2.2.1, q.2.2.2.2) 63 [some (.ref b), some (.ref (w.2.1 0)), some (.ref (w.2.1 28)), some (.ref (w.2.1 40)), some (.int q.1), none, none] []) {v4 : Int32} {c g : zS} {o : Nat → Int64} (h : zw_La_c5 w.2.2.1 L xs k63 v4 j c g o) : zq_W x w (k0 + j) (n0 + 6 * j) (c, g, o) 437 [some (.ref b), some (.ref (w.2.1 0)), some (.ref (w.2.1 28)), some (.ref (w.2.1 40)), some (.int v4), none, none] [] := by
  obtain ⟨hG, hW, hAp, hE, hA0, hX, hbl, hbA, hQ, hfl, hk0, hn0⟩ := id hL
  refine zr_aload_n hG zd_La_law_437 rfl rfl ?_
  refine zr_aload_n hG zd_La_law_438 rfl rfl ?_
  refine zr_iload hG zd_La_law_439 rfl ?_
  refine zr_iconst hG (v := (1 : Int32)) zd_La_law_441 (by decide) ?_
  refine zr_iadd hG zd_La_law_442 ?_
  obtain ⟨hi, h⟩ := h
  refine zr_sld hG hX hbl hbA hi zd_La_law_443 ?_
  refine zr_callH hG (zq_F1 hW) hE hA0 (As := [.ref (w.2.1 0), .int (xs (v4 + (1 : Int32)).toNatClampNeg)]) (rest := []) (zm_La_h_rip (zc_l x) hfl w hAp g h) rfl zgh_93 zdd_La_h_rip ⟨rfl, rfl, by decide, by decide⟩ ⟨by show _ ≤ 601024; omega, by show _ ≤ 7293000; omega⟩ rfl (Nat.le_of_ble_eq_true rfl) zd_La_law_444 rfl ?_
  rintro _ _ ⟨r222, c222, o222, rfl, rfl, h⟩
  refine zr_istore hG [some (.ref b), some (.ref (w.2.1 0)), some (.ref (w.2.1 28)), some (.ref (w.2.1 40)), some (.int v4), some (.int r222), none] zd_La_law_447 (Nat.le_of_ble_eq_true rfl) rfl ?_
  refine zr_aload_n hG zd_La_law_449 rfl rfl ?_
  refine zr_aload_n hG zd_La_law_450 rfl rfl ?_
  refine zr_iload hG zd_La_law_451 rfl ?_
  refine zr_iconst hG (v := (1 : Int32)) zd_La_law_453 (by decide) ?_
  refine zr_iadd hG zd_La_law_454 ?_
  obtain ⟨hi, h⟩ := h
  refine zr_sld hG hX hbl hbA hi zd_La_law_455 ?_
  refine zr_callV hG (zq_F1 hW) (As := [.int (xs (v4 + (1 : Int32)).toNatClampNeg)]) (rest := []) (zm_Mo_rip (zc_l x) w hAp c222 o222 h) 28 rfl rfl rfl zg_La_96 zdd_Mo_rip ⟨rfl, rfl, by decide, by decide⟩ ⟨by show _ ≤ 601024; omega, by show _ ≤ 7293000; omega⟩ rfl (Nat.le_of_ble_eq_true rfl) zd_La_law_456 rfl ?_
  rintro _ _ ⟨z223, rfl, rfl, h⟩
  refine zr_goto hG 736 zd_La_law_459 (by decide) ?_
  exact zr_mask [true, true, true, true, true, false, false] (zt_La_736 hL hj hk h)
def zw_La_c6 (ln : Nat → Nat) (L : Nat) (xs : Nat → Int32) (k63 : Int32 × Nat × zS × zS × (Nat → Int64) → Prop) (v4 : Int32) (j : Nat) (c g : zS) (o : Nat → Int64) : Prop := vp_in (v4 + (1 : Int32)) L ∧ vp_in (v4 + (2 : Int32)) L ∧ vp_in (v4 + (3 : Int32)) L ∧ vp_in (v4 + (4 : Int32)) L ∧ (zw_La_h_paint ln (xs (v4 + (1 : Int32)).toNatClampNeg) (xs (v4 + (2 : Int32)).toNatClampNeg) (xs (v4 + (3 : Int32)).toNatClampNeg) (xs (v4 + (4 : Int32)).toNatClampNeg) c o (fun r224 c224 o224 => vp_in (v4 + (1 : Int32)) L ∧ vp_in (v4 + (2 : Int32)) L ∧ vp_in (v4 + (3 : Int32)) L ∧ vp_in (v4 + (4 : Int32)) L ∧ (zw_Mo_paint (xs (v4 + (1 : Int32)).toNatClampNeg) (xs (v4 + (2 : Int32)).toNatClampNeg) (xs (v4 + (3 : Int32)).toNatClampNeg) (xs (v4 + (4 : Int32)).toNatClampNeg) g (fun z225 => zw_La_736 ln L xs k63 v4 j c224 z225 o224))))
set_option maxHeartbeats 4000000 in
set_option maxRecDepth 100000 in
theorem zt_La_c6 {x : zC} {w : zW} {b L : Nat} {xs : Nat → Int32} {k0 n0 : Nat} (hL : zq_LW x w b L xs k0 n0) {k63 : Int32 × Nat × zS × zS × (Nat → Int64) → Prop} {j : Nat} (hj : j < 1000) (hk : ∀ q : Int32 × Nat × zS × zS × (Nat → Int64), k63 q → zq_W x w (k0 + q.2.1) (n0 + 6 * q.2.1) (q.2.2.1, q.2.2.2.1, q.2.2.2.2) 63 [some (.ref b), some (.ref (w.2.1 0)), some (.ref (w.2.1 28)), some (.ref (w.2.1 40)), some (.int q.1), none, none] []) {v4 : Int32} {c g : zS} {o : Nat → Int64} (h : zw_La_c6 w.2.2.1 L xs k63 v4 j c g o) : zq_W x w (k0 + j) (n0 + 6 * j) (c, g, o) 462 [some (.ref b), some (.ref (w.2.1 0)), some (.ref (w.2.1 28)), some (.ref (w.2.1 40)), some (.int v4), none, none] [] := by
  obtain ⟨hG, hW, hAp, hE, hA0, hX, hbl, hbA, hQ, hfl, hk0, hn0⟩ := id hL
  refine zr_aload_n hG zd_La_law_462 rfl rfl ?_
  refine zr_aload_n hG zd_La_law_463 rfl rfl ?_
  refine zr_iload hG zd_La_law_464 rfl ?_
  refine zr_iconst hG (v := (1 : Int32)) zd_La_law_466 (by decide) ?_
  refine zr_iadd hG zd_La_law_467 ?_
  obtain ⟨hi, h⟩ := h
  refine zr_sld hG hX hbl hbA hi zd_La_law_468 ?_
  refine zr_aload_n hG zd_La_law_469 rfl rfl ?_
  refine zr_iload hG zd_La_law_470 rfl ?_
  refine zr_iconst hG (v := (2 : Int32)) zd_La_law_472 (by decide) ?_
  refine zr_iadd hG zd_La_law_473 ?_
  obtain ⟨hi, h⟩ := h
  refine zr_sld hG hX hbl hbA hi zd_La_law_474 ?_
  refine zr_aload_n hG zd_La_law_475 rfl rfl ?_
  refine zr_iload hG zd_La_law_476 rfl ?_
  refine zr_iconst hG (v := (3 : Int32)) zd_La_law_478 (by decide) ?_
  refine zr_iadd hG zd_La_law_479 ?_
  obtain ⟨hi, h⟩ := h
  refine zr_sld hG hX hbl hbA hi zd_La_law_480 ?_
  refine zr_aload_n hG zd_La_law_481 rfl rfl ?_
  refine zr_iload hG zd_La_law_482 rfl ?_
  refine zr_iconst hG (v := (4 : Int32)) zd_La_law_484 (by decide) ?_
  refine zr_iadd hG zd_La_law_485 ?_
  obtain ⟨hi, h⟩ := h
  refine zr_sld hG hX hbl hbA hi zd_La_law_486 ?_
  refine zr_callH hG (zq_F1 hW) hE hA0 (As := [.ref (w.2.1 0), .int (xs (v4 + (1 : Int32)).toNatClampNeg), .int (xs (v4 + (2 : Int32)).toNatClampNeg), .int (xs (v4 + (3 : Int32)).toNatClampNeg), .int (xs (v4 + (4 : Int32)).toNatClampNeg)]) (rest := []) (zm_La_h_paint (zc_l x) hfl w hAp g h) rfl zgh_97 zdd_La_h_paint ⟨rfl, rfl, by decide, by decide⟩ ⟨by show _ ≤ 601024; omega, by show _ ≤ 7293000; omega⟩ rfl (Nat.le_of_ble_eq_true rfl) zd_La_law_487 rfl ?_
  rintro _ _ ⟨r224, c224, o224, rfl, rfl, h⟩
  refine zr_istore hG [some (.ref b), some (.ref (w.2.1 0)), some (.ref (w.2.1 28)), some (.ref (w.2.1 40)), some (.int v4), some (.int r224), none] zd_La_law_490 (Nat.le_of_ble_eq_true rfl) rfl ?_
  refine zr_aload_n hG zd_La_law_492 rfl rfl ?_
  refine zr_aload_n hG zd_La_law_493 rfl rfl ?_
  refine zr_iload hG zd_La_law_494 rfl ?_
  refine zr_iconst hG (v := (1 : Int32)) zd_La_law_496 (by decide) ?_
  refine zr_iadd hG zd_La_law_497 ?_
  obtain ⟨hi, h⟩ := h
  refine zr_sld hG hX hbl hbA hi zd_La_law_498 ?_
  refine zr_aload_n hG zd_La_law_499 rfl rfl ?_
  refine zr_iload hG zd_La_law_500 rfl ?_
  refine zr_iconst hG (v := (2 : Int32)) zd_La_law_502 (by decide) ?_
  refine zr_iadd hG zd_La_law_503 ?_
  obtain ⟨hi, h⟩ := h
  refine zr_sld hG hX hbl hbA hi zd_La_law_504 ?_
  refine zr_aload_n hG zd_La_law_505 rfl rfl ?_
  refine zr_iload hG zd_La_law_506 rfl ?_
  refine zr_iconst hG (v := (3 : Int32)) zd_La_law_508 (by decide) ?_
  refine zr_iadd hG zd_La_law_509 ?_
  obtain ⟨hi, h⟩ := h
  refine zr_sld hG hX hbl hbA hi zd_La_law_510 ?_
  refine zr_aload_n hG zd_La_law_511 rfl rfl ?_
  refine zr_iload hG zd_La_law_512 rfl ?_
  refine zr_iconst hG (v := (4 : Int32)) zd_La_law_514 (by decide) ?_
  refine zr_iadd hG zd_La_law_515 ?_
  obtain ⟨hi, h⟩ := h
  refine zr_sld hG hX hbl hbA hi zd_La_law_516 ?_
  refine zr_callV hG (zq_F1 hW) (As := [.int (xs (v4 + (1 : Int32)).toNatClampNeg), .int (xs (v4 + (2 : Int32)).toNatClampNeg), .int (xs (v4 + (3 : Int32)).toNatClampNeg), .int (xs (v4 + (4 : Int32)).toNatClampNeg)]) (rest := []) (zm_Mo_paint (zc_l x) w hAp c224 o224 h) 28 rfl rfl rfl zg_La_100 zdd_Mo_paint ⟨rfl, rfl, by decide, by decide⟩ ⟨by show _ ≤ 601024; omega, by show _ ≤ 7293000; omega⟩ rfl (Nat.le_of_ble_eq_true rfl) zd_La_law_517 rfl ?_
  rintro _ _ ⟨z225, rfl, rfl, h⟩
  refine zr_goto hG 736 zd_La_law_520 (by decide) ?_
  exact zr_mask [true, true, true, true, true, false, false] (zt_La_736 hL hj hk h)
def zw_La_c7 (ln : Nat → Nat) (L : Nat) (xs : Nat → Int32) (k63 : Int32 × Nat × zS × zS × (Nat → Int64) → Prop) (v4 : Int32) (j : Nat) (c g : zS) (o : Nat → Int64) : Prop := vp_in (v4 + (1 : Int32)) L ∧ vp_in (v4 + (2 : Int32)) L ∧ (zw_La_h_stitch ln (xs (v4 + (1 : Int32)).toNatClampNeg) (xs (v4 + (2 : Int32)).toNatClampNeg) c o (fun r226 c226 o226 => vp_in (v4 + (1 : Int32)) L ∧ vp_in (v4 + (2 : Int32)) L ∧ (zw_Mo_stitch (xs (v4 + (1 : Int32)).toNatClampNeg) (xs (v4 + (2 : Int32)).toNatClampNeg) g (fun r227 z227 => zw_La_736 ln L xs k63 v4 j c226 z227 o226))))
set_option maxHeartbeats 4000000 in
set_option maxRecDepth 100000 in
theorem zt_La_c7 {x : zC} {w : zW} {b L : Nat} {xs : Nat → Int32} {k0 n0 : Nat} (hL : zq_LW x w b L xs k0 n0) {k63 : Int32 × Nat × zS × zS × (Nat → Int64) → Prop} {j : Nat} (hj : j < 1000) (hk : ∀ q : Int32 × Nat × zS × zS × (Nat → Int64), k63 q → zq_W x w (k0 + q.2.1) (n0 + 6 * q.2.1) (q.2.2.1, q.2.2.2.1, q.2.2.2.2) 63 [some (.ref b), some (.ref (w.2.1 0)), some (.ref (w.2.1 28)), some (.ref (w.2.1 40)), some (.int q.1), none, none] []) {v4 : Int32} {c g : zS} {o : Nat → Int64} (h : zw_La_c7 w.2.2.1 L xs k63 v4 j c g o) : zq_W x w (k0 + j) (n0 + 6 * j) (c, g, o) 523 [some (.ref b), some (.ref (w.2.1 0)), some (.ref (w.2.1 28)), some (.ref (w.2.1 40)), some (.int v4), none, none] [] := by
  obtain ⟨hG, hW, hAp, hE, hA0, hX, hbl, hbA, hQ, hfl, hk0, hn0⟩ := id hL
  refine zr_aload_n hG zd_La_law_523 rfl rfl ?_
  refine zr_aload_n hG zd_La_law_524 rfl rfl ?_
  refine zr_iload hG zd_La_law_525 rfl ?_
  refine zr_iconst hG (v := (1 : Int32)) zd_La_law_527 (by decide) ?_
  refine zr_iadd hG zd_La_law_528 ?_
  obtain ⟨hi, h⟩ := h
  refine zr_sld hG hX hbl hbA hi zd_La_law_529 ?_
  refine zr_aload_n hG zd_La_law_530 rfl rfl ?_
  refine zr_iload hG zd_La_law_531 rfl ?_
  refine zr_iconst hG (v := (2 : Int32)) zd_La_law_533 (by decide) ?_
  refine zr_iadd hG zd_La_law_534 ?_
  obtain ⟨hi, h⟩ := h
  refine zr_sld hG hX hbl hbA hi zd_La_law_535 ?_
  refine zr_aload_n hG zd_La_law_536 rfl rfl ?_
  refine zr_callH hG (zq_F1 hW) hE hA0 (As := [.ref (w.2.1 0), .int (xs (v4 + (1 : Int32)).toNatClampNeg), .int (xs (v4 + (2 : Int32)).toNatClampNeg), .ref (w.2.1 40)]) (rest := []) (zm_La_h_stitch (zc_l x) hfl w hAp g h) rfl zgh_101 zdd_La_h_stitch ⟨rfl, rfl, by decide, by decide⟩ ⟨by show _ ≤ 601024; omega, by show _ ≤ 7293000; omega⟩ rfl (Nat.le_of_ble_eq_true rfl) zd_La_law_537 rfl ?_
  rintro _ _ ⟨r226, c226, o226, rfl, rfl, h⟩
  refine zr_istore hG [some (.ref b), some (.ref (w.2.1 0)), some (.ref (w.2.1 28)), some (.ref (w.2.1 40)), some (.int v4), some (.int r226), none] zd_La_law_540 (Nat.le_of_ble_eq_true rfl) rfl ?_
  refine zr_aload_n hG zd_La_law_542 rfl rfl ?_
  refine zr_aload_n hG zd_La_law_543 rfl rfl ?_
  refine zr_iload hG zd_La_law_544 rfl ?_
  refine zr_iconst hG (v := (1 : Int32)) zd_La_law_546 (by decide) ?_
  refine zr_iadd hG zd_La_law_547 ?_
  obtain ⟨hi, h⟩ := h
  refine zr_sld hG hX hbl hbA hi zd_La_law_548 ?_
  refine zr_aload_n hG zd_La_law_549 rfl rfl ?_
  refine zr_iload hG zd_La_law_550 rfl ?_
  refine zr_iconst hG (v := (2 : Int32)) zd_La_law_552 (by decide) ?_
  refine zr_iadd hG zd_La_law_553 ?_
  obtain ⟨hi, h⟩ := h
  refine zr_sld hG hX hbl hbA hi zd_La_law_554 ?_
  refine zr_callV hG (zq_F1 hW) (As := [.int (xs (v4 + (1 : Int32)).toNatClampNeg), .int (xs (v4 + (2 : Int32)).toNatClampNeg)]) (rest := []) (zm_Mo_stitch (zc_l x) w hAp c226 o226 h) 28 rfl rfl rfl zg_La_104 zdd_Mo_stitch ⟨rfl, rfl, by decide, by decide⟩ ⟨by show _ ≤ 601024; omega, by show _ ≤ 7293000; omega⟩ rfl (Nat.le_of_ble_eq_true rfl) zd_La_law_555 rfl ?_
  rintro _ _ ⟨r227, z227, rfl, rfl, h⟩
  refine zr_istore hG [some (.ref b), some (.ref (w.2.1 0)), some (.ref (w.2.1 28)), some (.ref (w.2.1 40)), some (.int v4), some (.int r226), some (.int r227)] zd_La_law_558 (Nat.le_of_ble_eq_true rfl) rfl ?_
  refine zr_goto hG 736 zd_La_law_560 (by decide) ?_
  exact zr_mask [true, true, true, true, true, false, false] (zt_La_736 hL hj hk h)
def zw_La_c8 (ln : Nat → Nat) (L : Nat) (xs : Nat → Int32) (k63 : Int32 × Nat × zS × zS × (Nat → Int64) → Prop) (v4 : Int32) (j : Nat) (c g : zS) (o : Nat → Int64) : Prop := vp_in (v4 + (1 : Int32)) L ∧ vp_in (v4 + (2 : Int32)) L ∧ vp_in (v4 + (3 : Int32)) L ∧ (zw_La_h_cell ln (xs (v4 + (1 : Int32)).toNatClampNeg) (xs (v4 + (2 : Int32)).toNatClampNeg) (xs (v4 + (3 : Int32)).toNatClampNeg) c o (fun r228 c228 o228 => vp_in (v4 + (1 : Int32)) L ∧ vp_in (v4 + (2 : Int32)) L ∧ vp_in (v4 + (3 : Int32)) L ∧ (zw_Mo_cell (xs (v4 + (1 : Int32)).toNatClampNeg) (xs (v4 + (2 : Int32)).toNatClampNeg) (xs (v4 + (3 : Int32)).toNatClampNeg) g (fun r229 z229 => zw_La_736 ln L xs k63 v4 j c228 z229 o228))))
set_option maxHeartbeats 4000000 in
set_option maxRecDepth 100000 in
theorem zt_La_c8 {x : zC} {w : zW} {b L : Nat} {xs : Nat → Int32} {k0 n0 : Nat} (hL : zq_LW x w b L xs k0 n0) {k63 : Int32 × Nat × zS × zS × (Nat → Int64) → Prop} {j : Nat} (hj : j < 1000) (hk : ∀ q : Int32 × Nat × zS × zS × (Nat → Int64), k63 q → zq_W x w (k0 + q.2.1) (n0 + 6 * q.2.1) (q.2.2.1, q.2.2.2.1, q.2.2.2.2) 63 [some (.ref b), some (.ref (w.2.1 0)), some (.ref (w.2.1 28)), some (.ref (w.2.1 40)), some (.int q.1), none, none] []) {v4 : Int32} {c g : zS} {o : Nat → Int64} (h : zw_La_c8 w.2.2.1 L xs k63 v4 j c g o) : zq_W x w (k0 + j) (n0 + 6 * j) (c, g, o) 563 [some (.ref b), some (.ref (w.2.1 0)), some (.ref (w.2.1 28)), some (.ref (w.2.1 40)), some (.int v4), none, none] [] := by
  obtain ⟨hG, hW, hAp, hE, hA0, hX, hbl, hbA, hQ, hfl, hk0, hn0⟩ := id hL
  refine zr_aload_n hG zd_La_law_563 rfl rfl ?_
  refine zr_aload_n hG zd_La_law_564 rfl rfl ?_
  refine zr_iload hG zd_La_law_565 rfl ?_
  refine zr_iconst hG (v := (1 : Int32)) zd_La_law_567 (by decide) ?_
  refine zr_iadd hG zd_La_law_568 ?_
  obtain ⟨hi, h⟩ := h
  refine zr_sld hG hX hbl hbA hi zd_La_law_569 ?_
  refine zr_aload_n hG zd_La_law_570 rfl rfl ?_
  refine zr_iload hG zd_La_law_571 rfl ?_
  refine zr_iconst hG (v := (2 : Int32)) zd_La_law_573 (by decide) ?_
  refine zr_iadd hG zd_La_law_574 ?_
  obtain ⟨hi, h⟩ := h
  refine zr_sld hG hX hbl hbA hi zd_La_law_575 ?_
  refine zr_aload_n hG zd_La_law_576 rfl rfl ?_
  refine zr_iload hG zd_La_law_577 rfl ?_
  refine zr_iconst hG (v := (3 : Int32)) zd_La_law_579 (by decide) ?_
  refine zr_iadd hG zd_La_law_580 ?_
  obtain ⟨hi, h⟩ := h
  refine zr_sld hG hX hbl hbA hi zd_La_law_581 ?_
  refine zr_aload_n hG zd_La_law_582 rfl rfl ?_
  refine zr_callH hG (zq_F1 hW) hE hA0 (As := [.ref (w.2.1 0), .int (xs (v4 + (1 : Int32)).toNatClampNeg), .int (xs (v4 + (2 : Int32)).toNatClampNeg), .int (xs (v4 + (3 : Int32)).toNatClampNeg), .ref (w.2.1 40)]) (rest := []) (zm_La_h_cell (zc_l x) hfl w hAp g h) rfl zgh_105 zdd_La_h_cell ⟨rfl, rfl, by decide, by decide⟩ ⟨by show _ ≤ 601024; omega, by show _ ≤ 7293000; omega⟩ rfl (Nat.le_of_ble_eq_true rfl) zd_La_law_583 rfl ?_
  rintro _ _ ⟨r228, c228, o228, rfl, rfl, h⟩
  refine zr_istore hG [some (.ref b), some (.ref (w.2.1 0)), some (.ref (w.2.1 28)), some (.ref (w.2.1 40)), some (.int v4), some (.int r228), none] zd_La_law_586 (Nat.le_of_ble_eq_true rfl) rfl ?_
  refine zr_aload_n hG zd_La_law_588 rfl rfl ?_
  refine zr_aload_n hG zd_La_law_589 rfl rfl ?_
  refine zr_iload hG zd_La_law_590 rfl ?_
  refine zr_iconst hG (v := (1 : Int32)) zd_La_law_592 (by decide) ?_
  refine zr_iadd hG zd_La_law_593 ?_
  obtain ⟨hi, h⟩ := h
  refine zr_sld hG hX hbl hbA hi zd_La_law_594 ?_
  refine zr_aload_n hG zd_La_law_595 rfl rfl ?_
  refine zr_iload hG zd_La_law_596 rfl ?_
  refine zr_iconst hG (v := (2 : Int32)) zd_La_law_598 (by decide) ?_
  refine zr_iadd hG zd_La_law_599 ?_
  obtain ⟨hi, h⟩ := h
  refine zr_sld hG hX hbl hbA hi zd_La_law_600 ?_
  refine zr_aload_n hG zd_La_law_601 rfl rfl ?_
  refine zr_iload hG zd_La_law_602 rfl ?_
  refine zr_iconst hG (v := (3 : Int32)) zd_La_law_604 (by decide) ?_
  refine zr_iadd hG zd_La_law_605 ?_
  obtain ⟨hi, h⟩ := h
  refine zr_sld hG hX hbl hbA hi zd_La_law_606 ?_
  refine zr_callV hG (zq_F1 hW) (As := [.int (xs (v4 + (1 : Int32)).toNatClampNeg), .int (xs (v4 + (2 : Int32)).toNatClampNeg), .int (xs (v4 + (3 : Int32)).toNatClampNeg)]) (rest := []) (zm_Mo_cell (zc_l x) w hAp c228 o228 h) 28 rfl rfl rfl zg_La_107 zdd_Mo_cell ⟨rfl, rfl, by decide, by decide⟩ ⟨by show _ ≤ 601024; omega, by show _ ≤ 7293000; omega⟩ rfl (Nat.le_of_ble_eq_true rfl) zd_La_law_607 rfl ?_
  rintro _ _ ⟨r229, z229, rfl, rfl, h⟩
  refine zr_istore hG [some (.ref b), some (.ref (w.2.1 0)), some (.ref (w.2.1 28)), some (.ref (w.2.1 40)), some (.int v4), some (.int r228), some (.int r229)] zd_La_law_610 (Nat.le_of_ble_eq_true rfl) rfl ?_
  refine zr_goto hG 736 zd_La_law_612 (by decide) ?_
  exact zr_mask [true, true, true, true, true, false, false] (zt_La_736 hL hj hk h)
def zw_La_c9 (ln : Nat → Nat) (L : Nat) (xs : Nat → Int32) (k63 : Int32 × Nat × zS × zS × (Nat → Int64) → Prop) (v4 : Int32) (j : Nat) (c g : zS) (o : Nat → Int64) : Prop := vp_in (v4 + (1 : Int32)) L ∧ vp_in (v4 + (2 : Int32)) L ∧ (zw_La_h_via ln (xs (v4 + (1 : Int32)).toNatClampNeg) (xs (v4 + (2 : Int32)).toNatClampNeg) c o (fun r230 c230 o230 => vp_in (v4 + (1 : Int32)) L ∧ vp_in (v4 + (2 : Int32)) L ∧ (zw_Mo_via (xs (v4 + (1 : Int32)).toNatClampNeg) (xs (v4 + (2 : Int32)).toNatClampNeg) g (fun r231 z231 => zw_La_736 ln L xs k63 v4 j c230 z231 o230))))
set_option maxHeartbeats 4000000 in
set_option maxRecDepth 100000 in
theorem zt_La_c9 {x : zC} {w : zW} {b L : Nat} {xs : Nat → Int32} {k0 n0 : Nat} (hL : zq_LW x w b L xs k0 n0) {k63 : Int32 × Nat × zS × zS × (Nat → Int64) → Prop} {j : Nat} (hj : j < 1000) (hk : ∀ q : Int32 × Nat × zS × zS × (Nat → Int64), k63 q → zq_W x w (k0 + q.2.1) (n0 + 6 * q.2.1) (q.2.2.1, q.2.2.2.1, q.2.2.2.2) 63 [some (.ref b), some (.ref (w.2.1 0)), some (.ref (w.2.1 28)), some (.ref (w.2.1 40)), some (.int q.1), none, none] []) {v4 : Int32} {c g : zS} {o : Nat → Int64} (h : zw_La_c9 w.2.2.1 L xs k63 v4 j c g o) : zq_W x w (k0 + j) (n0 + 6 * j) (c, g, o) 615 [some (.ref b), some (.ref (w.2.1 0)), some (.ref (w.2.1 28)), some (.ref (w.2.1 40)), some (.int v4), none, none] [] := by
  obtain ⟨hG, hW, hAp, hE, hA0, hX, hbl, hbA, hQ, hfl, hk0, hn0⟩ := id hL
  refine zr_aload_n hG zd_La_law_615 rfl rfl ?_
  refine zr_aload_n hG zd_La_law_616 rfl rfl ?_
  refine zr_iload hG zd_La_law_617 rfl ?_
  refine zr_iconst hG (v := (1 : Int32)) zd_La_law_619 (by decide) ?_
  refine zr_iadd hG zd_La_law_620 ?_
  obtain ⟨hi, h⟩ := h
  refine zr_sld hG hX hbl hbA hi zd_La_law_621 ?_
  refine zr_aload_n hG zd_La_law_622 rfl rfl ?_
  refine zr_iload hG zd_La_law_623 rfl ?_
  refine zr_iconst hG (v := (2 : Int32)) zd_La_law_625 (by decide) ?_
  refine zr_iadd hG zd_La_law_626 ?_
  obtain ⟨hi, h⟩ := h
  refine zr_sld hG hX hbl hbA hi zd_La_law_627 ?_
  refine zr_aload_n hG zd_La_law_628 rfl rfl ?_
  refine zr_callH hG (zq_F1 hW) hE hA0 (As := [.ref (w.2.1 0), .int (xs (v4 + (1 : Int32)).toNatClampNeg), .int (xs (v4 + (2 : Int32)).toNatClampNeg), .ref (w.2.1 40)]) (rest := []) (zm_La_h_via (zc_l x) hfl w hAp g h) rfl zgh_108 zdd_La_h_via ⟨rfl, rfl, by decide, by decide⟩ ⟨by show _ ≤ 601024; omega, by show _ ≤ 7293000; omega⟩ rfl (Nat.le_of_ble_eq_true rfl) zd_La_law_629 rfl ?_
  rintro _ _ ⟨r230, c230, o230, rfl, rfl, h⟩
  refine zr_istore hG [some (.ref b), some (.ref (w.2.1 0)), some (.ref (w.2.1 28)), some (.ref (w.2.1 40)), some (.int v4), some (.int r230), none] zd_La_law_632 (Nat.le_of_ble_eq_true rfl) rfl ?_
  refine zr_aload_n hG zd_La_law_634 rfl rfl ?_
  refine zr_aload_n hG zd_La_law_635 rfl rfl ?_
  refine zr_iload hG zd_La_law_636 rfl ?_
  refine zr_iconst hG (v := (1 : Int32)) zd_La_law_638 (by decide) ?_
  refine zr_iadd hG zd_La_law_639 ?_
  obtain ⟨hi, h⟩ := h
  refine zr_sld hG hX hbl hbA hi zd_La_law_640 ?_
  refine zr_aload_n hG zd_La_law_641 rfl rfl ?_
  refine zr_iload hG zd_La_law_642 rfl ?_
  refine zr_iconst hG (v := (2 : Int32)) zd_La_law_644 (by decide) ?_
  refine zr_iadd hG zd_La_law_645 ?_
  obtain ⟨hi, h⟩ := h
  refine zr_sld hG hX hbl hbA hi zd_La_law_646 ?_
  refine zr_callV hG (zq_F1 hW) (As := [.int (xs (v4 + (1 : Int32)).toNatClampNeg), .int (xs (v4 + (2 : Int32)).toNatClampNeg)]) (rest := []) (zm_Mo_via (zc_l x) w hAp c230 o230 h) 28 rfl rfl rfl zg_La_110 zdd_Mo_via ⟨rfl, rfl, by decide, by decide⟩ ⟨by show _ ≤ 601024; omega, by show _ ≤ 7293000; omega⟩ rfl (Nat.le_of_ble_eq_true rfl) zd_La_law_647 rfl ?_
  rintro _ _ ⟨r231, z231, rfl, rfl, h⟩
  refine zr_istore hG [some (.ref b), some (.ref (w.2.1 0)), some (.ref (w.2.1 28)), some (.ref (w.2.1 40)), some (.int v4), some (.int r230), some (.int r231)] zd_La_law_650 (Nat.le_of_ble_eq_true rfl) rfl ?_
  refine zr_goto hG 736 zd_La_law_652 (by decide) ?_
  exact zr_mask [true, true, true, true, true, false, false] (zt_La_736 hL hj hk h)
def zw_La_226 (ln : Nat → Nat) (L : Nat) (xs : Nat → Int32) (k63 : Int32 × Nat × zS × zS × (Nat → Int64) → Prop) (v4 : Int32) (u0 : Int64) (u1 : Int64) (j : Nat) (c g : zS) (o : Nat → Int64) : Prop := (((lg_cmp u1 u0) = 0 → zw_La_232 ln L xs k63 v4 j c g o) ∧ (¬ (lg_cmp u1 u0) = 0 → False))
set_option maxHeartbeats 4000000 in
set_option maxRecDepth 100000 in
theorem zt_La_226 {x : zC} {w : zW} {b L : Nat} {xs : Nat → Int32} {k0 n0 : Nat} (hL : zq_LW x w b L xs k0 n0) {k63 : Int32 × Nat × zS × zS × (Nat → Int64) → Prop} {j : Nat} (hj : j < 1000) (hk : ∀ q : Int32 × Nat × zS × zS × (Nat → Int64), k63 q → zq_W x w (k0 + q.2.1) (n0 + 6 * q.2.1) (q.2.2.1, q.2.2.2.1, q.2.2.2.2) 63 [some (.ref b), some (.ref (w.2.1 0)), some (.ref (w.2.1 28)), some (.ref (w.2.1 40)), some (.int q.1), none, none] []) {v4 : Int32} {u0 : Int64} {u1 : Int64} {c g : zS} {o : Nat → Int64} (h : zw_La_226 w.2.2.1 L xs k63 v4 u0 u1 j c g o) : zq_W x w (k0 + j + 1) (n0 + 6 * j + 6) (c, g, o) 226 [some (.ref b), some (.ref (w.2.1 0)), some (.ref (w.2.1 28)), some (.ref (w.2.1 40)), some (.int v4), none, none] [.long u0, .long u1] := by
  obtain ⟨hG, hW, hAp, hE, hA0, hX, hbl, hbA, hQ, hfl, hk0, hn0⟩ := id hL
  refine zr_lcmp hG zd_La_law_226 ?_
  refine zr_if_eq hG 232 zd_La_law_227 (by decide) (fun hc => ?_) (fun hc => ?_)
  · have h := h.1 hc
    exact zt_La_232 hL hj hk h
  · have h := h.2 hc
    exact h.elim
def zw_La_396 (ln : Nat → Nat) (L : Nat) (xs : Nat → Int32) (k63 : Int32 × Nat × zS × zS × (Nat → Int64) → Prop) (v4 : Int32) (u0 : Int32) (j : Nat) (c g : zS) (o : Nat → Int64) : Prop := vp_in (v4 + (2 : Int32)) L ∧ (zw_La_h_all ln u0 (xs (v4 + (2 : Int32)).toNatClampNeg) c o (fun r238 c238 o238 => vp_in (v4 + (1 : Int32)) L ∧ (((xs (v4 + (1 : Int32)).toNatClampNeg) = 0 → zw_La_423 ln L xs k63 v4 (0 : Int32) j c238 g o238) ∧ (¬ (xs (v4 + (1 : Int32)).toNatClampNeg) = 0 → zw_La_423 ln L xs k63 v4 (1 : Int32) j c238 g o238))))
set_option maxHeartbeats 4000000 in
set_option maxRecDepth 100000 in
theorem zt_La_396 {x : zC} {w : zW} {b L : Nat} {xs : Nat → Int32} {k0 n0 : Nat} (hL : zq_LW x w b L xs k0 n0) {k63 : Int32 × Nat × zS × zS × (Nat → Int64) → Prop} {j : Nat} (hj : j < 1000) (hk : ∀ q : Int32 × Nat × zS × zS × (Nat → Int64), k63 q → zq_W x w (k0 + q.2.1) (n0 + 6 * q.2.1) (q.2.2.1, q.2.2.2.1, q.2.2.2.2) 63 [some (.ref b), some (.ref (w.2.1 0)), some (.ref (w.2.1 28)), some (.ref (w.2.1 40)), some (.int q.1), none, none] []) {v4 : Int32} {u0 : Int32} {c g : zS} {o : Nat → Int64} (h : zw_La_396 w.2.2.1 L xs k63 v4 u0 j c g o) : zq_W x w (k0 + j) (n0 + 6 * j) (c, g, o) 396 [some (.ref b), some (.ref (w.2.1 0)), some (.ref (w.2.1 28)), some (.ref (w.2.1 40)), some (.int v4), none, none] [.int u0, .ref (w.2.1 0)] := by
  obtain ⟨hG, hW, hAp, hE, hA0, hX, hbl, hbA, hQ, hfl, hk0, hn0⟩ := id hL
  refine zr_aload_n hG zd_La_law_396 rfl rfl ?_
  refine zr_iload hG zd_La_law_397 rfl ?_
  refine zr_iconst hG (v := (2 : Int32)) zd_La_law_399 (by decide) ?_
  refine zr_iadd hG zd_La_law_400 ?_
  obtain ⟨hi, h⟩ := h
  refine zr_sld hG hX hbl hbA hi zd_La_law_401 ?_
  refine zr_aload_n hG zd_La_law_402 rfl rfl ?_
  refine zr_callH hG (zq_F1 hW) hE hA0 (As := [.ref (w.2.1 0), .int u0, .int (xs (v4 + (2 : Int32)).toNatClampNeg), .ref (w.2.1 40)]) (rest := []) (zm_La_h_all (zc_l x) hfl w hAp g h) rfl zgh_89 zdd_La_h_all ⟨rfl, rfl, by decide, by decide⟩ ⟨by show _ ≤ 601024; omega, by show _ ≤ 7293000; omega⟩ rfl (Nat.le_of_ble_eq_true rfl) zd_La_law_403 rfl ?_
  rintro _ _ ⟨r238, c238, o238, rfl, rfl, h⟩
  refine zr_istore hG [some (.ref b), some (.ref (w.2.1 0)), some (.ref (w.2.1 28)), some (.ref (w.2.1 40)), some (.int v4), some (.int r238), none] zd_La_law_406 (Nat.le_of_ble_eq_true rfl) rfl ?_
  refine zr_aload_n hG zd_La_law_408 rfl rfl ?_
  refine zr_aload_n hG zd_La_law_409 rfl rfl ?_
  refine zr_iload hG zd_La_law_410 rfl ?_
  refine zr_iconst hG (v := (1 : Int32)) zd_La_law_412 (by decide) ?_
  refine zr_iadd hG zd_La_law_413 ?_
  obtain ⟨hi, h⟩ := h
  refine zr_sld hG hX hbl hbA hi zd_La_law_414 ?_
  refine zr_if_eq hG 422 zd_La_law_415 (by decide) (fun hc => ?_) (fun hc => ?_)
  · have h := h.1 hc
    refine zr_iconst hG (v := (0 : Int32)) zd_La_law_422 (by decide) ?_
    exact zr_mask [true, true, true, true, true, false, false] (zt_La_423 hL hj hk h)
  · have h := h.2 hc
    refine zr_iconst hG (v := (1 : Int32)) zd_La_law_418 (by decide) ?_
    refine zr_goto hG 423 zd_La_law_419 (by decide) ?_
    exact zr_mask [true, true, true, true, true, false, false] (zt_La_423 hL hj hk h)
def zw_La_c0 (ln : Nat → Nat) (L : Nat) (xs : Nat → Int32) (k63 : Int32 × Nat × zS × zS × (Nat → Int64) → Prop) (v4 : Int32) (j : Nat) (c g : zS) (o : Nat → Int64) : Prop := vp_in (v4 + (1 : Int32)) L ∧ vp_in (v4 + (2 : Int32)) L ∧ vp_in (v4 + (3 : Int32)) L ∧ (zw_La_h_block ln (xs (v4 + (1 : Int32)).toNatClampNeg) (xs (v4 + (2 : Int32)).toNatClampNeg) (xs (v4 + (3 : Int32)).toNatClampNeg) c o (fun r213 c213 o213 => vp_in (v4 + (1 : Int32)) L ∧ vp_in (v4 + (2 : Int32)) L ∧ vp_in (v4 + (3 : Int32)) L ∧ (zw_Mo_block (xs (v4 + (1 : Int32)).toNatClampNeg) (xs (v4 + (2 : Int32)).toNatClampNeg) (xs (v4 + (3 : Int32)).toNatClampNeg) g (fun r214 z214 => (zw_Mo_thrown z214 (fun r215 z215 => ((r215 = r213 → ((¬ r213 = 0 → zw_La_232 ln L xs k63 v4 j c213 z215 o213) ∧ (r213 = 0 → ((r214 = 0 → zw_La_226 ln L xs k63 v4 (0 : Int64) (o213 (0 : Int32).toNatClampNeg) j c213 z215 o213) ∧ (¬ r214 = 0 → zw_La_226 ln L xs k63 v4 (1 : Int64) (o213 (0 : Int32).toNatClampNeg) j c213 z215 o213))))) ∧ (¬ r215 = r213 → False))))))))
set_option maxHeartbeats 4000000 in
set_option maxRecDepth 100000 in
theorem zt_La_c0 {x : zC} {w : zW} {b L : Nat} {xs : Nat → Int32} {k0 n0 : Nat} (hL : zq_LW x w b L xs k0 n0) {k63 : Int32 × Nat × zS × zS × (Nat → Int64) → Prop} {j : Nat} (hj : j < 1000) (hk : ∀ q : Int32 × Nat × zS × zS × (Nat → Int64), k63 q → zq_W x w (k0 + q.2.1) (n0 + 6 * q.2.1) (q.2.2.1, q.2.2.2.1, q.2.2.2.2) 63 [some (.ref b), some (.ref (w.2.1 0)), some (.ref (w.2.1 28)), some (.ref (w.2.1 40)), some (.int q.1), none, none] []) {v4 : Int32} {c g : zS} {o : Nat → Int64} (h : zw_La_c0 w.2.2.1 L xs k63 v4 j c g o) : zq_W x w (k0 + j) (n0 + 6 * j) (c, g, o) 148 [some (.ref b), some (.ref (w.2.1 0)), some (.ref (w.2.1 28)), some (.ref (w.2.1 40)), some (.int v4), none, none] [] := by
  obtain ⟨hG, hW, hAp, hE, hA0, hX, hbl, hbA, hQ, hfl, hk0, hn0⟩ := id hL
  refine zr_aload_n hG zd_La_law_148 rfl rfl ?_
  refine zr_aload_n hG zd_La_law_149 rfl rfl ?_
  refine zr_iload hG zd_La_law_150 rfl ?_
  refine zr_iconst hG (v := (1 : Int32)) zd_La_law_152 (by decide) ?_
  refine zr_iadd hG zd_La_law_153 ?_
  obtain ⟨hi, h⟩ := h
  refine zr_sld hG hX hbl hbA hi zd_La_law_154 ?_
  refine zr_aload_n hG zd_La_law_155 rfl rfl ?_
  refine zr_iload hG zd_La_law_156 rfl ?_
  refine zr_iconst hG (v := (2 : Int32)) zd_La_law_158 (by decide) ?_
  refine zr_iadd hG zd_La_law_159 ?_
  obtain ⟨hi, h⟩ := h
  refine zr_sld hG hX hbl hbA hi zd_La_law_160 ?_
  refine zr_aload_n hG zd_La_law_161 rfl rfl ?_
  refine zr_iload hG zd_La_law_162 rfl ?_
  refine zr_iconst hG (v := (3 : Int32)) zd_La_law_164 (by decide) ?_
  refine zr_iadd hG zd_La_law_165 ?_
  obtain ⟨hi, h⟩ := h
  refine zr_sld hG hX hbl hbA hi zd_La_law_166 ?_
  refine zr_aload_n hG zd_La_law_167 rfl rfl ?_
  refine zr_callH hG (zq_F1 hW) hE hA0 (As := [.ref (w.2.1 0), .int (xs (v4 + (1 : Int32)).toNatClampNeg), .int (xs (v4 + (2 : Int32)).toNatClampNeg), .int (xs (v4 + (3 : Int32)).toNatClampNeg), .ref (w.2.1 40)]) (rest := []) (zm_La_h_block (zc_l x) hfl w hAp g h) rfl zgh_70 zdd_La_h_block ⟨rfl, rfl, by decide, by decide⟩ ⟨by show _ ≤ 601024; omega, by show _ ≤ 7293000; omega⟩ rfl (Nat.le_of_ble_eq_true rfl) zd_La_law_168 rfl ?_
  rintro _ _ ⟨r213, c213, o213, rfl, rfl, h⟩
  refine zr_istore hG [some (.ref b), some (.ref (w.2.1 0)), some (.ref (w.2.1 28)), some (.ref (w.2.1 40)), some (.int v4), some (.int r213), none] zd_La_law_171 (Nat.le_of_ble_eq_true rfl) rfl ?_
  refine zr_aload_n hG zd_La_law_173 rfl rfl ?_
  refine zr_aload_n hG zd_La_law_174 rfl rfl ?_
  refine zr_iload hG zd_La_law_175 rfl ?_
  refine zr_iconst hG (v := (1 : Int32)) zd_La_law_177 (by decide) ?_
  refine zr_iadd hG zd_La_law_178 ?_
  obtain ⟨hi, h⟩ := h
  refine zr_sld hG hX hbl hbA hi zd_La_law_179 ?_
  refine zr_aload_n hG zd_La_law_180 rfl rfl ?_
  refine zr_iload hG zd_La_law_181 rfl ?_
  refine zr_iconst hG (v := (2 : Int32)) zd_La_law_183 (by decide) ?_
  refine zr_iadd hG zd_La_law_184 ?_
  obtain ⟨hi, h⟩ := h
  refine zr_sld hG hX hbl hbA hi zd_La_law_185 ?_
  refine zr_aload_n hG zd_La_law_186 rfl rfl ?_
  refine zr_iload hG zd_La_law_187 rfl ?_
  refine zr_iconst hG (v := (3 : Int32)) zd_La_law_189 (by decide) ?_
  refine zr_iadd hG zd_La_law_190 ?_
  obtain ⟨hi, h⟩ := h
  refine zr_sld hG hX hbl hbA hi zd_La_law_191 ?_
  refine zr_callV hG (zq_F1 hW) (As := [.int (xs (v4 + (1 : Int32)).toNatClampNeg), .int (xs (v4 + (2 : Int32)).toNatClampNeg), .int (xs (v4 + (3 : Int32)).toNatClampNeg)]) (rest := []) (zm_Mo_block (zc_l x) w hAp c213 o213 h) 28 rfl rfl rfl zg_La_73 zdd_Mo_block ⟨rfl, rfl, by decide, by decide⟩ ⟨by show _ ≤ 601024; omega, by show _ ≤ 7293000; omega⟩ rfl (Nat.le_of_ble_eq_true rfl) zd_La_law_192 rfl ?_
  rintro _ _ ⟨r214, z214, rfl, rfl, h⟩
  refine zr_istore hG [some (.ref b), some (.ref (w.2.1 0)), some (.ref (w.2.1 28)), some (.ref (w.2.1 40)), some (.int v4), some (.int r213), some (.int r214)] zd_La_law_195 (Nat.le_of_ble_eq_true rfl) rfl ?_
  refine zr_aload_n hG zd_La_law_197 rfl rfl ?_
  refine zr_callV hG zq_F0 (As := []) (rest := []) (zm_Mo_thrown (zc_l x) w hAp c213 o213 h) 28 rfl rfl rfl zg_La_74 zdd_Mo_thrown ⟨rfl, rfl, by decide, by decide⟩ ⟨by show _ ≤ 601024; omega, by show _ ≤ 7293000; omega⟩ rfl (Nat.le_of_ble_eq_true rfl) zd_La_law_198 rfl ?_
  rintro _ _ ⟨r215, z215, rfl, rfl, h⟩
  refine zr_iload hG zd_La_law_201 rfl ?_
  refine zr_icmp_eq hG 208 zd_La_law_203 (by decide) (fun hc => ?_) (fun hc => ?_)
  · have h := h.1 hc
    refine zr_iload hG zd_La_law_208 rfl ?_
    refine zr_if_ne hG 232 zd_La_law_210 (by decide) (fun hc => ?_) (fun hc => ?_)
    · have h := h.1 hc
      exact zr_mask [true, true, true, true, true, false, false] (zt_La_232 hL hj hk h)
    · have h := h.2 hc
      refine zr_aload_n hG zd_La_law_213 rfl rfl ?_
      refine zr_iconst hG (v := (0 : Int32)) zd_La_law_214 (by decide) ?_
      refine zl_40 hG zd_La_law_215 ?_
      refine zr_iload hG zd_La_law_216 rfl ?_
      refine zr_if_eq hG 225 zd_La_law_218 (by decide) (fun hc => ?_) (fun hc => ?_)
      · have h := h.1 hc
        refine zr_lconst hG (v := (0 : Int64)) zd_La_law_225 (by decide) ?_
        exact zr_mask [true, true, true, true, true, false, false] (zt_La_226 hL hj hk h)
      · have h := h.2 hc
        refine zr_lconst hG (v := (1 : Int64)) zd_La_law_221 (by decide) ?_
        refine zr_goto hG 226 zd_La_law_222 (by decide) ?_
        exact zr_mask [true, true, true, true, true, false, false] (zt_La_226 hL hj hk h)
  · have h := h.2 hc
    exact h.elim
def zw_La_c4 (ln : Nat → Nat) (L : Nat) (xs : Nat → Int32) (k63 : Int32 × Nat × zS × zS × (Nat → Int64) → Prop) (v4 : Int32) (j : Nat) (c g : zS) (o : Nat → Int64) : Prop := vp_in (v4 + (1 : Int32)) L ∧ (((xs (v4 + (1 : Int32)).toNatClampNeg) = 0 → zw_La_396 ln L xs k63 v4 (0 : Int32) j c g o) ∧ (¬ (xs (v4 + (1 : Int32)).toNatClampNeg) = 0 → zw_La_396 ln L xs k63 v4 (1 : Int32) j c g o))
set_option maxHeartbeats 4000000 in
set_option maxRecDepth 100000 in
theorem zt_La_c4 {x : zC} {w : zW} {b L : Nat} {xs : Nat → Int32} {k0 n0 : Nat} (hL : zq_LW x w b L xs k0 n0) {k63 : Int32 × Nat × zS × zS × (Nat → Int64) → Prop} {j : Nat} (hj : j < 1000) (hk : ∀ q : Int32 × Nat × zS × zS × (Nat → Int64), k63 q → zq_W x w (k0 + q.2.1) (n0 + 6 * q.2.1) (q.2.2.1, q.2.2.2.1, q.2.2.2.2) 63 [some (.ref b), some (.ref (w.2.1 0)), some (.ref (w.2.1 28)), some (.ref (w.2.1 40)), some (.int q.1), none, none] []) {v4 : Int32} {c g : zS} {o : Nat → Int64} (h : zw_La_c4 w.2.2.1 L xs k63 v4 j c g o) : zq_W x w (k0 + j) (n0 + 6 * j) (c, g, o) 381 [some (.ref b), some (.ref (w.2.1 0)), some (.ref (w.2.1 28)), some (.ref (w.2.1 40)), some (.int v4), none, none] [] := by
  obtain ⟨hG, hW, hAp, hE, hA0, hX, hbl, hbA, hQ, hfl, hk0, hn0⟩ := id hL
  refine zr_aload_n hG zd_La_law_381 rfl rfl ?_
  refine zr_aload_n hG zd_La_law_382 rfl rfl ?_
  refine zr_iload hG zd_La_law_383 rfl ?_
  refine zr_iconst hG (v := (1 : Int32)) zd_La_law_385 (by decide) ?_
  refine zr_iadd hG zd_La_law_386 ?_
  obtain ⟨hi, h⟩ := h
  refine zr_sld hG hX hbl hbA hi zd_La_law_387 ?_
  refine zr_if_eq hG 395 zd_La_law_388 (by decide) (fun hc => ?_) (fun hc => ?_)
  · have h := h.1 hc
    refine zr_iconst hG (v := (0 : Int32)) zd_La_law_395 (by decide) ?_
    exact zt_La_396 hL hj hk h
  · have h := h.2 hc
    refine zr_iconst hG (v := (1 : Int32)) zd_La_law_391 (by decide) ?_
    refine zr_goto hG 396 zd_La_law_392 (by decide) ?_
    exact zt_La_396 hL hj hk h
def zw_La_63 (ln : Nat → Nat) (L : Nat) (xs : Nat → Int32) (k63 : Int32 × Nat × zS × zS × (Nat → Int64) → Prop) : Int32 × Nat × zS × zS × (Nat → Int64) → Prop := fun q => match q with
  | (v4, j, c, g, o) => j < 1000 ∧ ((((Int32.ofNat L) - (7 : Int32)) < v4 → True) ∧ (¬ ((Int32.ofNat L) - (7 : Int32)) < v4 → vp_in v4 L ∧ ((((xs v4.toNatClampNeg) &&& (15 : Int32)) = 0 → zw_La_c0 ln L xs k63 v4 j c g o) ∧ (((xs v4.toNatClampNeg) &&& (15 : Int32)) = 1 → zw_La_c1 ln L xs k63 v4 j c g o) ∧ (((xs v4.toNatClampNeg) &&& (15 : Int32)) = 2 → zw_La_c2 ln L xs k63 v4 j c g o) ∧ (((xs v4.toNatClampNeg) &&& (15 : Int32)) = 3 → zw_La_c3 ln L xs k63 v4 j c g o) ∧ (((xs v4.toNatClampNeg) &&& (15 : Int32)) = 4 → zw_La_c4 ln L xs k63 v4 j c g o) ∧ (((xs v4.toNatClampNeg) &&& (15 : Int32)) = 5 → zw_La_c5 ln L xs k63 v4 j c g o) ∧ (((xs v4.toNatClampNeg) &&& (15 : Int32)) = 6 → zw_La_c6 ln L xs k63 v4 j c g o) ∧ (((xs v4.toNatClampNeg) &&& (15 : Int32)) = 7 → zw_La_c7 ln L xs k63 v4 j c g o) ∧ (((xs v4.toNatClampNeg) &&& (15 : Int32)) = 8 → zw_La_c8 ln L xs k63 v4 j c g o) ∧ (((xs v4.toNatClampNeg) &&& (15 : Int32)) = 9 → zw_La_c9 ln L xs k63 v4 j c g o) ∧ (((xs v4.toNatClampNeg) &&& (15 : Int32)) = 10 → zw_La_c10 ln L xs k63 v4 j c g o) ∧ (((xs v4.toNatClampNeg) &&& (15 : Int32)) = 11 → zw_La_c11 ln L xs k63 v4 j c g o) ∧ (((xs v4.toNatClampNeg) &&& (15 : Int32)) = 12 → zw_La_c12 ln L xs k63 v4 j c g o) ∧ (¬ ((xs v4.toNatClampNeg) &&& (15 : Int32)) = 0 ∧ ¬ ((xs v4.toNatClampNeg) &&& (15 : Int32)) = 1 ∧ ¬ ((xs v4.toNatClampNeg) &&& (15 : Int32)) = 2 ∧ ¬ ((xs v4.toNatClampNeg) &&& (15 : Int32)) = 3 ∧ ¬ ((xs v4.toNatClampNeg) &&& (15 : Int32)) = 4 ∧ ¬ ((xs v4.toNatClampNeg) &&& (15 : Int32)) = 5 ∧ ¬ ((xs v4.toNatClampNeg) &&& (15 : Int32)) = 6 ∧ ¬ ((xs v4.toNatClampNeg) &&& (15 : Int32)) = 7 ∧ ¬ ((xs v4.toNatClampNeg) &&& (15 : Int32)) = 8 ∧ ¬ ((xs v4.toNatClampNeg) &&& (15 : Int32)) = 9 ∧ ¬ ((xs v4.toNatClampNeg) &&& (15 : Int32)) = 10 ∧ ¬ ((xs v4.toNatClampNeg) &&& (15 : Int32)) = 11 ∧ ¬ ((xs v4.toNatClampNeg) &&& (15 : Int32)) = 12 → zw_La_736 ln L xs k63 v4 j c g o))))
set_option maxHeartbeats 4000000 in
set_option maxRecDepth 100000 in
theorem zt_La_63 {x : zC} {w : zW} {b L : Nat} {xs : Nat → Int32} {k0 n0 : Nat} (hL : zq_LW x w b L xs k0 n0) {v4 : Int32} {j : Nat} {c g : zS} {o : Nat → Int64} (h : zq_Lp (zw_La_63 w.2.2.1 L xs) (v4, j, c, g, o)) : zq_W x w (k0 + j) (n0 + 6 * j) (c, g, o) 63 [some (.ref b), some (.ref (w.2.1 0)), some (.ref (w.2.1 28)), some (.ref (w.2.1 40)), some (.int v4), none, none] [] := by
  obtain ⟨hG, hW, hAp, hE, hA0, hX, hbl, hbA, hQ, hfl, hk0, hn0⟩ := id hL
  refine zq_Lp_W (WW := fun q => zq_W x w (k0 + q.2.1) (n0 + 6 * q.2.1) (q.2.2.1, q.2.2.2.1, q.2.2.2.2) 63 [some (.ref b), some (.ref (w.2.1 0)), some (.ref (w.2.1 28)), some (.ref (w.2.1 40)), some (.int q.1), none, none] []) (fun k63 hk q h => ?_) h
  obtain ⟨v4, j, c, g, o⟩ := q
  obtain ⟨hj, h⟩ := h
  show zq_W x w (k0 + j) (n0 + 6 * j) (c, g, o) 63 [some (.ref b), some (.ref (w.2.1 0)), some (.ref (w.2.1 28)), some (.ref (w.2.1 40)), some (.int v4), none, none] []
  refine zr_iload hG zd_La_law_63 rfl ?_
  refine zr_aload_n hG zd_La_law_65 rfl rfl ?_
  refine zr_slen hG hX hbl hbA zd_La_law_66 ?_
  refine zr_bipush hG (v := (7 : Int32)) zd_La_law_67 (by decide) ?_
  refine zr_isub hG zd_La_law_69 ?_
  refine zr_icmp_gt hG 742 zd_La_law_70 (by decide) (fun hc => ?_) (fun hc => ?_)
  · have h := h.1 hc
    refine zr_iconst hG (v := 1) zd_La_law_742 (by decide) ?_
    exact hQ _ _ _ _ _ (by omega) (by omega) zd_La_law_743
  · have h := h.2 hc
    refine zr_aload_n hG zd_La_law_73 rfl rfl ?_
    refine zr_iload hG zd_La_law_74 rfl ?_
    obtain ⟨hi, h⟩ := h
    refine zr_sld hG hX hbl hbA hi zd_La_law_76 ?_
    refine zr_bipush hG (v := (15 : Int32)) zd_La_law_77 (by decide) ?_
    refine zr_iand hG zd_La_law_79 ?_
    by_cases hc0 : ((xs v4.toNatClampNeg) &&& (15 : Int32)) = 0
    · have h := h.1 hc0
      refine zr_swIn hG 148 zd_La_law_80 (by rw [hc0]; decide) (by rw [hc0]; decide) (by rw [hc0]; rfl) (by decide) ?_
      exact zt_La_c0 hL hj hk h
    have h := h.2
    by_cases hc1 : ((xs v4.toNatClampNeg) &&& (15 : Int32)) = 1
    · have h := h.1 hc1
      refine zr_swIn hG 235 zd_La_law_80 (by rw [hc1]; decide) (by rw [hc1]; decide) (by rw [hc1]; rfl) (by decide) ?_
      exact zt_La_c1 hL hj hk h
    have h := h.2
    by_cases hc2 : ((xs v4.toNatClampNeg) &&& (15 : Int32)) = 2
    · have h := h.1 hc2
      refine zr_swIn hG 325 zd_La_law_80 (by rw [hc2]; decide) (by rw [hc2]; decide) (by rw [hc2]; rfl) (by decide) ?_
      exact zt_La_c2 hL hj hk h
    have h := h.2
    by_cases hc3 : ((xs v4.toNatClampNeg) &&& (15 : Int32)) = 3
    · have h := h.1 hc3
      refine zr_swIn hG 353 zd_La_law_80 (by rw [hc3]; decide) (by rw [hc3]; decide) (by rw [hc3]; rfl) (by decide) ?_
      exact zt_La_c3 hL hj hk h
    have h := h.2
    by_cases hc4 : ((xs v4.toNatClampNeg) &&& (15 : Int32)) = 4
    · have h := h.1 hc4
      refine zr_swIn hG 381 zd_La_law_80 (by rw [hc4]; decide) (by rw [hc4]; decide) (by rw [hc4]; rfl) (by decide) ?_
      exact zt_La_c4 hL hj hk h
    have h := h.2
    by_cases hc5 : ((xs v4.toNatClampNeg) &&& (15 : Int32)) = 5
    · have h := h.1 hc5
      refine zr_swIn hG 437 zd_La_law_80 (by rw [hc5]; decide) (by rw [hc5]; decide) (by rw [hc5]; rfl) (by decide) ?_
      exact zt_La_c5 hL hj hk h
    have h := h.2
    by_cases hc6 : ((xs v4.toNatClampNeg) &&& (15 : Int32)) = 6
    · have h := h.1 hc6
      refine zr_swIn hG 462 zd_La_law_80 (by rw [hc6]; decide) (by rw [hc6]; decide) (by rw [hc6]; rfl) (by decide) ?_
      exact zt_La_c6 hL hj hk h
    have h := h.2
    by_cases hc7 : ((xs v4.toNatClampNeg) &&& (15 : Int32)) = 7
    · have h := h.1 hc7
      refine zr_swIn hG 523 zd_La_law_80 (by rw [hc7]; decide) (by rw [hc7]; decide) (by rw [hc7]; rfl) (by decide) ?_
      exact zt_La_c7 hL hj hk h
    have h := h.2
    by_cases hc8 : ((xs v4.toNatClampNeg) &&& (15 : Int32)) = 8
    · have h := h.1 hc8
      refine zr_swIn hG 563 zd_La_law_80 (by rw [hc8]; decide) (by rw [hc8]; decide) (by rw [hc8]; rfl) (by decide) ?_
      exact zt_La_c8 hL hj hk h
    have h := h.2
    by_cases hc9 : ((xs v4.toNatClampNeg) &&& (15 : Int32)) = 9
    · have h := h.1 hc9
      refine zr_swIn hG 615 zd_La_law_80 (by rw [hc9]; decide) (by rw [hc9]; decide) (by rw [hc9]; rfl) (by decide) ?_
      exact zt_La_c9 hL hj hk h
    have h := h.2
    by_cases hc10 : ((xs v4.toNatClampNeg) &&& (15 : Int32)) = 10
    · have h := h.1 hc10
      refine zr_swIn hG 655 zd_La_law_80 (by rw [hc10]; decide) (by rw [hc10]; decide) (by rw [hc10]; rfl) (by decide) ?_
      exact zt_La_c10 hL hj hk h
    have h := h.2
    by_cases hc11 : ((xs v4.toNatClampNeg) &&& (15 : Int32)) = 11
    · have h := h.1 hc11
      refine zr_swIn hG 683 zd_La_law_80 (by rw [hc11]; decide) (by rw [hc11]; decide) (by rw [hc11]; rfl) (by decide) ?_
      exact zt_La_c11 hL hj hk h
    have h := h.2
    by_cases hc12 : ((xs v4.toNatClampNeg) &&& (15 : Int32)) = 12
    · have h := h.1 hc12
      refine zr_swIn hG 696 zd_La_law_80 (by rw [hc12]; decide) (by rw [hc12]; decide) (by rw [hc12]; rfl) (by decide) ?_
      exact zt_La_c12 hL hj hk h
    have h := h.2
    have h := h ⟨hc0, hc1, hc2, hc3, hc4, hc5, hc6, hc7, hc8, hc9, hc10, hc11, hc12⟩
    refine zr_swOut hG 736 zd_La_law_80 (zq_sw0_12 hc0 hc1 hc2 hc3 hc4 hc5 hc6 hc7 hc8 hc9 hc10 hc11 hc12) (by decide) ?_
    exact zr_widen (by omega) (by omega) (zt_La_736 hL hj hk h)
