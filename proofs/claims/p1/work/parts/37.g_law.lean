def zw_La_1024 (ln : Nat → Nat) (L : Nat) (xs : Nat → Int32) (k63 : Int32 × Nat × zS × zS × (Nat → Int64) → Prop) (v4 : Int32) (j : Nat) (c g : zS) (o : Nat → Int64) : Prop := k63 ((v4 + (7 : Int32)), j + 1, c, g, o)
set_option maxHeartbeats 4000000 in
set_option maxRecDepth 100000 in
theorem zt_La_1024 {x : zC} {w : zW} {b L : Nat} {xs : Nat → Int32} {k0 n0 : Nat} (hL : zq_LW x w b L xs k0 n0) {k63 : Int32 × Nat × zS × zS × (Nat → Int64) → Prop} {j : Nat} (hj : j < 1000) (hk : ∀ q : Int32 × Nat × zS × zS × (Nat → Int64), k63 q → zq_W x w (k0 + q.2.1) (n0 + 6 * q.2.1) (q.2.2.1, q.2.2.2.1, q.2.2.2.2) 63 [some (.ref b), some (.ref (w.2.1 0)), some (.ref (w.2.1 28)), some (.ref (w.2.1 40)), some (.int q.1), none, none] []) {v4 : Int32} {c g : zS} {o : Nat → Int64} (h : zw_La_1024 w.2.2.1 L xs k63 v4 j c g o) : zq_W x w (k0 + j + 1) (n0 + 6 * j + 6) (c, g, o) 1024 [some (.ref b), some (.ref (w.2.1 0)), some (.ref (w.2.1 28)), some (.ref (w.2.1 40)), some (.int v4), none, none] [] := by
  obtain ⟨hG, hW, hAp, hE, hA0, hX, hbl, hbA, hQ, hfl, hk0, hn0⟩ := id hL
  refine zr_iinc hG (u := (7 : Int32)) [some (.ref b), some (.ref (w.2.1 0)), some (.ref (w.2.1 28)), some (.ref (w.2.1 40)), some (.int (v4 + (7 : Int32))), none, none] zd_La_law_1024 rfl (by decide) (Nat.le_of_ble_eq_true rfl) rfl ?_
  refine zr_goto hG 63 zd_La_law_1027 (by decide) ?_
  have h := hk _ h
  exact zr_widen (k' := k0 + (j + 1)) (n' := n0 + 6 * (j + 1)) (by omega) (by omega) h
def zw_La_1021 (ln : Nat → Nat) (L : Nat) (xs : Nat → Int32) (k63 : Int32 × Nat × zS × zS × (Nat → Int64) → Prop) (v4 : Int32) (j : Nat) (c g : zS) (o : Nat → Int64) : Prop := zw_La_1024 ln L xs k63 v4 j c g o
set_option maxHeartbeats 4000000 in
set_option maxRecDepth 100000 in
theorem zt_La_1021 {x : zC} {w : zW} {b L : Nat} {xs : Nat → Int32} {k0 n0 : Nat} (hL : zq_LW x w b L xs k0 n0) {k63 : Int32 × Nat × zS × zS × (Nat → Int64) → Prop} {j : Nat} (hj : j < 1000) (hk : ∀ q : Int32 × Nat × zS × zS × (Nat → Int64), k63 q → zq_W x w (k0 + q.2.1) (n0 + 6 * q.2.1) (q.2.2.1, q.2.2.2.1, q.2.2.2.2) 63 [some (.ref b), some (.ref (w.2.1 0)), some (.ref (w.2.1 28)), some (.ref (w.2.1 40)), some (.int q.1), none, none] []) {v4 : Int32} {c g : zS} {o : Nat → Int64} (h : zw_La_1021 w.2.2.1 L xs k63 v4 j c g o) : zq_W x w (k0 + j + 1) (n0 + 6 * j + 6) (c, g, o) 1021 [some (.ref b), some (.ref (w.2.1 0)), some (.ref (w.2.1 28)), some (.ref (w.2.1 40)), some (.int v4), none, none] [] := by
  obtain ⟨hG, hW, hAp, hE, hA0, hX, hbl, hbA, hQ, hfl, hk0, hn0⟩ := id hL
  refine zr_goto hG 1024 zd_La_law_1021 (by decide) ?_
  exact zt_La_1024 hL hj hk h
def zw_La_232 (ln : Nat → Nat) (L : Nat) (xs : Nat → Int32) (k63 : Int32 × Nat × zS × zS × (Nat → Int64) → Prop) (v4 : Int32) (j : Nat) (c g : zS) (o : Nat → Int64) : Prop := zw_La_1024 ln L xs k63 v4 j c g o
set_option maxHeartbeats 4000000 in
set_option maxRecDepth 100000 in
theorem zt_La_232 {x : zC} {w : zW} {b L : Nat} {xs : Nat → Int32} {k0 n0 : Nat} (hL : zq_LW x w b L xs k0 n0) {k63 : Int32 × Nat × zS × zS × (Nat → Int64) → Prop} {j : Nat} (hj : j < 1000) (hk : ∀ q : Int32 × Nat × zS × zS × (Nat → Int64), k63 q → zq_W x w (k0 + q.2.1) (n0 + 6 * q.2.1) (q.2.2.1, q.2.2.2.1, q.2.2.2.2) 63 [some (.ref b), some (.ref (w.2.1 0)), some (.ref (w.2.1 28)), some (.ref (w.2.1 40)), some (.int q.1), none, none] []) {v4 : Int32} {c g : zS} {o : Nat → Int64} (h : zw_La_232 w.2.2.1 L xs k63 v4 j c g o) : zq_W x w (k0 + j + 1) (n0 + 6 * j + 6) (c, g, o) 232 [some (.ref b), some (.ref (w.2.1 0)), some (.ref (w.2.1 28)), some (.ref (w.2.1 40)), some (.int v4), none, none] [] := by
  obtain ⟨hG, hW, hAp, hE, hA0, hX, hbl, hbA, hQ, hfl, hk0, hn0⟩ := id hL
  refine zr_goto hG 1024 zd_La_law_232 (by decide) ?_
  exact zt_La_1024 hL hj hk h
def zw_La_350 (ln : Nat → Nat) (L : Nat) (xs : Nat → Int32) (k63 : Int32 × Nat × zS × zS × (Nat → Int64) → Prop) (v4 : Int32) (j : Nat) (c g : zS) (o : Nat → Int64) : Prop := zw_La_1024 ln L xs k63 v4 j c g o
set_option maxHeartbeats 4000000 in
set_option maxRecDepth 100000 in
theorem zt_La_350 {x : zC} {w : zW} {b L : Nat} {xs : Nat → Int32} {k0 n0 : Nat} (hL : zq_LW x w b L xs k0 n0) {k63 : Int32 × Nat × zS × zS × (Nat → Int64) → Prop} {j : Nat} (hj : j < 1000) (hk : ∀ q : Int32 × Nat × zS × zS × (Nat → Int64), k63 q → zq_W x w (k0 + q.2.1) (n0 + 6 * q.2.1) (q.2.2.1, q.2.2.2.1, q.2.2.2.2) 63 [some (.ref b), some (.ref (w.2.1 0)), some (.ref (w.2.1 28)), some (.ref (w.2.1 40)), some (.int q.1), none, none] []) {v4 : Int32} {c g : zS} {o : Nat → Int64} (h : zw_La_350 w.2.2.1 L xs k63 v4 j c g o) : zq_W x w (k0 + j + 1) (n0 + 6 * j + 6) (c, g, o) 350 [some (.ref b), some (.ref (w.2.1 0)), some (.ref (w.2.1 28)), some (.ref (w.2.1 40)), some (.int v4), none, none] [] := by
  obtain ⟨hG, hW, hAp, hE, hA0, hX, hbl, hbA, hQ, hfl, hk0, hn0⟩ := id hL
  refine zr_goto hG 1024 zd_La_law_350 (by decide) ?_
  exact zt_La_1024 hL hj hk h
def zw_La_406 (ln : Nat → Nat) (L : Nat) (xs : Nat → Int32) (k63 : Int32 × Nat × zS × zS × (Nat → Int64) → Prop) (v4 : Int32) (j : Nat) (c g : zS) (o : Nat → Int64) : Prop := zw_La_1024 ln L xs k63 v4 j c g o
set_option maxHeartbeats 4000000 in
set_option maxRecDepth 100000 in
theorem zt_La_406 {x : zC} {w : zW} {b L : Nat} {xs : Nat → Int32} {k0 n0 : Nat} (hL : zq_LW x w b L xs k0 n0) {k63 : Int32 × Nat × zS × zS × (Nat → Int64) → Prop} {j : Nat} (hj : j < 1000) (hk : ∀ q : Int32 × Nat × zS × zS × (Nat → Int64), k63 q → zq_W x w (k0 + q.2.1) (n0 + 6 * q.2.1) (q.2.2.1, q.2.2.2.1, q.2.2.2.2) 63 [some (.ref b), some (.ref (w.2.1 0)), some (.ref (w.2.1 28)), some (.ref (w.2.1 40)), some (.int q.1), none, none] []) {v4 : Int32} {c g : zS} {o : Nat → Int64} (h : zw_La_406 w.2.2.1 L xs k63 v4 j c g o) : zq_W x w (k0 + j + 1) (n0 + 6 * j + 6) (c, g, o) 406 [some (.ref b), some (.ref (w.2.1 0)), some (.ref (w.2.1 28)), some (.ref (w.2.1 40)), some (.int v4), none, none] [] := by
  obtain ⟨hG, hW, hAp, hE, hA0, hX, hbl, hbA, hQ, hfl, hk0, hn0⟩ := id hL
  refine zr_goto hG 1024 zd_La_law_406 (by decide) ?_
  exact zt_La_1024 hL hj hk h
def zw_La_462 (ln : Nat → Nat) (L : Nat) (xs : Nat → Int32) (k63 : Int32 × Nat × zS × zS × (Nat → Int64) → Prop) (v4 : Int32) (j : Nat) (c g : zS) (o : Nat → Int64) : Prop := zw_La_1024 ln L xs k63 v4 j c g o
set_option maxHeartbeats 4000000 in
set_option maxRecDepth 100000 in
theorem zt_La_462 {x : zC} {w : zW} {b L : Nat} {xs : Nat → Int32} {k0 n0 : Nat} (hL : zq_LW x w b L xs k0 n0) {k63 : Int32 × Nat × zS × zS × (Nat → Int64) → Prop} {j : Nat} (hj : j < 1000) (hk : ∀ q : Int32 × Nat × zS × zS × (Nat → Int64), k63 q → zq_W x w (k0 + q.2.1) (n0 + 6 * q.2.1) (q.2.2.1, q.2.2.2.1, q.2.2.2.2) 63 [some (.ref b), some (.ref (w.2.1 0)), some (.ref (w.2.1 28)), some (.ref (w.2.1 40)), some (.int q.1), none, none] []) {v4 : Int32} {c g : zS} {o : Nat → Int64} (h : zw_La_462 w.2.2.1 L xs k63 v4 j c g o) : zq_W x w (k0 + j + 1) (n0 + 6 * j + 6) (c, g, o) 462 [some (.ref b), some (.ref (w.2.1 0)), some (.ref (w.2.1 28)), some (.ref (w.2.1 40)), some (.int v4), none, none] [] := by
  obtain ⟨hG, hW, hAp, hE, hA0, hX, hbl, hbA, hQ, hfl, hk0, hn0⟩ := id hL
  refine zr_goto hG 1024 zd_La_law_462 (by decide) ?_
  exact zt_La_1024 hL hj hk h
def zw_La_546 (ln : Nat → Nat) (L : Nat) (xs : Nat → Int32) (k63 : Int32 × Nat × zS × zS × (Nat → Int64) → Prop) (v4 : Int32) (j : Nat) (c g : zS) (o : Nat → Int64) : Prop := zw_La_1024 ln L xs k63 v4 j c g o
set_option maxHeartbeats 4000000 in
set_option maxRecDepth 100000 in
theorem zt_La_546 {x : zC} {w : zW} {b L : Nat} {xs : Nat → Int32} {k0 n0 : Nat} (hL : zq_LW x w b L xs k0 n0) {k63 : Int32 × Nat × zS × zS × (Nat → Int64) → Prop} {j : Nat} (hj : j < 1000) (hk : ∀ q : Int32 × Nat × zS × zS × (Nat → Int64), k63 q → zq_W x w (k0 + q.2.1) (n0 + 6 * q.2.1) (q.2.2.1, q.2.2.2.1, q.2.2.2.2) 63 [some (.ref b), some (.ref (w.2.1 0)), some (.ref (w.2.1 28)), some (.ref (w.2.1 40)), some (.int q.1), none, none] []) {v4 : Int32} {c g : zS} {o : Nat → Int64} (h : zw_La_546 w.2.2.1 L xs k63 v4 j c g o) : zq_W x w (k0 + j + 1) (n0 + 6 * j + 6) (c, g, o) 546 [some (.ref b), some (.ref (w.2.1 0)), some (.ref (w.2.1 28)), some (.ref (w.2.1 40)), some (.int v4), none, none] [] := by
  obtain ⟨hG, hW, hAp, hE, hA0, hX, hbl, hbA, hQ, hfl, hk0, hn0⟩ := id hL
  refine zr_goto hG 1024 zd_La_law_546 (by decide) ?_
  exact zt_La_1024 hL hj hk h
def zw_La_729 (ln : Nat → Nat) (L : Nat) (xs : Nat → Int32) (k63 : Int32 × Nat × zS × zS × (Nat → Int64) → Prop) (v4 : Int32) (j : Nat) (c g : zS) (o : Nat → Int64) : Prop := zw_La_1024 ln L xs k63 v4 j c g o
set_option maxHeartbeats 4000000 in
set_option maxRecDepth 100000 in
theorem zt_La_729 {x : zC} {w : zW} {b L : Nat} {xs : Nat → Int32} {k0 n0 : Nat} (hL : zq_LW x w b L xs k0 n0) {k63 : Int32 × Nat × zS × zS × (Nat → Int64) → Prop} {j : Nat} (hj : j < 1000) (hk : ∀ q : Int32 × Nat × zS × zS × (Nat → Int64), k63 q → zq_W x w (k0 + q.2.1) (n0 + 6 * q.2.1) (q.2.2.1, q.2.2.2.1, q.2.2.2.2) 63 [some (.ref b), some (.ref (w.2.1 0)), some (.ref (w.2.1 28)), some (.ref (w.2.1 40)), some (.int q.1), none, none] []) {v4 : Int32} {c g : zS} {o : Nat → Int64} (h : zw_La_729 w.2.2.1 L xs k63 v4 j c g o) : zq_W x w (k0 + j + 1) (n0 + 6 * j + 6) (c, g, o) 729 [some (.ref b), some (.ref (w.2.1 0)), some (.ref (w.2.1 28)), some (.ref (w.2.1 40)), some (.int v4), none, none] [] := by
  obtain ⟨hG, hW, hAp, hE, hA0, hX, hbl, hbA, hQ, hfl, hk0, hn0⟩ := id hL
  refine zr_goto hG 1024 zd_La_law_729 (by decide) ?_
  exact zt_La_1024 hL hj hk h
def zw_La_809 (ln : Nat → Nat) (L : Nat) (xs : Nat → Int32) (k63 : Int32 × Nat × zS × zS × (Nat → Int64) → Prop) (v4 : Int32) (j : Nat) (c g : zS) (o : Nat → Int64) : Prop := zw_La_1024 ln L xs k63 v4 j c g o
set_option maxHeartbeats 4000000 in
set_option maxRecDepth 100000 in
theorem zt_La_809 {x : zC} {w : zW} {b L : Nat} {xs : Nat → Int32} {k0 n0 : Nat} (hL : zq_LW x w b L xs k0 n0) {k63 : Int32 × Nat × zS × zS × (Nat → Int64) → Prop} {j : Nat} (hj : j < 1000) (hk : ∀ q : Int32 × Nat × zS × zS × (Nat → Int64), k63 q → zq_W x w (k0 + q.2.1) (n0 + 6 * q.2.1) (q.2.2.1, q.2.2.2.1, q.2.2.2.2) 63 [some (.ref b), some (.ref (w.2.1 0)), some (.ref (w.2.1 28)), some (.ref (w.2.1 40)), some (.int q.1), none, none] []) {v4 : Int32} {c g : zS} {o : Nat → Int64} (h : zw_La_809 w.2.2.1 L xs k63 v4 j c g o) : zq_W x w (k0 + j + 1) (n0 + 6 * j + 6) (c, g, o) 809 [some (.ref b), some (.ref (w.2.1 0)), some (.ref (w.2.1 28)), some (.ref (w.2.1 40)), some (.int v4), none, none] [] := by
  obtain ⟨hG, hW, hAp, hE, hA0, hX, hbl, hbA, hQ, hfl, hk0, hn0⟩ := id hL
  refine zr_goto hG 1024 zd_La_law_809 (by decide) ?_
  exact zt_La_1024 hL hj hk h
def zw_La_884 (ln : Nat → Nat) (L : Nat) (xs : Nat → Int32) (k63 : Int32 × Nat × zS × zS × (Nat → Int64) → Prop) (v4 : Int32) (j : Nat) (c g : zS) (o : Nat → Int64) : Prop := zw_La_1024 ln L xs k63 v4 j c g o
set_option maxHeartbeats 4000000 in
set_option maxRecDepth 100000 in
theorem zt_La_884 {x : zC} {w : zW} {b L : Nat} {xs : Nat → Int32} {k0 n0 : Nat} (hL : zq_LW x w b L xs k0 n0) {k63 : Int32 × Nat × zS × zS × (Nat → Int64) → Prop} {j : Nat} (hj : j < 1000) (hk : ∀ q : Int32 × Nat × zS × zS × (Nat → Int64), k63 q → zq_W x w (k0 + q.2.1) (n0 + 6 * q.2.1) (q.2.2.1, q.2.2.2.1, q.2.2.2.2) 63 [some (.ref b), some (.ref (w.2.1 0)), some (.ref (w.2.1 28)), some (.ref (w.2.1 40)), some (.int q.1), none, none] []) {v4 : Int32} {c g : zS} {o : Nat → Int64} (h : zw_La_884 w.2.2.1 L xs k63 v4 j c g o) : zq_W x w (k0 + j + 1) (n0 + 6 * j + 6) (c, g, o) 884 [some (.ref b), some (.ref (w.2.1 0)), some (.ref (w.2.1 28)), some (.ref (w.2.1 40)), some (.int v4), none, none] [] := by
  obtain ⟨hG, hW, hAp, hE, hA0, hX, hbl, hbA, hQ, hfl, hk0, hn0⟩ := id hL
  refine zr_goto hG 1024 zd_La_law_884 (by decide) ?_
  exact zt_La_1024 hL hj hk h
def zw_La_940 (ln : Nat → Nat) (L : Nat) (xs : Nat → Int32) (k63 : Int32 × Nat × zS × zS × (Nat → Int64) → Prop) (v4 : Int32) (j : Nat) (c g : zS) (o : Nat → Int64) : Prop := zw_La_1024 ln L xs k63 v4 j c g o
set_option maxHeartbeats 4000000 in
set_option maxRecDepth 100000 in
theorem zt_La_940 {x : zC} {w : zW} {b L : Nat} {xs : Nat → Int32} {k0 n0 : Nat} (hL : zq_LW x w b L xs k0 n0) {k63 : Int32 × Nat × zS × zS × (Nat → Int64) → Prop} {j : Nat} (hj : j < 1000) (hk : ∀ q : Int32 × Nat × zS × zS × (Nat → Int64), k63 q → zq_W x w (k0 + q.2.1) (n0 + 6 * q.2.1) (q.2.2.1, q.2.2.2.1, q.2.2.2.2) 63 [some (.ref b), some (.ref (w.2.1 0)), some (.ref (w.2.1 28)), some (.ref (w.2.1 40)), some (.int q.1), none, none] []) {v4 : Int32} {c g : zS} {o : Nat → Int64} (h : zw_La_940 w.2.2.1 L xs k63 v4 j c g o) : zq_W x w (k0 + j + 1) (n0 + 6 * j + 6) (c, g, o) 940 [some (.ref b), some (.ref (w.2.1 0)), some (.ref (w.2.1 28)), some (.ref (w.2.1 40)), some (.int v4), none, none] [] := by
  obtain ⟨hG, hW, hAp, hE, hA0, hX, hbl, hbA, hQ, hfl, hk0, hn0⟩ := id hL
  refine zr_goto hG 1024 zd_La_law_940 (by decide) ?_
  exact zt_La_1024 hL hj hk h
def zw_La_c11 (ln : Nat → Nat) (L : Nat) (xs : Nat → Int32) (k63 : Int32 × Nat × zS × zS × (Nat → Int64) → Prop) (v4 : Int32) (j : Nat) (c g : zS) (o : Nat → Int64) : Prop := (zw_Gr_shapes ln c (fun r243 z243 => (zw_Mo_shapes g (fun r244 z244 => ((r243 = r244 → zw_La_1024 ln L xs k63 v4 j z243 z244 o) ∧ (¬ r243 = r244 → False))))))
set_option maxHeartbeats 4000000 in
set_option maxRecDepth 100000 in
theorem zt_La_c11 {x : zC} {w : zW} {b L : Nat} {xs : Nat → Int32} {k0 n0 : Nat} (hL : zq_LW x w b L xs k0 n0) {k63 : Int32 × Nat × zS × zS × (Nat → Int64) → Prop} {j : Nat} (hj : j < 1000) (hk : ∀ q : Int32 × Nat × zS × zS × (Nat → Int64), k63 q → zq_W x w (k0 + q.2.1) (n0 + 6 * q.2.1) (q.2.2.1, q.2.2.2.1, q.2.2.2.2) 63 [some (.ref b), some (.ref (w.2.1 0)), some (.ref (w.2.1 28)), some (.ref (w.2.1 40)), some (.int q.1), none, none] []) {v4 : Int32} {c g : zS} {o : Nat → Int64} (h : zw_La_c11 w.2.2.1 L xs k63 v4 j c g o) : zq_W x w (k0 + j) (n0 + 6 * j) (c, g, o) 943 [some (.ref b), some (.ref (w.2.1 0)), some (.ref (w.2.1 28)), some (.ref (w.2.1 40)), some (.int v4), none, none] [] := by
  obtain ⟨hG, hW, hAp, hE, hA0, hX, hbl, hbA, hQ, hfl, hk0, hn0⟩ := id hL
  have h : (zw_Gr_shapes w.2.2.1 c (fun r243 z243 => (zw_Mo_shapes g (fun r244 z244 => ((r243 = r244 → zw_La_1024 w.2.2.1 L xs k63 v4 j z243 z244 o) ∧ (¬ r243 = r244 → False)))))) := h
  refine zr_aload_n hG zd_La_law_943 rfl rfl ?_
  refine zr_callV hG zq_F0 (As := []) (rest := []) (zm_Gr_shapes (zc_l x) w hAp g o h) 0 rfl rfl rfl zg_La_114 zdd_Gr_shapes ⟨rfl, rfl, by decide, by decide⟩ ⟨by show _ ≤ 600002; omega, by show _ ≤ 7302198; omega⟩ rfl (Nat.le_of_ble_eq_true rfl) zd_La_law_944 rfl ?_
  rintro _ _ ⟨r243, z243, rfl, rfl, h⟩
  refine zr_aload_n hG zd_La_law_947 rfl rfl ?_
  refine zr_callV hG (zq_F1 hW) (As := []) (rest := [.int r243]) (zm_Mo_shapes (zc_l x) w hAp z243 o h) 28 rfl rfl rfl zg_La_117 zdd_Mo_shapes ⟨rfl, rfl, by decide, by decide⟩ ⟨by show _ ≤ 600002; omega, by show _ ≤ 7302198; omega⟩ rfl (Nat.le_of_ble_eq_true rfl) zd_La_law_948 rfl ?_
  rintro _ _ ⟨r244, z244, rfl, rfl, h⟩
  refine zr_icmp_eq hG 1024 zd_La_law_951 (by decide) (fun hc => ?_) (fun hc => ?_)
  · have h := h.1 hc
    exact zr_widen (by omega) (by omega) (zt_La_1024 hL hj hk h)
  · have h := h.2 hc
    exact h.elim
def zw_La_c5 (ln : Nat → Nat) (L : Nat) (xs : Nat → Int32) (k63 : Int32 × Nat × zS × zS × (Nat → Int64) → Prop) (v4 : Int32) (j : Nat) (c g : zS) (o : Nat → Int64) : Prop := vp_in (v4 + (1 : Int32)) L ∧ (zw_La_h_rip ln (xs (v4 + (1 : Int32)).toNatClampNeg) c o (fun r225 c225 o225 => vp_in (v4 + (1 : Int32)) L ∧ (zw_Mo_rip (xs (v4 + (1 : Int32)).toNatClampNeg) g (fun z226 => (zw_Mo_thrown z226 (fun r227 z227 => ((r227 = r225 → zw_La_1024 ln L xs k63 v4 j c225 z227 o225) ∧ (¬ r227 = r225 → False))))))))
set_option maxHeartbeats 4000000 in
set_option maxRecDepth 100000 in
theorem zt_La_c5 {x : zC} {w : zW} {b L : Nat} {xs : Nat → Int32} {k0 n0 : Nat} (hL : zq_LW x w b L xs k0 n0) {k63 : Int32 × Nat × zS × zS × (Nat → Int64) → Prop} {j : Nat} (hj : j < 1000) (hk : ∀ q : Int32 × Nat × zS × zS × (Nat → Int64), k63 q → zq_W x w (k0 + q.2.1) (n0 + 6 * q.2.1) (q.2.2.1, q.2.2.2.1, q.2.2.2.2) 63 [some (.ref b), some (.ref (w.2.1 0)), some (.ref (w.2.1 28)), some (.ref (w.2.1 40)), some (.int q.1), none, none] []) {v4 : Int32} {c g : zS} {o : Nat → Int64} (h : zw_La_c5 w.2.2.1 L xs k63 v4 j c g o) : zq_W x w (k0 + j) (n0 + 6 * j) (c, g, o) 549 [some (.ref b), some (.ref (w.2.1 0)), some (.ref (w.2.1 28)), some (.ref (w.2.1 40)), some (.int v4), none, none] [] := by
  obtain ⟨hG, hW, hAp, hE, hA0, hX, hbl, hbA, hQ, hfl, hk0, hn0⟩ := id hL
  refine zr_aload_n hG zd_La_law_549 rfl rfl ?_
  refine zr_aload_n hG zd_La_law_550 rfl rfl ?_
  refine zr_iload hG zd_La_law_551 rfl ?_
  refine zr_iconst hG (v := (1 : Int32)) zd_La_law_553 (by decide) ?_
  refine zr_iadd hG zd_La_law_554 ?_
  obtain ⟨hi, h⟩ := h
  refine zr_sld hG hX hbl hbA hi zd_La_law_555 ?_
  refine zr_callH hG (zq_F1 hW) hE hA0 (As := [.ref (w.2.1 0), .int (xs (v4 + (1 : Int32)).toNatClampNeg)]) (rest := []) (zm_La_h_rip (zc_l x) hfl w hAp g h) rfl zgh_93 zdd_La_h_rip ⟨rfl, rfl, by decide, by decide⟩ ⟨by show _ ≤ 600002; omega, by show _ ≤ 7302198; omega⟩ rfl (Nat.le_of_ble_eq_true rfl) zd_La_law_556 rfl ?_
  rintro _ _ ⟨r225, c225, o225, rfl, rfl, h⟩
  refine zr_istore hG [some (.ref b), some (.ref (w.2.1 0)), some (.ref (w.2.1 28)), some (.ref (w.2.1 40)), some (.int v4), some (.int r225), none] zd_La_law_559 (Nat.le_of_ble_eq_true rfl) rfl ?_
  refine zr_aload_n hG zd_La_law_561 rfl rfl ?_
  refine zr_aload_n hG zd_La_law_562 rfl rfl ?_
  refine zr_iload hG zd_La_law_563 rfl ?_
  refine zr_iconst hG (v := (1 : Int32)) zd_La_law_565 (by decide) ?_
  refine zr_iadd hG zd_La_law_566 ?_
  obtain ⟨hi, h⟩ := h
  refine zr_sld hG hX hbl hbA hi zd_La_law_567 ?_
  refine zr_callV hG (zq_F1 hW) (As := [.int (xs (v4 + (1 : Int32)).toNatClampNeg)]) (rest := []) (zm_Mo_rip (zc_l x) w hAp c225 o225 h) 28 rfl rfl rfl zg_La_96 zdd_Mo_rip ⟨rfl, rfl, by decide, by decide⟩ ⟨by show _ ≤ 600002; omega, by show _ ≤ 7302198; omega⟩ rfl (Nat.le_of_ble_eq_true rfl) zd_La_law_568 rfl ?_
  rintro _ _ ⟨z226, rfl, rfl, h⟩
  refine zr_aload_n hG zd_La_law_571 rfl rfl ?_
  refine zr_callV hG zq_F0 (As := []) (rest := []) (zm_Mo_thrown (zc_l x) w hAp c225 o225 h) 28 rfl rfl rfl zg_La_74 zdd_Mo_thrown ⟨rfl, rfl, by decide, by decide⟩ ⟨by show _ ≤ 600002; omega, by show _ ≤ 7302198; omega⟩ rfl (Nat.le_of_ble_eq_true rfl) zd_La_law_572 rfl ?_
  rintro _ _ ⟨r227, z227, rfl, rfl, h⟩
  refine zr_iload hG zd_La_law_575 rfl ?_
  refine zr_icmp_eq hG 582 zd_La_law_577 (by decide) (fun hc => ?_) (fun hc => ?_)
  · have h := h.1 hc
    refine zr_goto hG 1024 zd_La_law_582 (by decide) ?_
    exact zr_mask [true, true, true, true, true, false, false] (zt_La_1024 hL hj hk h)
  · have h := h.2 hc
    exact h.elim
def zw_La_c6 (ln : Nat → Nat) (L : Nat) (xs : Nat → Int32) (k63 : Int32 × Nat × zS × zS × (Nat → Int64) → Prop) (v4 : Int32) (j : Nat) (c g : zS) (o : Nat → Int64) : Prop := vp_in (v4 + (1 : Int32)) L ∧ vp_in (v4 + (2 : Int32)) L ∧ vp_in (v4 + (3 : Int32)) L ∧ vp_in (v4 + (4 : Int32)) L ∧ (zw_La_h_paint ln (xs (v4 + (1 : Int32)).toNatClampNeg) (xs (v4 + (2 : Int32)).toNatClampNeg) (xs (v4 + (3 : Int32)).toNatClampNeg) (xs (v4 + (4 : Int32)).toNatClampNeg) c o (fun r228 c228 o228 => vp_in (v4 + (1 : Int32)) L ∧ vp_in (v4 + (2 : Int32)) L ∧ vp_in (v4 + (3 : Int32)) L ∧ vp_in (v4 + (4 : Int32)) L ∧ (zw_Mo_paint (xs (v4 + (1 : Int32)).toNatClampNeg) (xs (v4 + (2 : Int32)).toNatClampNeg) (xs (v4 + (3 : Int32)).toNatClampNeg) (xs (v4 + (4 : Int32)).toNatClampNeg) g (fun z229 => (zw_Mo_thrown z229 (fun r230 z230 => ((r230 = r228 → zw_La_1024 ln L xs k63 v4 j c228 z230 o228) ∧ (¬ r230 = r228 → False))))))))
set_option maxHeartbeats 4000000 in
set_option maxRecDepth 100000 in
theorem zt_La_c6 {x : zC} {w : zW} {b L : Nat} {xs : Nat → Int32} {k0 n0 : Nat} (hL : zq_LW x w b L xs k0 n0) {k63 : Int32 × Nat × zS × zS × (Nat → Int64) → Prop} {j : Nat} (hj : j < 1000) (hk : ∀ q : Int32 × Nat × zS × zS × (Nat → Int64), k63 q → zq_W x w (k0 + q.2.1) (n0 + 6 * q.2.1) (q.2.2.1, q.2.2.2.1, q.2.2.2.2) 63 [some (.ref b), some (.ref (w.2.1 0)), some (.ref (w.2.1 28)), some (.ref (w.2.1 40)), some (.int q.1), none, none] []) {v4 : Int32} {c g : zS} {o : Nat → Int64} (h : zw_La_c6 w.2.2.1 L xs k63 v4 j c g o) : zq_W x w (k0 + j) (n0 + 6 * j) (c, g, o) 585 [some (.ref b), some (.ref (w.2.1 0)), some (.ref (w.2.1 28)), some (.ref (w.2.1 40)), some (.int v4), none, none] [] := by
  obtain ⟨hG, hW, hAp, hE, hA0, hX, hbl, hbA, hQ, hfl, hk0, hn0⟩ := id hL
  refine zr_aload_n hG zd_La_law_585 rfl rfl ?_
  refine zr_aload_n hG zd_La_law_586 rfl rfl ?_
  refine zr_iload hG zd_La_law_587 rfl ?_
  refine zr_iconst hG (v := (1 : Int32)) zd_La_law_589 (by decide) ?_
  refine zr_iadd hG zd_La_law_590 ?_
  obtain ⟨hi, h⟩ := h
  refine zr_sld hG hX hbl hbA hi zd_La_law_591 ?_
  refine zr_aload_n hG zd_La_law_592 rfl rfl ?_
  refine zr_iload hG zd_La_law_593 rfl ?_
  refine zr_iconst hG (v := (2 : Int32)) zd_La_law_595 (by decide) ?_
  refine zr_iadd hG zd_La_law_596 ?_
  obtain ⟨hi, h⟩ := h
  refine zr_sld hG hX hbl hbA hi zd_La_law_597 ?_
  refine zr_aload_n hG zd_La_law_598 rfl rfl ?_
  refine zr_iload hG zd_La_law_599 rfl ?_
  refine zr_iconst hG (v := (3 : Int32)) zd_La_law_601 (by decide) ?_
  refine zr_iadd hG zd_La_law_602 ?_
  obtain ⟨hi, h⟩ := h
  refine zr_sld hG hX hbl hbA hi zd_La_law_603 ?_
  refine zr_aload_n hG zd_La_law_604 rfl rfl ?_
  refine zr_iload hG zd_La_law_605 rfl ?_
  refine zr_iconst hG (v := (4 : Int32)) zd_La_law_607 (by decide) ?_
  refine zr_iadd hG zd_La_law_608 ?_
  obtain ⟨hi, h⟩ := h
  refine zr_sld hG hX hbl hbA hi zd_La_law_609 ?_
  refine zr_callH hG (zq_F1 hW) hE hA0 (As := [.ref (w.2.1 0), .int (xs (v4 + (1 : Int32)).toNatClampNeg), .int (xs (v4 + (2 : Int32)).toNatClampNeg), .int (xs (v4 + (3 : Int32)).toNatClampNeg), .int (xs (v4 + (4 : Int32)).toNatClampNeg)]) (rest := []) (zm_La_h_paint (zc_l x) hfl w hAp g h) rfl zgh_97 zdd_La_h_paint ⟨rfl, rfl, by decide, by decide⟩ ⟨by show _ ≤ 600002; omega, by show _ ≤ 7302198; omega⟩ rfl (Nat.le_of_ble_eq_true rfl) zd_La_law_610 rfl ?_
  rintro _ _ ⟨r228, c228, o228, rfl, rfl, h⟩
  refine zr_istore hG [some (.ref b), some (.ref (w.2.1 0)), some (.ref (w.2.1 28)), some (.ref (w.2.1 40)), some (.int v4), some (.int r228), none] zd_La_law_613 (Nat.le_of_ble_eq_true rfl) rfl ?_
  refine zr_aload_n hG zd_La_law_615 rfl rfl ?_
  refine zr_aload_n hG zd_La_law_616 rfl rfl ?_
  refine zr_iload hG zd_La_law_617 rfl ?_
  refine zr_iconst hG (v := (1 : Int32)) zd_La_law_619 (by decide) ?_
  refine zr_iadd hG zd_La_law_620 ?_
  obtain ⟨hi, h⟩ := h
  refine zr_sld hG hX hbl hbA hi zd_La_law_621 ?_
  refine zr_aload_n hG zd_La_law_622 rfl rfl ?_
  refine zr_iload hG zd_La_law_623 rfl ?_
  refine zr_iconst hG (v := (2 : Int32)) zd_La_law_625 (by decide) ?_
  refine zr_iadd hG zd_La_law_626 ?_
  obtain ⟨hi, h⟩ := h
  refine zr_sld hG hX hbl hbA hi zd_La_law_627 ?_
  refine zr_aload_n hG zd_La_law_628 rfl rfl ?_
  refine zr_iload hG zd_La_law_629 rfl ?_
  refine zr_iconst hG (v := (3 : Int32)) zd_La_law_631 (by decide) ?_
  refine zr_iadd hG zd_La_law_632 ?_
  obtain ⟨hi, h⟩ := h
  refine zr_sld hG hX hbl hbA hi zd_La_law_633 ?_
  refine zr_aload_n hG zd_La_law_634 rfl rfl ?_
  refine zr_iload hG zd_La_law_635 rfl ?_
  refine zr_iconst hG (v := (4 : Int32)) zd_La_law_637 (by decide) ?_
  refine zr_iadd hG zd_La_law_638 ?_
  obtain ⟨hi, h⟩ := h
  refine zr_sld hG hX hbl hbA hi zd_La_law_639 ?_
  refine zr_callV hG (zq_F1 hW) (As := [.int (xs (v4 + (1 : Int32)).toNatClampNeg), .int (xs (v4 + (2 : Int32)).toNatClampNeg), .int (xs (v4 + (3 : Int32)).toNatClampNeg), .int (xs (v4 + (4 : Int32)).toNatClampNeg)]) (rest := []) (zm_Mo_paint (zc_l x) w hAp c228 o228 h) 28 rfl rfl rfl zg_La_100 zdd_Mo_paint ⟨rfl, rfl, by decide, by decide⟩ ⟨by show _ ≤ 600002; omega, by show _ ≤ 7302198; omega⟩ rfl (Nat.le_of_ble_eq_true rfl) zd_La_law_640 rfl ?_
  rintro _ _ ⟨z229, rfl, rfl, h⟩
  refine zr_aload_n hG zd_La_law_643 rfl rfl ?_
  refine zr_callV hG zq_F0 (As := []) (rest := []) (zm_Mo_thrown (zc_l x) w hAp c228 o228 h) 28 rfl rfl rfl zg_La_74 zdd_Mo_thrown ⟨rfl, rfl, by decide, by decide⟩ ⟨by show _ ≤ 600002; omega, by show _ ≤ 7302198; omega⟩ rfl (Nat.le_of_ble_eq_true rfl) zd_La_law_644 rfl ?_
  rintro _ _ ⟨r230, z230, rfl, rfl, h⟩
  refine zr_iload hG zd_La_law_647 rfl ?_
  refine zr_icmp_eq hG 654 zd_La_law_649 (by decide) (fun hc => ?_) (fun hc => ?_)
  · have h := h.1 hc
    refine zr_goto hG 1024 zd_La_law_654 (by decide) ?_
    exact zr_mask [true, true, true, true, true, false, false] (zt_La_1024 hL hj hk h)
  · have h := h.2 hc
    exact h.elim
def zw_La_226 (ln : Nat → Nat) (L : Nat) (xs : Nat → Int32) (k63 : Int32 × Nat × zS × zS × (Nat → Int64) → Prop) (v4 : Int32) (u0 : Int64) (u1 : Int64) (j : Nat) (c g : zS) (o : Nat → Int64) : Prop := (((lg_cmp u1 u0) = 0 → zw_La_232 ln L xs k63 v4 j c g o) ∧ (¬ (lg_cmp u1 u0) = 0 → False))
set_option maxHeartbeats 4000000 in
set_option maxRecDepth 100000 in
theorem zt_La_226 {x : zC} {w : zW} {b L : Nat} {xs : Nat → Int32} {k0 n0 : Nat} (hL : zq_LW x w b L xs k0 n0) {k63 : Int32 × Nat × zS × zS × (Nat → Int64) → Prop} {j : Nat} (hj : j < 1000) (hk : ∀ q : Int32 × Nat × zS × zS × (Nat → Int64), k63 q → zq_W x w (k0 + q.2.1) (n0 + 6 * q.2.1) (q.2.2.1, q.2.2.2.1, q.2.2.2.2) 63 [some (.ref b), some (.ref (w.2.1 0)), some (.ref (w.2.1 28)), some (.ref (w.2.1 40)), some (.int q.1), none, none] []) {v4 : Int32} {u0 : Int64} {u1 : Int64} {c g : zS} {o : Nat → Int64} (h : zw_La_226 w.2.2.1 L xs k63 v4 u0 u1 j c g o) : zq_W x w (k0 + j + 1) (n0 + 6 * j + 6) (c, g, o) 226 [some (.ref b), some (.ref (w.2.1 0)), some (.ref (w.2.1 28)), some (.ref (w.2.1 40)), some (.int v4), none, none] [.long u0, .long u1] := by
  obtain ⟨hG, hW, hAp, hE, hA0, hX, hbl, hbA, hQ, hfl, hk0, hn0⟩ := id hL
  refine zr_lcmp hG zd_La_law_226 ?_
  refine zr_if_eq hG 232 zd_La_law_227 (by decide) (fun hc => ?_) (fun hc => ?_)
  · have h := h.1 hc
    exact zt_La_232 hL hj hk h
  · have h := h.2 hc
    exact h.elim
def zw_La_507 (ln : Nat → Nat) (L : Nat) (xs : Nat → Int32) (k63 : Int32 × Nat × zS × zS × (Nat → Int64) → Prop) (v4 : Int32) (v5 : Int32) (u0 : Int32) (j : Nat) (c g : zS) (o : Nat → Int64) : Prop := vp_in (v4 + (2 : Int32)) L ∧ (zw_Mo_all u0 (xs (v4 + (2 : Int32)).toNatClampNeg) g (fun r249 z249 => (zw_Mo_thrown z249 (fun r250 z250 => ((r250 = v5 → ((¬ v5 = 0 → zw_La_546 ln L xs k63 v4 j c z250 o) ∧ (v5 = 0 → (((lg_cmp (o (0 : Int32).toNatClampNeg) r249.toInt64) = 0 → zw_La_546 ln L xs k63 v4 j c z250 o) ∧ (¬ (lg_cmp (o (0 : Int32).toNatClampNeg) r249.toInt64) = 0 → False))))) ∧ (¬ r250 = v5 → False))))))
set_option maxHeartbeats 4000000 in
set_option maxRecDepth 100000 in
theorem zt_La_507 {x : zC} {w : zW} {b L : Nat} {xs : Nat → Int32} {k0 n0 : Nat} (hL : zq_LW x w b L xs k0 n0) {k63 : Int32 × Nat × zS × zS × (Nat → Int64) → Prop} {j : Nat} (hj : j < 1000) (hk : ∀ q : Int32 × Nat × zS × zS × (Nat → Int64), k63 q → zq_W x w (k0 + q.2.1) (n0 + 6 * q.2.1) (q.2.2.1, q.2.2.2.1, q.2.2.2.2) 63 [some (.ref b), some (.ref (w.2.1 0)), some (.ref (w.2.1 28)), some (.ref (w.2.1 40)), some (.int q.1), none, none] []) {v4 : Int32} {v5 : Int32} {u0 : Int32} {c g : zS} {o : Nat → Int64} (h : zw_La_507 w.2.2.1 L xs k63 v4 v5 u0 j c g o) : zq_W x w (k0 + j + 1) (n0 + 6 * j + 6) (c, g, o) 507 [some (.ref b), some (.ref (w.2.1 0)), some (.ref (w.2.1 28)), some (.ref (w.2.1 40)), some (.int v4), some (.int v5), none] [.int u0, .ref (w.2.1 28)] := by
  obtain ⟨hG, hW, hAp, hE, hA0, hX, hbl, hbA, hQ, hfl, hk0, hn0⟩ := id hL
  refine zr_aload_n hG zd_La_law_507 rfl rfl ?_
  refine zr_iload hG zd_La_law_508 rfl ?_
  refine zr_iconst hG (v := (2 : Int32)) zd_La_law_510 (by decide) ?_
  refine zr_iadd hG zd_La_law_511 ?_
  obtain ⟨hi, h⟩ := h
  refine zr_sld hG hX hbl hbA hi zd_La_law_512 ?_
  refine zr_callV hG (zq_F1 hW) (As := [.int u0, .int (xs (v4 + (2 : Int32)).toNatClampNeg)]) (rest := []) (zm_Mo_all (zc_l x) w hAp c o h) 28 rfl rfl rfl zg_La_92 zdd_Mo_all ⟨rfl, rfl, by decide, by decide⟩ ⟨by show _ ≤ 600002; omega, by show _ ≤ 7302198; omega⟩ rfl (Nat.le_of_ble_eq_true rfl) zd_La_law_513 rfl ?_
  rintro _ _ ⟨r249, z249, rfl, rfl, h⟩
  refine zr_istore hG [some (.ref b), some (.ref (w.2.1 0)), some (.ref (w.2.1 28)), some (.ref (w.2.1 40)), some (.int v4), some (.int v5), some (.int r249)] zd_La_law_516 (Nat.le_of_ble_eq_true rfl) rfl ?_
  refine zr_aload_n hG zd_La_law_518 rfl rfl ?_
  refine zr_callV hG zq_F0 (As := []) (rest := []) (zm_Mo_thrown (zc_l x) w hAp c o h) 28 rfl rfl rfl zg_La_74 zdd_Mo_thrown ⟨rfl, rfl, by decide, by decide⟩ ⟨by show _ ≤ 600002; omega, by show _ ≤ 7302198; omega⟩ rfl (Nat.le_of_ble_eq_true rfl) zd_La_law_519 rfl ?_
  rintro _ _ ⟨r250, z250, rfl, rfl, h⟩
  refine zr_iload hG zd_La_law_522 rfl ?_
  refine zr_icmp_eq hG 529 zd_La_law_524 (by decide) (fun hc => ?_) (fun hc => ?_)
  · have h := h.1 hc
    refine zr_iload hG zd_La_law_529 rfl ?_
    refine zr_if_ne hG 546 zd_La_law_531 (by decide) (fun hc => ?_) (fun hc => ?_)
    · have h := h.1 hc
      exact zr_mask [true, true, true, true, true, false, false] (zt_La_546 hL hj hk h)
    · have h := h.2 hc
      refine zr_aload_n hG zd_La_law_534 rfl rfl ?_
      refine zr_iconst hG (v := (0 : Int32)) zd_La_law_535 (by decide) ?_
      refine zl_40 hG zd_La_law_536 ?_
      refine zr_iload hG zd_La_law_537 rfl ?_
      refine zr_i2l hG zd_La_law_539 ?_
      refine zr_lcmp hG zd_La_law_540 ?_
      refine zr_if_eq hG 546 zd_La_law_541 (by decide) (fun hc => ?_) (fun hc => ?_)
      · have h := h.1 hc
        exact zr_mask [true, true, true, true, true, false, false] (zt_La_546 hL hj hk h)
      · have h := h.2 hc
        exact h.elim
  · have h := h.2 hc
    exact h.elim
def zw_La_723 (ln : Nat → Nat) (L : Nat) (xs : Nat → Int32) (k63 : Int32 × Nat × zS × zS × (Nat → Int64) → Prop) (v4 : Int32) (u0 : Int64) (u1 : Int64) (j : Nat) (c g : zS) (o : Nat → Int64) : Prop := (((lg_cmp u1 u0) = 0 → zw_La_729 ln L xs k63 v4 j c g o) ∧ (¬ (lg_cmp u1 u0) = 0 → False))
set_option maxHeartbeats 4000000 in
set_option maxRecDepth 100000 in
theorem zt_La_723 {x : zC} {w : zW} {b L : Nat} {xs : Nat → Int32} {k0 n0 : Nat} (hL : zq_LW x w b L xs k0 n0) {k63 : Int32 × Nat × zS × zS × (Nat → Int64) → Prop} {j : Nat} (hj : j < 1000) (hk : ∀ q : Int32 × Nat × zS × zS × (Nat → Int64), k63 q → zq_W x w (k0 + q.2.1) (n0 + 6 * q.2.1) (q.2.2.1, q.2.2.2.1, q.2.2.2.2) 63 [some (.ref b), some (.ref (w.2.1 0)), some (.ref (w.2.1 28)), some (.ref (w.2.1 40)), some (.int q.1), none, none] []) {v4 : Int32} {u0 : Int64} {u1 : Int64} {c g : zS} {o : Nat → Int64} (h : zw_La_723 w.2.2.1 L xs k63 v4 u0 u1 j c g o) : zq_W x w (k0 + j + 1) (n0 + 6 * j + 6) (c, g, o) 723 [some (.ref b), some (.ref (w.2.1 0)), some (.ref (w.2.1 28)), some (.ref (w.2.1 40)), some (.int v4), none, none] [.long u0, .long u1] := by
  obtain ⟨hG, hW, hAp, hE, hA0, hX, hbl, hbA, hQ, hfl, hk0, hn0⟩ := id hL
  refine zr_lcmp hG zd_La_law_723 ?_
  refine zr_if_eq hG 729 zd_La_law_724 (by decide) (fun hc => ?_) (fun hc => ?_)
  · have h := h.1 hc
    exact zt_La_729 hL hj hk h
  · have h := h.2 hc
    exact h.elim
def zw_La_878 (ln : Nat → Nat) (L : Nat) (xs : Nat → Int32) (k63 : Int32 × Nat × zS × zS × (Nat → Int64) → Prop) (v4 : Int32) (u0 : Int64) (u1 : Int64) (j : Nat) (c g : zS) (o : Nat → Int64) : Prop := (((lg_cmp u1 u0) = 0 → zw_La_884 ln L xs k63 v4 j c g o) ∧ (¬ (lg_cmp u1 u0) = 0 → False))
set_option maxHeartbeats 4000000 in
set_option maxRecDepth 100000 in
theorem zt_La_878 {x : zC} {w : zW} {b L : Nat} {xs : Nat → Int32} {k0 n0 : Nat} (hL : zq_LW x w b L xs k0 n0) {k63 : Int32 × Nat × zS × zS × (Nat → Int64) → Prop} {j : Nat} (hj : j < 1000) (hk : ∀ q : Int32 × Nat × zS × zS × (Nat → Int64), k63 q → zq_W x w (k0 + q.2.1) (n0 + 6 * q.2.1) (q.2.2.1, q.2.2.2.1, q.2.2.2.2) 63 [some (.ref b), some (.ref (w.2.1 0)), some (.ref (w.2.1 28)), some (.ref (w.2.1 40)), some (.int q.1), none, none] []) {v4 : Int32} {u0 : Int64} {u1 : Int64} {c g : zS} {o : Nat → Int64} (h : zw_La_878 w.2.2.1 L xs k63 v4 u0 u1 j c g o) : zq_W x w (k0 + j + 1) (n0 + 6 * j + 6) (c, g, o) 878 [some (.ref b), some (.ref (w.2.1 0)), some (.ref (w.2.1 28)), some (.ref (w.2.1 40)), some (.int v4), none, none] [.long u0, .long u1] := by
  obtain ⟨hG, hW, hAp, hE, hA0, hX, hbl, hbA, hQ, hfl, hk0, hn0⟩ := id hL
  refine zr_lcmp hG zd_La_law_878 ?_
  refine zr_if_eq hG 884 zd_La_law_879 (by decide) (fun hc => ?_) (fun hc => ?_)
  · have h := h.1 hc
    exact zt_La_884 hL hj hk h
  · have h := h.2 hc
    exact h.elim
def zw_La_c1 (ln : Nat → Nat) (L : Nat) (xs : Nat → Int32) (k63 : Int32 × Nat × zS × zS × (Nat → Int64) → Prop) (v4 : Int32) (j : Nat) (c g : zS) (o : Nat → Int64) : Prop := vp_in (v4 + (1 : Int32)) L ∧ vp_in (v4 + (2 : Int32)) L ∧ vp_in (v4 + (3 : Int32)) L ∧ vp_in (v4 + (4 : Int32)) L ∧ vp_in (v4 + (5 : Int32)) L ∧ vp_in (v4 + (6 : Int32)) L ∧ (zw_La_h_net ln (xs (v4 + (1 : Int32)).toNatClampNeg) (xs (v4 + (2 : Int32)).toNatClampNeg) (xs (v4 + (3 : Int32)).toNatClampNeg) (xs (v4 + (4 : Int32)).toNatClampNeg) (xs (v4 + (5 : Int32)).toNatClampNeg) (xs (v4 + (6 : Int32)).toNatClampNeg) c o (fun r216 c216 o216 => vp_in (v4 + (1 : Int32)) L ∧ vp_in (v4 + (2 : Int32)) L ∧ vp_in (v4 + (3 : Int32)) L ∧ vp_in (v4 + (4 : Int32)) L ∧ vp_in (v4 + (5 : Int32)) L ∧ vp_in (v4 + (6 : Int32)) L ∧ (zw_Mo_net (xs (v4 + (1 : Int32)).toNatClampNeg) (xs (v4 + (2 : Int32)).toNatClampNeg) (xs (v4 + (3 : Int32)).toNatClampNeg) (xs (v4 + (4 : Int32)).toNatClampNeg) (xs (v4 + (5 : Int32)).toNatClampNeg) (xs (v4 + (6 : Int32)).toNatClampNeg) g (fun r217 z217 => (zw_Mo_thrown z217 (fun r218 z218 => ((r218 = r216 → ((¬ r216 = 0 → zw_La_350 ln L xs k63 v4 j c216 z218 o216) ∧ (r216 = 0 → (((lg_cmp (o216 (0 : Int32).toNatClampNeg) r217.toInt64) = 0 → zw_La_350 ln L xs k63 v4 j c216 z218 o216) ∧ (¬ (lg_cmp (o216 (0 : Int32).toNatClampNeg) r217.toInt64) = 0 → False))))) ∧ (¬ r218 = r216 → False))))))))
set_option maxHeartbeats 4000000 in
set_option maxRecDepth 100000 in
theorem zt_La_c1 {x : zC} {w : zW} {b L : Nat} {xs : Nat → Int32} {k0 n0 : Nat} (hL : zq_LW x w b L xs k0 n0) {k63 : Int32 × Nat × zS × zS × (Nat → Int64) → Prop} {j : Nat} (hj : j < 1000) (hk : ∀ q : Int32 × Nat × zS × zS × (Nat → Int64), k63 q → zq_W x w (k0 + q.2.1) (n0 + 6 * q.2.1) (q.2.2.1, q.2.2.2.1, q.2.2.2.2) 63 [some (.ref b), some (.ref (w.2.1 0)), some (.ref (w.2.1 28)), some (.ref (w.2.1 40)), some (.int q.1), none, none] []) {v4 : Int32} {c g : zS} {o : Nat → Int64} (h : zw_La_c1 w.2.2.1 L xs k63 v4 j c g o) : zq_W x w (k0 + j) (n0 + 6 * j) (c, g, o) 235 [some (.ref b), some (.ref (w.2.1 0)), some (.ref (w.2.1 28)), some (.ref (w.2.1 40)), some (.int v4), none, none] [] := by
  obtain ⟨hG, hW, hAp, hE, hA0, hX, hbl, hbA, hQ, hfl, hk0, hn0⟩ := id hL
  refine zr_aload_n hG zd_La_law_235 rfl rfl ?_
  refine zr_aload_n hG zd_La_law_236 rfl rfl ?_
  refine zr_iload hG zd_La_law_237 rfl ?_
  refine zr_iconst hG (v := (1 : Int32)) zd_La_law_239 (by decide) ?_
  refine zr_iadd hG zd_La_law_240 ?_
  obtain ⟨hi, h⟩ := h
  refine zr_sld hG hX hbl hbA hi zd_La_law_241 ?_
  refine zr_aload_n hG zd_La_law_242 rfl rfl ?_
  refine zr_iload hG zd_La_law_243 rfl ?_
  refine zr_iconst hG (v := (2 : Int32)) zd_La_law_245 (by decide) ?_
  refine zr_iadd hG zd_La_law_246 ?_
  obtain ⟨hi, h⟩ := h
  refine zr_sld hG hX hbl hbA hi zd_La_law_247 ?_
  refine zr_aload_n hG zd_La_law_248 rfl rfl ?_
  refine zr_iload hG zd_La_law_249 rfl ?_
  refine zr_iconst hG (v := (3 : Int32)) zd_La_law_251 (by decide) ?_
  refine zr_iadd hG zd_La_law_252 ?_
  obtain ⟨hi, h⟩ := h
  refine zr_sld hG hX hbl hbA hi zd_La_law_253 ?_
  refine zr_aload_n hG zd_La_law_254 rfl rfl ?_
  refine zr_iload hG zd_La_law_255 rfl ?_
  refine zr_iconst hG (v := (4 : Int32)) zd_La_law_257 (by decide) ?_
  refine zr_iadd hG zd_La_law_258 ?_
  obtain ⟨hi, h⟩ := h
  refine zr_sld hG hX hbl hbA hi zd_La_law_259 ?_
  refine zr_aload_n hG zd_La_law_260 rfl rfl ?_
  refine zr_iload hG zd_La_law_261 rfl ?_
  refine zr_iconst hG (v := (5 : Int32)) zd_La_law_263 (by decide) ?_
  refine zr_iadd hG zd_La_law_264 ?_
  obtain ⟨hi, h⟩ := h
  refine zr_sld hG hX hbl hbA hi zd_La_law_265 ?_
  refine zr_aload_n hG zd_La_law_266 rfl rfl ?_
  refine zr_iload hG zd_La_law_267 rfl ?_
  refine zr_bipush hG (v := (6 : Int32)) zd_La_law_269 (by decide) ?_
  refine zr_iadd hG zd_La_law_271 ?_
  obtain ⟨hi, h⟩ := h
  refine zr_sld hG hX hbl hbA hi zd_La_law_272 ?_
  refine zr_aload_n hG zd_La_law_273 rfl rfl ?_
  refine zr_callH hG (zq_F1 hW) hE hA0 (As := [.ref (w.2.1 0), .int (xs (v4 + (1 : Int32)).toNatClampNeg), .int (xs (v4 + (2 : Int32)).toNatClampNeg), .int (xs (v4 + (3 : Int32)).toNatClampNeg), .int (xs (v4 + (4 : Int32)).toNatClampNeg), .int (xs (v4 + (5 : Int32)).toNatClampNeg), .int (xs (v4 + (6 : Int32)).toNatClampNeg), .ref (w.2.1 40)]) (rest := []) (zm_La_h_net (zc_l x) hfl w hAp g h) rfl zgh_78 zdd_La_h_net ⟨rfl, rfl, by decide, by decide⟩ ⟨by show _ ≤ 600002; omega, by show _ ≤ 7302198; omega⟩ rfl (Nat.le_of_ble_eq_true rfl) zd_La_law_274 rfl ?_
  rintro _ _ ⟨r216, c216, o216, rfl, rfl, h⟩
  refine zr_istore hG [some (.ref b), some (.ref (w.2.1 0)), some (.ref (w.2.1 28)), some (.ref (w.2.1 40)), some (.int v4), some (.int r216), none] zd_La_law_277 (Nat.le_of_ble_eq_true rfl) rfl ?_
  refine zr_aload_n hG zd_La_law_279 rfl rfl ?_
  refine zr_aload_n hG zd_La_law_280 rfl rfl ?_
  refine zr_iload hG zd_La_law_281 rfl ?_
  refine zr_iconst hG (v := (1 : Int32)) zd_La_law_283 (by decide) ?_
  refine zr_iadd hG zd_La_law_284 ?_
  obtain ⟨hi, h⟩ := h
  refine zr_sld hG hX hbl hbA hi zd_La_law_285 ?_
  refine zr_aload_n hG zd_La_law_286 rfl rfl ?_
  refine zr_iload hG zd_La_law_287 rfl ?_
  refine zr_iconst hG (v := (2 : Int32)) zd_La_law_289 (by decide) ?_
  refine zr_iadd hG zd_La_law_290 ?_
  obtain ⟨hi, h⟩ := h
  refine zr_sld hG hX hbl hbA hi zd_La_law_291 ?_
  refine zr_aload_n hG zd_La_law_292 rfl rfl ?_
  refine zr_iload hG zd_La_law_293 rfl ?_
  refine zr_iconst hG (v := (3 : Int32)) zd_La_law_295 (by decide) ?_
  refine zr_iadd hG zd_La_law_296 ?_
  obtain ⟨hi, h⟩ := h
  refine zr_sld hG hX hbl hbA hi zd_La_law_297 ?_
  refine zr_aload_n hG zd_La_law_298 rfl rfl ?_
  refine zr_iload hG zd_La_law_299 rfl ?_
  refine zr_iconst hG (v := (4 : Int32)) zd_La_law_301 (by decide) ?_
  refine zr_iadd hG zd_La_law_302 ?_
  obtain ⟨hi, h⟩ := h
  refine zr_sld hG hX hbl hbA hi zd_La_law_303 ?_
  refine zr_aload_n hG zd_La_law_304 rfl rfl ?_
  refine zr_iload hG zd_La_law_305 rfl ?_
  refine zr_iconst hG (v := (5 : Int32)) zd_La_law_307 (by decide) ?_
  refine zr_iadd hG zd_La_law_308 ?_
  obtain ⟨hi, h⟩ := h
  refine zr_sld hG hX hbl hbA hi zd_La_law_309 ?_
  refine zr_aload_n hG zd_La_law_310 rfl rfl ?_
  refine zr_iload hG zd_La_law_311 rfl ?_
  refine zr_bipush hG (v := (6 : Int32)) zd_La_law_313 (by decide) ?_
  refine zr_iadd hG zd_La_law_315 ?_
  obtain ⟨hi, h⟩ := h
  refine zr_sld hG hX hbl hbA hi zd_La_law_316 ?_
  refine zr_callV hG (zq_F1 hW) (As := [.int (xs (v4 + (1 : Int32)).toNatClampNeg), .int (xs (v4 + (2 : Int32)).toNatClampNeg), .int (xs (v4 + (3 : Int32)).toNatClampNeg), .int (xs (v4 + (4 : Int32)).toNatClampNeg), .int (xs (v4 + (5 : Int32)).toNatClampNeg), .int (xs (v4 + (6 : Int32)).toNatClampNeg)]) (rest := []) (zm_Mo_net (zc_l x) w hAp c216 o216 h) 28 rfl rfl rfl zg_La_81 zdd_Mo_net ⟨rfl, rfl, by decide, by decide⟩ ⟨by show _ ≤ 600002; omega, by show _ ≤ 7302198; omega⟩ rfl (Nat.le_of_ble_eq_true rfl) zd_La_law_317 rfl ?_
  rintro _ _ ⟨r217, z217, rfl, rfl, h⟩
  refine zr_istore hG [some (.ref b), some (.ref (w.2.1 0)), some (.ref (w.2.1 28)), some (.ref (w.2.1 40)), some (.int v4), some (.int r216), some (.int r217)] zd_La_law_320 (Nat.le_of_ble_eq_true rfl) rfl ?_
  refine zr_aload_n hG zd_La_law_322 rfl rfl ?_
  refine zr_callV hG zq_F0 (As := []) (rest := []) (zm_Mo_thrown (zc_l x) w hAp c216 o216 h) 28 rfl rfl rfl zg_La_74 zdd_Mo_thrown ⟨rfl, rfl, by decide, by decide⟩ ⟨by show _ ≤ 600002; omega, by show _ ≤ 7302198; omega⟩ rfl (Nat.le_of_ble_eq_true rfl) zd_La_law_323 rfl ?_
  rintro _ _ ⟨r218, z218, rfl, rfl, h⟩
  refine zr_iload hG zd_La_law_326 rfl ?_
  refine zr_icmp_eq hG 333 zd_La_law_328 (by decide) (fun hc => ?_) (fun hc => ?_)
  · have h := h.1 hc
    refine zr_iload hG zd_La_law_333 rfl ?_
    refine zr_if_ne hG 350 zd_La_law_335 (by decide) (fun hc => ?_) (fun hc => ?_)
    · have h := h.1 hc
      exact zr_mask [true, true, true, true, true, false, false] (zt_La_350 hL hj hk h)
    · have h := h.2 hc
      refine zr_aload_n hG zd_La_law_338 rfl rfl ?_
      refine zr_iconst hG (v := (0 : Int32)) zd_La_law_339 (by decide) ?_
      refine zl_40 hG zd_La_law_340 ?_
      refine zr_iload hG zd_La_law_341 rfl ?_
      refine zr_i2l hG zd_La_law_343 ?_
      refine zr_lcmp hG zd_La_law_344 ?_
      refine zr_if_eq hG 350 zd_La_law_345 (by decide) (fun hc => ?_) (fun hc => ?_)
      · have h := h.1 hc
        exact zr_mask [true, true, true, true, true, false, false] (zt_La_350 hL hj hk h)
      · have h := h.2 hc
        exact h.elim
  · have h := h.2 hc
    exact h.elim
def zw_La_c10 (ln : Nat → Nat) (L : Nat) (xs : Nat → Int32) (k63 : Int32 × Nat × zS × zS × (Nat → Int64) → Prop) (v4 : Int32) (j : Nat) (c g : zS) (o : Nat → Int64) : Prop := vp_in (v4 + (1 : Int32)) L ∧ (zw_La_h_faults ln (xs (v4 + (1 : Int32)).toNatClampNeg) c o (fun r240 c240 o240 => vp_in (v4 + (1 : Int32)) L ∧ (zw_Mo_faults (xs (v4 + (1 : Int32)).toNatClampNeg) g (fun r241 z241 => (zw_Mo_thrown z241 (fun r242 z242 => ((r242 = r240 → ((¬ r240 = 0 → zw_La_940 ln L xs k63 v4 j c240 z242 o240) ∧ (r240 = 0 → (((lg_cmp (o240 (0 : Int32).toNatClampNeg) r241.toInt64) = 0 → zw_La_940 ln L xs k63 v4 j c240 z242 o240) ∧ (¬ (lg_cmp (o240 (0 : Int32).toNatClampNeg) r241.toInt64) = 0 → False))))) ∧ (¬ r242 = r240 → False))))))))
set_option maxHeartbeats 4000000 in
set_option maxRecDepth 100000 in
theorem zt_La_c10 {x : zC} {w : zW} {b L : Nat} {xs : Nat → Int32} {k0 n0 : Nat} (hL : zq_LW x w b L xs k0 n0) {k63 : Int32 × Nat × zS × zS × (Nat → Int64) → Prop} {j : Nat} (hj : j < 1000) (hk : ∀ q : Int32 × Nat × zS × zS × (Nat → Int64), k63 q → zq_W x w (k0 + q.2.1) (n0 + 6 * q.2.1) (q.2.2.1, q.2.2.2.1, q.2.2.2.2) 63 [some (.ref b), some (.ref (w.2.1 0)), some (.ref (w.2.1 28)), some (.ref (w.2.1 40)), some (.int q.1), none, none] []) {v4 : Int32} {c g : zS} {o : Nat → Int64} (h : zw_La_c10 w.2.2.1 L xs k63 v4 j c g o) : zq_W x w (k0 + j) (n0 + 6 * j) (c, g, o) 887 [some (.ref b), some (.ref (w.2.1 0)), some (.ref (w.2.1 28)), some (.ref (w.2.1 40)), some (.int v4), none, none] [] := by
  obtain ⟨hG, hW, hAp, hE, hA0, hX, hbl, hbA, hQ, hfl, hk0, hn0⟩ := id hL
  refine zr_aload_n hG zd_La_law_887 rfl rfl ?_
  refine zr_aload_n hG zd_La_law_888 rfl rfl ?_
  refine zr_iload hG zd_La_law_889 rfl ?_
  refine zr_iconst hG (v := (1 : Int32)) zd_La_law_891 (by decide) ?_
  refine zr_iadd hG zd_La_law_892 ?_
  obtain ⟨hi, h⟩ := h
  refine zr_sld hG hX hbl hbA hi zd_La_law_893 ?_
  refine zr_aload_n hG zd_La_law_894 rfl rfl ?_
  refine zr_callH hG (zq_F1 hW) hE hA0 (As := [.ref (w.2.1 0), .int (xs (v4 + (1 : Int32)).toNatClampNeg), .ref (w.2.1 40)]) (rest := []) (zm_La_h_faults (zc_l x) hfl w hAp g h) rfl zgh_111 zdd_La_h_faults ⟨rfl, rfl, by decide, by decide⟩ ⟨by show _ ≤ 600002; omega, by show _ ≤ 7302198; omega⟩ rfl (Nat.le_of_ble_eq_true rfl) zd_La_law_895 rfl ?_
  rintro _ _ ⟨r240, c240, o240, rfl, rfl, h⟩
  refine zr_istore hG [some (.ref b), some (.ref (w.2.1 0)), some (.ref (w.2.1 28)), some (.ref (w.2.1 40)), some (.int v4), some (.int r240), none] zd_La_law_898 (Nat.le_of_ble_eq_true rfl) rfl ?_
  refine zr_aload_n hG zd_La_law_900 rfl rfl ?_
  refine zr_aload_n hG zd_La_law_901 rfl rfl ?_
  refine zr_iload hG zd_La_law_902 rfl ?_
  refine zr_iconst hG (v := (1 : Int32)) zd_La_law_904 (by decide) ?_
  refine zr_iadd hG zd_La_law_905 ?_
  obtain ⟨hi, h⟩ := h
  refine zr_sld hG hX hbl hbA hi zd_La_law_906 ?_
  refine zr_callV hG (zq_F1 hW) (As := [.int (xs (v4 + (1 : Int32)).toNatClampNeg)]) (rest := []) (zm_Mo_faults (zc_l x) w hAp c240 o240 h) 28 rfl rfl rfl zg_La_113 zdd_Mo_faults ⟨rfl, rfl, by decide, by decide⟩ ⟨by show _ ≤ 600002; omega, by show _ ≤ 7302198; omega⟩ rfl (Nat.le_of_ble_eq_true rfl) zd_La_law_907 rfl ?_
  rintro _ _ ⟨r241, z241, rfl, rfl, h⟩
  refine zr_istore hG [some (.ref b), some (.ref (w.2.1 0)), some (.ref (w.2.1 28)), some (.ref (w.2.1 40)), some (.int v4), some (.int r240), some (.int r241)] zd_La_law_910 (Nat.le_of_ble_eq_true rfl) rfl ?_
  refine zr_aload_n hG zd_La_law_912 rfl rfl ?_
  refine zr_callV hG zq_F0 (As := []) (rest := []) (zm_Mo_thrown (zc_l x) w hAp c240 o240 h) 28 rfl rfl rfl zg_La_74 zdd_Mo_thrown ⟨rfl, rfl, by decide, by decide⟩ ⟨by show _ ≤ 600002; omega, by show _ ≤ 7302198; omega⟩ rfl (Nat.le_of_ble_eq_true rfl) zd_La_law_913 rfl ?_
  rintro _ _ ⟨r242, z242, rfl, rfl, h⟩
  refine zr_iload hG zd_La_law_916 rfl ?_
  refine zr_icmp_eq hG 923 zd_La_law_918 (by decide) (fun hc => ?_) (fun hc => ?_)
  · have h := h.1 hc
    refine zr_iload hG zd_La_law_923 rfl ?_
    refine zr_if_ne hG 940 zd_La_law_925 (by decide) (fun hc => ?_) (fun hc => ?_)
    · have h := h.1 hc
      exact zr_mask [true, true, true, true, true, false, false] (zt_La_940 hL hj hk h)
    · have h := h.2 hc
      refine zr_aload_n hG zd_La_law_928 rfl rfl ?_
      refine zr_iconst hG (v := (0 : Int32)) zd_La_law_929 (by decide) ?_
      refine zl_40 hG zd_La_law_930 ?_
      refine zr_iload hG zd_La_law_931 rfl ?_
      refine zr_i2l hG zd_La_law_933 ?_
      refine zr_lcmp hG zd_La_law_934 ?_
      refine zr_if_eq hG 940 zd_La_law_935 (by decide) (fun hc => ?_) (fun hc => ?_)
      · have h := h.1 hc
        exact zr_mask [true, true, true, true, true, false, false] (zt_La_940 hL hj hk h)
      · have h := h.2 hc
        exact h.elim
  · have h := h.2 hc
    exact h.elim
def zw_La_c12 (ln : Nat → Nat) (L : Nat) (xs : Nat → Int32) (k63 : Int32 × Nat × zS × zS × (Nat → Int64) → Prop) (v4 : Int32) (j : Nat) (c g : zS) (o : Nat → Int64) : Prop := vp_in (v4 + (1 : Int32)) L ∧ vp_in (v4 + (2 : Int32)) L ∧ (zw_La_h_shape ln (xs (v4 + (1 : Int32)).toNatClampNeg) (xs (v4 + (2 : Int32)).toNatClampNeg) c o (fun r245 c245 o245 => vp_in (v4 + (1 : Int32)) L ∧ vp_in (v4 + (2 : Int32)) L ∧ (zw_Mo_shape (xs (v4 + (1 : Int32)).toNatClampNeg) (xs (v4 + (2 : Int32)).toNatClampNeg) g (fun r246 z246 => (zw_Mo_thrown z246 (fun r247 z247 => ((r247 = r245 → ((¬ r245 = 0 → zw_La_1021 ln L xs k63 v4 j c245 z247 o245) ∧ (r245 = 0 → (((lg_cmp (o245 (0 : Int32).toNatClampNeg) r246.toInt64) = 0 → zw_La_1021 ln L xs k63 v4 j c245 z247 o245) ∧ (¬ (lg_cmp (o245 (0 : Int32).toNatClampNeg) r246.toInt64) = 0 → False))))) ∧ (¬ r247 = r245 → False))))))))
set_option maxHeartbeats 4000000 in
set_option maxRecDepth 100000 in
theorem zt_La_c12 {x : zC} {w : zW} {b L : Nat} {xs : Nat → Int32} {k0 n0 : Nat} (hL : zq_LW x w b L xs k0 n0) {k63 : Int32 × Nat × zS × zS × (Nat → Int64) → Prop} {j : Nat} (hj : j < 1000) (hk : ∀ q : Int32 × Nat × zS × zS × (Nat → Int64), k63 q → zq_W x w (k0 + q.2.1) (n0 + 6 * q.2.1) (q.2.2.1, q.2.2.2.1, q.2.2.2.2) 63 [some (.ref b), some (.ref (w.2.1 0)), some (.ref (w.2.1 28)), some (.ref (w.2.1 40)), some (.int q.1), none, none] []) {v4 : Int32} {c g : zS} {o : Nat → Int64} (h : zw_La_c12 w.2.2.1 L xs k63 v4 j c g o) : zq_W x w (k0 + j) (n0 + 6 * j) (c, g, o) 956 [some (.ref b), some (.ref (w.2.1 0)), some (.ref (w.2.1 28)), some (.ref (w.2.1 40)), some (.int v4), none, none] [] := by
  obtain ⟨hG, hW, hAp, hE, hA0, hX, hbl, hbA, hQ, hfl, hk0, hn0⟩ := id hL
  refine zr_aload_n hG zd_La_law_956 rfl rfl ?_
  refine zr_aload_n hG zd_La_law_957 rfl rfl ?_
  refine zr_iload hG zd_La_law_958 rfl ?_
  refine zr_iconst hG (v := (1 : Int32)) zd_La_law_960 (by decide) ?_
  refine zr_iadd hG zd_La_law_961 ?_
  obtain ⟨hi, h⟩ := h
  refine zr_sld hG hX hbl hbA hi zd_La_law_962 ?_
  refine zr_aload_n hG zd_La_law_963 rfl rfl ?_
  refine zr_iload hG zd_La_law_964 rfl ?_
  refine zr_iconst hG (v := (2 : Int32)) zd_La_law_966 (by decide) ?_
  refine zr_iadd hG zd_La_law_967 ?_
  obtain ⟨hi, h⟩ := h
  refine zr_sld hG hX hbl hbA hi zd_La_law_968 ?_
  refine zr_aload_n hG zd_La_law_969 rfl rfl ?_
  refine zr_callH hG (zq_F1 hW) hE hA0 (As := [.ref (w.2.1 0), .int (xs (v4 + (1 : Int32)).toNatClampNeg), .int (xs (v4 + (2 : Int32)).toNatClampNeg), .ref (w.2.1 40)]) (rest := []) (zm_La_h_shape (zc_l x) hfl w hAp g h) rfl zgh_118 zdd_La_h_shape ⟨rfl, rfl, by decide, by decide⟩ ⟨by show _ ≤ 600002; omega, by show _ ≤ 7302198; omega⟩ rfl (Nat.le_of_ble_eq_true rfl) zd_La_law_970 rfl ?_
  rintro _ _ ⟨r245, c245, o245, rfl, rfl, h⟩
  refine zr_istore hG [some (.ref b), some (.ref (w.2.1 0)), some (.ref (w.2.1 28)), some (.ref (w.2.1 40)), some (.int v4), some (.int r245), none] zd_La_law_973 (Nat.le_of_ble_eq_true rfl) rfl ?_
  refine zr_aload_n hG zd_La_law_975 rfl rfl ?_
  refine zr_aload_n hG zd_La_law_976 rfl rfl ?_
  refine zr_iload hG zd_La_law_977 rfl ?_
  refine zr_iconst hG (v := (1 : Int32)) zd_La_law_979 (by decide) ?_
  refine zr_iadd hG zd_La_law_980 ?_
  obtain ⟨hi, h⟩ := h
  refine zr_sld hG hX hbl hbA hi zd_La_law_981 ?_
  refine zr_aload_n hG zd_La_law_982 rfl rfl ?_
  refine zr_iload hG zd_La_law_983 rfl ?_
  refine zr_iconst hG (v := (2 : Int32)) zd_La_law_985 (by decide) ?_
  refine zr_iadd hG zd_La_law_986 ?_
  obtain ⟨hi, h⟩ := h
  refine zr_sld hG hX hbl hbA hi zd_La_law_987 ?_
  refine zr_callV hG (zq_F1 hW) (As := [.int (xs (v4 + (1 : Int32)).toNatClampNeg), .int (xs (v4 + (2 : Int32)).toNatClampNeg)]) (rest := []) (zm_Mo_shape (zc_l x) w hAp c245 o245 h) 28 rfl rfl rfl zg_La_120 zdd_Mo_shape ⟨rfl, rfl, by decide, by decide⟩ ⟨by show _ ≤ 600002; omega, by show _ ≤ 7302198; omega⟩ rfl (Nat.le_of_ble_eq_true rfl) zd_La_law_988 rfl ?_
  rintro _ _ ⟨r246, z246, rfl, rfl, h⟩
  refine zr_istore hG [some (.ref b), some (.ref (w.2.1 0)), some (.ref (w.2.1 28)), some (.ref (w.2.1 40)), some (.int v4), some (.int r245), some (.int r246)] zd_La_law_991 (Nat.le_of_ble_eq_true rfl) rfl ?_
  refine zr_aload_n hG zd_La_law_993 rfl rfl ?_
  refine zr_callV hG zq_F0 (As := []) (rest := []) (zm_Mo_thrown (zc_l x) w hAp c245 o245 h) 28 rfl rfl rfl zg_La_74 zdd_Mo_thrown ⟨rfl, rfl, by decide, by decide⟩ ⟨by show _ ≤ 600002; omega, by show _ ≤ 7302198; omega⟩ rfl (Nat.le_of_ble_eq_true rfl) zd_La_law_994 rfl ?_
  rintro _ _ ⟨r247, z247, rfl, rfl, h⟩
  refine zr_iload hG zd_La_law_997 rfl ?_
  refine zr_icmp_eq hG 1004 zd_La_law_999 (by decide) (fun hc => ?_) (fun hc => ?_)
  · have h := h.1 hc
    refine zr_iload hG zd_La_law_1004 rfl ?_
    refine zr_if_ne hG 1021 zd_La_law_1006 (by decide) (fun hc => ?_) (fun hc => ?_)
    · have h := h.1 hc
      exact zr_mask [true, true, true, true, true, false, false] (zt_La_1021 hL hj hk h)
    · have h := h.2 hc
      refine zr_aload_n hG zd_La_law_1009 rfl rfl ?_
      refine zr_iconst hG (v := (0 : Int32)) zd_La_law_1010 (by decide) ?_
      refine zl_40 hG zd_La_law_1011 ?_
      refine zr_iload hG zd_La_law_1012 rfl ?_
      refine zr_i2l hG zd_La_law_1014 ?_
      refine zr_lcmp hG zd_La_law_1015 ?_
      refine zr_if_eq hG 1021 zd_La_law_1016 (by decide) (fun hc => ?_) (fun hc => ?_)
      · have h := h.1 hc
        exact zr_mask [true, true, true, true, true, false, false] (zt_La_1021 hL hj hk h)
      · have h := h.2 hc
        exact h.elim
  · have h := h.2 hc
    exact h.elim
def zw_La_c2 (ln : Nat → Nat) (L : Nat) (xs : Nat → Int32) (k63 : Int32 × Nat × zS × zS × (Nat → Int64) → Prop) (v4 : Int32) (j : Nat) (c g : zS) (o : Nat → Int64) : Prop := vp_in (v4 + (1 : Int32)) L ∧ (zw_La_h_route ln (xs (v4 + (1 : Int32)).toNatClampNeg) c o (fun r219 c219 o219 => vp_in (v4 + (1 : Int32)) L ∧ (zw_Mo_route (xs (v4 + (1 : Int32)).toNatClampNeg) g (fun r220 z220 => (zw_Mo_thrown z220 (fun r221 z221 => ((r221 = r219 → ((¬ r219 = 0 → zw_La_406 ln L xs k63 v4 j c219 z221 o219) ∧ (r219 = 0 → (((lg_cmp (o219 (0 : Int32).toNatClampNeg) r220.toInt64) = 0 → zw_La_406 ln L xs k63 v4 j c219 z221 o219) ∧ (¬ (lg_cmp (o219 (0 : Int32).toNatClampNeg) r220.toInt64) = 0 → False))))) ∧ (¬ r221 = r219 → False))))))))
set_option maxHeartbeats 4000000 in
set_option maxRecDepth 100000 in
theorem zt_La_c2 {x : zC} {w : zW} {b L : Nat} {xs : Nat → Int32} {k0 n0 : Nat} (hL : zq_LW x w b L xs k0 n0) {k63 : Int32 × Nat × zS × zS × (Nat → Int64) → Prop} {j : Nat} (hj : j < 1000) (hk : ∀ q : Int32 × Nat × zS × zS × (Nat → Int64), k63 q → zq_W x w (k0 + q.2.1) (n0 + 6 * q.2.1) (q.2.2.1, q.2.2.2.1, q.2.2.2.2) 63 [some (.ref b), some (.ref (w.2.1 0)), some (.ref (w.2.1 28)), some (.ref (w.2.1 40)), some (.int q.1), none, none] []) {v4 : Int32} {c g : zS} {o : Nat → Int64} (h : zw_La_c2 w.2.2.1 L xs k63 v4 j c g o) : zq_W x w (k0 + j) (n0 + 6 * j) (c, g, o) 353 [some (.ref b), some (.ref (w.2.1 0)), some (.ref (w.2.1 28)), some (.ref (w.2.1 40)), some (.int v4), none, none] [] := by
  obtain ⟨hG, hW, hAp, hE, hA0, hX, hbl, hbA, hQ, hfl, hk0, hn0⟩ := id hL
  refine zr_aload_n hG zd_La_law_353 rfl rfl ?_
  refine zr_aload_n hG zd_La_law_354 rfl rfl ?_
  refine zr_iload hG zd_La_law_355 rfl ?_
  refine zr_iconst hG (v := (1 : Int32)) zd_La_law_357 (by decide) ?_
  refine zr_iadd hG zd_La_law_358 ?_
  obtain ⟨hi, h⟩ := h
  refine zr_sld hG hX hbl hbA hi zd_La_law_359 ?_
  refine zr_aload_n hG zd_La_law_360 rfl rfl ?_
  refine zr_callH hG (zq_F1 hW) hE hA0 (As := [.ref (w.2.1 0), .int (xs (v4 + (1 : Int32)).toNatClampNeg), .ref (w.2.1 40)]) (rest := []) (zm_La_h_route (zc_l x) hfl w hAp g h) rfl zgh_82 zdd_La_h_route ⟨rfl, rfl, by decide, by decide⟩ ⟨by show _ ≤ 600002; omega, by show _ ≤ 7302198; omega⟩ rfl (Nat.le_of_ble_eq_true rfl) zd_La_law_361 rfl ?_
  rintro _ _ ⟨r219, c219, o219, rfl, rfl, h⟩
  refine zr_istore hG [some (.ref b), some (.ref (w.2.1 0)), some (.ref (w.2.1 28)), some (.ref (w.2.1 40)), some (.int v4), some (.int r219), none] zd_La_law_364 (Nat.le_of_ble_eq_true rfl) rfl ?_
  refine zr_aload_n hG zd_La_law_366 rfl rfl ?_
  refine zr_aload_n hG zd_La_law_367 rfl rfl ?_
  refine zr_iload hG zd_La_law_368 rfl ?_
  refine zr_iconst hG (v := (1 : Int32)) zd_La_law_370 (by decide) ?_
  refine zr_iadd hG zd_La_law_371 ?_
  obtain ⟨hi, h⟩ := h
  refine zr_sld hG hX hbl hbA hi zd_La_law_372 ?_
  refine zr_callV hG (zq_F1 hW) (As := [.int (xs (v4 + (1 : Int32)).toNatClampNeg)]) (rest := []) (zm_Mo_route (zc_l x) w hAp c219 o219 h) 28 rfl rfl rfl zg_La_85 zdd_Mo_route ⟨rfl, rfl, by decide, by decide⟩ ⟨by show _ ≤ 600002; omega, by show _ ≤ 7302198; omega⟩ rfl (Nat.le_of_ble_eq_true rfl) zd_La_law_373 rfl ?_
  rintro _ _ ⟨r220, z220, rfl, rfl, h⟩
  refine zr_istore hG [some (.ref b), some (.ref (w.2.1 0)), some (.ref (w.2.1 28)), some (.ref (w.2.1 40)), some (.int v4), some (.int r219), some (.int r220)] zd_La_law_376 (Nat.le_of_ble_eq_true rfl) rfl ?_
  refine zr_aload_n hG zd_La_law_378 rfl rfl ?_
  refine zr_callV hG zq_F0 (As := []) (rest := []) (zm_Mo_thrown (zc_l x) w hAp c219 o219 h) 28 rfl rfl rfl zg_La_74 zdd_Mo_thrown ⟨rfl, rfl, by decide, by decide⟩ ⟨by show _ ≤ 600002; omega, by show _ ≤ 7302198; omega⟩ rfl (Nat.le_of_ble_eq_true rfl) zd_La_law_379 rfl ?_
  rintro _ _ ⟨r221, z221, rfl, rfl, h⟩
  refine zr_iload hG zd_La_law_382 rfl ?_
  refine zr_icmp_eq hG 389 zd_La_law_384 (by decide) (fun hc => ?_) (fun hc => ?_)
  · have h := h.1 hc
    refine zr_iload hG zd_La_law_389 rfl ?_
    refine zr_if_ne hG 406 zd_La_law_391 (by decide) (fun hc => ?_) (fun hc => ?_)
    · have h := h.1 hc
      exact zr_mask [true, true, true, true, true, false, false] (zt_La_406 hL hj hk h)
    · have h := h.2 hc
      refine zr_aload_n hG zd_La_law_394 rfl rfl ?_
      refine zr_iconst hG (v := (0 : Int32)) zd_La_law_395 (by decide) ?_
      refine zl_40 hG zd_La_law_396 ?_
      refine zr_iload hG zd_La_law_397 rfl ?_
      refine zr_i2l hG zd_La_law_399 ?_
      refine zr_lcmp hG zd_La_law_400 ?_
      refine zr_if_eq hG 406 zd_La_law_401 (by decide) (fun hc => ?_) (fun hc => ?_)
      · have h := h.1 hc
        exact zr_mask [true, true, true, true, true, false, false] (zt_La_406 hL hj hk h)
      · have h := h.2 hc
        exact h.elim
  · have h := h.2 hc
    exact h.elim
def zw_La_c3 (ln : Nat → Nat) (L : Nat) (xs : Nat → Int32) (k63 : Int32 × Nat × zS × zS × (Nat → Int64) → Prop) (v4 : Int32) (j : Nat) (c g : zS) (o : Nat → Int64) : Prop := vp_in (v4 + (1 : Int32)) L ∧ (zw_La_h_push ln (xs (v4 + (1 : Int32)).toNatClampNeg) c o (fun r222 c222 o222 => vp_in (v4 + (1 : Int32)) L ∧ (zw_Mo_push (xs (v4 + (1 : Int32)).toNatClampNeg) g (fun r223 z223 => (zw_Mo_thrown z223 (fun r224 z224 => ((r224 = r222 → ((¬ r222 = 0 → zw_La_462 ln L xs k63 v4 j c222 z224 o222) ∧ (r222 = 0 → (((lg_cmp (o222 (0 : Int32).toNatClampNeg) r223.toInt64) = 0 → zw_La_462 ln L xs k63 v4 j c222 z224 o222) ∧ (¬ (lg_cmp (o222 (0 : Int32).toNatClampNeg) r223.toInt64) = 0 → False))))) ∧ (¬ r224 = r222 → False))))))))
set_option maxHeartbeats 4000000 in
set_option maxRecDepth 100000 in
theorem zt_La_c3 {x : zC} {w : zW} {b L : Nat} {xs : Nat → Int32} {k0 n0 : Nat} (hL : zq_LW x w b L xs k0 n0) {k63 : Int32 × Nat × zS × zS × (Nat → Int64) → Prop} {j : Nat} (hj : j < 1000) (hk : ∀ q : Int32 × Nat × zS × zS × (Nat → Int64), k63 q → zq_W x w (k0 + q.2.1) (n0 + 6 * q.2.1) (q.2.2.1, q.2.2.2.1, q.2.2.2.2) 63 [some (.ref b), some (.ref (w.2.1 0)), some (.ref (w.2.1 28)), some (.ref (w.2.1 40)), some (.int q.1), none, none] []) {v4 : Int32} {c g : zS} {o : Nat → Int64} (h : zw_La_c3 w.2.2.1 L xs k63 v4 j c g o) : zq_W x w (k0 + j) (n0 + 6 * j) (c, g, o) 409 [some (.ref b), some (.ref (w.2.1 0)), some (.ref (w.2.1 28)), some (.ref (w.2.1 40)), some (.int v4), none, none] [] := by
  obtain ⟨hG, hW, hAp, hE, hA0, hX, hbl, hbA, hQ, hfl, hk0, hn0⟩ := id hL
  refine zr_aload_n hG zd_La_law_409 rfl rfl ?_
  refine zr_aload_n hG zd_La_law_410 rfl rfl ?_
  refine zr_iload hG zd_La_law_411 rfl ?_
  refine zr_iconst hG (v := (1 : Int32)) zd_La_law_413 (by decide) ?_
  refine zr_iadd hG zd_La_law_414 ?_
  obtain ⟨hi, h⟩ := h
  refine zr_sld hG hX hbl hbA hi zd_La_law_415 ?_
  refine zr_aload_n hG zd_La_law_416 rfl rfl ?_
  refine zr_callH hG (zq_F1 hW) hE hA0 (As := [.ref (w.2.1 0), .int (xs (v4 + (1 : Int32)).toNatClampNeg), .ref (w.2.1 40)]) (rest := []) (zm_La_h_push (zc_l x) hfl w hAp g h) rfl zgh_86 zdd_La_h_push ⟨rfl, rfl, by decide, by decide⟩ ⟨by show _ ≤ 600002; omega, by show _ ≤ 7302198; omega⟩ rfl (Nat.le_of_ble_eq_true rfl) zd_La_law_417 rfl ?_
  rintro _ _ ⟨r222, c222, o222, rfl, rfl, h⟩
  refine zr_istore hG [some (.ref b), some (.ref (w.2.1 0)), some (.ref (w.2.1 28)), some (.ref (w.2.1 40)), some (.int v4), some (.int r222), none] zd_La_law_420 (Nat.le_of_ble_eq_true rfl) rfl ?_
  refine zr_aload_n hG zd_La_law_422 rfl rfl ?_
  refine zr_aload_n hG zd_La_law_423 rfl rfl ?_
  refine zr_iload hG zd_La_law_424 rfl ?_
  refine zr_iconst hG (v := (1 : Int32)) zd_La_law_426 (by decide) ?_
  refine zr_iadd hG zd_La_law_427 ?_
  obtain ⟨hi, h⟩ := h
  refine zr_sld hG hX hbl hbA hi zd_La_law_428 ?_
  refine zr_callV hG (zq_F1 hW) (As := [.int (xs (v4 + (1 : Int32)).toNatClampNeg)]) (rest := []) (zm_Mo_push (zc_l x) w hAp c222 o222 h) 28 rfl rfl rfl zg_La_88 zdd_Mo_push ⟨rfl, rfl, by decide, by decide⟩ ⟨by show _ ≤ 600002; omega, by show _ ≤ 7302198; omega⟩ rfl (Nat.le_of_ble_eq_true rfl) zd_La_law_429 rfl ?_
  rintro _ _ ⟨r223, z223, rfl, rfl, h⟩
  refine zr_istore hG [some (.ref b), some (.ref (w.2.1 0)), some (.ref (w.2.1 28)), some (.ref (w.2.1 40)), some (.int v4), some (.int r222), some (.int r223)] zd_La_law_432 (Nat.le_of_ble_eq_true rfl) rfl ?_
  refine zr_aload_n hG zd_La_law_434 rfl rfl ?_
  refine zr_callV hG zq_F0 (As := []) (rest := []) (zm_Mo_thrown (zc_l x) w hAp c222 o222 h) 28 rfl rfl rfl zg_La_74 zdd_Mo_thrown ⟨rfl, rfl, by decide, by decide⟩ ⟨by show _ ≤ 600002; omega, by show _ ≤ 7302198; omega⟩ rfl (Nat.le_of_ble_eq_true rfl) zd_La_law_435 rfl ?_
  rintro _ _ ⟨r224, z224, rfl, rfl, h⟩
  refine zr_iload hG zd_La_law_438 rfl ?_
  refine zr_icmp_eq hG 445 zd_La_law_440 (by decide) (fun hc => ?_) (fun hc => ?_)
  · have h := h.1 hc
    refine zr_iload hG zd_La_law_445 rfl ?_
    refine zr_if_ne hG 462 zd_La_law_447 (by decide) (fun hc => ?_) (fun hc => ?_)
    · have h := h.1 hc
      exact zr_mask [true, true, true, true, true, false, false] (zt_La_462 hL hj hk h)
    · have h := h.2 hc
      refine zr_aload_n hG zd_La_law_450 rfl rfl ?_
      refine zr_iconst hG (v := (0 : Int32)) zd_La_law_451 (by decide) ?_
      refine zl_40 hG zd_La_law_452 ?_
      refine zr_iload hG zd_La_law_453 rfl ?_
      refine zr_i2l hG zd_La_law_455 ?_
      refine zr_lcmp hG zd_La_law_456 ?_
      refine zr_if_eq hG 462 zd_La_law_457 (by decide) (fun hc => ?_) (fun hc => ?_)
      · have h := h.1 hc
        exact zr_mask [true, true, true, true, true, false, false] (zt_La_462 hL hj hk h)
      · have h := h.2 hc
        exact h.elim
  · have h := h.2 hc
    exact h.elim
def zw_La_c8 (ln : Nat → Nat) (L : Nat) (xs : Nat → Int32) (k63 : Int32 × Nat × zS × zS × (Nat → Int64) → Prop) (v4 : Int32) (j : Nat) (c g : zS) (o : Nat → Int64) : Prop := vp_in (v4 + (1 : Int32)) L ∧ vp_in (v4 + (2 : Int32)) L ∧ vp_in (v4 + (3 : Int32)) L ∧ (zw_La_h_cell ln (xs (v4 + (1 : Int32)).toNatClampNeg) (xs (v4 + (2 : Int32)).toNatClampNeg) (xs (v4 + (3 : Int32)).toNatClampNeg) c o (fun r234 c234 o234 => vp_in (v4 + (1 : Int32)) L ∧ vp_in (v4 + (2 : Int32)) L ∧ vp_in (v4 + (3 : Int32)) L ∧ (zw_Mo_cell (xs (v4 + (1 : Int32)).toNatClampNeg) (xs (v4 + (2 : Int32)).toNatClampNeg) (xs (v4 + (3 : Int32)).toNatClampNeg) g (fun r235 z235 => (zw_Mo_thrown z235 (fun r236 z236 => ((r236 = r234 → ((¬ r234 = 0 → zw_La_809 ln L xs k63 v4 j c234 z236 o234) ∧ (r234 = 0 → (((lg_cmp (o234 (0 : Int32).toNatClampNeg) r235.toInt64) = 0 → zw_La_809 ln L xs k63 v4 j c234 z236 o234) ∧ (¬ (lg_cmp (o234 (0 : Int32).toNatClampNeg) r235.toInt64) = 0 → False))))) ∧ (¬ r236 = r234 → False))))))))
set_option maxHeartbeats 4000000 in
set_option maxRecDepth 100000 in
theorem zt_La_c8 {x : zC} {w : zW} {b L : Nat} {xs : Nat → Int32} {k0 n0 : Nat} (hL : zq_LW x w b L xs k0 n0) {k63 : Int32 × Nat × zS × zS × (Nat → Int64) → Prop} {j : Nat} (hj : j < 1000) (hk : ∀ q : Int32 × Nat × zS × zS × (Nat → Int64), k63 q → zq_W x w (k0 + q.2.1) (n0 + 6 * q.2.1) (q.2.2.1, q.2.2.2.1, q.2.2.2.2) 63 [some (.ref b), some (.ref (w.2.1 0)), some (.ref (w.2.1 28)), some (.ref (w.2.1 40)), some (.int q.1), none, none] []) {v4 : Int32} {c g : zS} {o : Nat → Int64} (h : zw_La_c8 w.2.2.1 L xs k63 v4 j c g o) : zq_W x w (k0 + j) (n0 + 6 * j) (c, g, o) 732 [some (.ref b), some (.ref (w.2.1 0)), some (.ref (w.2.1 28)), some (.ref (w.2.1 40)), some (.int v4), none, none] [] := by
  obtain ⟨hG, hW, hAp, hE, hA0, hX, hbl, hbA, hQ, hfl, hk0, hn0⟩ := id hL
  refine zr_aload_n hG zd_La_law_732 rfl rfl ?_
  refine zr_aload_n hG zd_La_law_733 rfl rfl ?_
  refine zr_iload hG zd_La_law_734 rfl ?_
  refine zr_iconst hG (v := (1 : Int32)) zd_La_law_736 (by decide) ?_
  refine zr_iadd hG zd_La_law_737 ?_
  obtain ⟨hi, h⟩ := h
  refine zr_sld hG hX hbl hbA hi zd_La_law_738 ?_
  refine zr_aload_n hG zd_La_law_739 rfl rfl ?_
  refine zr_iload hG zd_La_law_740 rfl ?_
  refine zr_iconst hG (v := (2 : Int32)) zd_La_law_742 (by decide) ?_
  refine zr_iadd hG zd_La_law_743 ?_
  obtain ⟨hi, h⟩ := h
  refine zr_sld hG hX hbl hbA hi zd_La_law_744 ?_
  refine zr_aload_n hG zd_La_law_745 rfl rfl ?_
  refine zr_iload hG zd_La_law_746 rfl ?_
  refine zr_iconst hG (v := (3 : Int32)) zd_La_law_748 (by decide) ?_
  refine zr_iadd hG zd_La_law_749 ?_
  obtain ⟨hi, h⟩ := h
  refine zr_sld hG hX hbl hbA hi zd_La_law_750 ?_
  refine zr_aload_n hG zd_La_law_751 rfl rfl ?_
  refine zr_callH hG (zq_F1 hW) hE hA0 (As := [.ref (w.2.1 0), .int (xs (v4 + (1 : Int32)).toNatClampNeg), .int (xs (v4 + (2 : Int32)).toNatClampNeg), .int (xs (v4 + (3 : Int32)).toNatClampNeg), .ref (w.2.1 40)]) (rest := []) (zm_La_h_cell (zc_l x) hfl w hAp g h) rfl zgh_105 zdd_La_h_cell ⟨rfl, rfl, by decide, by decide⟩ ⟨by show _ ≤ 600002; omega, by show _ ≤ 7302198; omega⟩ rfl (Nat.le_of_ble_eq_true rfl) zd_La_law_752 rfl ?_
  rintro _ _ ⟨r234, c234, o234, rfl, rfl, h⟩
  refine zr_istore hG [some (.ref b), some (.ref (w.2.1 0)), some (.ref (w.2.1 28)), some (.ref (w.2.1 40)), some (.int v4), some (.int r234), none] zd_La_law_755 (Nat.le_of_ble_eq_true rfl) rfl ?_
  refine zr_aload_n hG zd_La_law_757 rfl rfl ?_
  refine zr_aload_n hG zd_La_law_758 rfl rfl ?_
  refine zr_iload hG zd_La_law_759 rfl ?_
  refine zr_iconst hG (v := (1 : Int32)) zd_La_law_761 (by decide) ?_
  refine zr_iadd hG zd_La_law_762 ?_
  obtain ⟨hi, h⟩ := h
  refine zr_sld hG hX hbl hbA hi zd_La_law_763 ?_
  refine zr_aload_n hG zd_La_law_764 rfl rfl ?_
  refine zr_iload hG zd_La_law_765 rfl ?_
  refine zr_iconst hG (v := (2 : Int32)) zd_La_law_767 (by decide) ?_
  refine zr_iadd hG zd_La_law_768 ?_
  obtain ⟨hi, h⟩ := h
  refine zr_sld hG hX hbl hbA hi zd_La_law_769 ?_
  refine zr_aload_n hG zd_La_law_770 rfl rfl ?_
  refine zr_iload hG zd_La_law_771 rfl ?_
  refine zr_iconst hG (v := (3 : Int32)) zd_La_law_773 (by decide) ?_
  refine zr_iadd hG zd_La_law_774 ?_
  obtain ⟨hi, h⟩ := h
  refine zr_sld hG hX hbl hbA hi zd_La_law_775 ?_
  refine zr_callV hG (zq_F1 hW) (As := [.int (xs (v4 + (1 : Int32)).toNatClampNeg), .int (xs (v4 + (2 : Int32)).toNatClampNeg), .int (xs (v4 + (3 : Int32)).toNatClampNeg)]) (rest := []) (zm_Mo_cell (zc_l x) w hAp c234 o234 h) 28 rfl rfl rfl zg_La_107 zdd_Mo_cell ⟨rfl, rfl, by decide, by decide⟩ ⟨by show _ ≤ 600002; omega, by show _ ≤ 7302198; omega⟩ rfl (Nat.le_of_ble_eq_true rfl) zd_La_law_776 rfl ?_
  rintro _ _ ⟨r235, z235, rfl, rfl, h⟩
  refine zr_istore hG [some (.ref b), some (.ref (w.2.1 0)), some (.ref (w.2.1 28)), some (.ref (w.2.1 40)), some (.int v4), some (.int r234), some (.int r235)] zd_La_law_779 (Nat.le_of_ble_eq_true rfl) rfl ?_
  refine zr_aload_n hG zd_La_law_781 rfl rfl ?_
  refine zr_callV hG zq_F0 (As := []) (rest := []) (zm_Mo_thrown (zc_l x) w hAp c234 o234 h) 28 rfl rfl rfl zg_La_74 zdd_Mo_thrown ⟨rfl, rfl, by decide, by decide⟩ ⟨by show _ ≤ 600002; omega, by show _ ≤ 7302198; omega⟩ rfl (Nat.le_of_ble_eq_true rfl) zd_La_law_782 rfl ?_
  rintro _ _ ⟨r236, z236, rfl, rfl, h⟩
  refine zr_iload hG zd_La_law_785 rfl ?_
  refine zr_icmp_eq hG 792 zd_La_law_787 (by decide) (fun hc => ?_) (fun hc => ?_)
  · have h := h.1 hc
    refine zr_iload hG zd_La_law_792 rfl ?_
    refine zr_if_ne hG 809 zd_La_law_794 (by decide) (fun hc => ?_) (fun hc => ?_)
    · have h := h.1 hc
      exact zr_mask [true, true, true, true, true, false, false] (zt_La_809 hL hj hk h)
    · have h := h.2 hc
      refine zr_aload_n hG zd_La_law_797 rfl rfl ?_
      refine zr_iconst hG (v := (0 : Int32)) zd_La_law_798 (by decide) ?_
      refine zl_40 hG zd_La_law_799 ?_
      refine zr_iload hG zd_La_law_800 rfl ?_
      refine zr_i2l hG zd_La_law_802 ?_
      refine zr_lcmp hG zd_La_law_803 ?_
      refine zr_if_eq hG 809 zd_La_law_804 (by decide) (fun hc => ?_) (fun hc => ?_)
      · have h := h.1 hc
        exact zr_mask [true, true, true, true, true, false, false] (zt_La_809 hL hj hk h)
      · have h := h.2 hc
        exact h.elim
  · have h := h.2 hc
    exact h.elim
def zw_La_480 (ln : Nat → Nat) (L : Nat) (xs : Nat → Int32) (k63 : Int32 × Nat × zS × zS × (Nat → Int64) → Prop) (v4 : Int32) (u0 : Int32) (j : Nat) (c g : zS) (o : Nat → Int64) : Prop := vp_in (v4 + (2 : Int32)) L ∧ (zw_La_h_all ln u0 (xs (v4 + (2 : Int32)).toNatClampNeg) c o (fun r248 c248 o248 => vp_in (v4 + (1 : Int32)) L ∧ (((xs (v4 + (1 : Int32)).toNatClampNeg) = 0 → zw_La_507 ln L xs k63 v4 r248 (0 : Int32) j c248 g o248) ∧ (¬ (xs (v4 + (1 : Int32)).toNatClampNeg) = 0 → zw_La_507 ln L xs k63 v4 r248 (1 : Int32) j c248 g o248))))
set_option maxHeartbeats 4000000 in
set_option maxRecDepth 100000 in
theorem zt_La_480 {x : zC} {w : zW} {b L : Nat} {xs : Nat → Int32} {k0 n0 : Nat} (hL : zq_LW x w b L xs k0 n0) {k63 : Int32 × Nat × zS × zS × (Nat → Int64) → Prop} {j : Nat} (hj : j < 1000) (hk : ∀ q : Int32 × Nat × zS × zS × (Nat → Int64), k63 q → zq_W x w (k0 + q.2.1) (n0 + 6 * q.2.1) (q.2.2.1, q.2.2.2.1, q.2.2.2.2) 63 [some (.ref b), some (.ref (w.2.1 0)), some (.ref (w.2.1 28)), some (.ref (w.2.1 40)), some (.int q.1), none, none] []) {v4 : Int32} {u0 : Int32} {c g : zS} {o : Nat → Int64} (h : zw_La_480 w.2.2.1 L xs k63 v4 u0 j c g o) : zq_W x w (k0 + j) (n0 + 6 * j) (c, g, o) 480 [some (.ref b), some (.ref (w.2.1 0)), some (.ref (w.2.1 28)), some (.ref (w.2.1 40)), some (.int v4), none, none] [.int u0, .ref (w.2.1 0)] := by
  obtain ⟨hG, hW, hAp, hE, hA0, hX, hbl, hbA, hQ, hfl, hk0, hn0⟩ := id hL
  refine zr_aload_n hG zd_La_law_480 rfl rfl ?_
  refine zr_iload hG zd_La_law_481 rfl ?_
  refine zr_iconst hG (v := (2 : Int32)) zd_La_law_483 (by decide) ?_
  refine zr_iadd hG zd_La_law_484 ?_
  obtain ⟨hi, h⟩ := h
  refine zr_sld hG hX hbl hbA hi zd_La_law_485 ?_
  refine zr_aload_n hG zd_La_law_486 rfl rfl ?_
  refine zr_callH hG (zq_F1 hW) hE hA0 (As := [.ref (w.2.1 0), .int u0, .int (xs (v4 + (2 : Int32)).toNatClampNeg), .ref (w.2.1 40)]) (rest := []) (zm_La_h_all (zc_l x) hfl w hAp g h) rfl zgh_89 zdd_La_h_all ⟨rfl, rfl, by decide, by decide⟩ ⟨by show _ ≤ 600002; omega, by show _ ≤ 7302198; omega⟩ rfl (Nat.le_of_ble_eq_true rfl) zd_La_law_487 rfl ?_
  rintro _ _ ⟨r248, c248, o248, rfl, rfl, h⟩
  refine zr_istore hG [some (.ref b), some (.ref (w.2.1 0)), some (.ref (w.2.1 28)), some (.ref (w.2.1 40)), some (.int v4), some (.int r248), none] zd_La_law_490 (Nat.le_of_ble_eq_true rfl) rfl ?_
  refine zr_aload_n hG zd_La_law_492 rfl rfl ?_
  refine zr_aload_n hG zd_La_law_493 rfl rfl ?_
  refine zr_iload hG zd_La_law_494 rfl ?_
  refine zr_iconst hG (v := (1 : Int32)) zd_La_law_496 (by decide) ?_
  refine zr_iadd hG zd_La_law_497 ?_
  obtain ⟨hi, h⟩ := h
  refine zr_sld hG hX hbl hbA hi zd_La_law_498 ?_
  refine zr_if_eq hG 506 zd_La_law_499 (by decide) (fun hc => ?_) (fun hc => ?_)
  · have h := h.1 hc
    refine zr_iconst hG (v := (0 : Int32)) zd_La_law_506 (by decide) ?_
    exact zt_La_507 hL hj hk h
  · have h := h.2 hc
    refine zr_iconst hG (v := (1 : Int32)) zd_La_law_502 (by decide) ?_
    refine zr_goto hG 507 zd_La_law_503 (by decide) ?_
    exact zt_La_507 hL hj hk h
def zw_La_c0 (ln : Nat → Nat) (L : Nat) (xs : Nat → Int32) (k63 : Int32 × Nat × zS × zS × (Nat → Int64) → Prop) (v4 : Int32) (j : Nat) (c g : zS) (o : Nat → Int64) : Prop := vp_in (v4 + (1 : Int32)) L ∧ vp_in (v4 + (2 : Int32)) L ∧ vp_in (v4 + (3 : Int32)) L ∧ (zw_La_h_block ln (xs (v4 + (1 : Int32)).toNatClampNeg) (xs (v4 + (2 : Int32)).toNatClampNeg) (xs (v4 + (3 : Int32)).toNatClampNeg) c o (fun r213 c213 o213 => vp_in (v4 + (1 : Int32)) L ∧ vp_in (v4 + (2 : Int32)) L ∧ vp_in (v4 + (3 : Int32)) L ∧ (zw_Mo_block (xs (v4 + (1 : Int32)).toNatClampNeg) (xs (v4 + (2 : Int32)).toNatClampNeg) (xs (v4 + (3 : Int32)).toNatClampNeg) g (fun r214 z214 => (zw_Mo_thrown z214 (fun r215 z215 => ((r215 = r213 → ((¬ r213 = 0 → zw_La_232 ln L xs k63 v4 j c213 z215 o213) ∧ (r213 = 0 → ((r214 = 0 → zw_La_226 ln L xs k63 v4 (0 : Int64) (o213 (0 : Int32).toNatClampNeg) j c213 z215 o213) ∧ (¬ r214 = 0 → zw_La_226 ln L xs k63 v4 (1 : Int64) (o213 (0 : Int32).toNatClampNeg) j c213 z215 o213))))) ∧ (¬ r215 = r213 → False))))))))
set_option maxHeartbeats 4000000 in
set_option maxRecDepth 100000 in
theorem zt_La_c0 {x : zC} {w : zW} {b L : Nat} {xs : Nat → Int32} {k0 n0 : Nat} (hL : zq_LW x w b L xs k0 n0) {k63 : Int32 × Nat × zS × zS × (Nat → Int64) → Prop} {j : Nat} (hj : j < 1000) (hk : ∀ q : Int32 × Nat × zS × zS × (Nat → Int64), k63 q → zq_W x w (k0 + q.2.1) (n0 + 6 * q.2.1) (q.2.2.1, q.2.2.2.1, q.2.2.2.2) 63 [some (.ref b), some (.ref (w.2.1 0)), some (.ref (w.2.1 28)), some (.ref (w.2.1 40)), some (.int q.1), none, none] []) {v4 : Int32} {c g : zS} {o : Nat → Int64} (h : zw_La_c0 w.2.2.1 L xs k63 v4 j c g o) : zq_W x w (k0 + j) (n0 + 6 * j) (c, g, o) 148 [some (.ref b), some (.ref (w.2.1 0)), some (.ref (w.2.1 28)), some (.ref (w.2.1 40)), some (.int v4), none, none] [] := by
  obtain ⟨hG, hW, hAp, hE, hA0, hX, hbl, hbA, hQ, hfl, hk0, hn0⟩ := id hL
  refine zr_aload_n hG zd_La_law_148 rfl rfl ?_
  refine zr_aload_n hG zd_La_law_149 rfl rfl ?_
  refine zr_iload hG zd_La_law_150 rfl ?_
  refine zr_iconst hG (v := (1 : Int32)) zd_La_law_152 (by decide) ?_
  refine zr_iadd hG zd_La_law_153 ?_
  obtain ⟨hi, h⟩ := h
  refine zr_sld hG hX hbl hbA hi zd_La_law_154 ?_
  refine zr_aload_n hG zd_La_law_155 rfl rfl ?_
  refine zr_iload hG zd_La_law_156 rfl ?_
  refine zr_iconst hG (v := (2 : Int32)) zd_La_law_158 (by decide) ?_
  refine zr_iadd hG zd_La_law_159 ?_
  obtain ⟨hi, h⟩ := h
  refine zr_sld hG hX hbl hbA hi zd_La_law_160 ?_
  refine zr_aload_n hG zd_La_law_161 rfl rfl ?_
  refine zr_iload hG zd_La_law_162 rfl ?_
  refine zr_iconst hG (v := (3 : Int32)) zd_La_law_164 (by decide) ?_
  refine zr_iadd hG zd_La_law_165 ?_
  obtain ⟨hi, h⟩ := h
  refine zr_sld hG hX hbl hbA hi zd_La_law_166 ?_
  refine zr_aload_n hG zd_La_law_167 rfl rfl ?_
  refine zr_callH hG (zq_F1 hW) hE hA0 (As := [.ref (w.2.1 0), .int (xs (v4 + (1 : Int32)).toNatClampNeg), .int (xs (v4 + (2 : Int32)).toNatClampNeg), .int (xs (v4 + (3 : Int32)).toNatClampNeg), .ref (w.2.1 40)]) (rest := []) (zm_La_h_block (zc_l x) hfl w hAp g h) rfl zgh_70 zdd_La_h_block ⟨rfl, rfl, by decide, by decide⟩ ⟨by show _ ≤ 600002; omega, by show _ ≤ 7302198; omega⟩ rfl (Nat.le_of_ble_eq_true rfl) zd_La_law_168 rfl ?_
  rintro _ _ ⟨r213, c213, o213, rfl, rfl, h⟩
  refine zr_istore hG [some (.ref b), some (.ref (w.2.1 0)), some (.ref (w.2.1 28)), some (.ref (w.2.1 40)), some (.int v4), some (.int r213), none] zd_La_law_171 (Nat.le_of_ble_eq_true rfl) rfl ?_
  refine zr_aload_n hG zd_La_law_173 rfl rfl ?_
  refine zr_aload_n hG zd_La_law_174 rfl rfl ?_
  refine zr_iload hG zd_La_law_175 rfl ?_
  refine zr_iconst hG (v := (1 : Int32)) zd_La_law_177 (by decide) ?_
  refine zr_iadd hG zd_La_law_178 ?_
  obtain ⟨hi, h⟩ := h
  refine zr_sld hG hX hbl hbA hi zd_La_law_179 ?_
  refine zr_aload_n hG zd_La_law_180 rfl rfl ?_
  refine zr_iload hG zd_La_law_181 rfl ?_
  refine zr_iconst hG (v := (2 : Int32)) zd_La_law_183 (by decide) ?_
  refine zr_iadd hG zd_La_law_184 ?_
  obtain ⟨hi, h⟩ := h
  refine zr_sld hG hX hbl hbA hi zd_La_law_185 ?_
  refine zr_aload_n hG zd_La_law_186 rfl rfl ?_
  refine zr_iload hG zd_La_law_187 rfl ?_
  refine zr_iconst hG (v := (3 : Int32)) zd_La_law_189 (by decide) ?_
  refine zr_iadd hG zd_La_law_190 ?_
  obtain ⟨hi, h⟩ := h
  refine zr_sld hG hX hbl hbA hi zd_La_law_191 ?_
  refine zr_callV hG (zq_F1 hW) (As := [.int (xs (v4 + (1 : Int32)).toNatClampNeg), .int (xs (v4 + (2 : Int32)).toNatClampNeg), .int (xs (v4 + (3 : Int32)).toNatClampNeg)]) (rest := []) (zm_Mo_block (zc_l x) w hAp c213 o213 h) 28 rfl rfl rfl zg_La_73 zdd_Mo_block ⟨rfl, rfl, by decide, by decide⟩ ⟨by show _ ≤ 600002; omega, by show _ ≤ 7302198; omega⟩ rfl (Nat.le_of_ble_eq_true rfl) zd_La_law_192 rfl ?_
  rintro _ _ ⟨r214, z214, rfl, rfl, h⟩
  refine zr_istore hG [some (.ref b), some (.ref (w.2.1 0)), some (.ref (w.2.1 28)), some (.ref (w.2.1 40)), some (.int v4), some (.int r213), some (.int r214)] zd_La_law_195 (Nat.le_of_ble_eq_true rfl) rfl ?_
  refine zr_aload_n hG zd_La_law_197 rfl rfl ?_
  refine zr_callV hG zq_F0 (As := []) (rest := []) (zm_Mo_thrown (zc_l x) w hAp c213 o213 h) 28 rfl rfl rfl zg_La_74 zdd_Mo_thrown ⟨rfl, rfl, by decide, by decide⟩ ⟨by show _ ≤ 600002; omega, by show _ ≤ 7302198; omega⟩ rfl (Nat.le_of_ble_eq_true rfl) zd_La_law_198 rfl ?_
  rintro _ _ ⟨r215, z215, rfl, rfl, h⟩
  refine zr_iload hG zd_La_law_201 rfl ?_
  refine zr_icmp_eq hG 208 zd_La_law_203 (by decide) (fun hc => ?_) (fun hc => ?_)
  · have h := h.1 hc
    refine zr_iload hG zd_La_law_208 rfl ?_
    refine zr_if_ne hG 232 zd_La_law_210 (by decide) (fun hc => ?_) (fun hc => ?_)
    · have h := h.1 hc
      exact zr_mask [true, true, true, true, true, false, false] (zt_La_232 hL hj hk h)
    · have h := h.2 hc
      refine zr_aload_n hG zd_La_law_213 rfl rfl ?_
      refine zr_iconst hG (v := (0 : Int32)) zd_La_law_214 (by decide) ?_
      refine zl_40 hG zd_La_law_215 ?_
      refine zr_iload hG zd_La_law_216 rfl ?_
      refine zr_if_eq hG 225 zd_La_law_218 (by decide) (fun hc => ?_) (fun hc => ?_)
      · have h := h.1 hc
        refine zr_lconst hG (v := (0 : Int64)) zd_La_law_225 (by decide) ?_
        exact zr_mask [true, true, true, true, true, false, false] (zt_La_226 hL hj hk h)
      · have h := h.2 hc
        refine zr_lconst hG (v := (1 : Int64)) zd_La_law_221 (by decide) ?_
        refine zr_goto hG 226 zd_La_law_222 (by decide) ?_
        exact zr_mask [true, true, true, true, true, false, false] (zt_La_226 hL hj hk h)
  · have h := h.2 hc
    exact h.elim
def zw_La_c7 (ln : Nat → Nat) (L : Nat) (xs : Nat → Int32) (k63 : Int32 × Nat × zS × zS × (Nat → Int64) → Prop) (v4 : Int32) (j : Nat) (c g : zS) (o : Nat → Int64) : Prop := vp_in (v4 + (1 : Int32)) L ∧ vp_in (v4 + (2 : Int32)) L ∧ (zw_La_h_stitch ln (xs (v4 + (1 : Int32)).toNatClampNeg) (xs (v4 + (2 : Int32)).toNatClampNeg) c o (fun r231 c231 o231 => vp_in (v4 + (1 : Int32)) L ∧ vp_in (v4 + (2 : Int32)) L ∧ (zw_Mo_stitch (xs (v4 + (1 : Int32)).toNatClampNeg) (xs (v4 + (2 : Int32)).toNatClampNeg) g (fun r232 z232 => (zw_Mo_thrown z232 (fun r233 z233 => ((r233 = r231 → ((¬ r231 = 0 → zw_La_729 ln L xs k63 v4 j c231 z233 o231) ∧ (r231 = 0 → ((r232 = 0 → zw_La_723 ln L xs k63 v4 (0 : Int64) (o231 (0 : Int32).toNatClampNeg) j c231 z233 o231) ∧ (¬ r232 = 0 → zw_La_723 ln L xs k63 v4 (1 : Int64) (o231 (0 : Int32).toNatClampNeg) j c231 z233 o231))))) ∧ (¬ r233 = r231 → False))))))))
set_option maxHeartbeats 4000000 in
set_option maxRecDepth 100000 in
theorem zt_La_c7 {x : zC} {w : zW} {b L : Nat} {xs : Nat → Int32} {k0 n0 : Nat} (hL : zq_LW x w b L xs k0 n0) {k63 : Int32 × Nat × zS × zS × (Nat → Int64) → Prop} {j : Nat} (hj : j < 1000) (hk : ∀ q : Int32 × Nat × zS × zS × (Nat → Int64), k63 q → zq_W x w (k0 + q.2.1) (n0 + 6 * q.2.1) (q.2.2.1, q.2.2.2.1, q.2.2.2.2) 63 [some (.ref b), some (.ref (w.2.1 0)), some (.ref (w.2.1 28)), some (.ref (w.2.1 40)), some (.int q.1), none, none] []) {v4 : Int32} {c g : zS} {o : Nat → Int64} (h : zw_La_c7 w.2.2.1 L xs k63 v4 j c g o) : zq_W x w (k0 + j) (n0 + 6 * j) (c, g, o) 657 [some (.ref b), some (.ref (w.2.1 0)), some (.ref (w.2.1 28)), some (.ref (w.2.1 40)), some (.int v4), none, none] [] := by
  obtain ⟨hG, hW, hAp, hE, hA0, hX, hbl, hbA, hQ, hfl, hk0, hn0⟩ := id hL
  refine zr_aload_n hG zd_La_law_657 rfl rfl ?_
  refine zr_aload_n hG zd_La_law_658 rfl rfl ?_
  refine zr_iload hG zd_La_law_659 rfl ?_
  refine zr_iconst hG (v := (1 : Int32)) zd_La_law_661 (by decide) ?_
  refine zr_iadd hG zd_La_law_662 ?_
  obtain ⟨hi, h⟩ := h
  refine zr_sld hG hX hbl hbA hi zd_La_law_663 ?_
  refine zr_aload_n hG zd_La_law_664 rfl rfl ?_
  refine zr_iload hG zd_La_law_665 rfl ?_
  refine zr_iconst hG (v := (2 : Int32)) zd_La_law_667 (by decide) ?_
  refine zr_iadd hG zd_La_law_668 ?_
  obtain ⟨hi, h⟩ := h
  refine zr_sld hG hX hbl hbA hi zd_La_law_669 ?_
  refine zr_aload_n hG zd_La_law_670 rfl rfl ?_
  refine zr_callH hG (zq_F1 hW) hE hA0 (As := [.ref (w.2.1 0), .int (xs (v4 + (1 : Int32)).toNatClampNeg), .int (xs (v4 + (2 : Int32)).toNatClampNeg), .ref (w.2.1 40)]) (rest := []) (zm_La_h_stitch (zc_l x) hfl w hAp g h) rfl zgh_101 zdd_La_h_stitch ⟨rfl, rfl, by decide, by decide⟩ ⟨by show _ ≤ 600002; omega, by show _ ≤ 7302198; omega⟩ rfl (Nat.le_of_ble_eq_true rfl) zd_La_law_671 rfl ?_
  rintro _ _ ⟨r231, c231, o231, rfl, rfl, h⟩
  refine zr_istore hG [some (.ref b), some (.ref (w.2.1 0)), some (.ref (w.2.1 28)), some (.ref (w.2.1 40)), some (.int v4), some (.int r231), none] zd_La_law_674 (Nat.le_of_ble_eq_true rfl) rfl ?_
  refine zr_aload_n hG zd_La_law_676 rfl rfl ?_
  refine zr_aload_n hG zd_La_law_677 rfl rfl ?_
  refine zr_iload hG zd_La_law_678 rfl ?_
  refine zr_iconst hG (v := (1 : Int32)) zd_La_law_680 (by decide) ?_
  refine zr_iadd hG zd_La_law_681 ?_
  obtain ⟨hi, h⟩ := h
  refine zr_sld hG hX hbl hbA hi zd_La_law_682 ?_
  refine zr_aload_n hG zd_La_law_683 rfl rfl ?_
  refine zr_iload hG zd_La_law_684 rfl ?_
  refine zr_iconst hG (v := (2 : Int32)) zd_La_law_686 (by decide) ?_
  refine zr_iadd hG zd_La_law_687 ?_
  obtain ⟨hi, h⟩ := h
  refine zr_sld hG hX hbl hbA hi zd_La_law_688 ?_
  refine zr_callV hG (zq_F1 hW) (As := [.int (xs (v4 + (1 : Int32)).toNatClampNeg), .int (xs (v4 + (2 : Int32)).toNatClampNeg)]) (rest := []) (zm_Mo_stitch (zc_l x) w hAp c231 o231 h) 28 rfl rfl rfl zg_La_104 zdd_Mo_stitch ⟨rfl, rfl, by decide, by decide⟩ ⟨by show _ ≤ 600002; omega, by show _ ≤ 7302198; omega⟩ rfl (Nat.le_of_ble_eq_true rfl) zd_La_law_689 rfl ?_
  rintro _ _ ⟨r232, z232, rfl, rfl, h⟩
  refine zr_istore hG [some (.ref b), some (.ref (w.2.1 0)), some (.ref (w.2.1 28)), some (.ref (w.2.1 40)), some (.int v4), some (.int r231), some (.int r232)] zd_La_law_692 (Nat.le_of_ble_eq_true rfl) rfl ?_
  refine zr_aload_n hG zd_La_law_694 rfl rfl ?_
  refine zr_callV hG zq_F0 (As := []) (rest := []) (zm_Mo_thrown (zc_l x) w hAp c231 o231 h) 28 rfl rfl rfl zg_La_74 zdd_Mo_thrown ⟨rfl, rfl, by decide, by decide⟩ ⟨by show _ ≤ 600002; omega, by show _ ≤ 7302198; omega⟩ rfl (Nat.le_of_ble_eq_true rfl) zd_La_law_695 rfl ?_
  rintro _ _ ⟨r233, z233, rfl, rfl, h⟩
  refine zr_iload hG zd_La_law_698 rfl ?_
  refine zr_icmp_eq hG 705 zd_La_law_700 (by decide) (fun hc => ?_) (fun hc => ?_)
  · have h := h.1 hc
    refine zr_iload hG zd_La_law_705 rfl ?_
    refine zr_if_ne hG 729 zd_La_law_707 (by decide) (fun hc => ?_) (fun hc => ?_)
    · have h := h.1 hc
      exact zr_mask [true, true, true, true, true, false, false] (zt_La_729 hL hj hk h)
    · have h := h.2 hc
      refine zr_aload_n hG zd_La_law_710 rfl rfl ?_
      refine zr_iconst hG (v := (0 : Int32)) zd_La_law_711 (by decide) ?_
      refine zl_40 hG zd_La_law_712 ?_
      refine zr_iload hG zd_La_law_713 rfl ?_
      refine zr_if_eq hG 722 zd_La_law_715 (by decide) (fun hc => ?_) (fun hc => ?_)
      · have h := h.1 hc
        refine zr_lconst hG (v := (0 : Int64)) zd_La_law_722 (by decide) ?_
        exact zr_mask [true, true, true, true, true, false, false] (zt_La_723 hL hj hk h)
      · have h := h.2 hc
        refine zr_lconst hG (v := (1 : Int64)) zd_La_law_718 (by decide) ?_
        refine zr_goto hG 723 zd_La_law_719 (by decide) ?_
        exact zr_mask [true, true, true, true, true, false, false] (zt_La_723 hL hj hk h)
  · have h := h.2 hc
    exact h.elim
def zw_La_c9 (ln : Nat → Nat) (L : Nat) (xs : Nat → Int32) (k63 : Int32 × Nat × zS × zS × (Nat → Int64) → Prop) (v4 : Int32) (j : Nat) (c g : zS) (o : Nat → Int64) : Prop := vp_in (v4 + (1 : Int32)) L ∧ vp_in (v4 + (2 : Int32)) L ∧ (zw_La_h_via ln (xs (v4 + (1 : Int32)).toNatClampNeg) (xs (v4 + (2 : Int32)).toNatClampNeg) c o (fun r237 c237 o237 => vp_in (v4 + (1 : Int32)) L ∧ vp_in (v4 + (2 : Int32)) L ∧ (zw_Mo_via (xs (v4 + (1 : Int32)).toNatClampNeg) (xs (v4 + (2 : Int32)).toNatClampNeg) g (fun r238 z238 => (zw_Mo_thrown z238 (fun r239 z239 => ((r239 = r237 → ((¬ r237 = 0 → zw_La_884 ln L xs k63 v4 j c237 z239 o237) ∧ (r237 = 0 → ((r238 = 0 → zw_La_878 ln L xs k63 v4 (0 : Int64) (o237 (0 : Int32).toNatClampNeg) j c237 z239 o237) ∧ (¬ r238 = 0 → zw_La_878 ln L xs k63 v4 (1 : Int64) (o237 (0 : Int32).toNatClampNeg) j c237 z239 o237))))) ∧ (¬ r239 = r237 → False))))))))
set_option maxHeartbeats 4000000 in
set_option maxRecDepth 100000 in
theorem zt_La_c9 {x : zC} {w : zW} {b L : Nat} {xs : Nat → Int32} {k0 n0 : Nat} (hL : zq_LW x w b L xs k0 n0) {k63 : Int32 × Nat × zS × zS × (Nat → Int64) → Prop} {j : Nat} (hj : j < 1000) (hk : ∀ q : Int32 × Nat × zS × zS × (Nat → Int64), k63 q → zq_W x w (k0 + q.2.1) (n0 + 6 * q.2.1) (q.2.2.1, q.2.2.2.1, q.2.2.2.2) 63 [some (.ref b), some (.ref (w.2.1 0)), some (.ref (w.2.1 28)), some (.ref (w.2.1 40)), some (.int q.1), none, none] []) {v4 : Int32} {c g : zS} {o : Nat → Int64} (h : zw_La_c9 w.2.2.1 L xs k63 v4 j c g o) : zq_W x w (k0 + j) (n0 + 6 * j) (c, g, o) 812 [some (.ref b), some (.ref (w.2.1 0)), some (.ref (w.2.1 28)), some (.ref (w.2.1 40)), some (.int v4), none, none] [] := by
  obtain ⟨hG, hW, hAp, hE, hA0, hX, hbl, hbA, hQ, hfl, hk0, hn0⟩ := id hL
  refine zr_aload_n hG zd_La_law_812 rfl rfl ?_
  refine zr_aload_n hG zd_La_law_813 rfl rfl ?_
  refine zr_iload hG zd_La_law_814 rfl ?_
  refine zr_iconst hG (v := (1 : Int32)) zd_La_law_816 (by decide) ?_
  refine zr_iadd hG zd_La_law_817 ?_
  obtain ⟨hi, h⟩ := h
  refine zr_sld hG hX hbl hbA hi zd_La_law_818 ?_
  refine zr_aload_n hG zd_La_law_819 rfl rfl ?_
  refine zr_iload hG zd_La_law_820 rfl ?_
  refine zr_iconst hG (v := (2 : Int32)) zd_La_law_822 (by decide) ?_
  refine zr_iadd hG zd_La_law_823 ?_
  obtain ⟨hi, h⟩ := h
  refine zr_sld hG hX hbl hbA hi zd_La_law_824 ?_
  refine zr_aload_n hG zd_La_law_825 rfl rfl ?_
  refine zr_callH hG (zq_F1 hW) hE hA0 (As := [.ref (w.2.1 0), .int (xs (v4 + (1 : Int32)).toNatClampNeg), .int (xs (v4 + (2 : Int32)).toNatClampNeg), .ref (w.2.1 40)]) (rest := []) (zm_La_h_via (zc_l x) hfl w hAp g h) rfl zgh_108 zdd_La_h_via ⟨rfl, rfl, by decide, by decide⟩ ⟨by show _ ≤ 600002; omega, by show _ ≤ 7302198; omega⟩ rfl (Nat.le_of_ble_eq_true rfl) zd_La_law_826 rfl ?_
  rintro _ _ ⟨r237, c237, o237, rfl, rfl, h⟩
  refine zr_istore hG [some (.ref b), some (.ref (w.2.1 0)), some (.ref (w.2.1 28)), some (.ref (w.2.1 40)), some (.int v4), some (.int r237), none] zd_La_law_829 (Nat.le_of_ble_eq_true rfl) rfl ?_
  refine zr_aload_n hG zd_La_law_831 rfl rfl ?_
  refine zr_aload_n hG zd_La_law_832 rfl rfl ?_
  refine zr_iload hG zd_La_law_833 rfl ?_
  refine zr_iconst hG (v := (1 : Int32)) zd_La_law_835 (by decide) ?_
  refine zr_iadd hG zd_La_law_836 ?_
  obtain ⟨hi, h⟩ := h
  refine zr_sld hG hX hbl hbA hi zd_La_law_837 ?_
  refine zr_aload_n hG zd_La_law_838 rfl rfl ?_
  refine zr_iload hG zd_La_law_839 rfl ?_
  refine zr_iconst hG (v := (2 : Int32)) zd_La_law_841 (by decide) ?_
  refine zr_iadd hG zd_La_law_842 ?_
  obtain ⟨hi, h⟩ := h
  refine zr_sld hG hX hbl hbA hi zd_La_law_843 ?_
  refine zr_callV hG (zq_F1 hW) (As := [.int (xs (v4 + (1 : Int32)).toNatClampNeg), .int (xs (v4 + (2 : Int32)).toNatClampNeg)]) (rest := []) (zm_Mo_via (zc_l x) w hAp c237 o237 h) 28 rfl rfl rfl zg_La_110 zdd_Mo_via ⟨rfl, rfl, by decide, by decide⟩ ⟨by show _ ≤ 600002; omega, by show _ ≤ 7302198; omega⟩ rfl (Nat.le_of_ble_eq_true rfl) zd_La_law_844 rfl ?_
  rintro _ _ ⟨r238, z238, rfl, rfl, h⟩
  refine zr_istore hG [some (.ref b), some (.ref (w.2.1 0)), some (.ref (w.2.1 28)), some (.ref (w.2.1 40)), some (.int v4), some (.int r237), some (.int r238)] zd_La_law_847 (Nat.le_of_ble_eq_true rfl) rfl ?_
  refine zr_aload_n hG zd_La_law_849 rfl rfl ?_
  refine zr_callV hG zq_F0 (As := []) (rest := []) (zm_Mo_thrown (zc_l x) w hAp c237 o237 h) 28 rfl rfl rfl zg_La_74 zdd_Mo_thrown ⟨rfl, rfl, by decide, by decide⟩ ⟨by show _ ≤ 600002; omega, by show _ ≤ 7302198; omega⟩ rfl (Nat.le_of_ble_eq_true rfl) zd_La_law_850 rfl ?_
  rintro _ _ ⟨r239, z239, rfl, rfl, h⟩
  refine zr_iload hG zd_La_law_853 rfl ?_
  refine zr_icmp_eq hG 860 zd_La_law_855 (by decide) (fun hc => ?_) (fun hc => ?_)
  · have h := h.1 hc
    refine zr_iload hG zd_La_law_860 rfl ?_
    refine zr_if_ne hG 884 zd_La_law_862 (by decide) (fun hc => ?_) (fun hc => ?_)
    · have h := h.1 hc
      exact zr_mask [true, true, true, true, true, false, false] (zt_La_884 hL hj hk h)
    · have h := h.2 hc
      refine zr_aload_n hG zd_La_law_865 rfl rfl ?_
      refine zr_iconst hG (v := (0 : Int32)) zd_La_law_866 (by decide) ?_
      refine zl_40 hG zd_La_law_867 ?_
      refine zr_iload hG zd_La_law_868 rfl ?_
      refine zr_if_eq hG 877 zd_La_law_870 (by decide) (fun hc => ?_) (fun hc => ?_)
      · have h := h.1 hc
        refine zr_lconst hG (v := (0 : Int64)) zd_La_law_877 (by decide) ?_
        exact zr_mask [true, true, true, true, true, false, false] (zt_La_878 hL hj hk h)
      · have h := h.2 hc
        refine zr_lconst hG (v := (1 : Int64)) zd_La_law_873 (by decide) ?_
        refine zr_goto hG 878 zd_La_law_874 (by decide) ?_
        exact zr_mask [true, true, true, true, true, false, false] (zt_La_878 hL hj hk h)
  · have h := h.2 hc
    exact h.elim
def zw_La_c4 (ln : Nat → Nat) (L : Nat) (xs : Nat → Int32) (k63 : Int32 × Nat × zS × zS × (Nat → Int64) → Prop) (v4 : Int32) (j : Nat) (c g : zS) (o : Nat → Int64) : Prop := vp_in (v4 + (1 : Int32)) L ∧ (((xs (v4 + (1 : Int32)).toNatClampNeg) = 0 → zw_La_480 ln L xs k63 v4 (0 : Int32) j c g o) ∧ (¬ (xs (v4 + (1 : Int32)).toNatClampNeg) = 0 → zw_La_480 ln L xs k63 v4 (1 : Int32) j c g o))
set_option maxHeartbeats 4000000 in
set_option maxRecDepth 100000 in
theorem zt_La_c4 {x : zC} {w : zW} {b L : Nat} {xs : Nat → Int32} {k0 n0 : Nat} (hL : zq_LW x w b L xs k0 n0) {k63 : Int32 × Nat × zS × zS × (Nat → Int64) → Prop} {j : Nat} (hj : j < 1000) (hk : ∀ q : Int32 × Nat × zS × zS × (Nat → Int64), k63 q → zq_W x w (k0 + q.2.1) (n0 + 6 * q.2.1) (q.2.2.1, q.2.2.2.1, q.2.2.2.2) 63 [some (.ref b), some (.ref (w.2.1 0)), some (.ref (w.2.1 28)), some (.ref (w.2.1 40)), some (.int q.1), none, none] []) {v4 : Int32} {c g : zS} {o : Nat → Int64} (h : zw_La_c4 w.2.2.1 L xs k63 v4 j c g o) : zq_W x w (k0 + j) (n0 + 6 * j) (c, g, o) 465 [some (.ref b), some (.ref (w.2.1 0)), some (.ref (w.2.1 28)), some (.ref (w.2.1 40)), some (.int v4), none, none] [] := by
  obtain ⟨hG, hW, hAp, hE, hA0, hX, hbl, hbA, hQ, hfl, hk0, hn0⟩ := id hL
  refine zr_aload_n hG zd_La_law_465 rfl rfl ?_
  refine zr_aload_n hG zd_La_law_466 rfl rfl ?_
  refine zr_iload hG zd_La_law_467 rfl ?_
  refine zr_iconst hG (v := (1 : Int32)) zd_La_law_469 (by decide) ?_
  refine zr_iadd hG zd_La_law_470 ?_
  obtain ⟨hi, h⟩ := h
  refine zr_sld hG hX hbl hbA hi zd_La_law_471 ?_
  refine zr_if_eq hG 479 zd_La_law_472 (by decide) (fun hc => ?_) (fun hc => ?_)
  · have h := h.1 hc
    refine zr_iconst hG (v := (0 : Int32)) zd_La_law_479 (by decide) ?_
    exact zt_La_480 hL hj hk h
  · have h := h.2 hc
    refine zr_iconst hG (v := (1 : Int32)) zd_La_law_475 (by decide) ?_
    refine zr_goto hG 480 zd_La_law_476 (by decide) ?_
    exact zt_La_480 hL hj hk h
def zw_La_63 (ln : Nat → Nat) (L : Nat) (xs : Nat → Int32) (k63 : Int32 × Nat × zS × zS × (Nat → Int64) → Prop) : Int32 × Nat × zS × zS × (Nat → Int64) → Prop := fun q => match q with
  | (v4, j, c, g, o) => j < 1000 ∧ ((((Int32.ofNat L) - (7 : Int32)) < v4 → True) ∧ (¬ ((Int32.ofNat L) - (7 : Int32)) < v4 → vp_in v4 L ∧ ((((xs v4.toNatClampNeg) &&& (15 : Int32)) = 0 → zw_La_c0 ln L xs k63 v4 j c g o) ∧ (((xs v4.toNatClampNeg) &&& (15 : Int32)) = 1 → zw_La_c1 ln L xs k63 v4 j c g o) ∧ (((xs v4.toNatClampNeg) &&& (15 : Int32)) = 2 → zw_La_c2 ln L xs k63 v4 j c g o) ∧ (((xs v4.toNatClampNeg) &&& (15 : Int32)) = 3 → zw_La_c3 ln L xs k63 v4 j c g o) ∧ (((xs v4.toNatClampNeg) &&& (15 : Int32)) = 4 → zw_La_c4 ln L xs k63 v4 j c g o) ∧ (((xs v4.toNatClampNeg) &&& (15 : Int32)) = 5 → zw_La_c5 ln L xs k63 v4 j c g o) ∧ (((xs v4.toNatClampNeg) &&& (15 : Int32)) = 6 → zw_La_c6 ln L xs k63 v4 j c g o) ∧ (((xs v4.toNatClampNeg) &&& (15 : Int32)) = 7 → zw_La_c7 ln L xs k63 v4 j c g o) ∧ (((xs v4.toNatClampNeg) &&& (15 : Int32)) = 8 → zw_La_c8 ln L xs k63 v4 j c g o) ∧ (((xs v4.toNatClampNeg) &&& (15 : Int32)) = 9 → zw_La_c9 ln L xs k63 v4 j c g o) ∧ (((xs v4.toNatClampNeg) &&& (15 : Int32)) = 10 → zw_La_c10 ln L xs k63 v4 j c g o) ∧ (((xs v4.toNatClampNeg) &&& (15 : Int32)) = 11 → zw_La_c11 ln L xs k63 v4 j c g o) ∧ (((xs v4.toNatClampNeg) &&& (15 : Int32)) = 12 → zw_La_c12 ln L xs k63 v4 j c g o) ∧ (¬ ((xs v4.toNatClampNeg) &&& (15 : Int32)) = 0 ∧ ¬ ((xs v4.toNatClampNeg) &&& (15 : Int32)) = 1 ∧ ¬ ((xs v4.toNatClampNeg) &&& (15 : Int32)) = 2 ∧ ¬ ((xs v4.toNatClampNeg) &&& (15 : Int32)) = 3 ∧ ¬ ((xs v4.toNatClampNeg) &&& (15 : Int32)) = 4 ∧ ¬ ((xs v4.toNatClampNeg) &&& (15 : Int32)) = 5 ∧ ¬ ((xs v4.toNatClampNeg) &&& (15 : Int32)) = 6 ∧ ¬ ((xs v4.toNatClampNeg) &&& (15 : Int32)) = 7 ∧ ¬ ((xs v4.toNatClampNeg) &&& (15 : Int32)) = 8 ∧ ¬ ((xs v4.toNatClampNeg) &&& (15 : Int32)) = 9 ∧ ¬ ((xs v4.toNatClampNeg) &&& (15 : Int32)) = 10 ∧ ¬ ((xs v4.toNatClampNeg) &&& (15 : Int32)) = 11 ∧ ¬ ((xs v4.toNatClampNeg) &&& (15 : Int32)) = 12 → zw_La_1024 ln L xs k63 v4 j c g o))))
set_option maxHeartbeats 4000000 in
set_option maxRecDepth 100000 in
theorem zt_La_63 {x : zC} {w : zW} {b L : Nat} {xs : Nat → Int32} {k0 n0 : Nat} (hL : zq_LW x w b L xs k0 n0) {v4 : Int32} {j : Nat} {c g : zS} {o : Nat → Int64} (h : zq_Lp (zw_La_63 w.2.2.1 L xs) (v4, j, c, g, o)) : zq_W x w (k0 + j) (n0 + 6 * j) (c, g, o) 63 [some (.ref b), some (.ref (w.2.1 0)), some (.ref (w.2.1 28)), some (.ref (w.2.1 40)), some (.int v4), none, none] [] := by
  obtain ⟨hG, hW, hAp, hE, hA0, hX, hbl, hbA, hQ, hfl, hk0, hn0⟩ := id hL
  refine zq_Lp_W (WW := fun q => zq_W x w (k0 + q.2.1) (n0 + 6 * q.2.1) (q.2.2.1, q.2.2.2.1, q.2.2.2.2) 63 [some (.ref b), some (.ref (w.2.1 0)), some (.ref (w.2.1 28)), some (.ref (w.2.1 40)), some (.int q.1), none, none] []) (fun k63 hk q h => ?_) h
  obtain ⟨v4, j, c, g, o⟩ := q
  obtain ⟨hj, h⟩ := h
  show zq_W x w (k0 + j) (n0 + 6 * j) (c, g, o) 63 [some (.ref b), some (.ref (w.2.1 0)), some (.ref (w.2.1 28)), some (.ref (w.2.1 40)), some (.int v4), none, none] []
  refine zr_iload hG zd_La_law_63 rfl ?_
  refine zr_aload_n hG zd_La_law_65 rfl rfl ?_
  refine zr_slen hG hX hbl hbA zd_La_law_66 ?_
  refine zr_bipush hG (v := (7 : Int32)) zd_La_law_67 (by decide) ?_
  refine zr_isub hG zd_La_law_69 ?_
  refine zr_icmp_gt hG 1030 zd_La_law_70 (by decide) (fun hc => ?_) (fun hc => ?_)
  · have h := h.1 hc
    refine zr_iconst hG (v := 1) zd_La_law_1030 (by decide) ?_
    exact hQ _ _ _ _ _ (by omega) (by omega) zd_La_law_1031
  · have h := h.2 hc
    refine zr_aload_n hG zd_La_law_73 rfl rfl ?_
    refine zr_iload hG zd_La_law_74 rfl ?_
    obtain ⟨hi, h⟩ := h
    refine zr_sld hG hX hbl hbA hi zd_La_law_76 ?_
    refine zr_bipush hG (v := (15 : Int32)) zd_La_law_77 (by decide) ?_
    refine zr_iand hG zd_La_law_79 ?_
    by_cases hc0 : ((xs v4.toNatClampNeg) &&& (15 : Int32)) = 0
    · have h := h.1 hc0
      refine zr_swIn hG 148 zd_La_law_80 (by rw [hc0]; decide) (by rw [hc0]; decide) (by rw [hc0]; rfl) (by decide) ?_
      exact zt_La_c0 hL hj hk h
    have h := h.2
    by_cases hc1 : ((xs v4.toNatClampNeg) &&& (15 : Int32)) = 1
    · have h := h.1 hc1
      refine zr_swIn hG 235 zd_La_law_80 (by rw [hc1]; decide) (by rw [hc1]; decide) (by rw [hc1]; rfl) (by decide) ?_
      exact zt_La_c1 hL hj hk h
    have h := h.2
    by_cases hc2 : ((xs v4.toNatClampNeg) &&& (15 : Int32)) = 2
    · have h := h.1 hc2
      refine zr_swIn hG 353 zd_La_law_80 (by rw [hc2]; decide) (by rw [hc2]; decide) (by rw [hc2]; rfl) (by decide) ?_
      exact zt_La_c2 hL hj hk h
    have h := h.2
    by_cases hc3 : ((xs v4.toNatClampNeg) &&& (15 : Int32)) = 3
    · have h := h.1 hc3
      refine zr_swIn hG 409 zd_La_law_80 (by rw [hc3]; decide) (by rw [hc3]; decide) (by rw [hc3]; rfl) (by decide) ?_
      exact zt_La_c3 hL hj hk h
    have h := h.2
    by_cases hc4 : ((xs v4.toNatClampNeg) &&& (15 : Int32)) = 4
    · have h := h.1 hc4
      refine zr_swIn hG 465 zd_La_law_80 (by rw [hc4]; decide) (by rw [hc4]; decide) (by rw [hc4]; rfl) (by decide) ?_
      exact zt_La_c4 hL hj hk h
    have h := h.2
    by_cases hc5 : ((xs v4.toNatClampNeg) &&& (15 : Int32)) = 5
    · have h := h.1 hc5
      refine zr_swIn hG 549 zd_La_law_80 (by rw [hc5]; decide) (by rw [hc5]; decide) (by rw [hc5]; rfl) (by decide) ?_
      exact zt_La_c5 hL hj hk h
    have h := h.2
    by_cases hc6 : ((xs v4.toNatClampNeg) &&& (15 : Int32)) = 6
    · have h := h.1 hc6
      refine zr_swIn hG 585 zd_La_law_80 (by rw [hc6]; decide) (by rw [hc6]; decide) (by rw [hc6]; rfl) (by decide) ?_
      exact zt_La_c6 hL hj hk h
    have h := h.2
    by_cases hc7 : ((xs v4.toNatClampNeg) &&& (15 : Int32)) = 7
    · have h := h.1 hc7
      refine zr_swIn hG 657 zd_La_law_80 (by rw [hc7]; decide) (by rw [hc7]; decide) (by rw [hc7]; rfl) (by decide) ?_
      exact zt_La_c7 hL hj hk h
    have h := h.2
    by_cases hc8 : ((xs v4.toNatClampNeg) &&& (15 : Int32)) = 8
    · have h := h.1 hc8
      refine zr_swIn hG 732 zd_La_law_80 (by rw [hc8]; decide) (by rw [hc8]; decide) (by rw [hc8]; rfl) (by decide) ?_
      exact zt_La_c8 hL hj hk h
    have h := h.2
    by_cases hc9 : ((xs v4.toNatClampNeg) &&& (15 : Int32)) = 9
    · have h := h.1 hc9
      refine zr_swIn hG 812 zd_La_law_80 (by rw [hc9]; decide) (by rw [hc9]; decide) (by rw [hc9]; rfl) (by decide) ?_
      exact zt_La_c9 hL hj hk h
    have h := h.2
    by_cases hc10 : ((xs v4.toNatClampNeg) &&& (15 : Int32)) = 10
    · have h := h.1 hc10
      refine zr_swIn hG 887 zd_La_law_80 (by rw [hc10]; decide) (by rw [hc10]; decide) (by rw [hc10]; rfl) (by decide) ?_
      exact zt_La_c10 hL hj hk h
    have h := h.2
    by_cases hc11 : ((xs v4.toNatClampNeg) &&& (15 : Int32)) = 11
    · have h := h.1 hc11
      refine zr_swIn hG 943 zd_La_law_80 (by rw [hc11]; decide) (by rw [hc11]; decide) (by rw [hc11]; rfl) (by decide) ?_
      exact zt_La_c11 hL hj hk h
    have h := h.2
    by_cases hc12 : ((xs v4.toNatClampNeg) &&& (15 : Int32)) = 12
    · have h := h.1 hc12
      refine zr_swIn hG 956 zd_La_law_80 (by rw [hc12]; decide) (by rw [hc12]; decide) (by rw [hc12]; rfl) (by decide) ?_
      exact zt_La_c12 hL hj hk h
    have h := h.2
    have h := h ⟨hc0, hc1, hc2, hc3, hc4, hc5, hc6, hc7, hc8, hc9, hc10, hc11, hc12⟩
    refine zr_swOut hG 1024 zd_La_law_80 (zq_sw0_12 hc0 hc1 hc2 hc3 hc4 hc5 hc6 hc7 hc8 hc9 hc10 hc11 hc12) (by decide) ?_
    exact zr_widen (by omega) (by omega) (zt_La_1024 hL hj hk h)
