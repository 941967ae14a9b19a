def zw_Mo_shapes_28 (post : Int32 → zS → Prop) (k9 : Int32 × Int32 × zS → Prop) (v1 v2 : Int32) (z : zS) : Prop := k9 (v1, (v2 + (1 : Int32)), z)
set_option maxHeartbeats 4000000 in
set_option maxRecDepth 100000 in
theorem zt_Mo_shapes_28 {x : zC} {w : zW} {g : zS} {o : Nat → Int64} {post : Int32 → zS → Prop} (hG : zq_G x w "GridRouterModel" zc_Mo_shapes 3 (zq_rm 1 21)) (hR : zq_R x w (zq_A w) (some .int) (zq_Ni g o post)) (hAp : zq_Ap w) (hW : zq_Wr x w) {k9 : Int32 × Int32 × zS → Prop} (hk9 : ∀ b : Int32 × Int32 × zS, k9 b → zq_W x w 0 0 (g, b.2.2, o) 9 [some (.ref (w.2.1 28)), some (.int (b.1)), some (.int (b.2.1))] []) {v1 v2 : Int32} {z : zS} (h : zw_Mo_shapes_28 post k9 v1 v2 z) : zq_W x w 0 0 (g, z, o) 28 [some (.ref (w.2.1 28)), some (.int v1), some (.int v2)] [] := by
  refine zr_iinc hG (u := (1 : Int32)) [some (.ref (w.2.1 28)), some (.int v1), some (.int (v2 + (1 : Int32)))] zd_Mo_shapes_28 rfl (by decide) (Nat.le_of_ble_eq_true rfl) rfl ?_
  refine zr_goto hG 9 zd_Mo_shapes_31 (by decide) ?_
  have h := hk9 _ h
  exact h
def zw_Mo_shapes_9 (post : Int32 → zS → Prop) (k9 : Int32 × Int32 × zS → Prop) : Int32 × Int32 × zS → Prop := fun b => match b with
  | (v1, v2, z) => (zw_Mo_many z (fun r129 z129 => ((r129 ≤ v2 → post v1 z129) ∧ (¬ r129 ≤ v2 → (zw_Mo_begins v2 z129 (fun r130 z130 => ((r130 = 0 → zw_Mo_shapes_28 post k9 v1 v2 z130) ∧ (¬ r130 = 0 → zw_Mo_shapes_28 post k9 (v1 + (1 : Int32)) v2 z130))))))))
set_option maxHeartbeats 4000000 in
set_option maxRecDepth 100000 in
theorem zt_Mo_shapes_9 {x : zC} {w : zW} {g : zS} {o : Nat → Int64} {post : Int32 → zS → Prop} (hG : zq_G x w "GridRouterModel" zc_Mo_shapes 3 (zq_rm 1 21)) (hR : zq_R x w (zq_A w) (some .int) (zq_Ni g o post)) (hAp : zq_Ap w) (hW : zq_Wr x w) {v1 v2 : Int32} {z : zS} (h : zq_Lp (zw_Mo_shapes_9 post) (v1, v2, z)) : zq_W x w 0 0 (g, z, o) 9 [some (.ref (w.2.1 28)), some (.int v1), some (.int v2)] [] := by
  refine zq_Lp_W (WW := fun b => zq_W x w 0 0 (g, b.2.2, o) 9 [some (.ref (w.2.1 28)), some (.int (b.1)), some (.int (b.2.1))] []) (fun k9 hk9 b h => ?_) h
  obtain ⟨v1, v2, z⟩ := b
  show zq_W x w 0 0 (g, z, o) 9 [some (.ref (w.2.1 28)), some (.int v1), some (.int v2)] []
  have h : (zw_Mo_many z (fun r129 z129 => ((r129 ≤ v2 → post v1 z129) ∧ (¬ r129 ≤ v2 → (zw_Mo_begins v2 z129 (fun r130 z130 => ((r130 = 0 → zw_Mo_shapes_28 post k9 v1 v2 z130) ∧ (¬ r130 = 0 → zw_Mo_shapes_28 post k9 (v1 + (1 : Int32)) v2 z130)))))))) := h
  refine zr_iload_n hG zd_Mo_shapes_9 rfl rfl ?_
  refine zr_aload_n hG zd_Mo_shapes_10 rfl rfl ?_
  refine zr_callV hG zq_F0 (As := []) (rest := [.int v2]) (zm_Mo_many (zc_l x) w hAp g o h) 28 rfl rfl rfl zg_Mo_86 zdd_Mo_many ⟨rfl, rfl, by decide, by decide⟩ ⟨by decide, by decide⟩ rfl (Nat.le_of_ble_eq_true rfl) zd_Mo_shapes_11 rfl ?_
  rintro _ _ ⟨r129, z129, rfl, rfl, h⟩
  refine zr_icmp_ge hG 34 zd_Mo_shapes_14 (by decide) (fun hc => ?_) (fun hc => ?_)
  · have h := h.1 hc
    refine zr_iload_n hG zd_Mo_shapes_34 rfl rfl ?_
    exact zr_iret hG hR zd_Mo_shapes_35 ⟨_, _, rfl, rfl, h⟩
  · have h := h.2 hc
    refine zr_aload_n hG zd_Mo_shapes_17 rfl rfl ?_
    refine zr_iload_n hG zd_Mo_shapes_18 rfl rfl ?_
    refine zr_callV hG zq_F0 (As := [.int v2]) (rest := []) (zm_Mo_begins (zc_l x) w hAp g o h) 28 rfl rfl rfl zg_Mo_158 zdd_Mo_begins ⟨rfl, rfl, by decide, by decide⟩ ⟨by decide, by decide⟩ rfl (Nat.le_of_ble_eq_true rfl) zd_Mo_shapes_19 rfl ?_
    rintro _ _ ⟨r130, z130, rfl, rfl, h⟩
    refine zr_if_eq hG 28 zd_Mo_shapes_22 (by decide) (fun hc => ?_) (fun hc => ?_)
    · have h := h.1 hc
      exact zt_Mo_shapes_28 hG hR hAp hW hk9 h
    · have h := h.2 hc
      refine zr_iinc hG (u := (1 : Int32)) [some (.ref (w.2.1 28)), some (.int (v1 + (1 : Int32))), some (.int v2)] zd_Mo_shapes_25 rfl (by decide) (Nat.le_of_ble_eq_true rfl) rfl ?_
      exact zt_Mo_shapes_28 hG hR hAp hW hk9 h
def zw_Mo_shapes (z : zS) (post : Int32 → zS → Prop) : Prop := zq_Lp (zw_Mo_shapes_9 post) ((0 : Int32), (0 : Int32), (zs_s z 4 (0 : Int32)))
set_option maxHeartbeats 4000000 in
set_option maxRecDepth 100000 in
theorem zm_Mo_shapes (l : Launch) (w : zW) (hAp : zq_Ap w) (g : zS) (o : Nat → Int64) {z : zS} {post : Int32 → zS → Prop} (h : zw_Mo_shapes z post) : zq_M l w (zq_A w) zy_Mo_shapes zc_Mo_shapes 3 (some .int) (zq_rm 1 21) [.ref (w.2.1 28)] (g, z, o) (zq_Ni g o post) := by
  refine zq_mk_M (by decide) (by simp [Value.category]) (Nat.le_of_ble_eq_true rfl) hAp (fun x hx hG hR => ?_)
  subst hx
  have hW := zq_wr hR.2.2.1
  refine zr_aload_n hG zd_Mo_shapes_0 rfl rfl ?_
  refine zr_iconst hG (v := (0 : Int32)) zd_Mo_shapes_1 (by decide) ?_
  refine zp_Mo_code hG hW tk_767 zd_Mo_shapes_2 ?_
  refine zr_iconst hG (v := (0 : Int32)) zd_Mo_shapes_5 (by decide) ?_
  refine zr_istore_n hG [some (.ref (w.2.1 28)), some (.int (0 : Int32)), none] zd_Mo_shapes_6 rfl (Nat.le_of_ble_eq_true rfl) rfl ?_
  refine zr_iconst hG (v := (0 : Int32)) zd_Mo_shapes_7 (by decide) ?_
  refine zr_istore_n hG [some (.ref (w.2.1 28)), some (.int (0 : Int32)), some (.int (0 : Int32))] zd_Mo_shapes_8 rfl (Nat.le_of_ble_eq_true rfl) rfl ?_
  exact zt_Mo_shapes_9 hG hR hAp hW h
def zw_Mo_shape_110 (post : Int32 → zS → Prop) (v2 v3 v5 : Int32) (z : zS) : Prop := ((v2 = 0 → ¬ ((z.1 0) * (z.1 1)) = 0 ∧ post (v3 / ((z.1 0) * (z.1 1))) z) ∧ (v2 = 1 → ¬ (z.1 0) = 0 ∧ ¬ (z.1 1) = 0 ∧ post ((v3 / (z.1 0)) - (v3 / (z.1 0)) / (z.1 1) * (z.1 1)) z) ∧ (v2 = 2 → ¬ (z.1 0) = 0 ∧ post (v3 - v3 / (z.1 0) * (z.1 0)) z) ∧ (v2 = 3 → ¬ (z.1 0) = 0 ∧ post (v5 - v5 / (z.1 0) * (z.1 0)) z) ∧ (v2 = 4 → vp_in v3 162 ∧ post (z.2 2 v3.toNatClampNeg) z) ∧ (¬ v2 = 0 ∧ ¬ v2 = 1 ∧ ¬ v2 = 2 ∧ ¬ v2 = 3 ∧ ¬ v2 = 4 → (zw_Mo_fail (2 : Int32) z (fun r134 z134 => post r134 z134))))
set_option maxHeartbeats 4000000 in
set_option maxRecDepth 100000 in
theorem zt_Mo_shape_110 {x : zC} {w : zW} {g : zS} {o : Nat → Int64} {post : Int32 → zS → Prop} (hG : zq_G x w "GridRouterModel" zc_Mo_shape 6 (zq_rm 1 21)) (hR : zq_R x w (zq_A w) (some .int) (zq_Ni g o post)) (hAp : zq_Ap w) (hW : zq_Wr x w) {v2 v3 v5 : Int32} {z : zS} (h : zw_Mo_shape_110 post v2 v3 v5 z) : zq_W x w 0 0 (g, z, o) 110 [some (.ref (w.2.1 28)), none, some (.int v2), some (.int v3), none, some (.int v5)] [] := by
  refine zr_iload_n hG zd_Mo_shape_110 rfl rfl ?_
  by_cases hc0 : v2 = 0
  · have h := h.1 hc0
    refine zr_swIn hG 144 zd_Mo_shape_111 (by rw [hc0]; decide) (by rw [hc0]; decide) (by rw [hc0]; rfl) (by decide) ?_
    refine zr_iload_n hG zd_Mo_shape_144 rfl rfl ?_
    refine zr_aload_n hG zd_Mo_shape_145 rfl rfl ?_
    refine zf_Mo_width hG tk_763 zd_Mo_shape_146 ?_
    refine zr_aload_n hG zd_Mo_shape_149 rfl rfl ?_
    refine zf_Mo_height hG tk_764 zd_Mo_shape_150 ?_
    refine zr_imul hG zd_Mo_shape_153 ?_
    obtain ⟨hi, h⟩ := h
    refine zr_idiv hG zd_Mo_shape_154 hi ?_
    exact zr_iret hG hR zd_Mo_shape_155 ⟨_, _, rfl, rfl, h⟩
  have h := h.2
  by_cases hc1 : v2 = 1
  · have h := h.1 hc1
    refine zr_swIn hG 156 zd_Mo_shape_111 (by rw [hc1]; decide) (by rw [hc1]; decide) (by rw [hc1]; rfl) (by decide) ?_
    refine zr_iload_n hG zd_Mo_shape_156 rfl rfl ?_
    refine zr_aload_n hG zd_Mo_shape_157 rfl rfl ?_
    refine zf_Mo_width hG tk_763 zd_Mo_shape_158 ?_
    obtain ⟨hi, h⟩ := h
    refine zr_idiv hG zd_Mo_shape_161 hi ?_
    refine zr_aload_n hG zd_Mo_shape_162 rfl rfl ?_
    refine zf_Mo_height hG tk_764 zd_Mo_shape_163 ?_
    obtain ⟨hi, h⟩ := h
    refine zr_irem hG zd_Mo_shape_166 hi ?_
    exact zr_iret hG hR zd_Mo_shape_167 ⟨_, _, rfl, rfl, h⟩
  have h := h.2
  by_cases hc2 : v2 = 2
  · have h := h.1 hc2
    refine zr_swIn hG 168 zd_Mo_shape_111 (by rw [hc2]; decide) (by rw [hc2]; decide) (by rw [hc2]; rfl) (by decide) ?_
    refine zr_iload_n hG zd_Mo_shape_168 rfl rfl ?_
    refine zr_aload_n hG zd_Mo_shape_169 rfl rfl ?_
    refine zf_Mo_width hG tk_763 zd_Mo_shape_170 ?_
    obtain ⟨hi, h⟩ := h
    refine zr_irem hG zd_Mo_shape_173 hi ?_
    exact zr_iret hG hR zd_Mo_shape_174 ⟨_, _, rfl, rfl, h⟩
  have h := h.2
  by_cases hc3 : v2 = 3
  · have h := h.1 hc3
    refine zr_swIn hG 175 zd_Mo_shape_111 (by rw [hc3]; decide) (by rw [hc3]; decide) (by rw [hc3]; rfl) (by decide) ?_
    refine zr_iload hG zd_Mo_shape_175 rfl ?_
    refine zr_aload_n hG zd_Mo_shape_177 rfl rfl ?_
    refine zf_Mo_width hG tk_763 zd_Mo_shape_178 ?_
    obtain ⟨hi, h⟩ := h
    refine zr_irem hG zd_Mo_shape_181 hi ?_
    exact zr_iret hG hR zd_Mo_shape_182 ⟨_, _, rfl, rfl, h⟩
  have h := h.2
  by_cases hc4 : v2 = 4
  · have h := h.1 hc4
    refine zr_swIn hG 183 zd_Mo_shape_111 (by rw [hc4]; decide) (by rw [hc4]; decide) (by rw [hc4]; rfl) (by decide) ?_
    refine zr_aload_n hG zd_Mo_shape_183 rfl rfl ?_
    refine zf_Mo_owner hG tk_770 zd_Mo_shape_184 ?_
    refine zr_iload_n hG zd_Mo_shape_187 rfl rfl ?_
    obtain ⟨hi, h⟩ := h
    refine zl_31 hG hi zd_Mo_shape_188 ?_
    exact zr_iret hG hR zd_Mo_shape_189 ⟨_, _, rfl, rfl, h⟩
  have h := h.2
  have h := h ⟨hc0, hc1, hc2, hc3, hc4⟩
  refine zr_swOut hG 190 zd_Mo_shape_111 (zq_sw0_4 hc0 hc1 hc2 hc3 hc4) (by decide) ?_
  refine zr_aload_n hG zd_Mo_shape_190 rfl rfl ?_
  refine zr_iconst hG (v := (2 : Int32)) zd_Mo_shape_191 (by decide) ?_
  refine zr_callV hG (zq_F1 hW) (As := [.int (2 : Int32)]) (rest := []) (zm_Mo_fail (zc_l x) w hAp g o h) 28 rfl rfl rfl zg_Mo_161 zdd_Mo_fail ⟨rfl, rfl, by decide, by decide⟩ ⟨by decide, by decide⟩ rfl (Nat.le_of_ble_eq_true rfl) zd_Mo_shape_192 rfl ?_
  rintro _ _ ⟨r134, z134, rfl, rfl, h⟩
  exact zr_iret hG hR zd_Mo_shape_195 ⟨_, _, rfl, rfl, h⟩
def zw_Mo_shape_70 (post : Int32 → zS → Prop) (k70 : Int32 × Int32 × Int32 × zS → Prop) : Int32 × Int32 × Int32 × zS → Prop := fun b => match b with
  | (v2, v3, v5, z) => ¬ (z.1 0) = 0 ∧ ((((z.1 0) - (1 : Int32)) ≤ (v5 - v5 / (z.1 0) * (z.1 0)) → zw_Mo_shape_110 post v2 v3 v5 z) ∧ (¬ ((z.1 0) - (1 : Int32)) ≤ (v5 - v5 / (z.1 0) * (z.1 0)) → vp_in (v5 + (1 : Int32)) 162 ∧ vp_in v3 162 ∧ ((¬ (z.2 2 (v5 + (1 : Int32)).toNatClampNeg) = (z.2 2 v3.toNatClampNeg) → zw_Mo_shape_110 post v2 v3 v5 z) ∧ ((z.2 2 (v5 + (1 : Int32)).toNatClampNeg) = (z.2 2 v3.toNatClampNeg) → k70 (v2, v3, (v5 + (1 : Int32)), z)))))
set_option maxHeartbeats 4000000 in
set_option maxRecDepth 100000 in
theorem zt_Mo_shape_70 {x : zC} {w : zW} {g : zS} {o : Nat → Int64} {post : Int32 → zS → Prop} (hG : zq_G x w "GridRouterModel" zc_Mo_shape 6 (zq_rm 1 21)) (hR : zq_R x w (zq_A w) (some .int) (zq_Ni g o post)) (hAp : zq_Ap w) (hW : zq_Wr x w) {v2 v3 v5 : Int32} {z : zS} (h : zq_Lp (zw_Mo_shape_70 post) (v2, v3, v5, z)) : zq_W x w 0 0 (g, z, o) 70 [some (.ref (w.2.1 28)), none, some (.int v2), some (.int v3), none, some (.int v5)] [] := by
  refine zq_Lp_W (WW := fun b => zq_W x w 0 0 (g, b.2.2.2, o) 70 [some (.ref (w.2.1 28)), none, some (.int (b.1)), some (.int (b.2.1)), none, some (.int (b.2.2.1))] []) (fun k70 hk70 b h => ?_) h
  obtain ⟨v2, v3, v5, z⟩ := b
  show zq_W x w 0 0 (g, z, o) 70 [some (.ref (w.2.1 28)), none, some (.int v2), some (.int v3), none, some (.int v5)] []
  refine zr_iload hG zd_Mo_shape_70 rfl ?_
  refine zr_aload_n hG zd_Mo_shape_72 rfl rfl ?_
  refine zf_Mo_width hG tk_763 zd_Mo_shape_73 ?_
  obtain ⟨hi, h⟩ := h
  refine zr_irem hG zd_Mo_shape_76 hi ?_
  refine zr_aload_n hG zd_Mo_shape_77 rfl rfl ?_
  refine zf_Mo_width hG tk_763 zd_Mo_shape_78 ?_
  refine zr_iconst hG (v := (1 : Int32)) zd_Mo_shape_81 (by decide) ?_
  refine zr_isub hG zd_Mo_shape_82 ?_
  refine zr_icmp_ge hG 110 zd_Mo_shape_83 (by decide) (fun hc => ?_) (fun hc => ?_)
  · have h := h.1 hc
    exact zt_Mo_shape_110 hG hR hAp hW h
  · have h := h.2 hc
    refine zr_aload_n hG zd_Mo_shape_86 rfl rfl ?_
    refine zf_Mo_owner hG tk_770 zd_Mo_shape_87 ?_
    refine zr_iload hG zd_Mo_shape_90 rfl ?_
    refine zr_iconst hG (v := (1 : Int32)) zd_Mo_shape_92 (by decide) ?_
    refine zr_iadd hG zd_Mo_shape_93 ?_
    obtain ⟨hi, h⟩ := h
    refine zl_31 hG hi zd_Mo_shape_94 ?_
    refine zr_aload_n hG zd_Mo_shape_95 rfl rfl ?_
    refine zf_Mo_owner hG tk_770 zd_Mo_shape_96 ?_
    refine zr_iload_n hG zd_Mo_shape_99 rfl rfl ?_
    obtain ⟨hi, h⟩ := h
    refine zl_31 hG hi zd_Mo_shape_100 ?_
    refine zr_icmp_ne hG 110 zd_Mo_shape_101 (by decide) (fun hc => ?_) (fun hc => ?_)
    · have h := h.1 hc
      exact zt_Mo_shape_110 hG hR hAp hW h
    · have h := h.2 hc
      refine zr_iinc hG (u := (1 : Int32)) [some (.ref (w.2.1 28)), none, some (.int v2), some (.int v3), none, some (.int (v5 + (1 : Int32)))] zd_Mo_shape_104 rfl (by decide) (Nat.le_of_ble_eq_true rfl) rfl ?_
      refine zr_goto hG 70 zd_Mo_shape_107 (by decide) ?_
      have h := hk70 _ h
      exact h
def zw_Mo_shape_56 (post : Int32 → zS → Prop) (v2 v3 : Int32) (z : zS) : Prop := ((¬ v3 = (-1 : Int32) → zq_Lp (zw_Mo_shape_70 post) (v2, v3, v3, z)) ∧ (v3 = (-1 : Int32) → (zw_Mo_fail (1 : Int32) z (fun r133 z133 => post r133 z133))))
set_option maxHeartbeats 4000000 in
set_option maxRecDepth 100000 in
theorem zt_Mo_shape_56 {x : zC} {w : zW} {g : zS} {o : Nat → Int64} {post : Int32 → zS → Prop} (hG : zq_G x w "GridRouterModel" zc_Mo_shape 6 (zq_rm 1 21)) (hR : zq_R x w (zq_A w) (some .int) (zq_Ni g o post)) (hAp : zq_Ap w) (hW : zq_Wr x w) {v2 v3 : Int32} {z : zS} (h : zw_Mo_shape_56 post v2 v3 z) : zq_W x w 0 0 (g, z, o) 56 [some (.ref (w.2.1 28)), none, some (.int v2), some (.int v3), none, none] [] := by
  refine zr_iload_n hG zd_Mo_shape_56 rfl rfl ?_
  refine zr_iconst hG (v := (-1 : Int32)) zd_Mo_shape_57 (by decide) ?_
  refine zr_icmp_ne hG 67 zd_Mo_shape_58 (by decide) (fun hc => ?_) (fun hc => ?_)
  · have h := h.1 hc
    refine zr_iload_n hG zd_Mo_shape_67 rfl rfl ?_
    refine zr_istore hG [some (.ref (w.2.1 28)), none, some (.int v2), some (.int v3), none, some (.int v3)] zd_Mo_shape_68 (Nat.le_of_ble_eq_true rfl) rfl ?_
    exact zt_Mo_shape_70 hG hR hAp hW h
  · have h := h.2 hc
    refine zr_aload_n hG zd_Mo_shape_61 rfl rfl ?_
    refine zr_iconst hG (v := (1 : Int32)) zd_Mo_shape_62 (by decide) ?_
    refine zr_callV hG (zq_F1 hW) (As := [.int (1 : Int32)]) (rest := []) (zm_Mo_fail (zc_l x) w hAp g o h) 28 rfl rfl rfl zg_Mo_161 zdd_Mo_fail ⟨rfl, rfl, by decide, by decide⟩ ⟨by decide, by decide⟩ rfl (Nat.le_of_ble_eq_true rfl) zd_Mo_shape_63 rfl ?_
    rintro _ _ ⟨r133, z133, rfl, rfl, h⟩
    exact zr_iret hG hR zd_Mo_shape_66 ⟨_, _, rfl, rfl, h⟩
def zw_Mo_shape_50 (post : Int32 → zS → Prop) (k13 : Int32 × Int32 × Int32 × Int32 × zS → Prop) (v2 v3 v4 v5 : Int32) (z : zS) : Prop := k13 (v2, v3, v4, (v5 + (1 : Int32)), z)
set_option maxHeartbeats 4000000 in
set_option maxRecDepth 100000 in
theorem zt_Mo_shape_50 {x : zC} {w : zW} {g : zS} {o : Nat → Int64} {post : Int32 → zS → Prop} (hG : zq_G x w "GridRouterModel" zc_Mo_shape 6 (zq_rm 1 21)) (hR : zq_R x w (zq_A w) (some .int) (zq_Ni g o post)) (hAp : zq_Ap w) (hW : zq_Wr x w) {k13 : Int32 × Int32 × Int32 × Int32 × zS → Prop} (hk13 : ∀ b : Int32 × Int32 × Int32 × Int32 × zS, k13 b → zq_W x w 0 0 (g, b.2.2.2.2, o) 13 [some (.ref (w.2.1 28)), none, some (.int (b.1)), some (.int (b.2.1)), some (.int (b.2.2.1)), some (.int (b.2.2.2.1))] []) {v2 v3 v4 v5 : Int32} {z : zS} (h : zw_Mo_shape_50 post k13 v2 v3 v4 v5 z) : zq_W x w 0 0 (g, z, o) 50 [some (.ref (w.2.1 28)), none, some (.int v2), some (.int v3), some (.int v4), some (.int v5)] [] := by
  refine zr_iinc hG (u := (1 : Int32)) [some (.ref (w.2.1 28)), none, some (.int v2), some (.int v3), some (.int v4), some (.int (v5 + (1 : Int32)))] zd_Mo_shape_50 rfl (by decide) (Nat.le_of_ble_eq_true rfl) rfl ?_
  refine zr_goto hG 13 zd_Mo_shape_53 (by decide) ?_
  have h := hk13 _ h
  exact h
def zw_Mo_shape_47 (post : Int32 → zS → Prop) (k13 : Int32 × Int32 × Int32 × Int32 × zS → Prop) (v2 v3 v4 v5 : Int32) (z : zS) : Prop := zw_Mo_shape_50 post k13 v2 v3 (v4 + (-1 : Int32)) v5 z
set_option maxHeartbeats 4000000 in
set_option maxRecDepth 100000 in
theorem zt_Mo_shape_47 {x : zC} {w : zW} {g : zS} {o : Nat → Int64} {post : Int32 → zS → Prop} (hG : zq_G x w "GridRouterModel" zc_Mo_shape 6 (zq_rm 1 21)) (hR : zq_R x w (zq_A w) (some .int) (zq_Ni g o post)) (hAp : zq_Ap w) (hW : zq_Wr x w) {k13 : Int32 × Int32 × Int32 × Int32 × zS → Prop} (hk13 : ∀ b : Int32 × Int32 × Int32 × Int32 × zS, k13 b → zq_W x w 0 0 (g, b.2.2.2.2, o) 13 [some (.ref (w.2.1 28)), none, some (.int (b.1)), some (.int (b.2.1)), some (.int (b.2.2.1)), some (.int (b.2.2.2.1))] []) {v2 v3 v4 v5 : Int32} {z : zS} (h : zw_Mo_shape_47 post k13 v2 v3 v4 v5 z) : zq_W x w 0 0 (g, z, o) 47 [some (.ref (w.2.1 28)), none, some (.int v2), some (.int v3), some (.int v4), some (.int v5)] [] := by
  refine zr_iinc hG (u := (-1 : Int32)) [some (.ref (w.2.1 28)), none, some (.int v2), some (.int v3), some (.int (v4 + (-1 : Int32))), some (.int v5)] zd_Mo_shape_47 rfl (by decide) (Nat.le_of_ble_eq_true rfl) rfl ?_
  exact zt_Mo_shape_50 hG hR hAp hW hk13 h
def zw_Mo_shape_13 (post : Int32 → zS → Prop) (k13 : Int32 × Int32 × Int32 × Int32 × zS → Prop) : Int32 × Int32 × Int32 × Int32 × zS → Prop := fun b => match b with
  | (v2, v3, v4, v5, z) => (zw_Mo_many z (fun r131 z131 => ((r131 ≤ v5 → zw_Mo_shape_56 post v2 v3 z131) ∧ (¬ r131 ≤ v5 → ((¬ v3 = (-1 : Int32) → zw_Mo_shape_56 post v2 v3 z131) ∧ (v3 = (-1 : Int32) → (zw_Mo_begins v5 z131 (fun r132 z132 => ((¬ r132 = 0 → ((¬ v4 = 0 → zw_Mo_shape_47 post k13 v2 v3 v4 v5 z132) ∧ (v4 = 0 → zw_Mo_shape_47 post k13 v2 v5 v4 v5 z132))) ∧ (r132 = 0 → zw_Mo_shape_50 post k13 v2 v3 v4 v5 z132))))))))))
set_option maxHeartbeats 4000000 in
set_option maxRecDepth 100000 in
theorem zt_Mo_shape_13 {x : zC} {w : zW} {g : zS} {o : Nat → Int64} {post : Int32 → zS → Prop} (hG : zq_G x w "GridRouterModel" zc_Mo_shape 6 (zq_rm 1 21)) (hR : zq_R x w (zq_A w) (some .int) (zq_Ni g o post)) (hAp : zq_Ap w) (hW : zq_Wr x w) {v2 v3 v4 v5 : Int32} {z : zS} (h : zq_Lp (zw_Mo_shape_13 post) (v2, v3, v4, v5, z)) : zq_W x w 0 0 (g, z, o) 13 [some (.ref (w.2.1 28)), none, some (.int v2), some (.int v3), some (.int v4), some (.int v5)] [] := by
  refine zq_Lp_W (WW := fun b => zq_W x w 0 0 (g, b.2.2.2.2, o) 13 [some (.ref (w.2.1 28)), none, some (.int (b.1)), some (.int (b.2.1)), some (.int (b.2.2.1)), some (.int (b.2.2.2.1))] []) (fun k13 hk13 b h => ?_) h
  obtain ⟨v2, v3, v4, v5, z⟩ := b
  show zq_W x w 0 0 (g, z, o) 13 [some (.ref (w.2.1 28)), none, some (.int v2), some (.int v3), some (.int v4), some (.int v5)] []
  have h : (zw_Mo_many z (fun r131 z131 => ((r131 ≤ v5 → zw_Mo_shape_56 post v2 v3 z131) ∧ (¬ r131 ≤ v5 → ((¬ v3 = (-1 : Int32) → zw_Mo_shape_56 post v2 v3 z131) ∧ (v3 = (-1 : Int32) → (zw_Mo_begins v5 z131 (fun r132 z132 => ((¬ r132 = 0 → ((¬ v4 = 0 → zw_Mo_shape_47 post k13 v2 v3 v4 v5 z132) ∧ (v4 = 0 → zw_Mo_shape_47 post k13 v2 v5 v4 v5 z132))) ∧ (r132 = 0 → zw_Mo_shape_50 post k13 v2 v3 v4 v5 z132)))))))))) := h
  refine zr_iload hG zd_Mo_shape_13 rfl ?_
  refine zr_aload_n hG zd_Mo_shape_15 rfl rfl ?_
  refine zr_callV hG zq_F0 (As := []) (rest := [.int v5]) (zm_Mo_many (zc_l x) w hAp g o h) 28 rfl rfl rfl zg_Mo_86 zdd_Mo_many ⟨rfl, rfl, by decide, by decide⟩ ⟨by decide, by decide⟩ rfl (Nat.le_of_ble_eq_true rfl) zd_Mo_shape_16 rfl ?_
  rintro _ _ ⟨r131, z131, rfl, rfl, h⟩
  refine zr_icmp_ge hG 56 zd_Mo_shape_19 (by decide) (fun hc => ?_) (fun hc => ?_)
  · have h := h.1 hc
    exact zr_mask [true, false, true, true, false, false] (zt_Mo_shape_56 hG hR hAp hW h)
  · have h := h.2 hc
    refine zr_iload_n hG zd_Mo_shape_22 rfl rfl ?_
    refine zr_iconst hG (v := (-1 : Int32)) zd_Mo_shape_23 (by decide) ?_
    refine zr_icmp_ne hG 56 zd_Mo_shape_24 (by decide) (fun hc => ?_) (fun hc => ?_)
    · have h := h.1 hc
      exact zr_mask [true, false, true, true, false, false] (zt_Mo_shape_56 hG hR hAp hW h)
    · have h := h.2 hc
      refine zr_aload_n hG zd_Mo_shape_27 rfl rfl ?_
      refine zr_iload hG zd_Mo_shape_28 rfl ?_
      refine zr_callV hG zq_F0 (As := [.int v5]) (rest := []) (zm_Mo_begins (zc_l x) w hAp g o h) 28 rfl rfl rfl zg_Mo_158 zdd_Mo_begins ⟨rfl, rfl, by decide, by decide⟩ ⟨by decide, by decide⟩ rfl (Nat.le_of_ble_eq_true rfl) zd_Mo_shape_30 rfl ?_
      rintro _ _ ⟨r132, z132, rfl, rfl, h⟩
      refine zr_if_ne hG 39 zd_Mo_shape_33 (by decide) (fun hc => ?_) (fun hc => ?_)
      · have h := h.1 hc
        refine zr_iload hG zd_Mo_shape_39 rfl ?_
        refine zr_if_ne hG 47 zd_Mo_shape_41 (by decide) (fun hc => ?_) (fun hc => ?_)
        · have h := h.1 hc
          exact zt_Mo_shape_47 hG hR hAp hW hk13 h
        · have h := h.2 hc
          refine zr_iload hG zd_Mo_shape_44 rfl ?_
          refine zr_istore_n hG [some (.ref (w.2.1 28)), none, some (.int v2), some (.int v5), some (.int v4), some (.int v5)] zd_Mo_shape_46 rfl (Nat.le_of_ble_eq_true rfl) rfl ?_
          exact zt_Mo_shape_47 hG hR hAp hW hk13 h
      · have h := h.2 hc
        refine zr_goto hG 50 zd_Mo_shape_36 (by decide) ?_
        exact zt_Mo_shape_50 hG hR hAp hW hk13 h
def zw_Mo_shape (a1 a2 : Int32) (z : zS) (post : Int32 → zS → Prop) : Prop := zq_Lp (zw_Mo_shape_13 post) (a2, (-1 : Int32), a1, (0 : Int32), (zs_s z 4 (0 : Int32)))
set_option maxHeartbeats 4000000 in
set_option maxRecDepth 100000 in
theorem zm_Mo_shape (l : Launch) (w : zW) (hAp : zq_Ap w) (g : zS) (o : Nat → Int64) {a1 a2 : Int32} {z : zS} {post : Int32 → zS → Prop} (h : zw_Mo_shape a1 a2 z post) : zq_M l w (zq_A w) zy_Mo_shape zc_Mo_shape 6 (some .int) (zq_rm 1 21) [.ref (w.2.1 28), .int a1, .int a2] (g, z, o) (zq_Ni g o post) := by
  refine zq_mk_M (by decide) (by simp [Value.category]) (Nat.le_of_ble_eq_true rfl) hAp (fun x hx hG hR => ?_)
  subst hx
  have hW := zq_wr hR.2.2.1
  refine zr_aload_n hG zd_Mo_shape_0 rfl rfl ?_
  refine zr_iconst hG (v := (0 : Int32)) zd_Mo_shape_1 (by decide) ?_
  refine zp_Mo_code hG hW tk_767 zd_Mo_shape_2 ?_
  refine zr_iconst hG (v := (-1 : Int32)) zd_Mo_shape_5 (by decide) ?_
  refine zr_istore_n hG [some (.ref (w.2.1 28)), some (.int a1), some (.int a2), some (.int (-1 : Int32)), none, none] zd_Mo_shape_6 rfl (Nat.le_of_ble_eq_true rfl) rfl ?_
  refine zr_iload_n hG zd_Mo_shape_7 rfl rfl ?_
  refine zr_istore hG [some (.ref (w.2.1 28)), some (.int a1), some (.int a2), some (.int (-1 : Int32)), some (.int a1), none] zd_Mo_shape_8 (Nat.le_of_ble_eq_true rfl) rfl ?_
  refine zr_iconst hG (v := (0 : Int32)) zd_Mo_shape_10 (by decide) ?_
  refine zr_istore hG [some (.ref (w.2.1 28)), some (.int a1), some (.int a2), some (.int (-1 : Int32)), some (.int a1), some (.int (0 : Int32))] zd_Mo_shape_11 (Nat.le_of_ble_eq_true rfl) rfl ?_
  exact zr_mask [true, false, true, true, true, true] (zt_Mo_shape_13 hG hR hAp hW h)
def zw_Grid_link_134 (ln : Nat → Nat) (post : zS → Prop) (u0 u1 : Int32) (z : zS) : Prop := vp_in u1 (ln 2) ∧ post (zs_a z 2 u1 u0)
set_option maxHeartbeats 4000000 in
set_option maxRecDepth 100000 in
theorem zt_Grid_link_134 {x : zC} {w : zW} {g : zS} {o : Nat → Int64} {post : zS → Prop} (hG : zq_G x w "GridRouter$Grid" zc_Grid_link 5 (zq_rm 0 0)) (hR : zq_R x w (zq_A w) none (zq_Pv g o post)) (hAp : zq_Ap w) (hW : zq_Wr x w) {u0 u1 : Int32} {z : zS} (h : zw_Grid_link_134 w.2.2.1 post u0 u1 z) : zq_W x w 0 0 (z, g, o) 134 [none, none, none, none, none] [.int u0, .int u1, .ref (w.2.1 4)] := by
  obtain ⟨hi, h⟩ := h
  refine zu_4 hG hW hi zd_Grid_link_134 ?_
  exact zr_vret hG hR zd_Grid_link_135 ⟨_, rfl, rfl, h⟩
def zw_Grid_link_102 (ln : Nat → Nat) (post : zS → Prop) (v1 v4 u0 u1 : Int32) (z : zS) : Prop := vp_in u1 (ln 2) ∧ ((((zs_a z 2 u1 u0).1 2) ≤ v1 → zw_Grid_link_134 ln post (v1 - ((zs_a z 2 u1 u0).1 2)) (v4 + (4 : Int32)) (zs_a z 2 u1 u0)) ∧ (¬ ((zs_a z 2 u1 u0).1 2) ≤ v1 → zw_Grid_link_134 ln post (v1 + ((zs_a z 2 u1 u0).1 2)) (v4 + (4 : Int32)) (zs_a z 2 u1 u0)))
set_option maxHeartbeats 4000000 in
set_option maxRecDepth 100000 in
theorem zt_Grid_link_102 {x : zC} {w : zW} {g : zS} {o : Nat → Int64} {post : zS → Prop} (hG : zq_G x w "GridRouter$Grid" zc_Grid_link 5 (zq_rm 0 0)) (hR : zq_R x w (zq_A w) none (zq_Pv g o post)) (hAp : zq_Ap w) (hW : zq_Wr x w) {v1 v4 u0 u1 : Int32} {z : zS} (h : zw_Grid_link_102 w.2.2.1 post v1 v4 u0 u1 z) : zq_W x w 0 0 (z, g, o) 102 [some (.ref (w.2.1 1)), some (.int v1), none, none, some (.int v4)] [.int u0, .int u1, .ref (w.2.1 4)] := by
  obtain ⟨hi, h⟩ := h
  refine zu_4 hG hW hi zd_Grid_link_102 ?_
  refine zr_aload_n hG zd_Grid_link_103 rfl rfl ?_
  refine zf_Grid_beside hG tk_58 zd_Grid_link_104 ?_
  refine zr_iload hG zd_Grid_link_107 rfl ?_
  refine zr_iconst hG (v := (4 : Int32)) zd_Grid_link_109 (by decide) ?_
  refine zr_iadd hG zd_Grid_link_110 ?_
  refine zr_iload_n hG zd_Grid_link_111 rfl rfl ?_
  refine zr_aload_n hG zd_Grid_link_112 rfl rfl ?_
  refine zf_Grid_area hG tk_42 zd_Grid_link_113 ?_
  refine zr_icmp_ge hG 128 zd_Grid_link_116 (by decide) (fun hc => ?_) (fun hc => ?_)
  · have h := h.1 hc
    refine zr_iload_n hG zd_Grid_link_128 rfl rfl ?_
    refine zr_aload_n hG zd_Grid_link_129 rfl rfl ?_
    refine zf_Grid_area hG tk_42 zd_Grid_link_130 ?_
    refine zr_isub hG zd_Grid_link_133 ?_
    exact zr_mask [false, false, false, false, false] (zt_Grid_link_134 hG hR hAp hW h)
  · have h := h.2 hc
    refine zr_iload_n hG zd_Grid_link_119 rfl rfl ?_
    refine zr_aload_n hG zd_Grid_link_120 rfl rfl ?_
    refine zf_Grid_area hG tk_42 zd_Grid_link_121 ?_
    refine zr_iadd hG zd_Grid_link_124 ?_
    refine zr_goto hG 134 zd_Grid_link_125 (by decide) ?_
    exact zr_mask [false, false, false, false, false] (zt_Grid_link_134 hG hR hAp hW h)
def zw_Grid_link_73 (ln : Nat → Nat) (post : zS → Prop) (v1 v3 v4 u0 u1 : Int32) (z : zS) : Prop := vp_in u1 (ln 2) ∧ (((((zs_a z 2 u1 u0).1 1) - (1 : Int32)) ≤ v3 → zw_Grid_link_102 ln post v1 v4 (-1 : Int32) (v4 + (3 : Int32)) (zs_a z 2 u1 u0)) ∧ (¬ (((zs_a z 2 u1 u0).1 1) - (1 : Int32)) ≤ v3 → zw_Grid_link_102 ln post v1 v4 (v1 + ((zs_a z 2 u1 u0).1 0)) (v4 + (3 : Int32)) (zs_a z 2 u1 u0)))
set_option maxHeartbeats 4000000 in
set_option maxRecDepth 100000 in
theorem zt_Grid_link_73 {x : zC} {w : zW} {g : zS} {o : Nat → Int64} {post : zS → Prop} (hG : zq_G x w "GridRouter$Grid" zc_Grid_link 5 (zq_rm 0 0)) (hR : zq_R x w (zq_A w) none (zq_Pv g o post)) (hAp : zq_Ap w) (hW : zq_Wr x w) {v1 v3 v4 u0 u1 : Int32} {z : zS} (h : zw_Grid_link_73 w.2.2.1 post v1 v3 v4 u0 u1 z) : zq_W x w 0 0 (z, g, o) 73 [some (.ref (w.2.1 1)), some (.int v1), none, some (.int v3), some (.int v4)] [.int u0, .int u1, .ref (w.2.1 4)] := by
  obtain ⟨hi, h⟩ := h
  refine zu_4 hG hW hi zd_Grid_link_73 ?_
  refine zr_aload_n hG zd_Grid_link_74 rfl rfl ?_
  refine zf_Grid_beside hG tk_58 zd_Grid_link_75 ?_
  refine zr_iload hG zd_Grid_link_78 rfl ?_
  refine zr_iconst hG (v := (3 : Int32)) zd_Grid_link_80 (by decide) ?_
  refine zr_iadd hG zd_Grid_link_81 ?_
  refine zr_iload_n hG zd_Grid_link_82 rfl rfl ?_
  refine zr_aload_n hG zd_Grid_link_83 rfl rfl ?_
  refine zf_Grid_height hG tk_41 zd_Grid_link_84 ?_
  refine zr_iconst hG (v := (1 : Int32)) zd_Grid_link_87 (by decide) ?_
  refine zr_isub hG zd_Grid_link_88 ?_
  refine zr_icmp_ge hG 101 zd_Grid_link_89 (by decide) (fun hc => ?_) (fun hc => ?_)
  · have h := h.1 hc
    refine zr_iconst hG (v := (-1 : Int32)) zd_Grid_link_101 (by decide) ?_
    exact zr_mask [true, true, false, false, true] (zt_Grid_link_102 hG hR hAp hW h)
  · have h := h.2 hc
    refine zr_iload_n hG zd_Grid_link_92 rfl rfl ?_
    refine zr_aload_n hG zd_Grid_link_93 rfl rfl ?_
    refine zf_Grid_width hG tk_39 zd_Grid_link_94 ?_
    refine zr_iadd hG zd_Grid_link_97 ?_
    refine zr_goto hG 102 zd_Grid_link_98 (by decide) ?_
    exact zr_mask [true, true, false, false, true] (zt_Grid_link_102 hG hR hAp hW h)
def zw_Grid_link_50 (ln : Nat → Nat) (post : zS → Prop) (v1 v3 v4 u0 u1 : Int32) (z : zS) : Prop := vp_in u1 (ln 2) ∧ ((v3 ≤ 0 → zw_Grid_link_73 ln post v1 v3 v4 (-1 : Int32) (v4 + (2 : Int32)) (zs_a z 2 u1 u0)) ∧ (¬ v3 ≤ 0 → zw_Grid_link_73 ln post v1 v3 v4 (v1 - ((zs_a z 2 u1 u0).1 0)) (v4 + (2 : Int32)) (zs_a z 2 u1 u0)))
set_option maxHeartbeats 4000000 in
set_option maxRecDepth 100000 in
theorem zt_Grid_link_50 {x : zC} {w : zW} {g : zS} {o : Nat → Int64} {post : zS → Prop} (hG : zq_G x w "GridRouter$Grid" zc_Grid_link 5 (zq_rm 0 0)) (hR : zq_R x w (zq_A w) none (zq_Pv g o post)) (hAp : zq_Ap w) (hW : zq_Wr x w) {v1 v3 v4 u0 u1 : Int32} {z : zS} (h : zw_Grid_link_50 w.2.2.1 post v1 v3 v4 u0 u1 z) : zq_W x w 0 0 (z, g, o) 50 [some (.ref (w.2.1 1)), some (.int v1), none, some (.int v3), some (.int v4)] [.int u0, .int u1, .ref (w.2.1 4)] := by
  obtain ⟨hi, h⟩ := h
  refine zu_4 hG hW hi zd_Grid_link_50 ?_
  refine zr_aload_n hG zd_Grid_link_51 rfl rfl ?_
  refine zf_Grid_beside hG tk_58 zd_Grid_link_52 ?_
  refine zr_iload hG zd_Grid_link_55 rfl ?_
  refine zr_iconst hG (v := (2 : Int32)) zd_Grid_link_57 (by decide) ?_
  refine zr_iadd hG zd_Grid_link_58 ?_
  refine zr_iload_n hG zd_Grid_link_59 rfl rfl ?_
  refine zr_if_le hG 72 zd_Grid_link_60 (by decide) (fun hc => ?_) (fun hc => ?_)
  · have h := h.1 hc
    refine zr_iconst hG (v := (-1 : Int32)) zd_Grid_link_72 (by decide) ?_
    exact zt_Grid_link_73 hG hR hAp hW h
  · have h := h.2 hc
    refine zr_iload_n hG zd_Grid_link_63 rfl rfl ?_
    refine zr_aload_n hG zd_Grid_link_64 rfl rfl ?_
    refine zf_Grid_width hG tk_39 zd_Grid_link_65 ?_
    refine zr_isub hG zd_Grid_link_68 ?_
    refine zr_goto hG 73 zd_Grid_link_69 (by decide) ?_
    exact zt_Grid_link_73 hG hR hAp hW h
def zw_Grid_link_24 (ln : Nat → Nat) (post : zS → Prop) (v1 v2 v3 v4 u0 u1 : Int32) (z : zS) : Prop := vp_in u1 (ln 2) ∧ (((((zs_a z 2 u1 u0).1 0) - (1 : Int32)) ≤ v2 → zw_Grid_link_50 ln post v1 v3 v4 (-1 : Int32) (v4 + (1 : Int32)) (zs_a z 2 u1 u0)) ∧ (¬ (((zs_a z 2 u1 u0).1 0) - (1 : Int32)) ≤ v2 → zw_Grid_link_50 ln post v1 v3 v4 (v1 + (1 : Int32)) (v4 + (1 : Int32)) (zs_a z 2 u1 u0)))
set_option maxHeartbeats 4000000 in
set_option maxRecDepth 100000 in
theorem zt_Grid_link_24 {x : zC} {w : zW} {g : zS} {o : Nat → Int64} {post : zS → Prop} (hG : zq_G x w "GridRouter$Grid" zc_Grid_link 5 (zq_rm 0 0)) (hR : zq_R x w (zq_A w) none (zq_Pv g o post)) (hAp : zq_Ap w) (hW : zq_Wr x w) {v1 v2 v3 v4 u0 u1 : Int32} {z : zS} (h : zw_Grid_link_24 w.2.2.1 post v1 v2 v3 v4 u0 u1 z) : zq_W x w 0 0 (z, g, o) 24 [some (.ref (w.2.1 1)), some (.int v1), some (.int v2), some (.int v3), some (.int v4)] [.int u0, .int u1, .ref (w.2.1 4)] := by
  obtain ⟨hi, h⟩ := h
  refine zu_4 hG hW hi zd_Grid_link_24 ?_
  refine zr_aload_n hG zd_Grid_link_25 rfl rfl ?_
  refine zf_Grid_beside hG tk_58 zd_Grid_link_26 ?_
  refine zr_iload hG zd_Grid_link_29 rfl ?_
  refine zr_iconst hG (v := (1 : Int32)) zd_Grid_link_31 (by decide) ?_
  refine zr_iadd hG zd_Grid_link_32 ?_
  refine zr_iload_n hG zd_Grid_link_33 rfl rfl ?_
  refine zr_aload_n hG zd_Grid_link_34 rfl rfl ?_
  refine zf_Grid_width hG tk_39 zd_Grid_link_35 ?_
  refine zr_iconst hG (v := (1 : Int32)) zd_Grid_link_38 (by decide) ?_
  refine zr_isub hG zd_Grid_link_39 ?_
  refine zr_icmp_ge hG 49 zd_Grid_link_40 (by decide) (fun hc => ?_) (fun hc => ?_)
  · have h := h.1 hc
    refine zr_iconst hG (v := (-1 : Int32)) zd_Grid_link_49 (by decide) ?_
    exact zr_mask [true, true, false, true, true] (zt_Grid_link_50 hG hR hAp hW h)
  · have h := h.2 hc
    refine zr_iload_n hG zd_Grid_link_43 rfl rfl ?_
    refine zr_iconst hG (v := (1 : Int32)) zd_Grid_link_44 (by decide) ?_
    refine zr_iadd hG zd_Grid_link_45 ?_
    refine zr_goto hG 50 zd_Grid_link_46 (by decide) ?_
    exact zr_mask [true, true, false, true, true] (zt_Grid_link_50 hG hR hAp hW h)
def zw_Grid_link (ln : Nat → Nat) (a1 a2 a3 : Int32) (z : zS) (post : zS → Prop) : Prop := ((a2 ≤ 0 → zw_Grid_link_24 ln post a1 a2 a3 (a1 * (5 : Int32)) (-1 : Int32) ((a1 * (5 : Int32)) + (0 : Int32)) z) ∧ (¬ a2 ≤ 0 → zw_Grid_link_24 ln post a1 a2 a3 (a1 * (5 : Int32)) (a1 - (1 : Int32)) ((a1 * (5 : Int32)) + (0 : Int32)) z))
set_option maxHeartbeats 4000000 in
set_option maxRecDepth 100000 in
theorem zm_Grid_link (l : Launch) (w : zW) (hAp : zq_Ap w) (g : zS) (o : Nat → Int64) {a1 a2 a3 : Int32} {z : zS} {post : zS → Prop} (h : zw_Grid_link w.2.2.1 a1 a2 a3 z post) : zq_M l w (zq_A w) zy_Grid_link zc_Grid_link 5 none (zq_rm 0 0) [.ref (w.2.1 1), .int a1, .int a2, .int a3] (z, g, o) (zq_Pv g o post) := by
  refine zq_mk_M (by decide) (by simp [Value.category]) (Nat.le_of_ble_eq_true rfl) hAp (fun x hx hG hR => ?_)
  subst hx
  have hW := zq_wr hR.2.2.1
  refine zr_iload_n hG zd_Grid_link_0 rfl rfl ?_
  refine zr_iconst hG (v := (5 : Int32)) zd_Grid_link_1 (by decide) ?_
  refine zr_imul hG zd_Grid_link_2 ?_
  refine zr_istore hG [some (.ref (w.2.1 1)), some (.int a1), some (.int a2), some (.int a3), some (.int (a1 * (5 : Int32)))] zd_Grid_link_3 (Nat.le_of_ble_eq_true rfl) rfl ?_
  refine zr_aload_n hG zd_Grid_link_5 rfl rfl ?_
  refine zf_Grid_beside hG tk_58 zd_Grid_link_6 ?_
  refine zr_iload hG zd_Grid_link_9 rfl ?_
  refine zr_iconst hG (v := (0 : Int32)) zd_Grid_link_11 (by decide) ?_
  refine zr_iadd hG zd_Grid_link_12 ?_
  refine zr_iload_n hG zd_Grid_link_13 rfl rfl ?_
  refine zr_if_le hG 23 zd_Grid_link_14 (by decide) (fun hc => ?_) (fun hc => ?_)
  · have h := h.1 hc
    refine zr_iconst hG (v := (-1 : Int32)) zd_Grid_link_23 (by decide) ?_
    exact zt_Grid_link_24 hG hR hAp hW h
  · have h := h.2 hc
    refine zr_iload_n hG zd_Grid_link_17 rfl rfl ?_
    refine zr_iconst hG (v := (1 : Int32)) zd_Grid_link_18 (by decide) ?_
    refine zr_isub hG zd_Grid_link_19 ?_
    refine zr_goto hG 24 zd_Grid_link_20 (by decide) ?_
    exact zt_Grid_link_24 hG hR hAp hW h
