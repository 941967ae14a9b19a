/-! worlds that grow: the same rows where a walk may write to all its cells, and the rows of constructors -/
def zq_U (x : zC) (D : va_G) (tys : List (ClassId × FieldType)) (ws : va_W) (k n : Nat) (pc : Nat) (V : List (Option Value)) (st : List Value) : Prop :=
  ∀ (ls : Array Slot) (H : Heap) (locs : List Loc), zq_L ls V → va_P D vwCl ws H → va_D (zc_A x) ws → va_S (zc_A x) (zc_s x).heap H locs →
    W (zc_p x) (zc_l x) (zc_e x) (zc_R x) (zc_s x) (zc_m x) (zc_a x) (zc_b x) (zc_h x) (zc_c x) H locs k n (zc_Q x) (F0 (zc_m x) pc ls st)
section ZI
variable {x : zC} {D : va_G} {tys : List (ClassId × FieldType)} {ws : va_W} {own : String} {cc : ByteArray} {nL : Nat} {rm : Room} {k n : Nat} {pc : Nat} {V : List (Option Value)} {st : List Value}
theorem zi_mask (bs : List Bool) (kk : zq_U x D tys ws k n pc (zq_mk V bs) st) : zq_U x D tys ws k n pc V st := fun ls H locs hl hP hD hS => kk ls H locs (hl.mk bs) hP hD hS
theorem zi_iconst (hG : zq_H x D tys own cc nL rm) {i : Int} {v : Int32} (hd : decode cc pc = .ok (.iconst i, 1)) (hv : Int32.ofInt i = v) (kk : zq_U x D tys ws k n (pc + 1) V (.int v :: st)) : zq_U x D tys ws k n pc V st :=
  fun ls H locs hl hP hD hS => lv_iconst hG.1 hG.2.1 hd hv (kk ls H locs hl hP hD hS)
theorem zi_bipush (hG : zq_H x D tys own cc nL rm) {i : Int} {v : Int32} (hd : decode cc pc = .ok (.bipush i, 2)) (hv : (Int8.ofInt i).toInt32 = v) (kk : zq_U x D tys ws k n (pc + 2) V (.int v :: st)) : zq_U x D tys ws k n pc V st :=
  fun ls H locs hl hP hD hS => lv_bipush hG.1 hG.2.1 hd hv (kk ls H locs hl hP hD hS)
theorem zi_sipush (hG : zq_H x D tys own cc nL rm) {i : Int} {v : Int32} (hd : decode cc pc = .ok (.sipush i, 3)) (hv : (Int16.ofInt i).toInt32 = v) (kk : zq_U x D tys ws k n (pc + 3) V (.int v :: st)) : zq_U x D tys ws k n pc V st :=
  fun ls H locs hl hP hD hS => lv_sipush hG.1 hG.2.1 hd hv (kk ls H locs hl hP hD hS)
theorem zi_ldc (hG : zq_H x D tys own cc nL rm) {i : Nat} {v : Int32} (ht : Cond.constant own i v ∈ zq_T) (hd : decode cc pc = .ok (.ldc i, 2)) (kk : zq_U x D tys ws k n (pc + 2) V (.int v :: st)) : zq_U x D tys ws k n pc V st :=
  fun ls H locs hl hP hD hS => lv_ldc hG.1 hG.2.1 hG.2.2.2.1 (hG.2.2.2.2.1 _ ht) hd (kk ls H locs hl hP hD hS)
theorem zi_iload_n (hG : zq_H x D tys own cc nL rm) {j : Fin 4} {i : Nat} {v : Int32} (hd : decode cc pc = .ok (.iload_n j, 1)) (hi : (j : Nat) = i) (hv : V[i]? = some (some (.int v))) (kk : zq_U x D tys ws k n (pc + 1) V (.int v :: st)) : zq_U x D tys ws k n pc V st :=
  fun ls H locs hl hP hD hS => lv_iload_n hG.1 hG.2.1 hd hi (hl.2.2 _ _ hv).1 (kk ls H locs hl hP hD hS)
theorem zi_iload (hG : zq_H x D tys own cc nL rm) {i : Nat} {v : Int32} (hd : decode cc pc = .ok (.iload i, 2)) (hv : V[i]? = some (some (.int v))) (kk : zq_U x D tys ws k n (pc + 2) V (.int v :: st)) : zq_U x D tys ws k n pc V st :=
  fun ls H locs hl hP hD hS => lv_iload hG.1 hG.2.1 hd (hl.2.2 _ _ hv).1 (kk ls H locs hl hP hD hS)
theorem zi_aload_n (hG : zq_H x D tys own cc nL rm) {j : Fin 4} {i : Nat} {v : Nat} (hd : decode cc pc = .ok (.aload_n j, 1)) (hi : (j : Nat) = i) (hv : V[i]? = some (some (.ref v))) (kk : zq_U x D tys ws k n (pc + 1) V (.ref v :: st)) : zq_U x D tys ws k n pc V st :=
  fun ls H locs hl hP hD hS => lv_aload_n hG.1 hG.2.1 hd hi (hl.2.2 _ _ hv).1 (kk ls H locs hl hP hD hS)
theorem zi_aload (hG : zq_H x D tys own cc nL rm) {i : Nat} {v : Nat} (hd : decode cc pc = .ok (.aload i, 2)) (hv : V[i]? = some (some (.ref v))) (kk : zq_U x D tys ws k n (pc + 2) V (.ref v :: st)) : zq_U x D tys ws k n pc V st :=
  fun ls H locs hl hP hD hS => lv_aload hG.1 hG.2.1 hd (hl.2.2 _ _ hv).1 (kk ls H locs hl hP hD hS)
theorem zi_istore_n (hG : zq_H x D tys own cc nL rm) {j : Fin 4} {i : Nat} {v : Int32} (V' : List (Option Value)) (hd : decode cc pc = .ok (.istore_n j, 1)) (hi : (j : Nat) = i) (hn : i < V.length) (hV : V.set i (some (.int v)) = V') (kk : zq_U x D tys ws k n (pc + 1) V' st) : zq_U x D tys ws k n pc V (.int v :: st) :=
  fun ls H locs hl hP hD hS => lv_istore_n hG.1 hG.2.1 hd hi hl.has hn rfl (fun ls' h' => kk ls' H locs (hV ▸ hl.st hn rfl h') hP hD hS)
theorem zi_istore (hG : zq_H x D tys own cc nL rm) {i : Nat} {v : Int32} (V' : List (Option Value)) (hd : decode cc pc = .ok (.istore i, 2)) (hn : i < V.length) (hV : V.set i (some (.int v)) = V') (kk : zq_U x D tys ws k n (pc + 2) V' st) : zq_U x D tys ws k n pc V (.int v :: st) :=
  fun ls H locs hl hP hD hS => lv_istore hG.1 hG.2.1 hd hl.has hn rfl (fun ls' h' => kk ls' H locs (hV ▸ hl.st hn rfl h') hP hD hS)
theorem zi_astore_n (hG : zq_H x D tys own cc nL rm) {j : Fin 4} {i : Nat} {v : Nat} (V' : List (Option Value)) (hd : decode cc pc = .ok (.astore_n j, 1)) (hi : (j : Nat) = i) (hn : i < V.length) (hV : V.set i (some (.ref v)) = V') (kk : zq_U x D tys ws k n (pc + 1) V' st) : zq_U x D tys ws k n pc V (.ref v :: st) :=
  fun ls H locs hl hP hD hS => lv_astore_n hG.1 hG.2.1 hd hi hl.has hn rfl (fun ls' h' => kk ls' H locs (hV ▸ hl.st hn rfl h') hP hD hS)
theorem zi_astore (hG : zq_H x D tys own cc nL rm) {i : Nat} {v : Nat} (V' : List (Option Value)) (hd : decode cc pc = .ok (.astore i, 2)) (hn : i < V.length) (hV : V.set i (some (.ref v)) = V') (kk : zq_U x D tys ws k n (pc + 2) V' st) : zq_U x D tys ws k n pc V (.ref v :: st) :=
  fun ls H locs hl hP hD hS => lv_astore hG.1 hG.2.1 hd hl.has hn rfl (fun ls' h' => kk ls' H locs (hV ▸ hl.st hn rfl h') hP hD hS)
theorem zi_iinc (hG : zq_H x D tys own cc nL rm) {i : Nat} {d : Int} {v u : Int32} (V' : List (Option Value)) (hd : decode cc pc = .ok (.iinc i d, 3)) (hv : V[i]? = some (some (.int v))) (hu : Int32.ofInt d = u) (hn : i < V.length) (hV : V.set i (some (.int (v + u))) = V') (kk : zq_U x D tys ws k n (pc + 3) V' st) : zq_U x D tys ws k n pc V st := by
  intro ls H locs hl hP hD hS
  obtain ⟨j, hj⟩ := List.mem_iff_getElem?.mp (zq_tl_mem.mpr hv)
  exact lv_iinc hG.1 hG.2.1 hd hl.has hj (by rw [hu]) hn rfl (fun ls' h' => kk ls' H locs (hV ▸ hl.st hn rfl h') hP hD hS)
theorem zi_iadd (hG : zq_H x D tys own cc nL rm) {a b : Int32} (hd : decode cc pc = .ok (.iadd, 1)) (kk : zq_U x D tys ws k n (pc + 1) V (.int (a + b) :: st)) : zq_U x D tys ws k n pc V (.int b :: .int a :: st) :=
  fun ls H locs hl hP hD hS => lv_iadd hG.1 hG.2.1 hd (kk ls H locs hl hP hD hS)
theorem zi_isub (hG : zq_H x D tys own cc nL rm) {a b : Int32} (hd : decode cc pc = .ok (.isub, 1)) (kk : zq_U x D tys ws k n (pc + 1) V (.int (a - b) :: st)) : zq_U x D tys ws k n pc V (.int b :: .int a :: st) :=
  fun ls H locs hl hP hD hS => lv_isub hG.1 hG.2.1 hd (kk ls H locs hl hP hD hS)
theorem zi_imul (hG : zq_H x D tys own cc nL rm) {a b : Int32} (hd : decode cc pc = .ok (.imul, 1)) (kk : zq_U x D tys ws k n (pc + 1) V (.int (a * b) :: st)) : zq_U x D tys ws k n pc V (.int b :: .int a :: st) :=
  fun ls H locs hl hP hD hS => lv_imul hG.1 hG.2.1 hd (kk ls H locs hl hP hD hS)
theorem zi_iand (hG : zq_H x D tys own cc nL rm) {a b : Int32} (hd : decode cc pc = .ok (.iand, 1)) (kk : zq_U x D tys ws k n (pc + 1) V (.int (a &&& b) :: st)) : zq_U x D tys ws k n pc V (.int b :: .int a :: st) :=
  fun ls H locs hl hP hD hS => lv_iand hG.1 hG.2.1 hd (kk ls H locs hl hP hD hS)
theorem zi_ior (hG : zq_H x D tys own cc nL rm) {a b : Int32} (hd : decode cc pc = .ok (.ior, 1)) (kk : zq_U x D tys ws k n (pc + 1) V (.int (a ||| b) :: st)) : zq_U x D tys ws k n pc V (.int b :: .int a :: st) :=
  fun ls H locs hl hP hD hS => lv_ior hG.1 hG.2.1 hd (kk ls H locs hl hP hD hS)
theorem zi_ixor (hG : zq_H x D tys own cc nL rm) {a b : Int32} (hd : decode cc pc = .ok (.ixor, 1)) (kk : zq_U x D tys ws k n (pc + 1) V (.int (a ^^^ b) :: st)) : zq_U x D tys ws k n pc V (.int b :: .int a :: st) :=
  fun ls H locs hl hP hD hS => lv_ixor hG.1 hG.2.1 hd (kk ls H locs hl hP hD hS)
theorem zi_ishl (hG : zq_H x D tys own cc nL rm) {a b : Int32} (hd : decode cc pc = .ok (.ishl, 1)) (kk : zq_U x D tys ws k n (pc + 1) V (.int (a <<< (b &&& 31)) :: st)) : zq_U x D tys ws k n pc V (.int b :: .int a :: st) :=
  fun ls H locs hl hP hD hS => lv_ishl hG.1 hG.2.1 hd (kk ls H locs hl hP hD hS)
theorem zi_ishr (hG : zq_H x D tys own cc nL rm) {a b : Int32} (hd : decode cc pc = .ok (.ishr, 1)) (kk : zq_U x D tys ws k n (pc + 1) V (.int (a >>> (b &&& 31)) :: st)) : zq_U x D tys ws k n pc V (.int b :: .int a :: st) :=
  fun ls H locs hl hP hD hS => lv_ishr hG.1 hG.2.1 hd (kk ls H locs hl hP hD hS)
theorem zi_idiv (hG : zq_H x D tys own cc nL rm) {a b : Int32} (hd : decode cc pc = .ok (.idiv, 1)) (hne : ¬ b = 0) (kk : zq_U x D tys ws k n (pc + 1) V (.int (a / b) :: st)) : zq_U x D tys ws k n pc V (.int b :: .int a :: st) :=
  fun ls H locs hl hP hD hS => lv_idiv hG.1 hG.2.1 hd hne (kk ls H locs hl hP hD hS)
theorem zi_irem (hG : zq_H x D tys own cc nL rm) {a b : Int32} (hd : decode cc pc = .ok (.irem, 1)) (hne : ¬ b = 0) (kk : zq_U x D tys ws k n (pc + 1) V (.int (a - a / b * b) :: st)) : zq_U x D tys ws k n pc V (.int b :: .int a :: st) :=
  fun ls H locs hl hP hD hS => lv_irem hG.1 hG.2.1 hd hne (kk ls H locs hl hP hD hS)
theorem zi_dup (hG : zq_H x D tys own cc nL rm) {v : Value} (hd : decode cc pc = .ok (.dup, 1)) (hc : v.category = 1) (kk : zq_U x D tys ws k n (pc + 1) V (v :: v :: st)) : zq_U x D tys ws k n pc V (v :: st) :=
  fun ls H locs hl hP hD hS => lv_dup hG.1 hG.2.1 hd hc (kk ls H locs hl hP hD hS)
theorem zi_goto (hG : zq_H x D tys own cc nL rm) {off : Int} (tgt : Nat) (hd : decode cc pc = .ok (.goto off, 3)) (ht : (pc : Int) + off = (tgt : Int)) (kk : zq_U x D tys ws k n tgt V st) : zq_U x D tys ws k n pc V st :=
  fun ls H locs hl hP hD hS => lv_goto hG.1 hG.2.1 hd ht (kk ls H locs hl hP hD hS)
theorem zi_if_eq (hG : zq_H x D tys own cc nL rm) {a : Int32} {off : Int} (tgt : Nat) (hd : decode cc pc = .ok (.ifCond .eq off, 3)) (ht : (pc : Int) + off = (tgt : Int)) (kt : a = 0 → zq_U x D tys ws k n tgt V st) (kf : ¬ a = 0 → zq_U x D tys ws k n (pc + 3) V st) : zq_U x D tys ws k n pc V (.int a :: st) :=
  fun ls H locs hl hP hD hS => lv_if_eq hG.1 hG.2.1 hd ht (fun h => kt h ls H locs hl hP hD hS) (fun h => kf h ls H locs hl hP hD hS)
theorem zi_if_ne (hG : zq_H x D tys own cc nL rm) {a : Int32} {off : Int} (tgt : Nat) (hd : decode cc pc = .ok (.ifCond .ne off, 3)) (ht : (pc : Int) + off = (tgt : Int)) (kt : ¬ a = 0 → zq_U x D tys ws k n tgt V st) (kf : a = 0 → zq_U x D tys ws k n (pc + 3) V st) : zq_U x D tys ws k n pc V (.int a :: st) :=
  fun ls H locs hl hP hD hS => lv_if_ne hG.1 hG.2.1 hd ht (fun h => kt h ls H locs hl hP hD hS) (fun h => kf h ls H locs hl hP hD hS)
theorem zi_if_lt (hG : zq_H x D tys own cc nL rm) {a : Int32} {off : Int} (tgt : Nat) (hd : decode cc pc = .ok (.ifCond .lt off, 3)) (ht : (pc : Int) + off = (tgt : Int)) (kt : a < 0 → zq_U x D tys ws k n tgt V st) (kf : ¬ a < 0 → zq_U x D tys ws k n (pc + 3) V st) : zq_U x D tys ws k n pc V (.int a :: st) :=
  fun ls H locs hl hP hD hS => lv_if_lt hG.1 hG.2.1 hd ht (fun h => kt h ls H locs hl hP hD hS) (fun h => kf h ls H locs hl hP hD hS)
theorem zi_if_ge (hG : zq_H x D tys own cc nL rm) {a : Int32} {off : Int} (tgt : Nat) (hd : decode cc pc = .ok (.ifCond .ge off, 3)) (ht : (pc : Int) + off = (tgt : Int)) (kt : 0 ≤ a → zq_U x D tys ws k n tgt V st) (kf : ¬ 0 ≤ a → zq_U x D tys ws k n (pc + 3) V st) : zq_U x D tys ws k n pc V (.int a :: st) :=
  fun ls H locs hl hP hD hS => lv_if_ge hG.1 hG.2.1 hd ht (fun h => kt h ls H locs hl hP hD hS) (fun h => kf h ls H locs hl hP hD hS)
theorem zi_if_gt (hG : zq_H x D tys own cc nL rm) {a : Int32} {off : Int} (tgt : Nat) (hd : decode cc pc = .ok (.ifCond .gt off, 3)) (ht : (pc : Int) + off = (tgt : Int)) (kt : 0 < a → zq_U x D tys ws k n tgt V st) (kf : ¬ 0 < a → zq_U x D tys ws k n (pc + 3) V st) : zq_U x D tys ws k n pc V (.int a :: st) :=
  fun ls H locs hl hP hD hS => lv_if_gt hG.1 hG.2.1 hd ht (fun h => kt h ls H locs hl hP hD hS) (fun h => kf h ls H locs hl hP hD hS)
theorem zi_if_le (hG : zq_H x D tys own cc nL rm) {a : Int32} {off : Int} (tgt : Nat) (hd : decode cc pc = .ok (.ifCond .le off, 3)) (ht : (pc : Int) + off = (tgt : Int)) (kt : a ≤ 0 → zq_U x D tys ws k n tgt V st) (kf : ¬ a ≤ 0 → zq_U x D tys ws k n (pc + 3) V st) : zq_U x D tys ws k n pc V (.int a :: st) :=
  fun ls H locs hl hP hD hS => lv_if_le hG.1 hG.2.1 hd ht (fun h => kt h ls H locs hl hP hD hS) (fun h => kf h ls H locs hl hP hD hS)
theorem zi_icmp_eq (hG : zq_H x D tys own cc nL rm) {a b : Int32} {off : Int} (tgt : Nat) (hd : decode cc pc = .ok (.if_icmp .eq off, 3)) (ht : (pc : Int) + off = (tgt : Int)) (kt : a = b → zq_U x D tys ws k n tgt V st) (kf : ¬ a = b → zq_U x D tys ws k n (pc + 3) V st) : zq_U x D tys ws k n pc V (.int b :: .int a :: st) :=
  fun ls H locs hl hP hD hS => lv_icmp_eq hG.1 hG.2.1 hd ht (fun h => kt h ls H locs hl hP hD hS) (fun h => kf h ls H locs hl hP hD hS)
theorem zi_icmp_ne (hG : zq_H x D tys own cc nL rm) {a b : Int32} {off : Int} (tgt : Nat) (hd : decode cc pc = .ok (.if_icmp .ne off, 3)) (ht : (pc : Int) + off = (tgt : Int)) (kt : ¬ a = b → zq_U x D tys ws k n tgt V st) (kf : a = b → zq_U x D tys ws k n (pc + 3) V st) : zq_U x D tys ws k n pc V (.int b :: .int a :: st) :=
  fun ls H locs hl hP hD hS => lv_icmp_ne hG.1 hG.2.1 hd ht (fun h => kt h ls H locs hl hP hD hS) (fun h => kf h ls H locs hl hP hD hS)
theorem zi_icmp_lt (hG : zq_H x D tys own cc nL rm) {a b : Int32} {off : Int} (tgt : Nat) (hd : decode cc pc = .ok (.if_icmp .lt off, 3)) (ht : (pc : Int) + off = (tgt : Int)) (kt : a < b → zq_U x D tys ws k n tgt V st) (kf : ¬ a < b → zq_U x D tys ws k n (pc + 3) V st) : zq_U x D tys ws k n pc V (.int b :: .int a :: st) :=
  fun ls H locs hl hP hD hS => lv_icmp_lt hG.1 hG.2.1 hd ht (fun h => kt h ls H locs hl hP hD hS) (fun h => kf h ls H locs hl hP hD hS)
theorem zi_icmp_ge (hG : zq_H x D tys own cc nL rm) {a b : Int32} {off : Int} (tgt : Nat) (hd : decode cc pc = .ok (.if_icmp .ge off, 3)) (ht : (pc : Int) + off = (tgt : Int)) (kt : b ≤ a → zq_U x D tys ws k n tgt V st) (kf : ¬ b ≤ a → zq_U x D tys ws k n (pc + 3) V st) : zq_U x D tys ws k n pc V (.int b :: .int a :: st) :=
  fun ls H locs hl hP hD hS => lv_icmp_ge hG.1 hG.2.1 hd ht (fun h => kt h ls H locs hl hP hD hS) (fun h => kf h ls H locs hl hP hD hS)
theorem zi_icmp_gt (hG : zq_H x D tys own cc nL rm) {a b : Int32} {off : Int} (tgt : Nat) (hd : decode cc pc = .ok (.if_icmp .gt off, 3)) (ht : (pc : Int) + off = (tgt : Int)) (kt : b < a → zq_U x D tys ws k n tgt V st) (kf : ¬ b < a → zq_U x D tys ws k n (pc + 3) V st) : zq_U x D tys ws k n pc V (.int b :: .int a :: st) :=
  fun ls H locs hl hP hD hS => lv_icmp_gt hG.1 hG.2.1 hd ht (fun h => kt h ls H locs hl hP hD hS) (fun h => kf h ls H locs hl hP hD hS)
theorem zi_icmp_le (hG : zq_H x D tys own cc nL rm) {a b : Int32} {off : Int} (tgt : Nat) (hd : decode cc pc = .ok (.if_icmp .le off, 3)) (ht : (pc : Int) + off = (tgt : Int)) (kt : a ≤ b → zq_U x D tys ws k n tgt V st) (kf : ¬ a ≤ b → zq_U x D tys ws k n (pc + 3) V st) : zq_U x D tys ws k n pc V (.int b :: .int a :: st) :=
  fun ls H locs hl hP hD hS => lv_icmp_le hG.1 hG.2.1 hd ht (fun h => kt h ls H locs hl hP hD hS) (fun h => kf h ls H locs hl hP hD hS)
theorem zi_swIn (hG : zq_H x D tys own cc nL rm) {a : Int32} {dflt lo hi : Int} {offs : Array Int} {len : Nat} {off : Int} (tgt : Nat) (hd : decode cc pc = .ok (.tableswitch dflt lo hi offs, len)) (h1 : ¬ a.toInt < lo) (h2 : ¬ hi < a.toInt) (ho : offs[(a.toInt - lo).toNat]? = some off) (ht : (pc : Int) + off = (tgt : Int)) (kk : zq_U x D tys ws k n tgt V st) : zq_U x D tys ws k n pc V (.int a :: st) :=
  fun ls H locs hl hP hD hS => lv_tableIn hG.1 hG.2.1 hd h1 h2 ho ht (kk ls H locs hl hP hD hS)
theorem zi_swOut (hG : zq_H x D tys own cc nL rm) {a : Int32} {dflt lo hi : Int} {offs : Array Int} {len : Nat} (tgt : Nat) (hd : decode cc pc = .ok (.tableswitch dflt lo hi offs, len)) (h : a.toInt < lo ∨ hi < a.toInt) (ht : (pc : Int) + dflt = (tgt : Int)) (kk : zq_U x D tys ws k n tgt V st) : zq_U x D tys ws k n pc V (.int a :: st) :=
  fun ls H locs hl hP hD hS => lv_tableOut hG.1 hG.2.1 hd h ht (kk ls H locs hl hP hD hS)
/-! fields and arrays, by their places in the world -/
theorem zi_get (hG : zq_H x D tys own cc nL rm) {C : String} {T : u_T} {N ci index a : Nat} (hin : ∀ t ∈ u_ws C T N, t ∈ zq_T) (q0 : Nat) {fs : List Value} (he : ws[q0]? = some (a, .inr (ci, fs))) (hc : vwCl[ci]? = some (C, T, N)) (j : Nat) (hj : j < N) (hC : (T j).1 = C) (ht : Cond.fieldLink own index C (T j).2.1 (T j).2.2.1 ∈ zq_T) {v : Value} (hv : fs[j]? = some v) (hd : decode cc pc = .ok (.getfield index, 3))
    (kk : zq_U x D tys ws k n (pc + 3) V (v :: st)) : zq_U x D tys ws k n pc V (.ref a :: st) :=
  fun ls H locs hl hP hD hS => va_get hG.1 hG.2.1 hG.2.2.2.2.1 hin hG.2.2.2.1 hG.2.2.2.2.2.1 hP q0 he hc j hj (hG.2.2.2.2.1 _ ht) (fun _ h => hC ▸ h) hv hd (kk ls H locs hl hP hD hS)
theorem zi_put (hG : zq_H x D tys own cc nL rm) {C : String} {T : u_T} {N ci index a : Nat} (hin : ∀ t ∈ u_ws C T N, t ∈ zq_T) (ty0 : Nat → FieldType) (hty : ∀ k, k < N → parseFieldDescriptor (T k).2.2.1 = some (ty0 k)) (hnm : ∀ a, a < N → ∀ b, b < N → a ≠ b → (T a).2.1 ≠ (T b).2.1) (q0 : Nat) {fs : List Value} (he : ws[q0]? = some (a, .inr (ci, fs))) (hc : vwCl[ci]? = some (C, T, N)) (j : Nat) (hj : j < N) (hC : (T j).1 = C) (ht : Cond.fieldLink own index C (T j).2.1 (T j).2.2.1 ∈ zq_T) (hfin : (T j).2.2.2 = false) {ty : FieldType} {v : Value} (hde : parseFieldDescriptor (T j).2.2.1 = some ty) (hn : narrow ty v = v) (hfit : fits ty v = true) (hl : j < fs.length) (ws' : va_W) (hσ : ws.set q0 (a, .inr (ci, fs.set j v)) = ws') (hd : decode cc pc = .ok (.putfield index, 3))
    (kk : zq_U x D tys ws' k n (pc + 3) V st) : zq_U x D tys ws k n pc V (v :: .ref a :: st) :=
  fun ls H locs hl' hP hD hS => va_put hG.1 hG.2.1 hG.2.2.2.2.1 hin ty0 hty hnm hG.2.2.2.1 hG.2.2.2.2.2.1 hP hD hS q0 he hc j hj (hG.2.2.2.2.1 _ ht) (fun _ h => hC ▸ h) hfin hde hn hfit hl hd (fun H1 locs1 hP1 hD1 hS1 => kk ls H1 locs1 hl' (hσ ▸ hP1) (hσ ▸ hD1) hS1)
theorem zi_iald (hG : zq_H x D tys own cc nL rm) (q0 t0 : Nat) {cA : ClassId} {a N : Nat} {f : Nat → Int32} (ha : ws[q0]? = some (a, .inl (cA, N, .inl f))) (ht : tys[t0]? = some (cA, .int)) {i : Int32} (hi : vp_in i N) (hd : decode cc pc = .ok (.iaload, 1))
    (kk : zq_U x D tys ws k n (pc + 1) V (.int (f i.toNatClampNeg) :: st)) : zq_U x D tys ws k n pc V (.int i :: .ref a :: st) :=
  fun ls H locs hl hP hD hS => va_iald hG.1 hG.2.1 hG.2.2.2.2.2.1 hP q0 t0 ha ht hi hd (kk ls H locs hl hP hD hS)
theorem zi_zald (hG : zq_H x D tys own cc nL rm) (q0 t0 : Nat) {cA : ClassId} {a N : Nat} {f : Nat → Int32} (ha : ws[q0]? = some (a, .inl (cA, N, .inl f))) (ht : tys[t0]? = some (cA, .boolean)) {i : Int32} (hi : vp_in i N) (hd : decode cc pc = .ok (.baload, 1))
    (kk : zq_U x D tys ws k n (pc + 1) V (.int (f i.toNatClampNeg) :: st)) : zq_U x D tys ws k n pc V (.int i :: .ref a :: st) :=
  fun ls H locs hl hP hD hS => va_zald hG.1 hG.2.1 hG.2.2.2.2.2.1 hP q0 t0 ha ht hi hd (kk ls H locs hl hP hD hS)
theorem zi_iast (hG : zq_H x D tys own cc nL rm) (q0 t0 : Nat) {cA : ClassId} {a N : Nat} {f : Nat → Int32} (ha : ws[q0]? = some (a, .inl (cA, N, .inl f))) (ht : tys[t0]? = some (cA, .int)) {i v : Int32} (hi : vp_in i N) (ws' : va_W) (hσ : ws.set q0 (a, .inl (cA, N, .inl (upd f i.toNatClampNeg v))) = ws') (hd : decode cc pc = .ok (.iastore, 1))
    (kk : zq_U x D tys ws' k n (pc + 1) V st) : zq_U x D tys ws k n pc V (.int v :: .int i :: .ref a :: st) :=
  fun ls H locs hl hP hD hS => va_iast hG.1 hG.2.1 hG.2.2.2.2.2.1 hP hD hS q0 t0 ha ht hi hd (fun H1 locs1 hP1 hD1 hS1 => kk ls H1 locs1 hl (hσ ▸ hP1) (hσ ▸ hD1) hS1)
theorem zi_zast (hG : zq_H x D tys own cc nL rm) (q0 t0 : Nat) {cA : ClassId} {a N : Nat} {f : Nat → Int32} (ha : ws[q0]? = some (a, .inl (cA, N, .inl f))) (ht : tys[t0]? = some (cA, .boolean)) {i v : Int32} (hi : vp_in i N) (ws' : va_W) (hσ : ws.set q0 (a, .inl (cA, N, .inl (upd f i.toNatClampNeg (vp_nar .boolean v)))) = ws') (hd : decode cc pc = .ok (.bastore, 1))
    (kk : zq_U x D tys ws' k n (pc + 1) V st) : zq_U x D tys ws k n pc V (.int v :: .int i :: .ref a :: st) :=
  fun ls H locs hl hP hD hS => va_zast hG.1 hG.2.1 hG.2.2.2.2.2.1 hP hD hS q0 t0 ha ht hi hd (fun H1 locs1 hP1 hD1 hS1 => kk ls H1 locs1 hl (hσ ▸ hP1) (hσ ▸ hD1) hS1)
theorem zi_last (hG : zq_H x D tys own cc nL rm) (q0 t0 : Nat) {cA : ClassId} {a N : Nat} {f : Nat → Int64} (ha : ws[q0]? = some (a, .inl (cA, N, .inr (.inl f)))) (ht : tys[t0]? = some (cA, .long)) {i : Int32} {v : Int64} (hi : vp_in i N) (ws' : va_W) (hσ : ws.set q0 (a, .inl (cA, N, .inr (.inl (vp_updL f i.toNatClampNeg v)))) = ws') (hd : decode cc pc = .ok (.lastore, 1))
    (kk : zq_U x D tys ws' k n (pc + 1) V st) : zq_U x D tys ws k n pc V (.long v :: .int i :: .ref a :: st) :=
  fun ls H locs hl hP hD hS => va_last hG.1 hG.2.1 hG.2.2.2.2.2.1 hP hD hS q0 t0 ha ht hi hd (fun H1 locs1 hP1 hD1 hS1 => kk ls H1 locs1 hl (hσ ▸ hP1) (hσ ▸ hD1) hS1)
theorem zi_lald (hG : zq_H x D tys own cc nL rm) (q0 t0 : Nat) {cA : ClassId} {a N : Nat} {f : Nat → Int64} (ha : ws[q0]? = some (a, .inl (cA, N, .inr (.inl f)))) (ht : tys[t0]? = some (cA, .long)) {i : Int32} (hi : vp_in i N) (hd : decode cc pc = .ok (.laload, 1))
    (kk : zq_U x D tys ws k n (pc + 1) V (.long (f i.toNatClampNeg) :: st)) : zq_U x D tys ws k n pc V (.int i :: .ref a :: st) :=
  fun ls H locs hl hP hD hS => va_lald hG.1 hG.2.1 hG.2.2.2.2.2.1 hP q0 t0 ha ht hi hd (kk ls H locs hl hP hD hS)
end ZI
section ZJ
variable {x : zC} {D : va_G} {tys : List (ClassId × FieldType)} {ws : va_W} {own : String} {cc : ByteArray} {nL : Nat} {rm : Room} {k n : Nat} {pc : Nat} {V : List (Option Value)} {st : List Value}
theorem zi_eqi {a b : Int32} (e : a = b) (kk : zq_U x D tys ws k n pc V (.int b :: st)) : zq_U x D tys ws k n pc V (.int a :: st) := by
  rw [e]
  exact kk
theorem zi_widen {k' n' : Nat} (h1 : k ≤ k') (h2 : n ≤ n') (kk : zq_U x D tys ws k' n' pc V st) : zq_U x D tys ws k n pc V st :=
  fun ls H locs hl hP hD hS => W.widen h1 h2 (kk ls H locs hl hP hD hS)
theorem zi_new (hG : zq_H x D tys own cc nL rm) (hA : ∀ q, (zc_s x).heap.size ≤ q → zc_A x q) {C : String} {T : u_T} {N ci index : Nat} (hin : ∀ t ∈ u_ws C T N, t ∈ zq_T) (ty : Nat → FieldType) (hty : ∀ k, k < N → parseFieldDescriptor (T k).2.2.1 = some (ty k)) (h1 : Cond.classLink own index C ∈ zq_T) (h2 : Cond.instantiable C N ∈ zq_T) (h3 : Cond.initialized C ∈ zq_T) (hc : vwCl[ci]? = some (C, T, N)) (fs : List Value) (hfs : ∀ j, j < N → defaultValue (ty j) = vp_V fs j) (hk : k + 1 ≤ rm.cells ∧ n + N ≤ rm.slots) (hd : decode cc pc = .ok (.new index, 3))
    (kk : ∀ q : Nat, zq_U x D tys (ws ++ [(q, .inr (ci, fs))]) (k + 1) (n + N) (pc + 3) V (.ref q :: st)) : zq_U x D tys ws k n pc V st := by
  intro ls H locs hl hP hD hS
  have hR : zc_R x = rm := hG.2.2.2.2.2.2
  have ht := hG.2.2.2.2.1
  exact va_new hG.1 hG.2.1 ht hin ty hty hG.2.2.2.1 (ht _ h1) (ht _ h2) (ht _ h3) hG.2.2.2.2.2.1 hP hD hS hA hc hfs (by rw [hR]; exact hk.1) (by rw [hR]; exact hk.2) hd (fun q H1 hP1 hD1 hS1 => kk q ls H1 locs hl hP1 hD1 hS1)
theorem zi_newa (hG : zq_H x D tys own cc nL rm) (hA : ∀ q, (zc_s x).heap.size ≤ q → zc_A x q) {atype : ArrayType} {ty : FieldType} (hat : newarray.typeOf atype = ty) (hw : Cond.arrayClass ty ∈ zq_T) (hpr : ∀ C, ty ≠ .object C) (t0 : Nat) {cA : ClassId} (ht0 : tys[t0]? = some (cA, ty)) {i : Int32} {N : Nat} {a0 : vp_A} (ha : ∀ cA : ClassId, vp_cell cA a0 = arrV cA N (fun _ => defaultValue ty)) (hi : ¬ i < 0) (hN : i.toNatClampNeg = N) (hby : N * componentBytes ty ≤ 536870912) (hk : k + 1 ≤ rm.cells ∧ n + N ≤ rm.slots) (hd : decode cc pc = .ok (.newarray atype, 2))
    (kk : ∀ q : Nat, zq_U x D tys (ws ++ [(q, .inl (cA, a0))]) (k + 1) (n + N) (pc + 2) V (.ref q :: st)) : zq_U x D tys ws k n pc V (.int i :: st) := by
  intro ls H locs hl hP hD hS
  have hR : zc_R x = rm := hG.2.2.2.2.2.2
  have ht := hG.2.2.2.2.1
  refine va_newa hG.1 hG.2.1 (by rw [hat]; exact ht _ hw) hat hG.2.2.2.2.2.1 hP hD hS hA ha hi hN hby (by rw [hR]; exact hk.1) (by rw [hR]; exact hk.2) hd (fun q cB H1 hK1 hP1 hD1 hS1 => ?_)
  have e : cB = cA := by
    have g1 := (hK1.2 tys.length (cB, ty) (by simp)).2
    have g2 := (hG.2.2.2.2.2.1.2 t0 (cA, ty) ht0).2
    cases ty with
    | object C => exact absurd rfl (hpr C)
    | _ => exact Option.some.inj (g1.symm.trans g2)
  subst e
  exact kk q ls H1 locs hl hP1 hD1 hS1
theorem zi_obj (hG : zq_H x D tys own cc nL rm) {a idx : Nat} (h1 : Cond.methodLink own idx objectInit ∈ zq_T) (h2 : Cond.instanceMethod objectInit ∈ zq_T) (h3 : Cond.code objectInit ⟨#[0xb1]⟩ 1 none ∈ zq_T) (hV : V.length = nL) (hRm : 1 ≤ rm.frames ∧ (st.map fun v => v.category).sum + 12 ≤ rm.locals) (hd : decode cc pc = .ok (.invokespecial idx, 3)) (kk : zq_U x D tys ws k n (pc + 3) V st) : zq_U x D tys ws k n pc V (.ref a :: st) := by
  intro ls H locs hl hP hD hS
  have hR : zc_R x = rm := hG.2.2.2.2.2.2
  have ht := hG.2.2.2.2.1
  exact W.objInit hG.1 hG.2.1 hG.2.2.2.1 (ht _ h1) (ht _ h2) (ht _ h3) rfl (by rw [hG.2.2.1]; exact hl.1.trans hV) rfl hd (by rw [hR]; exact hRm.1) (by rw [hR]; show 2 * 0 + _ + 12 ≤ _; simpa using hRm.2) (W.eq (g2 := F0 (zc_m x) (pc + 3) ls st) rfl (kk ls H locs hl hP hD hS))
theorem zi_putF (hG : zq_H x D tys own cc nL rm) (hin2 : (zc_h x).name = "<init>") {T : u_T} {N ci index a : Nat} (hin : ∀ t ∈ u_ws own T N, t ∈ zq_T) (ty0 : Nat → FieldType) (hty : ∀ k, k < N → parseFieldDescriptor (T k).2.2.1 = some (ty0 k)) (hnm : ∀ a, a < N → ∀ b, b < N → a ≠ b → (T a).2.1 ≠ (T b).2.1) (q0 : Nat) {fs : List Value} (he : ws[q0]? = some (a, .inr (ci, fs))) (hc : vwCl[ci]? = some (own, T, N)) (j : Nat) (hj : j < N) (hC : (T j).1 = own) (ht : Cond.fieldLink own index own (T j).2.1 (T j).2.2.1 ∈ zq_T) (hfin : (T j).2.2.2 = true) {ty : FieldType} {v : Value} (hde : parseFieldDescriptor (T j).2.2.1 = some ty) (hn : narrow ty v = v) (hfit : fits ty v = true) (hl : j < fs.length) (ws' : va_W) (hσ : ws.set q0 (a, .inr (ci, fs.set j v)) = ws') (hd : decode cc pc = .ok (.putfield index, 3))
    (kk : zq_U x D tys ws' k n (pc + 3) V st) : zq_U x D tys ws k n pc V (v :: .ref a :: st) :=
  fun ls H locs hl' hP hD hS => va_putF hG.1 hG.2.1 hG.2.2.2.2.1 hin ty0 hty hnm hG.2.2.2.1 hG.2.2.2.2.2.1 hP hD hS q0 he hc j hj (hG.2.2.2.2.1 _ ht) (fun _ h => hC ▸ h) hfin hin2 hC hde hn hfit hl hd (fun H1 locs1 hP1 hD1 hS1 => kk ls H1 locs1 hl' (hσ ▸ hP1) (hσ ▸ hD1) hS1)
end ZJ
/-! contracts over worlds that grow -/
def zq_nst : Cond := .methodLinkNest "GridRouter$Router" 11 ⟨"GridRouter$Line", "<init>", "()V"⟩ "GridRouter"
def zq_MI (l : Launch) (D : va_G) (tys : List (ClassId × FieldType)) (y : MethodName) (cc : ByteArray) (nL : Nat) (rm : Room) (vs : List Value) (wc : va_W) (P : va_W → Prop) (mc ms : Nat) : Prop :=
  ∀ sz, Met l y (.code y cc nL none :: zq_T) rm (va_Pc vs (fun U => U.heap.size = sz ∧ va_P D vwCl wc U.heap ∧ va_K D vwCl tys U ∧ va_D (fun _ => True) wc ∧ va_Nw zq_nst U)) (va_Qv P (fun ws' t => va_P D vwCl ws' t.heap ∧ va_D (va_A wc sz) ws') (va_A wc sz)) mc ms (va_A wc sz)
def zq_RI (x : zC) (D : va_G) (wc : va_W) (P : va_W → Prop) (mc ms : Nat) : Prop :=
  (zc_h x).sig.returnType = none ∧ (zc_h x).locks = false ∧ zc_A x = va_A wc (zc_s x).heap.size ∧ zc_Q x = MQ (zc_b x) (va_Qv P (fun ws' t => va_P D vwCl ws' t.heap ∧ va_D (va_A wc (zc_s x).heap.size) ws') (va_A wc (zc_s x).heap.size)) (zc_a x) (zc_s x) mc ms (va_A wc (zc_s x).heap.size) ∧ va_Nw zq_nst (zc_s x)
theorem zq_RI.hA {x : zC} {D : va_G} {wc : va_W} {P : va_W → Prop} {mc ms : Nat} (h : zq_RI x D wc P mc ms) : ∀ q, (zc_s x).heap.size ≤ q → zc_A x q := fun q hq => by
  rw [h.2.2.1]
  exact Or.inr hq
theorem zq_mk_I {l : Launch} {D : va_G} {tys : List (ClassId × FieldType)} {y : MethodName} {cc : ByteArray} {nL : Nat} {rm : Room} {vs : List Value} {wc : va_W} {P : va_W → Prop} {mc ms : Nat} (hy : plainName y.cls = true) (hc : ∀ v ∈ vs, v.category = 1) (hn : vs.length ≤ nL)
    (walk : ∀ x : zC, zc_l x = l → zq_H x D tys y.cls cc nL rm → zq_RI x D wc P mc ms → (zc_h x).name = y.name → zq_U x D tys wc 0 0 0 (zq_V0 vs nL) []) : zq_MI l D tys y cc nL rm vs wc P mc ms := by
  intro sz
  refine Met.ofW (cc := cc) (maxL := nL) (ret := none) hy rfl ?_
  intro p e s m args below meth c s₁ B hml hv
  obtain ⟨rfl, hsz, hP, hK, hD0, hZ⟩ := hv
  subst hsz
  have hts := atoms_spec (ws := .code y cc nL none :: zq_T) B.pre
  have hown : s.vm.findClass y.cls = some m.cls := findClass_of_methodNamed B.named
  have hin : meth.name = y.name := (name_of_methodNamed B.named B.method).1
  have hx := walk (p, l, e, (headSpec (.code y cc nL none :: zq_T) rm).room, s, m, vs.toArray, below, meth, c, MQ below (va_Qv P (fun ws' t => va_P D vwCl ws' t.heap ∧ va_D (va_A wc s.heap.size) ws') (va_A wc s.heap.size)) vs.toArray s mc ms (va_A wc s.heap.size), va_A wc s.heap.size) rfl ⟨B.exec, B.bytes, hml, hown, fun t ht => hts t (List.mem_cons_of_mem _ ht), hK, rfl⟩ ⟨B.returns, B.notSynchronized, rfl, rfl, hZ⟩ hin
  rw [lg_entry_eq]
  exact hx _ s.heap [] (zq_entry vs nL hn hc) hP (hD0.self) va_S.rf
section ZK
variable {x : zC} {D : va_G} {tys : List (ClassId × FieldType)} {ws : va_W} {own : String} {cc : ByteArray} {nL : Nat} {rm : Room} {k n : Nat} {pc : Nat} {V : List (Option Value)} {st : List Value}
theorem zi_vret (hG : zq_H x D tys own cc nL rm) {wc : va_W} {P : va_W → Prop} (hR : zq_RI x D wc P k n) (hd : decode cc pc = .ok (.return_, 1)) (hp : P ws) : zq_U x D tys ws k n pc V [] := by
  intro ls H locs hl hP hD hS
  obtain ⟨h1, h2, h3, h4, -⟩ := hR
  rw [h4]
  rw [h3] at hS hD
  exact W.vret hG.1 hG.2.1 h1 (fun t ht hW => ⟨⟨ws, rfl, hp, by rw [ht]; exact hP, hD⟩, hS.F ht⟩) hS.2.2 hd h2
theorem zi_go {mc ms : Nat} {H : Heap} {locs : List Loc} {ls : Array Slot} {rest : List Value} {a : Array Value} {wc wr : va_W} {P : va_W → Prop} (hA : ∀ q, (zc_s x).heap.size ≤ q → zc_A x q) (hl : zq_L ls V) (hP : va_P D vwCl ws H) (hD : va_D (zc_A x) ws) (hS : va_S (zc_A x) (zc_s x).heap H locs) (ps rs : List Nat) (hps : ps.map (fun i => ws[i]?) = wc.map some) (hrs : rs.map (fun i => ws[i]?) = wr.map some) (h1 : va_nd rs = true) (h2 : ∀ i ∈ rs, i ∉ ps)
    (hr : va_Run (zc_p x) (zc_l x) (zc_e x) (zc_R x) (zc_s x) (zc_m x) (zc_a x) (zc_b x) (zc_h x) (zc_c x) H locs k n mc ms (F0 (zc_m x) pc ls st) rest (va_Qv P (fun ws' t => va_P D vwCl ws' t.heap ∧ va_D (va_A wc H.size) ws') (va_A wc H.size) a) (va_A wc H.size))
    (kk : ∀ ws', P ws' → zq_U x D tys (wr ++ ws') (k + mc) (n + ms) (pc + 3) V rest) : W (zc_p x) (zc_l x) (zc_e x) (zc_R x) (zc_s x) (zc_m x) (zc_a x) (zc_b x) (zc_h x) (zc_c x) H locs k n (zc_Q x) (F0 (zc_m x) pc ls st) := by
  have hF := va_free (wc := wc) hD hS hA ps hps
  refine va_callv hr hS (fun q _ h => hF q h) hF (fun u t H1 locs1 ht hvm hp hB hz1 hk1 hS1 => ?_)
  obtain ⟨hP1, hD1⟩ := hB
  rw [ht] at hP1
  obtain ⟨hPj, hDj⟩ := va_join (wr := wr) (w1 := u) hP hD ps rs hps hrs h1 h2 hk1 hF hP1 hD1
  exact kk u hp ls H1 locs1 hl hPj hDj hS1
theorem zi_blind (vs : List Value) (wc : va_W) (sz : Nat) : FrameBlind (va_Pc vs (fun U => U.heap.size = sz ∧ va_P D vwCl wc U.heap ∧ va_K D vwCl tys U ∧ va_D (fun _ => True) wc ∧ va_Nw zq_nst U)) := fun a U g mk q => by
  obtain ⟨q0, q1, qP, qK, qD, qZ⟩ := q
  exact ⟨q0, q1, qP, va_K.moved (u := U) (U := U.calling g mk a) (Vm.Alike.refl U.vm) qK, qD, va_Nw.same rfl (u := U) (U := U.calling g mk a) rfl qZ⟩
theorem zi_sub {H : Heap} {wc : va_W} (hP : va_P D vwCl ws H) (ps : List Nat) (hps : ps.map (fun i => ws[i]?) = wc.map some) : va_P D vwCl wc H := by
  intro k q hq
  have h1 : (ps.map (fun i => ws[i]?))[k]? = some (some q) := by rw [hps, List.getElem?_map, hq]; rfl
  rw [List.getElem?_map] at h1
  cases hi : ps[k]? with
  | none => rw [hi] at h1; cases h1
  | some i => rw [hi] at h1; exact hP i q (Option.some.inj h1)
theorem zi_pre {H : Heap} {vs : List Value} {wc : va_W} (hG : zq_H x D tys own cc nL rm) (hZ : va_Nw zq_nst (zc_s x)) (hP : va_P D vwCl ws H) (hD : va_D (zc_A x) ws) (ps : List Nat) (hps : ps.map (fun i => ws[i]?) = wc.map some) (h0 : va_nd ps = true) : ∀ U : State, U.heap = H → (zc_s x).WarmedH U.vm → va_Pc vs (fun U => U.heap.size = H.size ∧ va_P D vwCl wc U.heap ∧ va_K D vwCl tys U ∧ va_D (fun _ => True) wc ∧ va_Nw zq_nst U) vs.toArray U := fun U hU hW =>
  ⟨rfl, by rw [hU], by rw [hU]; exact zi_sub hP ps hps, va_K.moved hW.alike hG.2.2.2.2.2.1, (hD.sub ps h0 hps).weaken (fun _ _ _ _ => trivial), va_Nw.warmM hW hZ⟩
def zq_gI (own : String) (index : Nat) (y : MethodName) (bytes : ByteArray) (maxL : Nat) : Prop :=
  Cond.methodLink own index y ∈ zq_T ∧ Cond.instanceMethod y ∈ zq_T ∧ Cond.initialized y.cls ∈ zq_T ∧ Cond.code y bytes maxL none ∈ zq_T
theorem zq_gd {y : MethodName} {bytes : ByteArray} {maxL : Nat} (h : Cond.code y bytes maxL none ∈ zq_T) : GoodIn zq_T (.code y bytes maxL none :: zq_T) := fun t ht => by
  have hm : t ∈ zq_T := by
    rcases List.mem_cons.mp ht with rfl | ht
    · exact h
    · exact ht
  exact ⟨hm, zq_good t hm⟩
theorem zi_callI (hG : zq_H x D tys own cc nL rm) (hZ : va_Nw zq_nst (zc_s x)) (hA : ∀ q, (zc_s x).heap.size ≤ q → zc_A x q) {y : MethodName} {bytes : ByteArray} {maxL : Nat} {rm' : Room} {index b mc ms : Nat} {As rest : List Value} {wc : va_W} {P : va_W → Prop} (hM : zq_MI (zc_l x) D tys y bytes maxL rm' (.ref b :: As) wc P mc ms) (wr : va_W) (ps rs : List Nat) (hps : ps.map (fun i => ws[i]?) = wc.map some) (hrs : rs.map (fun i => ws[i]?) = wr.map some) (h0 : va_nd ps = true) (h1 : va_nd rs = true) (h2 : ∀ i ∈ rs, i ∉ ps) (hw : zq_gI own index y bytes maxL) (hy1 : y.name = "<init>")
    (hdd : y.cls ≠ "java/lang/invoke/MethodHandle" ∧ y.cls ≠ "java/lang/invoke/VarHandle" ∧ (parseMethodDescriptor y.desc).map (fun d => d.parameters.length) = some As.length) (hRm : rm'.cells = mc ∧ rm'.slots = ms ∧ rm'.frames + 1 ≤ rm.frames ∧ 8 + (maxL + 11) + rm'.locals ≤ rm.locals) (hk : k + mc ≤ rm.cells ∧ n + ms ≤ rm.slots) (hV : V.length = nL) (hst : (rest.map fun v => v.category).sum ≤ 8) (hd : decode cc pc = .ok (.invokespecial index, 3)) (hs : st = As.reverse ++ .ref b :: rest)
    (kk : ∀ ws', P ws' → zq_U x D tys (wr ++ ws') (k + mc) (n + ms) (pc + 3) V rest) : zq_U x D tys ws k n pc V st := by
  intro ls H locs hl hP hD hS
  subst hs
  have hR : zc_R x = rm := hG.2.2.2.2.2.2
  have ht := hG.2.2.2.2.1
  exact zi_go hA hl hP hD hS ps rs hps hrs h1 h2 (va_runI (nL := nL) (cc := cc) (As := As) (rest := rest) ⟨hG.1, hG.2.1, hG.2.2.1, hG.2.2.2.1, ht⟩ (hM H.size) (cwI As.length ht (zq_gd hw.2.2.2) rfl hRm.1 hRm.2.1 (ht _ hw.2.2.1) (ht _ hw.1) (ht _ hw.2.1) hy1 hdd (by rw [hR]; exact ⟨hRm.2.2.1, hRm.2.2.2⟩)) ⟨zi_blind _ wc H.size, zi_pre hG hZ hP hD ps hps h0⟩ rfl rfl (hl.1.trans hV) rfl (lv_room hst) hd (by rw [hR]; exact hk)) kk
theorem zi_callIN (hG : zq_H x D tys own cc nL rm) (hZ : va_Nw zq_nst (zc_s x)) (hA : ∀ q, (zc_s x).heap.size ≤ q → zc_A x q) {y : MethodName} {bytes : ByteArray} {maxL : Nat} {rm' : Room} {index b mc ms : Nat} {As rest : List Value} {wc : va_W} {P : va_W → Prop} (hM : zq_MI (zc_l x) D tys y bytes maxL rm' (.ref b :: As) wc P mc ms) (wr : va_W) (ps rs : List Nat) (hps : ps.map (fun i => ws[i]?) = wc.map some) (hrs : rs.map (fun i => ws[i]?) = wr.map some) (h0 : va_nd ps = true) (h1 : va_nd rs = true) (h2 : ∀ i ∈ rs, i ∉ ps) (host : String) (hnw : va_Nw (.methodLinkNest own index y host) (zc_s x)) (hw : Cond.instanceMethod y ∈ zq_T ∧ Cond.initialized y.cls ∈ zq_T ∧ Cond.code y bytes maxL none ∈ zq_T) (hy1 : y.name = "<init>")
    (hdd : y.cls ≠ "java/lang/invoke/MethodHandle" ∧ y.cls ≠ "java/lang/invoke/VarHandle" ∧ (parseMethodDescriptor y.desc).map (fun d => d.parameters.length) = some As.length) (hRm : rm'.cells = mc ∧ rm'.slots = ms ∧ rm'.frames + 1 ≤ rm.frames ∧ 8 + (maxL + 11) + rm'.locals ≤ rm.locals) (hk : k + mc ≤ rm.cells ∧ n + ms ≤ rm.slots) (hV : V.length = nL) (hst : (rest.map fun v => v.category).sum ≤ 8) (hd : decode cc pc = .ok (.invokespecial index, 3)) (hs : st = As.reverse ++ .ref b :: rest)
    (kk : ∀ ws', P ws' → zq_U x D tys (wr ++ ws') (k + mc) (n + ms) (pc + 3) V rest) : zq_U x D tys ws k n pc V st := by
  intro ls H locs hl hP hD hS
  subst hs
  have hR : zc_R x = rm := hG.2.2.2.2.2.2
  have ht := hG.2.2.2.2.1
  exact zi_go hA hl hP hD hS ps rs hps hrs h1 h2 (va_runIN (host := host) (nL := nL) (cc := cc) (As := As) (rest := rest) ⟨hG.1, hG.2.1, hG.2.2.1, hG.2.2.2.1, ht⟩ (hM H.size) ⟨va_cnB As.length ht (zq_gd hw.2.2) rfl hRm.1 hRm.2.1 hnw (ht _ hw.2.1) hdd (by rw [hR]; exact ⟨hRm.2.2.1, hRm.2.2.2⟩), hy1, ht _ hw.1⟩ ⟨zi_blind _ wc H.size, zi_pre hG hZ hP hD ps hps h0⟩ rfl rfl (hl.1.trans hV) rfl (lv_room hst) hd (by rw [hR]; exact hk)) kk
theorem zi_callSo (hG : zq_H x D tys own cc nL rm) (hZ : va_Nw zq_nst (zc_s x)) (hA : ∀ q, (zc_s x).heap.size ≤ q → zc_A x q) {y : MethodName} {bytes : ByteArray} {maxL : Nat} {rm' : Room} {index mc ms : Nat} {As rest : List Value} {wc : va_W} {P : va_W → Prop} (hM : zq_MI (zc_l x) D tys y bytes maxL rm' As wc P mc ms) (wr : va_W) (ps rs : List Nat) (hps : ps.map (fun i => ws[i]?) = wc.map some) (hrs : rs.map (fun i => ws[i]?) = wr.map some) (h0 : va_nd ps = true) (h1 : va_nd rs = true) (h2 : ∀ i ∈ rs, i ∉ ps) (hw : Cond.methodLink own index y ∈ zq_T ∧ Cond.static y ∈ zq_T ∧ Cond.initialized y.cls ∈ zq_T ∧ Cond.code y bytes maxL none ∈ zq_T)
    (hdd : y.cls ≠ "java/lang/invoke/MethodHandle" ∧ y.cls ≠ "java/lang/invoke/VarHandle" ∧ (parseMethodDescriptor y.desc).map (fun d => d.parameters.length) = some As.length) (hRm : rm'.cells = mc ∧ rm'.slots = ms ∧ rm'.frames + 1 ≤ rm.frames ∧ 8 + (maxL + 11) + rm'.locals ≤ rm.locals) (hk : k + mc ≤ rm.cells ∧ n + ms ≤ rm.slots) (hV : V.length = nL) (hst : (rest.map fun v => v.category).sum ≤ 8) (hd : decode cc pc = .ok (.invokestatic index, 3)) (hs : st = As.reverse ++ rest)
    (kk : ∀ ws', P ws' → zq_U x D tys (wr ++ ws') (k + mc) (n + ms) (pc + 3) V rest) : zq_U x D tys ws k n pc V st := by
  intro ls H locs hl hP hD hS
  subst hs
  have hR : zc_R x = rm := hG.2.2.2.2.2.2
  have ht := hG.2.2.2.2.1
  exact zi_go hA hl hP hD hS ps rs hps hrs h1 h2 (va_runS (nL := nL) (cc := cc) (As := As) (rest := rest) ⟨hG.1, hG.2.1, hG.2.2.1, hG.2.2.2.1, ht⟩ (hM H.size) ⟨callB_of As.length ht (zq_gd hw.2.2.2) rfl hRm.1 hRm.2.1 (ht _ hw.2.2.1) (ht _ hw.1) hdd (by rw [hR]; exact ⟨hRm.2.2.1, hRm.2.2.2⟩), ht _ hw.2.1⟩ ⟨zi_blind _ wc H.size, zi_pre hG hZ hP hD ps hps h0⟩ rfl rfl (hl.1.trans hV) rfl (lv_room hst) hd (by rw [hR]; exact hk)) kk
end ZK
section ZM
variable {x : zC} {D : va_G} {tys : List (ClassId × FieldType)} {ws : va_W} {own : String} {cc : ByteArray} {nL : Nat} {rm : Room} {k n : Nat} {pc : Nat} {V : List (Option Value)} {st : List Value}
theorem zi_perm (ws' : va_W) (ps : List Nat) (hps : ps.map (fun i => ws[i]?) = ws'.map some) (h0 : va_nd ps = true) (kk : zq_U x D tys ws' k n pc V st) : zq_U x D tys ws k n pc V st :=
  fun ls H locs hl hP hD hS => kk ls H locs hl (zi_sub hP ps hps) (hD.sub ps h0 hps) hS
theorem zi_alen (hG : zq_H x D tys own cc nL rm) (q0 t0 : Nat) {cA : ClassId} {a : Nat} {xa : vp_A} (ha : ws[q0]? = some (a, .inl (cA, xa))) {ty : FieldType} (ht : tys[t0]? = some (cA, ty)) {v : Int32} (hv : Int32.ofNat xa.1 = v) (hd : decode cc pc = .ok (.arraylength, 1)) (kk : zq_U x D tys ws k n (pc + 1) V (.int v :: st)) : zq_U x D tys ws k n pc V (.ref a :: st) :=
  fun ls H locs hl hP hD hS => va_alen hG.1 hG.2.1 hG.2.2.2.2.2.1 hP q0 t0 ha ht hv hd (kk ls H locs hl hP hD hS)
end ZM
abbrev zq_rc (f c s l : Nat) : Room := { frames := f, cells := c, slots := s, locals := l }
