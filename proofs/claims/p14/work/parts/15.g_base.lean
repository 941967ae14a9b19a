abbrev zS : Type := (Nat → Int32) × (Nat → Nat → Int32)
abbrev zG : Type := zS × zS × (Nat → Int64)
/-- the tables' numbers, the addresses, the class's rows' lengths, the rows' classes -/
abbrev zW : Type := va_G × (Nat → Nat) × (Nat → Nat) × (Nat → ClassId)
def zq_w (w : zW) (σ : zG) : va_W := [
  (w.2.1 0, .inr (0, [.ref (w.2.1 1), .ref (w.2.1 5), .ref (w.2.1 9), .ref (w.2.1 12), .ref (w.2.1 17), .ref (w.2.1 14), .ref (w.2.1 27)])),
  (w.2.1 1, .inr (1, [.int (σ.1.1 0), .int (σ.1.1 1), .int (σ.1.1 2), .int (σ.1.1 3), .ref (w.2.1 2), .ref (w.2.1 3), .ref (w.2.1 4)])),
  (w.2.1 2, .inl (w.2.2.2 0, w.2.2.1 0, .inl (σ.1.2 0))),
  (w.2.1 3, .inl (w.2.2.2 0, w.2.2.1 1, .inl (σ.1.2 1))),
  (w.2.1 4, .inl (w.2.2.2 0, w.2.2.1 2, .inl (σ.1.2 2))),
  (w.2.1 5, .inr (2, [.ref (w.2.1 6), .ref (w.2.1 7), .ref (w.2.1 8), .int (σ.1.1 4), .ref (w.2.1 1)])),
  (w.2.1 6, .inl (w.2.2.2 0, w.2.2.1 3, .inl (σ.1.2 3))),
  (w.2.1 7, .inl (w.2.2.2 0, w.2.2.1 4, .inl (σ.1.2 4))),
  (w.2.1 8, .inl (w.2.2.2 0, w.2.2.1 5, .inl (σ.1.2 5))),
  (w.2.1 9, .inr (3, [.ref (w.2.1 10), .ref (w.2.1 11), .ref (w.2.1 1), .ref (w.2.1 5)])),
  (w.2.1 10, .inl (w.2.2.2 0, w.2.2.1 6, .inl (σ.1.2 6))),
  (w.2.1 11, .inl (w.2.2.2 1, w.2.2.1 7, .inl (σ.1.2 7))),
  (w.2.1 12, .inr (4, [.ref (w.2.1 13), .int (σ.1.1 5), .ref (w.2.1 1), .ref (w.2.1 5), .ref (w.2.1 9)])),
  (w.2.1 13, .inl (w.2.2.2 1, w.2.2.1 8, .inl (σ.1.2 8))),
  (w.2.1 14, .inr (5, [.ref (w.2.1 1), .ref (w.2.1 5), .ref (w.2.1 9), .ref (w.2.1 12), .ref (w.2.1 15), .ref (w.2.1 16), .int (σ.1.1 6)])),
  (w.2.1 15, .inl (w.2.2.2 0, w.2.2.1 10, .inl (σ.1.2 10))),
  (w.2.1 16, .inl (w.2.2.2 1, w.2.2.1 11, .inl (σ.1.2 11))),
  (w.2.1 17, .inr (6, [.ref (w.2.1 5), .ref (w.2.1 9), .ref (w.2.1 1), .ref (w.2.1 12), .ref (w.2.1 14), .ref (w.2.1 21), .ref (w.2.1 18), .ref (w.2.1 20)])),
  (w.2.1 18, .inr (7, [.ref (w.2.1 19), .int (σ.1.1 11)])),
  (w.2.1 19, .inl (w.2.2.2 0, w.2.2.1 17, .inl (σ.1.2 17))),
  (w.2.1 20, .inl (w.2.2.2 1, w.2.2.1 9, .inl (σ.1.2 9))),
  (w.2.1 21, .inr (8, [.ref (w.2.1 22), .int (σ.1.1 7), .ref (w.2.1 1), .ref (w.2.1 5), .ref (w.2.1 12), .int (σ.1.1 8), .ref (w.2.1 23), .ref (w.2.1 24), .ref (w.2.1 25), .ref (w.2.1 26), .int (σ.1.1 9), .int (σ.1.1 10)])),
  (w.2.1 22, .inl (w.2.2.2 0, w.2.2.1 12, .inl (σ.1.2 12))),
  (w.2.1 23, .inl (w.2.2.2 0, w.2.2.1 13, .inl (σ.1.2 13))),
  (w.2.1 24, .inl (w.2.2.2 0, w.2.2.1 14, .inl (σ.1.2 14))),
  (w.2.1 25, .inl (w.2.2.2 0, w.2.2.1 15, .inl (σ.1.2 15))),
  (w.2.1 26, .inl (w.2.2.2 1, w.2.2.1 16, .inl (σ.1.2 16))),
  (w.2.1 27, .inr (9, [.ref (w.2.1 1), .ref (w.2.1 9)])),
  (w.2.1 28, .inr (10, [.int (σ.2.1.1 0), .int (σ.2.1.1 1), .int (σ.2.1.1 2), .int (σ.2.1.1 3), .int (σ.2.1.1 4), .ref (w.2.1 29), .ref (w.2.1 30), .ref (w.2.1 31), .ref (w.2.1 32), .ref (w.2.1 33), .ref (w.2.1 34), .ref (w.2.1 35), .ref (w.2.1 36), .int (σ.2.1.1 5), .ref (w.2.1 37), .ref (w.2.1 38), .int (σ.2.1.1 6), .ref (w.2.1 39), .int (σ.2.1.1 7)])),
  (w.2.1 29, .inl (w.2.2.2 1, 162, .inl (σ.2.1.2 0))),
  (w.2.1 30, .inl (w.2.2.2 0, 162, .inl (σ.2.1.2 1))),
  (w.2.1 31, .inl (w.2.2.2 0, 162, .inl (σ.2.1.2 2))),
  (w.2.1 32, .inl (w.2.2.2 1, 81, .inl (σ.2.1.2 3))),
  (w.2.1 33, .inl (w.2.2.2 0, 162, .inl (σ.2.1.2 4))),
  (w.2.1 34, .inl (w.2.2.2 1, 162, .inl (σ.2.1.2 5))),
  (w.2.1 35, .inl (w.2.2.2 0, 162, .inl (σ.2.1.2 6))),
  (w.2.1 36, .inl (w.2.2.2 1, 162, .inl (σ.2.1.2 7))),
  (w.2.1 37, .inl (w.2.2.2 0, 6, .inl (σ.2.1.2 8))),
  (w.2.1 38, .inl (w.2.2.2 0, 6, .inl (σ.2.1.2 9))),
  (w.2.1 39, .inl (w.2.2.2 0, 6, .inl (σ.2.1.2 10))),
  (w.2.1 40, .inl (w.2.2.2 2, 1, .inr (.inl σ.2.2)))]
/-! The judgement of these rows: zq_W, W over any locals and heap that hold a list of values and the world of a state. -/
abbrev zC : Type := Program × Launch × Env × Room × State × MethodId × Array Value × List Frame × Method × Code × (State → Prop) × (Nat → Prop)
abbrev zc_p (x : zC) : Program := x.1
abbrev zc_l (x : zC) : Launch := x.2.1
abbrev zc_e (x : zC) : Env := x.2.2.1
abbrev zc_R (x : zC) : Room := x.2.2.2.1
abbrev zc_s (x : zC) : State := x.2.2.2.2.1
abbrev zc_m (x : zC) : MethodId := x.2.2.2.2.2.1
abbrev zc_a (x : zC) : Array Value := x.2.2.2.2.2.2.1
abbrev zc_b (x : zC) : List Frame := x.2.2.2.2.2.2.2.1
abbrev zc_h (x : zC) : Method := x.2.2.2.2.2.2.2.2.1
abbrev zc_c (x : zC) : Code := x.2.2.2.2.2.2.2.2.2.1
abbrev zc_Q (x : zC) : State → Prop := x.2.2.2.2.2.2.2.2.2.2.1
abbrev zc_A (x : zC) : Nat → Prop := x.2.2.2.2.2.2.2.2.2.2.2
/-- the locals hold the listed values, each of one slot -/
def zq_L (ls : Array Slot) (V : List (Option Value)) : Prop := ls.size = V.length ∧ lv_wf ls ∧ ∀ (i : Nat) (v : Value), V[i]? = some (some v) → ls[i]? = some (.val v) ∧ v.category = 1
def zq_tl (V : List (Option Value)) : List (Nat × Value) := V.zipIdx.filterMap (fun q => q.1.map (fun v => (q.2, v)))
theorem zq_tl_mem {V : List (Option Value)} {i : Nat} {v : Value} : (i, v) ∈ zq_tl V ↔ V[i]? = some (some v) := by
  unfold zq_tl
  rw [List.mem_filterMap]
  constructor
  · rintro ⟨⟨o, j⟩, hq, he⟩
    cases o with
    | none => simp at he
    | some u =>
      simp only [Option.map_some, Option.some.injEq, Prod.mk.injEq] at he
      obtain ⟨rfl, rfl⟩ := he
      exact List.mem_zipIdx_iff_getElem?.mp hq
  · intro h
    exact ⟨(some v, i), List.mem_zipIdx_iff_getElem?.mpr h, rfl⟩
theorem zq_L.has {ls : Array Slot} {V : List (Option Value)} (h : zq_L ls V) : lv_has ls V.length (zq_tl V) :=
  ⟨h.1, h.2.1, fun q hq => (h.2.2 q.1 q.2 (zq_tl_mem.mp hq)).1⟩
theorem zq_L.st {ls ls' : Array Slot} {V : List (Option Value)} {i : Nat} {v : Value} (h : zq_L ls V) (hi : i < V.length) (hc : v.category = 1)
    (h' : lv_has ls' V.length ((i, v) :: (zq_tl V).filter (fun q => !(q.1 == i) && !(q.1 + 1 == i && q.2.category == 2)))) : zq_L ls' (V.set i (some v)) := by
  refine ⟨by rw [List.length_set]; exact h'.1, h'.2.1, fun j u hj => ?_⟩
  by_cases e : j = i
  · subst e
    rw [List.getElem?_set_self hi] at hj
    cases hj
    exact ⟨h'.2.2 (j, v) List.mem_cons_self, hc⟩
  · rw [List.getElem?_set_ne (Ne.symm e)] at hj
    have h1 := h.2.2 j u hj
    refine ⟨h'.2.2 (j, u) (List.mem_cons_of_mem _ (List.mem_filter.mpr ⟨zq_tl_mem.mpr hj, ?_⟩)), h1.2⟩
    simp [e, h1.2]
/-- some of the listed values, the others forgotten -/
def zq_mk : List (Option Value) → List Bool → List (Option Value)
  | [], _ => []
  | _ :: t, [] => none :: zq_mk t []
  | v :: t, b :: bs => (if b = true then v else none) :: zq_mk t bs
theorem zq_mk_len : ∀ (V : List (Option Value)) (bs : List Bool), (zq_mk V bs).length = V.length
  | [], _ => rfl
  | _ :: t, [] => by simp [zq_mk, zq_mk_len t []]
  | _ :: t, _ :: bs => by simp [zq_mk, zq_mk_len t bs]
theorem zq_mk_get : ∀ (V : List (Option Value)) (bs : List Bool) (i : Nat) (v : Value), (zq_mk V bs)[i]? = some (some v) → V[i]? = some (some v)
  | [], _, i, v, h => by simp [zq_mk] at h
  | a :: t, [], i, v, h => by
    cases i with
    | zero => simp [zq_mk] at h
    | succ j => simpa using zq_mk_get t [] j v (by simpa [zq_mk] using h)
  | a :: t, b :: bs, i, v, h => by
    cases i with
    | zero =>
      cases b with
      | true => simpa [zq_mk] using h
      | false => simp [zq_mk] at h
    | succ j => simpa using zq_mk_get t bs j v (by simpa [zq_mk] using h)
theorem zq_L.mk {ls : Array Slot} {V : List (Option Value)} (bs : List Bool) (h : zq_L ls V) : zq_L ls (zq_mk V bs) :=
  ⟨by rw [zq_mk_len]; exact h.1, h.2.1, fun i v hv => h.2.2 i v (zq_mk_get V bs i v hv)⟩
/-- the entry's locals -/
def zq_V0 (vs : List Value) (n : Nat) : List (Option Value) := vs.map some ++ List.replicate (n - vs.length) none
theorem zq_sl (vs : List Value) (hc : ∀ v ∈ vs, v.category = 1) : lg_sl vs = vs.map Slot.val := by
  induction vs with
  | nil => rfl
  | cons v t ih =>
    have hv : v.category = 1 := hc v List.mem_cons_self
    have ht := ih (fun u hu => hc u (List.mem_cons_of_mem _ hu))
    cases v <;> simp_all [lg_sl, Value.category]
def zq_V (x : zC) (D : va_G) (tys : List (ClassId × FieldType)) (ws : va_W) (k n : Nat) (pc : Nat) (V : List (Option Value)) (st : List Value) : Prop :=
  ∀ (ls : Array Slot) (H : Heap) (locs : List Loc), zq_L ls V → va_P D vwCl ws H → va_D (fun _ => True) ws → va_S (zc_A x) (zc_s x).heap H locs →
    W (zc_p x) (zc_l x) (zc_e x) (zc_R x) (zc_s x) (zc_m x) (zc_a x) (zc_b x) (zc_h x) (zc_c x) H locs k n (zc_Q x) (F0 (zc_m x) pc ls st)
def zq_H (x : zC) (D : va_G) (tys : List (ClassId × FieldType)) (own : String) (cc : ByteArray) (nL : Nat) (rm : Room) : Prop :=
  (zc_p x).tables.exec = Jvm.exec ∧ (zc_c x).code = cc ∧ (zc_c x).maxLocals = nL ∧ (zc_s x).vm.findClass own = some (zc_m x).cls ∧ (∀ t ∈ zq_T, t.before (zc_a x) (zc_s x) = true) ∧ va_K D vwCl tys (zc_s x) ∧ zc_R x = rm
section ZR
variable {x : zC} {D : va_G} {tys : List (ClassId × FieldType)} {ws : va_W} {own : String} {cc : ByteArray} {nL : Nat} {rm : Room} {k n : Nat} {pc : Nat} {V : List (Option Value)} {st : List Value}
theorem zr_mask (bs : List Bool) (kk : zq_V x D tys ws k n pc (zq_mk V bs) st) : zq_V x D tys ws k n pc V st := fun ls H locs hl hP hD hS => kk ls H locs (hl.mk bs) hP hD hS
theorem zr_iconst (hG : zq_H x D tys own cc nL rm) {i : Int} {v : Int32} (hd : decode cc pc = .ok (.iconst i, 1)) (hv : Int32.ofInt i = v) (kk : zq_V x D tys ws k n (pc + 1) V (.int v :: st)) : zq_V x D tys ws k n pc V st :=
  fun ls H locs hl hP hD hS => lv_iconst hG.1 hG.2.1 hd hv (kk ls H locs hl hP hD hS)
theorem zr_bipush (hG : zq_H x D tys own cc nL rm) {i : Int} {v : Int32} (hd : decode cc pc = .ok (.bipush i, 2)) (hv : (Int8.ofInt i).toInt32 = v) (kk : zq_V x D tys ws k n (pc + 2) V (.int v :: st)) : zq_V x D tys ws k n pc V st :=
  fun ls H locs hl hP hD hS => lv_bipush hG.1 hG.2.1 hd hv (kk ls H locs hl hP hD hS)
theorem zr_sipush (hG : zq_H x D tys own cc nL rm) {i : Int} {v : Int32} (hd : decode cc pc = .ok (.sipush i, 3)) (hv : (Int16.ofInt i).toInt32 = v) (kk : zq_V x D tys ws k n (pc + 3) V (.int v :: st)) : zq_V x D tys ws k n pc V st :=
  fun ls H locs hl hP hD hS => lv_sipush hG.1 hG.2.1 hd hv (kk ls H locs hl hP hD hS)
theorem zr_ldc (hG : zq_H x D tys own cc nL rm) {i : Nat} {v : Int32} (ht : Cond.constant own i v ∈ zq_T) (hd : decode cc pc = .ok (.ldc i, 2)) (kk : zq_V x D tys ws k n (pc + 2) V (.int v :: st)) : zq_V x D tys ws k n pc V st :=
  fun ls H locs hl hP hD hS => lv_ldc hG.1 hG.2.1 hG.2.2.2.1 (hG.2.2.2.2.1 _ ht) hd (kk ls H locs hl hP hD hS)
theorem zr_iload_n (hG : zq_H x D tys own cc nL rm) {j : Fin 4} {i : Nat} {v : Int32} (hd : decode cc pc = .ok (.iload_n j, 1)) (hi : (j : Nat) = i) (hv : V[i]? = some (some (.int v))) (kk : zq_V x D tys ws k n (pc + 1) V (.int v :: st)) : zq_V x D tys ws k n pc V st :=
  fun ls H locs hl hP hD hS => lv_iload_n hG.1 hG.2.1 hd hi (hl.2.2 _ _ hv).1 (kk ls H locs hl hP hD hS)
theorem zr_iload (hG : zq_H x D tys own cc nL rm) {i : Nat} {v : Int32} (hd : decode cc pc = .ok (.iload i, 2)) (hv : V[i]? = some (some (.int v))) (kk : zq_V x D tys ws k n (pc + 2) V (.int v :: st)) : zq_V x D tys ws k n pc V st :=
  fun ls H locs hl hP hD hS => lv_iload hG.1 hG.2.1 hd (hl.2.2 _ _ hv).1 (kk ls H locs hl hP hD hS)
theorem zr_aload_n (hG : zq_H x D tys own cc nL rm) {j : Fin 4} {i : Nat} {v : Nat} (hd : decode cc pc = .ok (.aload_n j, 1)) (hi : (j : Nat) = i) (hv : V[i]? = some (some (.ref v))) (kk : zq_V x D tys ws k n (pc + 1) V (.ref v :: st)) : zq_V x D tys ws k n pc V st :=
  fun ls H locs hl hP hD hS => lv_aload_n hG.1 hG.2.1 hd hi (hl.2.2 _ _ hv).1 (kk ls H locs hl hP hD hS)
theorem zr_aload (hG : zq_H x D tys own cc nL rm) {i : Nat} {v : Nat} (hd : decode cc pc = .ok (.aload i, 2)) (hv : V[i]? = some (some (.ref v))) (kk : zq_V x D tys ws k n (pc + 2) V (.ref v :: st)) : zq_V x D tys ws k n pc V st :=
  fun ls H locs hl hP hD hS => lv_aload hG.1 hG.2.1 hd (hl.2.2 _ _ hv).1 (kk ls H locs hl hP hD hS)
theorem zr_istore_n (hG : zq_H x D tys own cc nL rm) {j : Fin 4} {i : Nat} {v : Int32} (V' : List (Option Value)) (hd : decode cc pc = .ok (.istore_n j, 1)) (hi : (j : Nat) = i) (hn : i < V.length) (hV : V.set i (some (.int v)) = V') (kk : zq_V x D tys ws k n (pc + 1) V' st) : zq_V x D tys ws k n pc V (.int v :: st) :=
  fun ls H locs hl hP hD hS => lv_istore_n hG.1 hG.2.1 hd hi hl.has hn rfl (fun ls' h' => kk ls' H locs (hV ▸ hl.st hn rfl h') hP hD hS)
theorem zr_istore (hG : zq_H x D tys own cc nL rm) {i : Nat} {v : Int32} (V' : List (Option Value)) (hd : decode cc pc = .ok (.istore i, 2)) (hn : i < V.length) (hV : V.set i (some (.int v)) = V') (kk : zq_V x D tys ws k n (pc + 2) V' st) : zq_V x D tys ws k n pc V (.int v :: st) :=
  fun ls H locs hl hP hD hS => lv_istore hG.1 hG.2.1 hd hl.has hn rfl (fun ls' h' => kk ls' H locs (hV ▸ hl.st hn rfl h') hP hD hS)
theorem zr_astore_n (hG : zq_H x D tys own cc nL rm) {j : Fin 4} {i : Nat} {v : Nat} (V' : List (Option Value)) (hd : decode cc pc = .ok (.astore_n j, 1)) (hi : (j : Nat) = i) (hn : i < V.length) (hV : V.set i (some (.ref v)) = V') (kk : zq_V x D tys ws k n (pc + 1) V' st) : zq_V x D tys ws k n pc V (.ref v :: st) :=
  fun ls H locs hl hP hD hS => lv_astore_n hG.1 hG.2.1 hd hi hl.has hn rfl (fun ls' h' => kk ls' H locs (hV ▸ hl.st hn rfl h') hP hD hS)
theorem zr_astore (hG : zq_H x D tys own cc nL rm) {i : Nat} {v : Nat} (V' : List (Option Value)) (hd : decode cc pc = .ok (.astore i, 2)) (hn : i < V.length) (hV : V.set i (some (.ref v)) = V') (kk : zq_V x D tys ws k n (pc + 2) V' st) : zq_V x D tys ws k n pc V (.ref v :: st) :=
  fun ls H locs hl hP hD hS => lv_astore hG.1 hG.2.1 hd hl.has hn rfl (fun ls' h' => kk ls' H locs (hV ▸ hl.st hn rfl h') hP hD hS)
theorem zr_iinc (hG : zq_H x D tys own cc nL rm) {i : Nat} {d : Int} {v u : Int32} (V' : List (Option Value)) (hd : decode cc pc = .ok (.iinc i d, 3)) (hv : V[i]? = some (some (.int v))) (hu : Int32.ofInt d = u) (hn : i < V.length) (hV : V.set i (some (.int (v + u))) = V') (kk : zq_V x D tys ws k n (pc + 3) V' st) : zq_V x D tys ws k n pc V st := by
  intro ls H locs hl hP hD hS
  obtain ⟨j, hj⟩ := List.mem_iff_getElem?.mp (zq_tl_mem.mpr hv)
  exact lv_iinc hG.1 hG.2.1 hd hl.has hj (by rw [hu]) hn rfl (fun ls' h' => kk ls' H locs (hV ▸ hl.st hn rfl h') hP hD hS)
theorem zr_iadd (hG : zq_H x D tys own cc nL rm) {a b : Int32} (hd : decode cc pc = .ok (.iadd, 1)) (kk : zq_V x D tys ws k n (pc + 1) V (.int (a + b) :: st)) : zq_V x D tys ws k n pc V (.int b :: .int a :: st) :=
  fun ls H locs hl hP hD hS => lv_iadd hG.1 hG.2.1 hd (kk ls H locs hl hP hD hS)
theorem zr_isub (hG : zq_H x D tys own cc nL rm) {a b : Int32} (hd : decode cc pc = .ok (.isub, 1)) (kk : zq_V x D tys ws k n (pc + 1) V (.int (a - b) :: st)) : zq_V x D tys ws k n pc V (.int b :: .int a :: st) :=
  fun ls H locs hl hP hD hS => lv_isub hG.1 hG.2.1 hd (kk ls H locs hl hP hD hS)
theorem zr_imul (hG : zq_H x D tys own cc nL rm) {a b : Int32} (hd : decode cc pc = .ok (.imul, 1)) (kk : zq_V x D tys ws k n (pc + 1) V (.int (a * b) :: st)) : zq_V x D tys ws k n pc V (.int b :: .int a :: st) :=
  fun ls H locs hl hP hD hS => lv_imul hG.1 hG.2.1 hd (kk ls H locs hl hP hD hS)
theorem zr_iand (hG : zq_H x D tys own cc nL rm) {a b : Int32} (hd : decode cc pc = .ok (.iand, 1)) (kk : zq_V x D tys ws k n (pc + 1) V (.int (a &&& b) :: st)) : zq_V x D tys ws k n pc V (.int b :: .int a :: st) :=
  fun ls H locs hl hP hD hS => lv_iand hG.1 hG.2.1 hd (kk ls H locs hl hP hD hS)
theorem zr_ior (hG : zq_H x D tys own cc nL rm) {a b : Int32} (hd : decode cc pc = .ok (.ior, 1)) (kk : zq_V x D tys ws k n (pc + 1) V (.int (a ||| b) :: st)) : zq_V x D tys ws k n pc V (.int b :: .int a :: st) :=
  fun ls H locs hl hP hD hS => lv_ior hG.1 hG.2.1 hd (kk ls H locs hl hP hD hS)
theorem zr_ixor (hG : zq_H x D tys own cc nL rm) {a b : Int32} (hd : decode cc pc = .ok (.ixor, 1)) (kk : zq_V x D tys ws k n (pc + 1) V (.int (a ^^^ b) :: st)) : zq_V x D tys ws k n pc V (.int b :: .int a :: st) :=
  fun ls H locs hl hP hD hS => lv_ixor hG.1 hG.2.1 hd (kk ls H locs hl hP hD hS)
theorem zr_ishl (hG : zq_H x D tys own cc nL rm) {a b : Int32} (hd : decode cc pc = .ok (.ishl, 1)) (kk : zq_V x D tys ws k n (pc + 1) V (.int (a <<< (b &&& 31)) :: st)) : zq_V x D tys ws k n pc V (.int b :: .int a :: st) :=
  fun ls H locs hl hP hD hS => lv_ishl hG.1 hG.2.1 hd (kk ls H locs hl hP hD hS)
theorem zr_ishr (hG : zq_H x D tys own cc nL rm) {a b : Int32} (hd : decode cc pc = .ok (.ishr, 1)) (kk : zq_V x D tys ws k n (pc + 1) V (.int (a >>> (b &&& 31)) :: st)) : zq_V x D tys ws k n pc V (.int b :: .int a :: st) :=
  fun ls H locs hl hP hD hS => lv_ishr hG.1 hG.2.1 hd (kk ls H locs hl hP hD hS)
theorem zr_idiv (hG : zq_H x D tys own cc nL rm) {a b : Int32} (hd : decode cc pc = .ok (.idiv, 1)) (hne : ¬ b = 0) (kk : zq_V x D tys ws k n (pc + 1) V (.int (a / b) :: st)) : zq_V x D tys ws k n pc V (.int b :: .int a :: st) :=
  fun ls H locs hl hP hD hS => lv_idiv hG.1 hG.2.1 hd hne (kk ls H locs hl hP hD hS)
theorem zr_irem (hG : zq_H x D tys own cc nL rm) {a b : Int32} (hd : decode cc pc = .ok (.irem, 1)) (hne : ¬ b = 0) (kk : zq_V x D tys ws k n (pc + 1) V (.int (a - a / b * b) :: st)) : zq_V x D tys ws k n pc V (.int b :: .int a :: st) :=
  fun ls H locs hl hP hD hS => lv_irem hG.1 hG.2.1 hd hne (kk ls H locs hl hP hD hS)
theorem zr_dup (hG : zq_H x D tys own cc nL rm) {v : Value} (hd : decode cc pc = .ok (.dup, 1)) (hc : v.category = 1) (kk : zq_V x D tys ws k n (pc + 1) V (v :: v :: st)) : zq_V x D tys ws k n pc V (v :: st) :=
  fun ls H locs hl hP hD hS => lv_dup hG.1 hG.2.1 hd hc (kk ls H locs hl hP hD hS)
theorem zr_goto (hG : zq_H x D tys own cc nL rm) {off : Int} (tgt : Nat) (hd : decode cc pc = .ok (.goto off, 3)) (ht : (pc : Int) + off = (tgt : Int)) (kk : zq_V x D tys ws k n tgt V st) : zq_V x D tys ws k n pc V st :=
  fun ls H locs hl hP hD hS => lv_goto hG.1 hG.2.1 hd ht (kk ls H locs hl hP hD hS)
theorem zr_if_eq (hG : zq_H x D tys own cc nL rm) {a : Int32} {off : Int} (tgt : Nat) (hd : decode cc pc = .ok (.ifCond .eq off, 3)) (ht : (pc : Int) + off = (tgt : Int)) (kt : a = 0 → zq_V x D tys ws k n tgt V st) (kf : ¬ a = 0 → zq_V x D tys ws k n (pc + 3) V st) : zq_V x D tys ws k n pc V (.int a :: st) :=
  fun ls H locs hl hP hD hS => lv_if_eq hG.1 hG.2.1 hd ht (fun h => kt h ls H locs hl hP hD hS) (fun h => kf h ls H locs hl hP hD hS)
theorem zr_if_ne (hG : zq_H x D tys own cc nL rm) {a : Int32} {off : Int} (tgt : Nat) (hd : decode cc pc = .ok (.ifCond .ne off, 3)) (ht : (pc : Int) + off = (tgt : Int)) (kt : ¬ a = 0 → zq_V x D tys ws k n tgt V st) (kf : a = 0 → zq_V x D tys ws k n (pc + 3) V st) : zq_V x D tys ws k n pc V (.int a :: st) :=
  fun ls H locs hl hP hD hS => lv_if_ne hG.1 hG.2.1 hd ht (fun h => kt h ls H locs hl hP hD hS) (fun h => kf h ls H locs hl hP hD hS)
theorem zr_if_lt (hG : zq_H x D tys own cc nL rm) {a : Int32} {off : Int} (tgt : Nat) (hd : decode cc pc = .ok (.ifCond .lt off, 3)) (ht : (pc : Int) + off = (tgt : Int)) (kt : a < 0 → zq_V x D tys ws k n tgt V st) (kf : ¬ a < 0 → zq_V x D tys ws k n (pc + 3) V st) : zq_V x D tys ws k n pc V (.int a :: st) :=
  fun ls H locs hl hP hD hS => lv_if_lt hG.1 hG.2.1 hd ht (fun h => kt h ls H locs hl hP hD hS) (fun h => kf h ls H locs hl hP hD hS)
theorem zr_if_ge (hG : zq_H x D tys own cc nL rm) {a : Int32} {off : Int} (tgt : Nat) (hd : decode cc pc = .ok (.ifCond .ge off, 3)) (ht : (pc : Int) + off = (tgt : Int)) (kt : 0 ≤ a → zq_V x D tys ws k n tgt V st) (kf : ¬ 0 ≤ a → zq_V x D tys ws k n (pc + 3) V st) : zq_V x D tys ws k n pc V (.int a :: st) :=
  fun ls H locs hl hP hD hS => lv_if_ge hG.1 hG.2.1 hd ht (fun h => kt h ls H locs hl hP hD hS) (fun h => kf h ls H locs hl hP hD hS)
theorem zr_if_gt (hG : zq_H x D tys own cc nL rm) {a : Int32} {off : Int} (tgt : Nat) (hd : decode cc pc = .ok (.ifCond .gt off, 3)) (ht : (pc : Int) + off = (tgt : Int)) (kt : 0 < a → zq_V x D tys ws k n tgt V st) (kf : ¬ 0 < a → zq_V x D tys ws k n (pc + 3) V st) : zq_V x D tys ws k n pc V (.int a :: st) :=
  fun ls H locs hl hP hD hS => lv_if_gt hG.1 hG.2.1 hd ht (fun h => kt h ls H locs hl hP hD hS) (fun h => kf h ls H locs hl hP hD hS)
theorem zr_if_le (hG : zq_H x D tys own cc nL rm) {a : Int32} {off : Int} (tgt : Nat) (hd : decode cc pc = .ok (.ifCond .le off, 3)) (ht : (pc : Int) + off = (tgt : Int)) (kt : a ≤ 0 → zq_V x D tys ws k n tgt V st) (kf : ¬ a ≤ 0 → zq_V x D tys ws k n (pc + 3) V st) : zq_V x D tys ws k n pc V (.int a :: st) :=
  fun ls H locs hl hP hD hS => lv_if_le hG.1 hG.2.1 hd ht (fun h => kt h ls H locs hl hP hD hS) (fun h => kf h ls H locs hl hP hD hS)
theorem zr_icmp_eq (hG : zq_H x D tys own cc nL rm) {a b : Int32} {off : Int} (tgt : Nat) (hd : decode cc pc = .ok (.if_icmp .eq off, 3)) (ht : (pc : Int) + off = (tgt : Int)) (kt : a = b → zq_V x D tys ws k n tgt V st) (kf : ¬ a = b → zq_V x D tys ws k n (pc + 3) V st) : zq_V x D tys ws k n pc V (.int b :: .int a :: st) :=
  fun ls H locs hl hP hD hS => lv_icmp_eq hG.1 hG.2.1 hd ht (fun h => kt h ls H locs hl hP hD hS) (fun h => kf h ls H locs hl hP hD hS)
theorem zr_icmp_ne (hG : zq_H x D tys own cc nL rm) {a b : Int32} {off : Int} (tgt : Nat) (hd : decode cc pc = .ok (.if_icmp .ne off, 3)) (ht : (pc : Int) + off = (tgt : Int)) (kt : ¬ a = b → zq_V x D tys ws k n tgt V st) (kf : a = b → zq_V x D tys ws k n (pc + 3) V st) : zq_V x D tys ws k n pc V (.int b :: .int a :: st) :=
  fun ls H locs hl hP hD hS => lv_icmp_ne hG.1 hG.2.1 hd ht (fun h => kt h ls H locs hl hP hD hS) (fun h => kf h ls H locs hl hP hD hS)
theorem zr_icmp_lt (hG : zq_H x D tys own cc nL rm) {a b : Int32} {off : Int} (tgt : Nat) (hd : decode cc pc = .ok (.if_icmp .lt off, 3)) (ht : (pc : Int) + off = (tgt : Int)) (kt : a < b → zq_V x D tys ws k n tgt V st) (kf : ¬ a < b → zq_V x D tys ws k n (pc + 3) V st) : zq_V x D tys ws k n pc V (.int b :: .int a :: st) :=
  fun ls H locs hl hP hD hS => lv_icmp_lt hG.1 hG.2.1 hd ht (fun h => kt h ls H locs hl hP hD hS) (fun h => kf h ls H locs hl hP hD hS)
theorem zr_icmp_ge (hG : zq_H x D tys own cc nL rm) {a b : Int32} {off : Int} (tgt : Nat) (hd : decode cc pc = .ok (.if_icmp .ge off, 3)) (ht : (pc : Int) + off = (tgt : Int)) (kt : b ≤ a → zq_V x D tys ws k n tgt V st) (kf : ¬ b ≤ a → zq_V x D tys ws k n (pc + 3) V st) : zq_V x D tys ws k n pc V (.int b :: .int a :: st) :=
  fun ls H locs hl hP hD hS => lv_icmp_ge hG.1 hG.2.1 hd ht (fun h => kt h ls H locs hl hP hD hS) (fun h => kf h ls H locs hl hP hD hS)
theorem zr_icmp_gt (hG : zq_H x D tys own cc nL rm) {a b : Int32} {off : Int} (tgt : Nat) (hd : decode cc pc = .ok (.if_icmp .gt off, 3)) (ht : (pc : Int) + off = (tgt : Int)) (kt : b < a → zq_V x D tys ws k n tgt V st) (kf : ¬ b < a → zq_V x D tys ws k n (pc + 3) V st) : zq_V x D tys ws k n pc V (.int b :: .int a :: st) :=
  fun ls H locs hl hP hD hS => lv_icmp_gt hG.1 hG.2.1 hd ht (fun h => kt h ls H locs hl hP hD hS) (fun h => kf h ls H locs hl hP hD hS)
theorem zr_icmp_le (hG : zq_H x D tys own cc nL rm) {a b : Int32} {off : Int} (tgt : Nat) (hd : decode cc pc = .ok (.if_icmp .le off, 3)) (ht : (pc : Int) + off = (tgt : Int)) (kt : a ≤ b → zq_V x D tys ws k n tgt V st) (kf : ¬ a ≤ b → zq_V x D tys ws k n (pc + 3) V st) : zq_V x D tys ws k n pc V (.int b :: .int a :: st) :=
  fun ls H locs hl hP hD hS => lv_icmp_le hG.1 hG.2.1 hd ht (fun h => kt h ls H locs hl hP hD hS) (fun h => kf h ls H locs hl hP hD hS)
theorem zr_swIn (hG : zq_H x D tys own cc nL rm) {a : Int32} {dflt lo hi : Int} {offs : Array Int} {len : Nat} {off : Int} (tgt : Nat) (hd : decode cc pc = .ok (.tableswitch dflt lo hi offs, len)) (h1 : ¬ a.toInt < lo) (h2 : ¬ hi < a.toInt) (ho : offs[(a.toInt - lo).toNat]? = some off) (ht : (pc : Int) + off = (tgt : Int)) (kk : zq_V x D tys ws k n tgt V st) : zq_V x D tys ws k n pc V (.int a :: st) :=
  fun ls H locs hl hP hD hS => lv_tableIn hG.1 hG.2.1 hd h1 h2 ho ht (kk ls H locs hl hP hD hS)
theorem zr_swOut (hG : zq_H x D tys own cc nL rm) {a : Int32} {dflt lo hi : Int} {offs : Array Int} {len : Nat} (tgt : Nat) (hd : decode cc pc = .ok (.tableswitch dflt lo hi offs, len)) (h : a.toInt < lo ∨ hi < a.toInt) (ht : (pc : Int) + dflt = (tgt : Int)) (kk : zq_V x D tys ws k n tgt V st) : zq_V x D tys ws k n pc V (.int a :: st) :=
  fun ls H locs hl hP hD hS => lv_tableOut hG.1 hG.2.1 hd h ht (kk ls H locs hl hP hD hS)
/-! fields and arrays, by their places in the world -/
theorem zr_get (hG : zq_H x D tys own cc nL rm) {C : String} {T : u_T} {N ci index a : Nat} (hin : ∀ t ∈ u_ws C T N, t ∈ zq_T) (q0 : Nat) {fs : List Value} (he : ws[q0]? = some (a, .inr (ci, fs))) (hc : vwCl[ci]? = some (C, T, N)) (j : Nat) (hj : j < N) (hC : (T j).1 = C) (ht : Cond.fieldLink own index C (T j).2.1 (T j).2.2.1 ∈ zq_T) {v : Value} (hv : fs[j]? = some v) (hd : decode cc pc = .ok (.getfield index, 3))
    (kk : zq_V x D tys ws k n (pc + 3) V (v :: st)) : zq_V x D tys ws k n pc V (.ref a :: st) :=
  fun ls H locs hl hP hD hS => va_get hG.1 hG.2.1 hG.2.2.2.2.1 hin hG.2.2.2.1 hG.2.2.2.2.2.1 hP q0 he hc j hj (hG.2.2.2.2.1 _ ht) (fun _ h => hC ▸ h) hv hd (kk ls H locs hl hP hD hS)
theorem zr_put (hG : zq_H x D tys own cc nL rm) (hw : ∀ (k : Nat) (q : Nat × va_E), ws[k]? = some q → zc_A x q.1) {C : String} {T : u_T} {N ci index a : Nat} (hin : ∀ t ∈ u_ws C T N, t ∈ zq_T) (ty0 : Nat → FieldType) (hty : ∀ k, k < N → parseFieldDescriptor (T k).2.2.1 = some (ty0 k)) (hnm : ∀ a, a < N → ∀ b, b < N → a ≠ b → (T a).2.1 ≠ (T b).2.1) (q0 : Nat) {fs : List Value} (he : ws[q0]? = some (a, .inr (ci, fs))) (hc : vwCl[ci]? = some (C, T, N)) (j : Nat) (hj : j < N) (hC : (T j).1 = C) (ht : Cond.fieldLink own index C (T j).2.1 (T j).2.2.1 ∈ zq_T) (hfin : (T j).2.2.2 = false) {ty : FieldType} {v : Value} (hde : parseFieldDescriptor (T j).2.2.1 = some ty) (hn : narrow ty v = v) (hfit : fits ty v = true) (hl : j < fs.length) (ws' : va_W) (hσ : ws.set q0 (a, .inr (ci, fs.set j v)) = ws') (hd : decode cc pc = .ok (.putfield index, 3))
    (kk : zq_V x D tys ws' k n (pc + 3) V st) : zq_V x D tys ws k n pc V (v :: .ref a :: st) :=
  fun ls H locs hl' hP hD hS => va_put hG.1 hG.2.1 hG.2.2.2.2.1 hin ty0 hty hnm hG.2.2.2.1 hG.2.2.2.2.2.1 hP ⟨hD.1, hw⟩ hS q0 he hc j hj (hG.2.2.2.2.1 _ ht) (fun _ h => hC ▸ h) hfin hde hn hfit hl hd (fun H1 locs1 hP1 hD1 hS1 => kk ls H1 locs1 hl' (hσ ▸ hP1) (hσ ▸ (⟨hD1.1, fun _ _ _ => trivial⟩ : va_D (fun _ => True) _)) hS1)
theorem zr_iald (hG : zq_H x D tys own cc nL rm) (q0 t0 : Nat) {cA : ClassId} {a N : Nat} {f : Nat → Int32} (ha : ws[q0]? = some (a, .inl (cA, N, .inl f))) (ht : tys[t0]? = some (cA, .int)) {i : Int32} (hi : vp_in i N) (hd : decode cc pc = .ok (.iaload, 1))
    (kk : zq_V x D tys ws k n (pc + 1) V (.int (f i.toNatClampNeg) :: st)) : zq_V x D tys ws k n pc V (.int i :: .ref a :: st) :=
  fun ls H locs hl hP hD hS => va_iald hG.1 hG.2.1 hG.2.2.2.2.2.1 hP q0 t0 ha ht hi hd (kk ls H locs hl hP hD hS)
theorem zr_zald (hG : zq_H x D tys own cc nL rm) (q0 t0 : Nat) {cA : ClassId} {a N : Nat} {f : Nat → Int32} (ha : ws[q0]? = some (a, .inl (cA, N, .inl f))) (ht : tys[t0]? = some (cA, .boolean)) {i : Int32} (hi : vp_in i N) (hd : decode cc pc = .ok (.baload, 1))
    (kk : zq_V x D tys ws k n (pc + 1) V (.int (f i.toNatClampNeg) :: st)) : zq_V x D tys ws k n pc V (.int i :: .ref a :: st) :=
  fun ls H locs hl hP hD hS => va_zald hG.1 hG.2.1 hG.2.2.2.2.2.1 hP q0 t0 ha ht hi hd (kk ls H locs hl hP hD hS)
theorem zr_iast (hG : zq_H x D tys own cc nL rm) (hw : ∀ (k : Nat) (q : Nat × va_E), ws[k]? = some q → zc_A x q.1) (q0 t0 : Nat) {cA : ClassId} {a N : Nat} {f : Nat → Int32} (ha : ws[q0]? = some (a, .inl (cA, N, .inl f))) (ht : tys[t0]? = some (cA, .int)) {i v : Int32} (hi : vp_in i N) (ws' : va_W) (hσ : ws.set q0 (a, .inl (cA, N, .inl (upd f i.toNatClampNeg v))) = ws') (hd : decode cc pc = .ok (.iastore, 1))
    (kk : zq_V x D tys ws' k n (pc + 1) V st) : zq_V x D tys ws k n pc V (.int v :: .int i :: .ref a :: st) :=
  fun ls H locs hl hP hD hS => va_iast hG.1 hG.2.1 hG.2.2.2.2.2.1 hP ⟨hD.1, hw⟩ hS q0 t0 ha ht hi hd (fun H1 locs1 hP1 hD1 hS1 => kk ls H1 locs1 hl (hσ ▸ hP1) (hσ ▸ (⟨hD1.1, fun _ _ _ => trivial⟩ : va_D (fun _ => True) _)) hS1)
theorem zr_zast (hG : zq_H x D tys own cc nL rm) (hw : ∀ (k : Nat) (q : Nat × va_E), ws[k]? = some q → zc_A x q.1) (q0 t0 : Nat) {cA : ClassId} {a N : Nat} {f : Nat → Int32} (ha : ws[q0]? = some (a, .inl (cA, N, .inl f))) (ht : tys[t0]? = some (cA, .boolean)) {i v : Int32} (hi : vp_in i N) (ws' : va_W) (hσ : ws.set q0 (a, .inl (cA, N, .inl (upd f i.toNatClampNeg (vp_nar .boolean v)))) = ws') (hd : decode cc pc = .ok (.bastore, 1))
    (kk : zq_V x D tys ws' k n (pc + 1) V st) : zq_V x D tys ws k n pc V (.int v :: .int i :: .ref a :: st) :=
  fun ls H locs hl hP hD hS => va_zast hG.1 hG.2.1 hG.2.2.2.2.2.1 hP ⟨hD.1, hw⟩ hS q0 t0 ha ht hi hd (fun H1 locs1 hP1 hD1 hS1 => kk ls H1 locs1 hl (hσ ▸ hP1) (hσ ▸ (⟨hD1.1, fun _ _ _ => trivial⟩ : va_D (fun _ => True) _)) hS1)
theorem zr_last (hG : zq_H x D tys own cc nL rm) (hw : ∀ (k : Nat) (q : Nat × va_E), ws[k]? = some q → zc_A x q.1) (q0 t0 : Nat) {cA : ClassId} {a N : Nat} {f : Nat → Int64} (ha : ws[q0]? = some (a, .inl (cA, N, .inr (.inl f)))) (ht : tys[t0]? = some (cA, .long)) {i : Int32} {v : Int64} (hi : vp_in i N) (ws' : va_W) (hσ : ws.set q0 (a, .inl (cA, N, .inr (.inl (vp_updL f i.toNatClampNeg v)))) = ws') (hd : decode cc pc = .ok (.lastore, 1))
    (kk : zq_V x D tys ws' k n (pc + 1) V st) : zq_V x D tys ws k n pc V (.long v :: .int i :: .ref a :: st) :=
  fun ls H locs hl hP hD hS => va_last hG.1 hG.2.1 hG.2.2.2.2.2.1 hP ⟨hD.1, hw⟩ hS q0 t0 ha ht hi hd (fun H1 locs1 hP1 hD1 hS1 => kk ls H1 locs1 hl (hσ ▸ hP1) (hσ ▸ (⟨hD1.1, fun _ _ _ => trivial⟩ : va_D (fun _ => True) _)) hS1)
theorem zr_lald (hG : zq_H x D tys own cc nL rm) (q0 t0 : Nat) {cA : ClassId} {a N : Nat} {f : Nat → Int64} (ha : ws[q0]? = some (a, .inl (cA, N, .inr (.inl f)))) (ht : tys[t0]? = some (cA, .long)) {i : Int32} (hi : vp_in i N) (hd : decode cc pc = .ok (.laload, 1))
    (kk : zq_V x D tys ws k n (pc + 1) V (.long (f i.toNatClampNeg) :: st)) : zq_V x D tys ws k n pc V (.int i :: .ref a :: st) :=
  fun ls H locs hl hP hD hS => va_lald hG.1 hG.2.1 hG.2.2.2.2.2.1 hP q0 t0 ha ht hi hd (kk ls H locs hl hP hD hS)
end ZR
/-! contracts, calls, returns, loops -/
def zq_ty (w : zW) : List (ClassId × FieldType) := [(w.2.2.2 0, .int), (w.2.2.2 1, .boolean), (w.2.2.2 2, .long)]
abbrev zq_W (x : zC) (w : zW) (k n : Nat) (σ : zG) (pc : Nat) (V : List (Option Value)) (st : List Value) : Prop := zq_V x w.1 (zq_ty w) (zq_w w σ) k n pc V st
abbrev zq_G (x : zC) (w : zW) (own : String) (cc : ByteArray) (nL : Nat) (rm : Room) : Prop := zq_H x w.1 (zq_ty w) own cc nL rm
theorem zq_ad (w : zW) (σ : zG) : (zq_w w σ).map (fun q => q.1) = (List.range 41).map w.2.1 := rfl
theorem zq_D_ad {A : Nat → Prop} {ws ws' : va_W} (h : va_D A ws) (e : ws'.map (fun q => q.1) = ws.map (fun q => q.1)) : va_D A ws' := by
  have key : ∀ (i : Nat) (p : Nat × va_E), ws'[i]? = some p → ∃ p', ws[i]? = some p' ∧ p'.1 = p.1 := by
    intro i p hp
    have h1 : (ws'.map (fun q => q.1))[i]? = some p.1 := by rw [List.getElem?_map, hp]; rfl
    rw [e, List.getElem?_map] at h1
    cases hq : ws[i]? with
    | none => rw [hq] at h1; cases h1
    | some u => rw [hq] at h1; exact ⟨u, rfl, Option.some.inj h1⟩
  refine ⟨fun i j p q hp hq epq => ?_, fun i p hp => ?_⟩
  · obtain ⟨p', hp', ep⟩ := key i p hp
    obtain ⟨q', hq', eq⟩ := key j q hq
    exact h.1 i j p' q' hp' hq' (by rw [ep, eq, epq])
  · obtain ⟨p', hp', ep⟩ := key i p hp
    rw [← ep]
    exact h.2 i p' hp'
def zq_A (w : zW) : Nat → Prop := fun q => ∃ i, i < 41 ∧ q = w.2.1 i
def zq_Ap (w : zW) : Prop := ∀ σ, va_D (fun _ => True) (zq_w w σ)
/-- what a method that only reads may write -/
def zq_0 : Nat → Prop := fun _ => False
/-- the walk may write to the world -/
def zq_Wr (x : zC) (w : zW) : Prop := ∀ (σ : zG) (k : Nat) (q : Nat × va_E), (zq_w w σ)[k]? = some q → zc_A x q.1
def zq_Pc (w : zW) (vs : List Value) (σ : zG) : Array Value → State → Prop := fun v U => v = vs.toArray ∧ va_P w.1 vwCl (zq_w w σ) U.heap ∧ va_K w.1 vwCl (zq_ty w) U
def zq_Qc (w : zW) (F : Nat → Prop) (P : Option Value → zG → Prop) : Array Value → State → Outcome → State → Prop := fun _ st oc t => ∃ (r : Option Value) (σ' : zG), oc = .returned r ∧ P r σ' ∧ va_P w.1 vwCl (zq_w w σ') t.heap ∧ va_F F st t
def zq_M (l : Launch) (w : zW) (F : Nat → Prop) (y : MethodName) (cc : ByteArray) (nL : Nat) (ret : Option FieldType) (rm : Room) (vs : List Value) (σ : zG) (P : Option Value → zG → Prop) : Prop :=
  Met l y (.code y cc nL ret :: zq_T) rm (zq_Pc w vs σ) (zq_Qc w F P) 0 0 F
def zq_R (x : zC) (w : zW) (F : Nat → Prop) (ret : Option FieldType) (P : Option Value → zG → Prop) : Prop :=
  (zc_h x).sig.returnType = ret ∧ (zc_h x).locks = false ∧ zc_A x = F ∧ zc_Q x = MQ (zc_b x) (zq_Qc w F P) (zc_a x) (zc_s x) 0 0 F
theorem zq_wr {x : zC} {w : zW} (h : zc_A x = zq_A w) : zq_Wr x w := by
  intro σ k q hq
  rw [h]
  have h1 : ((zq_w w σ).map (fun q => q.1))[k]? = some q.1 := by rw [List.getElem?_map, hq]; rfl
  rw [zq_ad, List.getElem?_map] at h1
  by_cases hk : k < 41
  · rw [List.getElem?_range hk] at h1
    exact ⟨k, hk, (Option.some.inj h1).symm⟩
  · rw [List.getElem?_eq_none (by simpa using Nat.not_lt.mp hk)] at h1
    cases h1
theorem zq_F1 {x : zC} {w : zW} (h : zq_Wr x w) : ∀ q, zq_A w q → zc_A x q := by
  rintro q ⟨i, hi, rfl⟩
  have σ : zG := ((fun _ => 0, fun _ _ => 0), (fun _ => 0, fun _ _ => 0), fun _ => 0)
  have h1 : ((zq_w w σ).map (fun q => q.1))[i]? = some (w.2.1 i) := by
    rw [zq_ad, List.getElem?_map, List.getElem?_range hi]
    rfl
  rw [List.getElem?_map] at h1
  cases hq : (zq_w w σ)[i]? with
  | none => rw [hq] at h1; cases h1
  | some u =>
    rw [hq] at h1
    have e : u.1 = w.2.1 i := Option.some.inj h1
    rw [← e]
    exact h σ i u hq
theorem zq_F0 {x : zC} : ∀ q, zq_0 q → zc_A x q := fun _ h => h.elim
theorem zq_blind (w : zW) (vs : List Value) (σ : zG) : FrameBlind (zq_Pc w vs σ) := fun a U g mk q => ⟨q.1, q.2.1, va_K.moved (u := U) (U := U.calling g mk a) (Vm.Alike.refl U.vm) q.2.2⟩
theorem zq_entry (vs : List Value) (nL : Nat) (hn : vs.length ≤ nL) (hc : ∀ v ∈ vs, v.category = 1) : zq_L ((lg_sl vs ++ List.replicate (nL - (lg_sl vs).length) Slot.unset).toArray) (zq_V0 vs nL) := by
  have h := lv_entry vs (n := nL) (by rw [zq_sl vs hc]; simpa using hn)
  refine ⟨by rw [h.1]; simp [zq_V0]; omega, h.2.1, fun i v hv => ?_⟩
  rw [zq_sl vs hc]
  by_cases hi : i < vs.length
  · have hv' : vs[i]? = some v := by
      have h2 : (zq_V0 vs nL)[i]? = (vs.map some)[i]? := List.getElem?_append_left (by simpa using hi)
      rw [h2, List.getElem?_map] at hv
      cases hq : vs[i]? with
      | none => rw [hq] at hv; cases hv
      | some u => rw [hq] at hv; cases hv; rfl
    refine ⟨?_, hc v (List.mem_of_getElem? hv')⟩
    rw [List.getElem?_toArray, List.getElem?_append_left (by simpa using hi), List.getElem?_map, hv']
    rfl
  · have h2 : (zq_V0 vs nL)[i]? = (List.replicate (nL - vs.length) (none : Option Value))[i - vs.length]? := by
      unfold zq_V0
      rw [List.getElem?_append_right (by simpa using Nat.not_lt.mp hi), List.length_map]
    rw [h2, List.getElem?_replicate] at hv
    split at hv <;> cases hv
theorem zq_mk_M {l : Launch} {w : zW} {F : Nat → Prop} {y : MethodName} {cc : ByteArray} {nL : Nat} {ret : Option FieldType} {rm : Room} {vs : List Value} {σ : zG} {P : Option Value → zG → Prop} (hy : plainName y.cls = true) (hc : ∀ v ∈ vs, v.category = 1) (hn : vs.length ≤ nL) (hAp : zq_Ap w)
    (walk : ∀ x : zC, zc_l x = l → zq_G x w y.cls cc nL rm → zq_R x w F ret P → zq_W x w 0 0 σ 0 (zq_V0 vs nL) []) : zq_M l w F y cc nL ret rm vs σ P := by
  refine Met.ofW (cc := cc) (maxL := nL) (ret := ret) hy rfl ?_
  intro p e s m args below meth c s₁ B hml hv
  obtain ⟨rfl, hP, hK⟩ := hv
  have hts := atoms_spec (ws := .code y cc nL ret :: zq_T) B.pre
  have hown : s.vm.findClass y.cls = some m.cls := findClass_of_methodNamed B.named
  have hx := walk (p, l, e, (headSpec (.code y cc nL ret :: zq_T) rm).room, s, m, vs.toArray, below, meth, c, MQ below (zq_Qc w F P) vs.toArray s 0 0 F, F) rfl ⟨B.exec, B.bytes, hml, hown, fun t ht => hts t (List.mem_cons_of_mem _ ht), hK, rfl⟩ ⟨B.returns, B.notSynchronized, rfl, rfl⟩
  rw [lg_entry_eq]
  exact hx _ s.heap [] (zq_entry vs nL hn hc) hP (hAp σ) va_S.rf
section ZR2
variable {x : zC} {w : zW} {own : String} {cc : ByteArray} {nL : Nat} {rm : Room} {k n : Nat} {σ : zG} {pc : Nat} {V : List (Option Value)} {st : List Value} {P : Option Value → zG → Prop} {F : Nat → Prop}
theorem zr_iret (hG : zq_G x w own cc nL rm) (hR : zq_R x w F (some .int) P) {v : Int32} (hd : decode cc pc = .ok (.ireturn, 1)) (hp : P (some (.int v)) σ) : zq_W x w 0 0 σ pc V [.int v] := by
  intro ls H locs hl hP hD hS
  obtain ⟨h1, h2, h3, h4⟩ := hR
  rw [h4]
  rw [h3] at hS
  exact W.iret hG.1 hG.2.1 h1 (fun t ht hW => ⟨_, σ, rfl, hp, by rw [ht]; exact hP, hS.F ht⟩) hS.2.2 hd h2
theorem zr_zret (hG : zq_G x w own cc nL rm) (hR : zq_R x w F (some .boolean) P) {v : Int32} (hd : decode cc pc = .ok (.ireturn, 1)) (hn : narrow .boolean (.int v) = .int v) (hp : P (some (.int v)) σ) : zq_W x w 0 0 σ pc V [.int v] := by
  intro ls H locs hl hP hD hS
  obtain ⟨h1, h2, h3, h4⟩ := hR
  rw [h4]
  rw [h3] at hS
  exact W.zret hG.1 hG.2.1 h1 hn (fun t ht hW => ⟨_, σ, rfl, hp, by rw [ht]; exact hP, hS.F ht⟩) hS.2.2 hd h2
theorem zr_vret (hG : zq_G x w own cc nL rm) (hR : zq_R x w F none P) (hd : decode cc pc = .ok (.return_, 1)) (hp : P none σ) : zq_W x w 0 0 σ pc V [] := by
  intro ls H locs hl hP hD hS
  obtain ⟨h1, h2, h3, h4⟩ := hR
  rw [h4]
  rw [h3] at hS
  exact W.vret hG.1 hG.2.1 h1 (fun t ht hW => ⟨_, σ, rfl, hp, by rw [ht]; exact hP, hS.F ht⟩) hS.2.2 hd h2
theorem zq_go {H : Heap} {locs : List Loc} {ls : Array Slot} {rest : List Value} {a : Array Value} (hF : ∀ q, F q → zc_A x q) (hl : zq_L ls V) (hD : va_D (fun _ => True) (zq_w w σ)) (hS : va_S (zc_A x) (zc_s x).heap H locs)
    (hr : va_Run (zc_p x) (zc_l x) (zc_e x) (zc_R x) (zc_s x) (zc_m x) (zc_a x) (zc_b x) (zc_h x) (zc_c x) H locs k n 0 0 (F0 (zc_m x) pc ls st) rest (zq_Qc w F P a) F)
    (kk : ∀ r σ', P r σ' → zq_W x w k n σ' (pc + 3) V (r.toList ++ rest)) : W (zc_p x) (zc_l x) (zc_e x) (zc_R x) (zc_s x) (zc_m x) (zc_a x) (zc_b x) (zc_h x) (zc_c x) H locs k n (zc_Q x) (F0 (zc_m x) pc ls st) := by
  intro T hT X
  obtain ⟨v, st₀, t, T', L, h0, X', hL, e1, e2, ⟨r, σ', hv, hp, hB, hz, hk⟩, st⟩ := hr T hT X
  cases hv
  rw [h0] at hz hk
  obtain ⟨t2, a1, b1⟩ := kk v σ' hp ls T'.heap (locs ++ L) hl (by rw [e1]; exact hB) (zq_D_ad hD (by rw [zq_ad, zq_ad]))
    ⟨Nat.le_trans hS.1 (by rw [e1]; exact hz), fun q h1 h2 => by rw [e1, hk q (Nat.lt_of_lt_of_le h1 hS.1) (fun z => h2 (hF q z))]; exact hS.2.1 q h1 h2, fun q hq => by
      rcases List.mem_append.mp hq with h | h
      · exact hS.2.2 q h
      · exact hF _ (hL q h)⟩ T' rfl X'
  exact ⟨t2, st t2 a1, b1⟩
/-- the words of a call of an instance method of a class of ours -/
def zq_gV (own : String) (index : Nat) (y : MethodName) (bytes : ByteArray) (maxL : Nat) (ret : Option FieldType) : Prop :=
  Cond.methodLink own index y ∈ zq_T ∧ Cond.instanceMethod y ∈ zq_T ∧ Cond.selects y.cls y y ∈ zq_T ∧ Cond.initialized y.cls ∈ zq_T ∧ Cond.code y bytes maxL ret ∈ zq_T
def zq_gS (own : String) (index : Nat) (y : MethodName) (bytes : ByteArray) (maxL : Nat) (ret : Option FieldType) : Prop :=
  Cond.methodLink own index y ∈ zq_T ∧ Cond.static y ∈ zq_T ∧ Cond.initialized own ∈ zq_T ∧ Cond.code y bytes maxL ret ∈ zq_T
theorem zq_gV.good {own : String} {index : Nat} {y : MethodName} {bytes : ByteArray} {maxL : Nat} {ret : Option FieldType} (h : zq_gV own index y bytes maxL ret) : GoodIn zq_T (wsV own index y.cls y (.code y bytes maxL ret :: zq_T)) := by
  obtain ⟨h1, h2, h3, h4, h5⟩ := h
  intro t ht
  unfold wsV at ht
  have hm : t ∈ zq_T := by
    rcases List.mem_append.mp ht with ht | ht
    · simp only [List.mem_cons, List.not_mem_nil, or_false] at ht
      rcases ht with rfl | rfl | rfl | rfl
      · exact h1
      · exact h2
      · exact h3
      · exact h4
    · rcases List.mem_cons.mp ht with rfl | ht
      · exact h5
      · exact ht
  exact ⟨hm, zq_good t hm⟩
theorem zq_gS.good {own : String} {index : Nat} {y : MethodName} {bytes : ByteArray} {maxL : Nat} {ret : Option FieldType} (h : zq_gS own index y bytes maxL ret) : GoodIn zq_T (wsS own index y (.code y bytes maxL ret :: zq_T)) := by
  obtain ⟨h1, h2, h3, h5⟩ := h
  intro t ht
  unfold wsS at ht
  have hm : t ∈ zq_T := by
    rcases List.mem_append.mp ht with ht | ht
    · simp only [List.mem_cons, List.not_mem_nil, or_false] at ht
      rcases ht with rfl | rfl | rfl
      · exact h1
      · exact h2
      · exact h3
    · rcases List.mem_cons.mp ht with rfl | ht
      · exact h5
      · exact ht
  exact ⟨hm, zq_good t hm⟩
theorem zr_callV (hG : zq_G x w own cc nL rm) (hF : ∀ q, F q → zc_A x q) {y : MethodName} {bytes : ByteArray} {maxL : Nat} {ret : Option FieldType} {rm' : Room} {index b ci : Nat} {As rest fs : List Value} {q : vw_C} (hM : zq_M (zc_l x) w F y bytes maxL ret rm' (.ref b :: As) σ P) (q0 : Nat) (he : (zq_w w σ)[q0]? = some (b, .inr (ci, fs))) (hc : vwCl[ci]? = some q) (hq : q.1 = y.cls) (hw : zq_gV own index y bytes maxL ret)
    (hdd : y.cls ≠ "java/lang/invoke/MethodHandle" ∧ y.cls ≠ "java/lang/invoke/VarHandle" ∧ (parseMethodDescriptor y.desc).map (fun d => d.parameters.length) = some As.length) (hRm : rm'.cells = 0 ∧ rm'.slots = 0 ∧ rm'.frames + 1 ≤ rm.frames ∧ 8 + (maxL + 11) + rm'.locals ≤ rm.locals) (hk : k ≤ rm.cells ∧ n ≤ rm.slots) (hV : V.length = nL) (hst : (rest.map fun v => v.category).sum ≤ 8) (hd : decode cc pc = .ok (.invokevirtual index, 3)) (hs : st = As.reverse ++ .ref b :: rest)
    (kk : ∀ r σ', P r σ' → zq_W x w k n σ' (pc + 3) V (r.toList ++ rest)) : zq_W x w k n σ pc V st := by
  intro ls H locs hl hP hD hS
  subst hs
  have hR : zc_R x = rm := hG.2.2.2.2.2.2
  have hrec := va_recv hG.2.2.2.2.2.1 hP hc he
  rw [hq] at hrec
  refine zq_go hF hl hD hS (va_runV (nL := nL) (cc := cc) (As := As) (rest := rest) ⟨hG.1, hG.2.1, hG.2.2.1, hG.2.2.2.1, hG.2.2.2.2.1⟩ hM (cwV As.length hG.2.2.2.2.1 hw.good rfl hRm.1 hRm.2.1 ⟨rfl, hdd⟩ (by rw [hR]; exact ⟨hRm.2.2.1, hRm.2.2.2⟩)) ⟨zq_blind w _ σ, hrec, fun U hU hW => ⟨rfl, by rw [hU]; exact hP, va_K.moved hW.alike hG.2.2.2.2.2.1⟩⟩ rfl rfl (hl.1.trans hV) rfl (lv_room hst) hd (by rw [hR]; exact hk)) kk
theorem zr_callS (hG : zq_G x w own cc nL rm) (hF : ∀ q, F q → zc_A x q) {y : MethodName} {bytes : ByteArray} {maxL : Nat} {ret : Option FieldType} {rm' : Room} {index : Nat} {As rest : List Value} (hM : zq_M (zc_l x) w F y bytes maxL ret rm' As σ P) (hq : y.cls = own) (hw : zq_gS own index y bytes maxL ret)
    (hdd : y.cls ≠ "java/lang/invoke/MethodHandle" ∧ y.cls ≠ "java/lang/invoke/VarHandle" ∧ (parseMethodDescriptor y.desc).map (fun d => d.parameters.length) = some As.length) (hRm : rm'.cells = 0 ∧ rm'.slots = 0 ∧ rm'.frames + 1 ≤ rm.frames ∧ 8 + (maxL + 11) + rm'.locals ≤ rm.locals) (hk : k ≤ rm.cells ∧ n ≤ rm.slots) (hV : V.length = nL) (hst : (rest.map fun v => v.category).sum ≤ 8) (hd : decode cc pc = .ok (.invokestatic index, 3)) (hs : st = As.reverse ++ rest)
    (kk : ∀ r σ', P r σ' → zq_W x w k n σ' (pc + 3) V (r.toList ++ rest)) : zq_W x w k n σ pc V st := by
  intro ls H locs hl hP hD hS
  subst hs
  have hR : zc_R x = rm := hG.2.2.2.2.2.2
  refine zq_go hF hl hD hS (va_runS (nL := nL) (cc := cc) (As := As) (rest := rest) ⟨hG.1, hG.2.1, hG.2.2.1, hG.2.2.2.1, hG.2.2.2.2.1⟩ hM (cwS As.length hG.2.2.2.2.1 hw.good rfl hRm.1 hRm.2.1 ⟨hq, hdd⟩ (by rw [hR]; exact ⟨hRm.2.2.1, hRm.2.2.2⟩)) ⟨zq_blind w _ σ, fun U hU hW => ⟨rfl, by rw [hU]; exact hP, va_K.moved hW.alike hG.2.2.2.2.2.1⟩⟩ rfl rfl (hl.1.trans hV) rfl (lv_room hst) hd (by rw [hR]; exact hk)) kk
theorem zr_abs (hG : zq_G x w own cc nL rm) {index : Nat} (hl1 : Cond.methodLink own index Lib.Math.abs.name ∈ zq_T) (hl2 : Cond.static Lib.Math.abs.name ∈ zq_T) (hl3 : Cond.initialized "java/lang/Math" ∈ zq_T) (hl4 : Cond.code Lib.Math.abs.name Lib.Math.abs.code 1 (some .int) ∈ zq_T) (hRm : 1 ≤ rm.frames ∧ (st.map fun v => v.category).sum + 13 ≤ rm.locals) (hk : k ≤ rm.cells ∧ n ≤ rm.slots) (hV : V.length = nL) {a : Int32} (hd : decode cc pc = .ok (.invokestatic index, 3))
    (kk : zq_W x w k n σ (pc + 3) V (.int (if 0 ≤ a then a else 0 - a) :: st)) : zq_W x w k n σ pc V (.int a :: st) := by
  intro ls H locs hl hP hD hS
  have hR : zc_R x = rm := hG.2.2.2.2.2.2
  have ht := hG.2.2.2.2.1
  exact va_mabs hG.1 hG.2.1 (hG.2.2.1.trans (hl.1.trans hV).symm) hG.2.2.2.1 (ht _ hl1) (ht _ hl2) (ht _ hl3) (ht _ hl4) (by rw [hR]; exact hRm.1) (by rw [hR]; exact hRm.2) (by rw [hR]; exact hk.1) (by rw [hR]; exact hk.2) hd (kk ls H locs hl hP hD hS)
/-- System.arraycopy within one row of ints -/
theorem zr_acp (hG : zq_G x w own cc nL rm) (hW : zq_Wr x w) {index : Nat} (hl1 : Cond.methodLink own index arraycopyName ∈ zq_T) (hl2 : Cond.native arraycopyName ∈ zq_T) (hl3 : Cond.static arraycopyName ∈ zq_T) (hl4 : Cond.initialized "java/lang/System" ∈ zq_T) (hRm : 1 ≤ rm.frames ∧ (st.map fun v => v.category).sum + (nativeFrameWords "java/lang/System" "arraycopy" 5 + 11) ≤ rm.locals) (hV : V.length = nL) (q0 : Nat) {a N : Nat} {f : Nat → Int32} (ha : (zq_w w σ)[q0]? = some (a, .inl (w.2.2.2 0, N, .inl f))) {sp dp c : Int32} (h1 : ¬ sp < 0) (h2 : ¬ dp < 0) (h3 : ¬ c < 0) (h4 : sp.toNatClampNeg + c.toNatClampNeg ≤ N) (h5 : dp.toNatClampNeg + c.toNatClampNeg ≤ N) (σ' : zG) (hσ : (zq_w w σ).set q0 (a, .inl (w.2.2.2 0, N, .inl (va_cpy f f sp.toNatClampNeg dp.toNatClampNeg c.toNatClampNeg))) = zq_w w σ') (hd : decode cc pc = .ok (.invokestatic index, 3))
    (kk : zq_W x w k n σ' (pc + 3) V st) : zq_W x w k n σ pc V (.int c :: .int dp :: .ref a :: .int sp :: .ref a :: st) := by
  intro ls H locs hl hP hD hS
  have hR : zc_R x = rm := hG.2.2.2.2.2.2
  have ht := hG.2.2.2.2.1
  exact va_copyi hG.1 hG.2.1 (hG.2.2.1.trans (hl.1.trans hV).symm) hG.2.2.2.1 (ht _ hl1) (ht _ hl2) (ht _ hl3) (ht _ hl4) hG.2.2.2.2.2.1 hP ⟨hD.1, hW σ⟩ hS q0 q0 0 0 ha ha rfl rfl rfl h1 h2 h3 h4 h5 (fun i _ => rfl) (by rw [hR]; exact hRm.1) (by rw [hR]; exact hRm.2) hd (fun H1 locs1 hP1 hD1 hS1 => kk ls H1 locs1 hl (hσ ▸ hP1) (hσ ▸ (⟨hD1.1, fun _ _ _ => trivial⟩ : va_D (fun _ => True) _)) hS1)
end ZR2
/-! loops -/
def zq_lp {α : Type} (F : (α → Prop) → α → Prop) : Nat → α → Prop
  | 0, _ => False
  | n + 1, a => F (zq_lp F n) a
def zq_Lp {α : Type} (F : (α → Prop) → α → Prop) (a : α) : Prop := ∃ n, zq_lp F n a
theorem zq_Lp_W {α : Type} {F : (α → Prop) → α → Prop} {WW : α → Prop} (hs : ∀ k : α → Prop, (∀ a, k a → WW a) → ∀ a, F k a → WW a) {a : α} (h : zq_Lp F a) : WW a := by
  obtain ⟨n, h⟩ := h
  induction n generalizing a with
  | zero => exact h.elim
  | succ n ih => exact hs _ (fun a h => ih h) a h
/-- a loop is entered with an invariant and a measure that falls -/
theorem zq_Lp_I {α : Type} {F : (α → Prop) → α → Prop} (I : α → Prop) (μ : α → Nat) (hs : ∀ (k : α → Prop) (a : α), I a → (∀ b, I b → μ b < μ a → k b) → F k a) {a : α} (h : I a) : zq_Lp F a := by
  have key : ∀ n a, μ a < n → I a → zq_lp F n a := by
    intro n
    induction n with
    | zero => intro a h; omega
    | succ n ih => exact fun a hm ha => hs _ a ha (fun b hb hlt => ih b (by omega) hb)
  exact ⟨_, key _ a (Nat.lt_succ_self _) h⟩
/-! states and answers -/
def zs_s (z : zS) (k : Nat) (v : Int32) : zS := (va_up z.1 k v, z.2)
def zs_a (z : zS) (k : Nat) (i v : Int32) : zS := (z.1, va_up z.2 k (upd (z.2 k) i.toNatClampNeg v))
def zs_r (z : zS) (k : Nat) (f : Nat → Int32) : zS := (z.1, va_up z.2 k f)
def zq_Pi (g : zS) (o : Nat → Int64) (post : Int32 → zS → Prop) : Option Value → zG → Prop := fun r σ => ∃ (v : Int32) (z : zS), r = some (.int v) ∧ σ = (z, g, o) ∧ post v z
def zq_Pv (g : zS) (o : Nat → Int64) (post : zS → Prop) : Option Value → zG → Prop := fun r σ => ∃ z : zS, r = none ∧ σ = (z, g, o) ∧ post z
def zq_Ni (g : zS) (o : Nat → Int64) (post : Int32 → zS → Prop) : Option Value → zG → Prop := fun r σ => ∃ (v : Int32) (z : zS), r = some (.int v) ∧ σ = (g, z, o) ∧ post v z
def zq_Nv (g : zS) (o : Nat → Int64) (post : zS → Prop) : Option Value → zG → Prop := fun r σ => ∃ z : zS, r = none ∧ σ = (g, z, o) ∧ post z
