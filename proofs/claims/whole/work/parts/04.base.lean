/-! The layer of this claim: a memory of numbers (address, place), ONE judgement pj_J over the kit's W, a row an instruction. -/
abbrev pj_M : Type := Nat → Nat → Int32
def pj_set (u : pj_M) (i k : Nat) (v : Int32) : pj_M := fun a => if a = i then upd (u a) k v else u a
theorem pj_set_ne {u : pj_M} {i k : Nat} {v : Int32} {a : Nat} (h : a ≠ i) : pj_set u i k v a = u a := if_neg h
theorem pj_set_eq {u : pj_M} {i k : Nat} {v : Int32} : pj_set u i k v i = upd (u i) k v := if_pos rfl
/-- effects, in the form that the walks hold them -/
def pj_put (u : pj_M) (i k : Nat) (v : Int32) (K : pj_M → Prop) : Prop := K (pj_set u i k v)
def pj_let {α : Type} (v : α) (K : α → Prop) : Prop := K v
def pj_bi (x : Int32) : Prop := x = 0 ∨ x = 1
theorem pj_bi0 : pj_bi 0 := Or.inl rfl
theorem pj_bi1 : pj_bi 1 := Or.inr rfl
theorem pj_bi.nar {x : Int32} (h : pj_bi x) : narrow .boolean (.int x) = .int x := by
  rcases h with rfl | rfl <;> decide
theorem pj_bi.fit {x : Int32} (h : pj_bi x) : fits .boolean (.int x) = true := by
  rcases h with rfl | rfl <;> decide
def pj_w (n : Nat) (f : Nat → va_E) (b : Nat) : va_W := (List.range n).map (fun i => (b + i, f i))
theorem pj_w_at {n : Nat} {f : Nat → va_E} {b i : Nat} (h : i < n) : (pj_w n f b)[i]? = some (b + i, f i) := by simp [pj_w, h]
theorem pj_w_inv {n : Nat} {f : Nat → va_E} {b i : Nat} {q : Nat × va_E} (h : (pj_w n f b)[i]? = some q) : i < n ∧ q = (b + i, f i) := by
  have hl := (List.getElem?_eq_some_iff.mp h).1
  have hl' : i < n := by simpa [pj_w] using hl
  exact ⟨hl', (Option.some.inj ((pj_w_at hl').symm.trans h)).symm⟩
theorem pj_w_D {n : Nat} {f : Nat → va_E} {b : Nat} : va_D (fun q => b ≤ q) (pj_w n f b) := by
  refine ⟨fun i j x y hi hj hxy => ?_, fun k q hk => ?_⟩
  · obtain ⟨-, rfl⟩ := pj_w_inv hi
    obtain ⟨-, rfl⟩ := pj_w_inv hj
    exact Nat.add_left_cancel hxy
  · obtain ⟨-, rfl⟩ := pj_w_inv hk
    exact Nat.le_add_right _ _
theorem pj_w_set {n : Nat} {f f' : Nat → va_E} {b i : Nat} {x : va_E} (hi : i < n) (hx : f' i = x) (ho : ∀ j, j ≠ i → f' j = f j) : (pj_w n f b).set i (b + i, x) = pj_w n f' b := by
  subst hx
  apply List.ext_getElem?
  intro k
  by_cases hk : k < n
  · rw [pj_w_at hk]
    by_cases hki : k = i
    · subst hki
      rw [List.getElem?_set_self (by simpa [pj_w] using hk)]
    · rw [List.getElem?_set_ne (Ne.symm hki), pj_w_at hk, ho k hki]
  · rw [List.getElem?_eq_none (by simp [pj_w]; omega), List.getElem?_eq_none (by simp [pj_w]; omega)]
/-- the locals by place; none: not known -/
def pj_L (ls : Array Slot) (nL : Nat) (vs : List (Option Value)) : Prop := ls.size = nL ∧ lv_wf ls ∧ ∀ (i : Nat) (v : Value), vs[i]? = some (some v) → ls[i]? = some (.val v)
def pj_lv (vs : List (Option Value)) : List (Nat × Value) := (List.range vs.length).filterMap (fun i => (vs.getD i none).map (fun v => (i, v)))
theorem pj_lv_mem {vs : List (Option Value)} {i : Nat} {v : Value} : (i, v) ∈ pj_lv vs ↔ vs[i]? = some (some v) := by
  unfold pj_lv
  rw [List.mem_filterMap]
  constructor
  · rintro ⟨j, -, h⟩
    cases hj : vs[j]? with
    | none => simp [List.getD_eq_getElem?_getD, hj] at h
    | some o =>
      cases o with
      | none => simp [List.getD_eq_getElem?_getD, hj] at h
      | some w =>
        simp [List.getD_eq_getElem?_getD, hj] at h
        obtain ⟨rfl, rfl⟩ := h
        exact hj
  · intro h
    exact ⟨i, List.mem_range.mpr (List.getElem?_eq_some_iff.mp h).1, by simp [List.getD_eq_getElem?_getD, h]⟩
def pj_lo (vs : List (Option Value)) (i : Nat) : Bool := match i with
  | 0 => true
  | k + 1 => match vs[k]? with
    | some (some v) => v.category == 1
    | _ => true
theorem pj_L.has {ls : Array Slot} {nL : Nat} {vs : List (Option Value)} (h : pj_L ls nL vs) : lv_has ls nL (pj_lv vs) := ⟨h.1, h.2.1, fun q hq => h.2.2 q.1 q.2 (pj_lv_mem.mp hq)⟩
theorem pj_L.back {ls : Array Slot} {nL i : Nat} {vs : List (Option Value)} {x : Value} (hi : i < vs.length) (hc : pj_lo vs i = true) (h : lv_has ls nL ((i, x) :: (pj_lv vs).filter (fun q => !(q.1 == i) && !(q.1 + 1 == i && q.2.category == 2)))) : pj_L ls nL (vs.set i (some x)) := by
  refine ⟨h.1, h.2.1, fun j v hj => ?_⟩
  by_cases e : j = i
  · subst e
    rw [List.getElem?_set_self hi] at hj
    cases hj
    exact h.2.2 (j, x) List.mem_cons_self
  · rw [List.getElem?_set_ne (Ne.symm e)] at hj
    refine h.2.2 (j, v) (List.mem_cons_of_mem _ (List.mem_filter.mpr ⟨pj_lv_mem.mpr hj, ?_⟩))
    have h2 : (j + 1 == i && v.category == 2) = false := by
      by_cases e2 : j + 1 = i
      · subst e2
        simp only [pj_lo, hj] at hc
        have h3 : v.category = 1 := by simpa using hc
        simp [h3]
      · simp [e2]
    show (!(j == i) && !(j + 1 == i && v.category == 2)) = true
    rw [h2]
    simp [e]

abbrev pj_G : Type := Program × Launch × Env × Room × State × MethodId × Array Value × List Frame × Method × Code × va_G × (Nat → ClassId) × (State → Prop) × Nat × Nat
def pj_Qc (D : va_G) (E : Nat → ClassId) (b : Nat) (post : Option Value → pj_M → Prop) : Array Value → State → Outcome → State → Prop := fun _ st oc t => (∃ (v : Option Value) (u : pj_M), oc = .returned v ∧ post v u ∧ va_P D pj_cl (pj_w pj_n (pj_c E b u) b) t.heap) ∧ va_F (fun q => b ≤ q) st t
def pj_Pc (D : va_G) (E : Nat → ClassId) (b : Nat) (av : List Value) (u : pj_M) : Array Value → State → Prop := va_Pc av (fun U => va_P D pj_cl (pj_w pj_n (pj_c E b u) b) U.heap ∧ va_K D pj_cl (pj_tys E) U)
/-- what a walk stands on -/
def pj_X (g : pj_G) (cc : ByteArray) (nL : Nat) (own : String) (ret : Option FieldType) (rm : Room) : Prop := match g with
  | (p, _, _, R, s, m, args, _, meth, c, D, E, _, mc, ms) => CallFix p m c cc nL s args pj_W own ∧ meth.sig.returnType = ret ∧ meth.locks = false ∧ va_K D pj_cl (pj_tys E) s ∧ R = rm ∧ mc ≤ R.cells ∧ ms ≤ R.slots
def pj_J (g : pj_G) (Ψ : Heap → List Loc → Prop) (pc : Nat) (vs : List (Option Value)) (st : List Value) : Prop := match g with
  | (p, l, e, R, s, m, args, below, meth, c, _, _, Q, mc, ms) => ∀ (H : Heap) (locs : List Loc) (ls : Array Slot), pj_L ls c.maxLocals vs → Ψ H locs → W p l e R s m args below meth c H locs mc ms Q (F0 m pc ls st)
/-- the heap holds the memory u from the cell b on; below b nothing has changed -/
def pj_N (g : pj_G) (b : Nat) (u : pj_M) : Heap → List Loc → Prop := match g with
  | (_, _, _, _, s, _, _, _, _, _, D, E, _, _, _) => fun H locs => va_P D pj_cl (pj_w pj_n (pj_c E b u) b) H ∧ va_S (fun q => b ≤ q) s.heap H locs
/-- the walk's end is a contract's end -/
def pj_E (g : pj_G) (b : Nat) (post : Option Value → pj_M → Prop) : Prop := match g with
  | (_, _, _, _, s, _, args, below, _, _, D, E, Q, mc, ms) => Q = MQ below (pj_Qc D E b post) args s 0 0 (fun q => b ≤ q) ∧ mc = 0 ∧ ms = 0
section PJ
variable {g : pj_G} {b : Nat} {Ψ : Heap → List Loc → Prop} {cc : ByteArray} {nL : Nat} {own : String} {ret : Option FieldType} {rm : Room} {u : pj_M} {pc pc' : Nat} {vs : List (Option Value)} {st : List Value}
theorem pj_iconst (C : pj_X g cc nL own ret rm) {n : Int} {v : Int32} (hdg : decode cc pc = .ok (.iconst n, 1)) (hp : pc + 1 = pc') (hv : Int32.ofInt n = v) (k : pj_J g Ψ pc' vs (.int v :: st)) : pj_J g Ψ pc vs (st) := by
  obtain ⟨p, l, e, R, s, m, args, below, meth, c, D, E, Q, mc, ms⟩ := g
  subst hp
  intro H locs ls hl hh
  exact lv_iconst C.1.1 C.1.2.1 hdg hv (k H locs ls hl hh)
theorem pj_bipush (C : pj_X g cc nL own ret rm) {n : Int} {v : Int32} (hdg : decode cc pc = .ok (.bipush n, 2)) (hp : pc + 2 = pc') (hv : (Int8.ofInt n).toInt32 = v) (k : pj_J g Ψ pc' vs (.int v :: st)) : pj_J g Ψ pc vs (st) := by
  obtain ⟨p, l, e, R, s, m, args, below, meth, c, D, E, Q, mc, ms⟩ := g
  subst hp
  intro H locs ls hl hh
  exact lv_bipush C.1.1 C.1.2.1 hdg hv (k H locs ls hl hh)
theorem pj_sipush (C : pj_X g cc nL own ret rm) {n : Int} {v : Int32} (hdg : decode cc pc = .ok (.sipush n, 3)) (hp : pc + 3 = pc') (hv : (Int16.ofInt n).toInt32 = v) (k : pj_J g Ψ pc' vs (.int v :: st)) : pj_J g Ψ pc vs (st) := by
  obtain ⟨p, l, e, R, s, m, args, below, meth, c, D, E, Q, mc, ms⟩ := g
  subst hp
  intro H locs ls hl hh
  exact lv_sipush C.1.1 C.1.2.1 hdg hv (k H locs ls hl hh)
theorem pj_ldc (C : pj_X g cc nL own ret rm) {idx : Nat} {v : Int32} (hdg : decode cc pc = .ok (.ldc idx, 2)) (hp : pc + 2 = pc') (hw : Cond.constant own idx v ∈ pj_W) (k : pj_J g Ψ pc' vs (.int v :: st)) : pj_J g Ψ pc vs (st) := by
  obtain ⟨p, l, e, R, s, m, args, below, meth, c, D, E, Q, mc, ms⟩ := g
  subst hp
  intro H locs ls hl hh
  exact lv_ldc C.1.1 C.1.2.1 C.1.2.2.2.1 (C.1.2.2.2.2 _ hw) hdg (k H locs ls hl hh)
theorem pj_ldcw (C : pj_X g cc nL own ret rm) {idx : Nat} {v : Int32} (hdg : decode cc pc = .ok (.ldc_w idx, 3)) (hp : pc + 3 = pc') (hw : Cond.constant own idx v ∈ pj_W) (k : pj_J g Ψ pc' vs (.int v :: st)) : pj_J g Ψ pc vs (st) := by
  obtain ⟨p, l, e, R, s, m, args, below, meth, c, D, E, Q, mc, ms⟩ := g
  subst hp
  intro H locs ls hl hh
  exact lv_ldcw C.1.1 C.1.2.1 C.1.2.2.2.1 (C.1.2.2.2.2 _ hw) hdg (k H locs ls hl hh)
theorem pj_ldc2 (C : pj_X g cc nL own ret rm) {idx : Nat} {v : Int64} (hdg : decode cc pc = .ok (.ldc2_w idx, 3)) (hp : pc + 3 = pc') (hw : Cond.constantLong own idx v ∈ pj_W) (k : pj_J g Ψ pc' vs (.long v :: st)) : pj_J g Ψ pc vs (st) := by
  obtain ⟨p, l, e, R, s, m, args, below, meth, c, D, E, Q, mc, ms⟩ := g
  subst hp
  intro H locs ls hl hh
  exact lv_ldc2 C.1.1 C.1.2.1 C.1.2.2.2.1 (C.1.2.2.2.2 _ hw) hdg (k H locs ls hl hh)
theorem pj_iload_n (C : pj_X g cc nL own ret rm) {k : Fin 4} {i : Nat} {x : Int32} (hdg : decode cc pc = .ok (.iload_n k, 1)) (hp : pc + 1 = pc') (hi : (k : Nat) = i) (hv : vs[i]? = some (some (.int x))) (k : pj_J g Ψ pc' vs (.int x :: st)) : pj_J g Ψ pc vs (st) := by
  obtain ⟨p, l, e, R, s, m, args, below, meth, c, D, E, Q, mc, ms⟩ := g
  subst hp
  intro H locs ls hl hh
  exact lv_iload_n C.1.1 C.1.2.1 hdg hi (hl.2.2 _ _ hv) (k H locs ls hl hh)
theorem pj_iload (C : pj_X g cc nL own ret rm) {i : Nat} {x : Int32} (hdg : decode cc pc = .ok (.iload i, 2)) (hp : pc + 2 = pc') (hv : vs[i]? = some (some (.int x))) (k : pj_J g Ψ pc' vs (.int x :: st)) : pj_J g Ψ pc vs (st) := by
  obtain ⟨p, l, e, R, s, m, args, below, meth, c, D, E, Q, mc, ms⟩ := g
  subst hp
  intro H locs ls hl hh
  exact lv_iload C.1.1 C.1.2.1 hdg (hl.2.2 _ _ hv) (k H locs ls hl hh)
theorem pj_lload_n (C : pj_X g cc nL own ret rm) {k : Fin 4} {i : Nat} {x : Int64} (hdg : decode cc pc = .ok (.lload_n k, 1)) (hp : pc + 1 = pc') (hi : (k : Nat) = i) (hv : vs[i]? = some (some (.long x))) (k : pj_J g Ψ pc' vs (.long x :: st)) : pj_J g Ψ pc vs (st) := by
  obtain ⟨p, l, e, R, s, m, args, below, meth, c, D, E, Q, mc, ms⟩ := g
  subst hp
  intro H locs ls hl hh
  exact lv_lload_n C.1.1 C.1.2.1 hdg hi (hl.2.2 _ _ hv) (k H locs ls hl hh)
theorem pj_lload (C : pj_X g cc nL own ret rm) {i : Nat} {x : Int64} (hdg : decode cc pc = .ok (.lload i, 2)) (hp : pc + 2 = pc') (hv : vs[i]? = some (some (.long x))) (k : pj_J g Ψ pc' vs (.long x :: st)) : pj_J g Ψ pc vs (st) := by
  obtain ⟨p, l, e, R, s, m, args, below, meth, c, D, E, Q, mc, ms⟩ := g
  subst hp
  intro H locs ls hl hh
  exact lv_lload C.1.1 C.1.2.1 hdg (hl.2.2 _ _ hv) (k H locs ls hl hh)
theorem pj_aload_n (C : pj_X g cc nL own ret rm) {k : Fin 4} {i : Nat} {x : Nat} (hdg : decode cc pc = .ok (.aload_n k, 1)) (hp : pc + 1 = pc') (hi : (k : Nat) = i) (hv : vs[i]? = some (some (.ref x))) (k : pj_J g Ψ pc' vs (.ref x :: st)) : pj_J g Ψ pc vs (st) := by
  obtain ⟨p, l, e, R, s, m, args, below, meth, c, D, E, Q, mc, ms⟩ := g
  subst hp
  intro H locs ls hl hh
  exact lv_aload_n C.1.1 C.1.2.1 hdg hi (hl.2.2 _ _ hv) (k H locs ls hl hh)
theorem pj_aload (C : pj_X g cc nL own ret rm) {i : Nat} {x : Nat} (hdg : decode cc pc = .ok (.aload i, 2)) (hp : pc + 2 = pc') (hv : vs[i]? = some (some (.ref x))) (k : pj_J g Ψ pc' vs (.ref x :: st)) : pj_J g Ψ pc vs (st) := by
  obtain ⟨p, l, e, R, s, m, args, below, meth, c, D, E, Q, mc, ms⟩ := g
  subst hp
  intro H locs ls hl hh
  exact lv_aload C.1.1 C.1.2.1 hdg (hl.2.2 _ _ hv) (k H locs ls hl hh)
theorem pj_aload_nN (C : pj_X g cc nL own ret rm) {k : Fin 4} {i : Nat} (hdg : decode cc pc = .ok (.aload_n k, 1)) (hp : pc + 1 = pc') (hi : (k : Nat) = i) (hv : vs[i]? = some (some .null)) (k : pj_J g Ψ pc' vs (.null :: st)) : pj_J g Ψ pc vs (st) := by
  obtain ⟨p, l, e, R, s, m, args, below, meth, c, D, E, Q, mc, ms⟩ := g
  subst hp
  intro H locs ls hl hh
  exact lv_aload_nN C.1.1 C.1.2.1 hdg hi (hl.2.2 _ _ hv) (k H locs ls hl hh)
theorem pj_aloadN (C : pj_X g cc nL own ret rm) {i : Nat} (hdg : decode cc pc = .ok (.aload i, 2)) (hp : pc + 2 = pc') (hv : vs[i]? = some (some .null)) (k : pj_J g Ψ pc' vs (.null :: st)) : pj_J g Ψ pc vs (st) := by
  obtain ⟨p, l, e, R, s, m, args, below, meth, c, D, E, Q, mc, ms⟩ := g
  subst hp
  intro H locs ls hl hh
  exact lv_aloadN C.1.1 C.1.2.1 hdg (hl.2.2 _ _ hv) (k H locs ls hl hh)
theorem pj_null (C : pj_X g cc nL own ret rm)  (hdg : decode cc pc = .ok (.aconst_null, 1)) (hp : pc + 1 = pc')  (k : pj_J g Ψ pc' vs (.null :: st)) : pj_J g Ψ pc vs (st) := by
  obtain ⟨p, l, e, R, s, m, args, below, meth, c, D, E, Q, mc, ms⟩ := g
  subst hp
  intro H locs ls hl hh
  exact lv_null C.1.1 C.1.2.1 hdg (k H locs ls hl hh)
theorem pj_iadd (C : pj_X g cc nL own ret rm) {x y : Int32} (hdg : decode cc pc = .ok (.iadd, 1)) (hp : pc + 1 = pc')  (k : pj_J g Ψ pc' vs (.int (x + y) :: st)) : pj_J g Ψ pc vs (.int y :: .int x :: st) := by
  obtain ⟨p, l, e, R, s, m, args, below, meth, c, D, E, Q, mc, ms⟩ := g
  subst hp
  intro H locs ls hl hh
  exact lv_iadd C.1.1 C.1.2.1 hdg (k H locs ls hl hh)
theorem pj_isub (C : pj_X g cc nL own ret rm) {x y : Int32} (hdg : decode cc pc = .ok (.isub, 1)) (hp : pc + 1 = pc')  (k : pj_J g Ψ pc' vs (.int (x - y) :: st)) : pj_J g Ψ pc vs (.int y :: .int x :: st) := by
  obtain ⟨p, l, e, R, s, m, args, below, meth, c, D, E, Q, mc, ms⟩ := g
  subst hp
  intro H locs ls hl hh
  exact lv_isub C.1.1 C.1.2.1 hdg (k H locs ls hl hh)
theorem pj_imul (C : pj_X g cc nL own ret rm) {x y : Int32} (hdg : decode cc pc = .ok (.imul, 1)) (hp : pc + 1 = pc')  (k : pj_J g Ψ pc' vs (.int (x * y) :: st)) : pj_J g Ψ pc vs (.int y :: .int x :: st) := by
  obtain ⟨p, l, e, R, s, m, args, below, meth, c, D, E, Q, mc, ms⟩ := g
  subst hp
  intro H locs ls hl hh
  exact lv_imul C.1.1 C.1.2.1 hdg (k H locs ls hl hh)
theorem pj_iand (C : pj_X g cc nL own ret rm) {x y : Int32} (hdg : decode cc pc = .ok (.iand, 1)) (hp : pc + 1 = pc')  (k : pj_J g Ψ pc' vs (.int (x &&& y) :: st)) : pj_J g Ψ pc vs (.int y :: .int x :: st) := by
  obtain ⟨p, l, e, R, s, m, args, below, meth, c, D, E, Q, mc, ms⟩ := g
  subst hp
  intro H locs ls hl hh
  exact lv_iand C.1.1 C.1.2.1 hdg (k H locs ls hl hh)
theorem pj_ior (C : pj_X g cc nL own ret rm) {x y : Int32} (hdg : decode cc pc = .ok (.ior, 1)) (hp : pc + 1 = pc')  (k : pj_J g Ψ pc' vs (.int (x ||| y) :: st)) : pj_J g Ψ pc vs (.int y :: .int x :: st) := by
  obtain ⟨p, l, e, R, s, m, args, below, meth, c, D, E, Q, mc, ms⟩ := g
  subst hp
  intro H locs ls hl hh
  exact lv_ior C.1.1 C.1.2.1 hdg (k H locs ls hl hh)
theorem pj_ixor (C : pj_X g cc nL own ret rm) {x y : Int32} (hdg : decode cc pc = .ok (.ixor, 1)) (hp : pc + 1 = pc')  (k : pj_J g Ψ pc' vs (.int (x ^^^ y) :: st)) : pj_J g Ψ pc vs (.int y :: .int x :: st) := by
  obtain ⟨p, l, e, R, s, m, args, below, meth, c, D, E, Q, mc, ms⟩ := g
  subst hp
  intro H locs ls hl hh
  exact lv_ixor C.1.1 C.1.2.1 hdg (k H locs ls hl hh)
theorem pj_ishl (C : pj_X g cc nL own ret rm) {x y : Int32} (hdg : decode cc pc = .ok (.ishl, 1)) (hp : pc + 1 = pc')  (k : pj_J g Ψ pc' vs (.int (x <<< (y &&& 31)) :: st)) : pj_J g Ψ pc vs (.int y :: .int x :: st) := by
  obtain ⟨p, l, e, R, s, m, args, below, meth, c, D, E, Q, mc, ms⟩ := g
  subst hp
  intro H locs ls hl hh
  exact lv_ishl C.1.1 C.1.2.1 hdg (k H locs ls hl hh)
theorem pj_ishr (C : pj_X g cc nL own ret rm) {x y : Int32} (hdg : decode cc pc = .ok (.ishr, 1)) (hp : pc + 1 = pc')  (k : pj_J g Ψ pc' vs (.int (x >>> (y &&& 31)) :: st)) : pj_J g Ψ pc vs (.int y :: .int x :: st) := by
  obtain ⟨p, l, e, R, s, m, args, below, meth, c, D, E, Q, mc, ms⟩ := g
  subst hp
  intro H locs ls hl hh
  exact lv_ishr C.1.1 C.1.2.1 hdg (k H locs ls hl hh)
theorem pj_iushr (C : pj_X g cc nL own ret rm) {x y : Int32} (hdg : decode cc pc = .ok (.iushr, 1)) (hp : pc + 1 = pc')  (k : pj_J g Ψ pc' vs (.int (x.toUInt32 >>> (y.toUInt32 &&& Int32.toUInt32 31)).toInt32 :: st)) : pj_J g Ψ pc vs (.int y :: .int x :: st) := by
  obtain ⟨p, l, e, R, s, m, args, below, meth, c, D, E, Q, mc, ms⟩ := g
  subst hp
  intro H locs ls hl hh
  exact lv_iushr C.1.1 C.1.2.1 hdg rfl (k H locs ls hl hh)
theorem pj_irem (C : pj_X g cc nL own ret rm) {x y : Int32} (hdg : decode cc pc = .ok (.irem, 1)) (hp : pc + 1 = pc') (hne : ¬ y = 0) (k : pj_J g Ψ pc' vs (.int (x - x / y * y) :: st)) : pj_J g Ψ pc vs (.int y :: .int x :: st) := by
  obtain ⟨p, l, e, R, s, m, args, below, meth, c, D, E, Q, mc, ms⟩ := g
  subst hp
  intro H locs ls hl hh
  exact lv_irem C.1.1 C.1.2.1 hdg hne (k H locs ls hl hh)
theorem pj_ineg (C : pj_X g cc nL own ret rm) {x : Int32} (hdg : decode cc pc = .ok (.ineg, 1)) (hp : pc + 1 = pc')  (k : pj_J g Ψ pc' vs (.int (-x) :: st)) : pj_J g Ψ pc vs (.int x :: st) := by
  obtain ⟨p, l, e, R, s, m, args, below, meth, c, D, E, Q, mc, ms⟩ := g
  subst hp
  intro H locs ls hl hh
  exact lv_ineg C.1.1 C.1.2.1 hdg (k H locs ls hl hh)
theorem pj_i2l (C : pj_X g cc nL own ret rm) {x : Int32} (hdg : decode cc pc = .ok (.i2l, 1)) (hp : pc + 1 = pc')  (k : pj_J g Ψ pc' vs (.long x.toInt64 :: st)) : pj_J g Ψ pc vs (.int x :: st) := by
  obtain ⟨p, l, e, R, s, m, args, below, meth, c, D, E, Q, mc, ms⟩ := g
  subst hp
  intro H locs ls hl hh
  exact lv_i2l C.1.1 C.1.2.1 hdg rfl (k H locs ls hl hh)
theorem pj_l2i (C : pj_X g cc nL own ret rm) {x : Int64} (hdg : decode cc pc = .ok (.l2i, 1)) (hp : pc + 1 = pc')  (k : pj_J g Ψ pc' vs (.int x.toInt32 :: st)) : pj_J g Ψ pc vs (.long x :: st) := by
  obtain ⟨p, l, e, R, s, m, args, below, meth, c, D, E, Q, mc, ms⟩ := g
  subst hp
  intro H locs ls hl hh
  exact lv_l2i C.1.1 C.1.2.1 hdg rfl (k H locs ls hl hh)
theorem pj_lushr (C : pj_X g cc nL own ret rm) {x : Int64} {y : Int32} (hdg : decode cc pc = .ok (.lushr, 1)) (hp : pc + 1 = pc')  (k : pj_J g Ψ pc' vs (.long (x.toUInt64 >>> (y.toInt64.toUInt64 &&& Int64.toUInt64 63)).toInt64 :: st)) : pj_J g Ψ pc vs (.int y :: .long x :: st) := by
  obtain ⟨p, l, e, R, s, m, args, below, meth, c, D, E, Q, mc, ms⟩ := g
  subst hp
  intro H locs ls hl hh
  exact lv_lushr C.1.1 C.1.2.1 hdg rfl (k H locs ls hl hh)
theorem pj_lshl (C : pj_X g cc nL own ret rm) {x : Int64} {y : Int32} (hdg : decode cc pc = .ok (.lshl, 1)) (hp : pc + 1 = pc')  (k : pj_J g Ψ pc' vs (.long (x <<< (y.toInt64 &&& 63)) :: st)) : pj_J g Ψ pc vs (.int y :: .long x :: st) := by
  obtain ⟨p, l, e, R, s, m, args, below, meth, c, D, E, Q, mc, ms⟩ := g
  subst hp
  intro H locs ls hl hh
  exact lv_lshl C.1.1 C.1.2.1 hdg rfl (k H locs ls hl hh)
theorem pj_land (C : pj_X g cc nL own ret rm) {x y : Int64} (hdg : decode cc pc = .ok (.land, 1)) (hp : pc + 1 = pc')  (k : pj_J g Ψ pc' vs (.long (x &&& y) :: st)) : pj_J g Ψ pc vs (.long y :: .long x :: st) := by
  obtain ⟨p, l, e, R, s, m, args, below, meth, c, D, E, Q, mc, ms⟩ := g
  subst hp
  intro H locs ls hl hh
  exact lv_land C.1.1 C.1.2.1 hdg (k H locs ls hl hh)
theorem pj_lor (C : pj_X g cc nL own ret rm) {x y : Int64} (hdg : decode cc pc = .ok (.lor, 1)) (hp : pc + 1 = pc')  (k : pj_J g Ψ pc' vs (.long (x ||| y) :: st)) : pj_J g Ψ pc vs (.long y :: .long x :: st) := by
  obtain ⟨p, l, e, R, s, m, args, below, meth, c, D, E, Q, mc, ms⟩ := g
  subst hp
  intro H locs ls hl hh
  exact lv_lor C.1.1 C.1.2.1 hdg (k H locs ls hl hh)
theorem pj_dup (C : pj_X g cc nL own ret rm) {va : Value} (hdg : decode cc pc = .ok (.dup, 1)) (hp : pc + 1 = pc') (hva : va.category = 1) (k : pj_J g Ψ pc' vs (va :: va :: st)) : pj_J g Ψ pc vs (va :: st) := by
  obtain ⟨p, l, e, R, s, m, args, below, meth, c, D, E, Q, mc, ms⟩ := g
  subst hp
  intro H locs ls hl hh
  exact lv_dup C.1.1 C.1.2.1 hdg hva (k H locs ls hl hh)
theorem pj_pop (C : pj_X g cc nL own ret rm) {va : Value} (hdg : decode cc pc = .ok (.pop, 1)) (hp : pc + 1 = pc') (hva : va.category = 1) (k : pj_J g Ψ pc' vs (st)) : pj_J g Ψ pc vs (va :: st) := by
  obtain ⟨p, l, e, R, s, m, args, below, meth, c, D, E, Q, mc, ms⟩ := g
  subst hp
  intro H locs ls hl hh
  exact lv_pop C.1.1 C.1.2.1 hdg hva (k H locs ls hl hh)
theorem pj_dup_x1 (C : pj_X g cc nL own ret rm) {va vb : Value} (hdg : decode cc pc = .ok (.dup_x1, 1)) (hp : pc + 1 = pc') (hva : va.category = 1) (hvb : vb.category = 1) (k : pj_J g Ψ pc' vs (va :: vb :: va :: st)) : pj_J g Ψ pc vs (va :: vb :: st) := by
  obtain ⟨p, l, e, R, s, m, args, below, meth, c, D, E, Q, mc, ms⟩ := g
  subst hp
  intro H locs ls hl hh
  exact lv_dup_x1 C.1.1 C.1.2.1 hdg hva hvb (k H locs ls hl hh)
theorem pj_dup_x2 (C : pj_X g cc nL own ret rm) {va vb vd : Value} (hdg : decode cc pc = .ok (.dup_x2, 1)) (hp : pc + 1 = pc') (hva : va.category = 1) (hvb : vb.category = 1) (hvd : vd.category = 1) (k : pj_J g Ψ pc' vs (va :: vb :: vd :: va :: st)) : pj_J g Ψ pc vs (va :: vb :: vd :: st) := by
  obtain ⟨p, l, e, R, s, m, args, below, meth, c, D, E, Q, mc, ms⟩ := g
  subst hp
  intro H locs ls hl hh
  exact lv_dup_x2 C.1.1 C.1.2.1 hdg hva hvb hvd (k H locs ls hl hh)
theorem pj_dup2_11 (C : pj_X g cc nL own ret rm) {va vb : Value} (hdg : decode cc pc = .ok (.dup2, 1)) (hp : pc + 1 = pc') (hva : va.category = 1) (hvb : vb.category = 1) (k : pj_J g Ψ pc' vs (va :: vb :: va :: vb :: st)) : pj_J g Ψ pc vs (va :: vb :: st) := by
  obtain ⟨p, l, e, R, s, m, args, below, meth, c, D, E, Q, mc, ms⟩ := g
  subst hp
  intro H locs ls hl hh
  exact lv_dup2_11 C.1.1 C.1.2.1 hdg hva hvb (k H locs ls hl hh)
theorem pj_istore_n (C : pj_X g cc nL own ret rm) {k : Fin 4} {i : Nat} {x : Int32} {vs' : List (Option Value)} (hdg : decode cc pc = .ok (.istore_n k, 1)) (hp : pc + 1 = pc') (hi : (k : Nat) = i) (hn : i < nL) (hv : i < vs.length) (hc : pj_lo vs i = true) (hs : vs.set i (some (.int x)) = vs') (kk : pj_J g Ψ pc' vs' st) : pj_J g Ψ pc vs (.int x :: st) := by
  obtain ⟨p, l, e, R, s, m, args, below, meth, c, D, E, Q, mc, ms⟩ := g
  subst hp
  subst hs
  intro H locs ls hl hh
  exact lv_istore_n C.1.1 C.1.2.1 hdg hi hl.has (by rw [C.1.2.2.1]; exact hn) rfl (fun ls' h' => kk H locs ls' (pj_L.back hv hc h') hh)
theorem pj_istore (C : pj_X g cc nL own ret rm) {i : Nat} {x : Int32} {vs' : List (Option Value)} (hdg : decode cc pc = .ok (.istore i, 2)) (hp : pc + 2 = pc') (hn : i < nL) (hv : i < vs.length) (hc : pj_lo vs i = true) (hs : vs.set i (some (.int x)) = vs') (kk : pj_J g Ψ pc' vs' st) : pj_J g Ψ pc vs (.int x :: st) := by
  obtain ⟨p, l, e, R, s, m, args, below, meth, c, D, E, Q, mc, ms⟩ := g
  subst hp
  subst hs
  intro H locs ls hl hh
  exact lv_istore C.1.1 C.1.2.1 hdg hl.has (by rw [C.1.2.2.1]; exact hn) rfl (fun ls' h' => kk H locs ls' (pj_L.back hv hc h') hh)
theorem pj_astore_n (C : pj_X g cc nL own ret rm) {k : Fin 4} {i : Nat} {x : Nat} {vs' : List (Option Value)} (hdg : decode cc pc = .ok (.astore_n k, 1)) (hp : pc + 1 = pc') (hi : (k : Nat) = i) (hn : i < nL) (hv : i < vs.length) (hc : pj_lo vs i = true) (hs : vs.set i (some (.ref x)) = vs') (kk : pj_J g Ψ pc' vs' st) : pj_J g Ψ pc vs (.ref x :: st) := by
  obtain ⟨p, l, e, R, s, m, args, below, meth, c, D, E, Q, mc, ms⟩ := g
  subst hp
  subst hs
  intro H locs ls hl hh
  exact lv_astore_n C.1.1 C.1.2.1 hdg hi hl.has (by rw [C.1.2.2.1]; exact hn) rfl (fun ls' h' => kk H locs ls' (pj_L.back hv hc h') hh)
theorem pj_astore (C : pj_X g cc nL own ret rm) {i : Nat} {x : Nat} {vs' : List (Option Value)} (hdg : decode cc pc = .ok (.astore i, 2)) (hp : pc + 2 = pc') (hn : i < nL) (hv : i < vs.length) (hc : pj_lo vs i = true) (hs : vs.set i (some (.ref x)) = vs') (kk : pj_J g Ψ pc' vs' st) : pj_J g Ψ pc vs (.ref x :: st) := by
  obtain ⟨p, l, e, R, s, m, args, below, meth, c, D, E, Q, mc, ms⟩ := g
  subst hp
  subst hs
  intro H locs ls hl hh
  exact lv_astore C.1.1 C.1.2.1 hdg hl.has (by rw [C.1.2.2.1]; exact hn) rfl (fun ls' h' => kk H locs ls' (pj_L.back hv hc h') hh)
theorem pj_astore_nN (C : pj_X g cc nL own ret rm) {k : Fin 4} {i : Nat}  {vs' : List (Option Value)} (hdg : decode cc pc = .ok (.astore_n k, 1)) (hp : pc + 1 = pc') (hi : (k : Nat) = i) (hn : i < nL) (hv : i < vs.length) (hc : pj_lo vs i = true) (hs : vs.set i (some (.null)) = vs') (kk : pj_J g Ψ pc' vs' st) : pj_J g Ψ pc vs (.null :: st) := by
  obtain ⟨p, l, e, R, s, m, args, below, meth, c, D, E, Q, mc, ms⟩ := g
  subst hp
  subst hs
  intro H locs ls hl hh
  exact lv_astore_nN C.1.1 C.1.2.1 hdg hi hl.has (by rw [C.1.2.2.1]; exact hn) rfl (fun ls' h' => kk H locs ls' (pj_L.back hv hc h') hh)
theorem pj_astoreN (C : pj_X g cc nL own ret rm) {i : Nat}  {vs' : List (Option Value)} (hdg : decode cc pc = .ok (.astore i, 2)) (hp : pc + 2 = pc') (hn : i < nL) (hv : i < vs.length) (hc : pj_lo vs i = true) (hs : vs.set i (some (.null)) = vs') (kk : pj_J g Ψ pc' vs' st) : pj_J g Ψ pc vs (.null :: st) := by
  obtain ⟨p, l, e, R, s, m, args, below, meth, c, D, E, Q, mc, ms⟩ := g
  subst hp
  subst hs
  intro H locs ls hl hh
  exact lv_astoreN C.1.1 C.1.2.1 hdg hl.has (by rw [C.1.2.2.1]; exact hn) rfl (fun ls' h' => kk H locs ls' (pj_L.back hv hc h') hh)
theorem pj_iinc (C : pj_X g cc nL own ret rm) {i : Nat} {n : Int} {x d : Int32} {vs' : List (Option Value)} (hdg : decode cc pc = .ok (.iinc i n, 3)) (hp : pc + 3 = pc') (hg : vs[i]? = some (some (.int x))) (hn : i < nL) (hc : pj_lo vs i = true) (hv : Int32.ofInt n = d) (hs : vs.set i (some (.int (x + d))) = vs') (kk : pj_J g Ψ pc' vs' st) : pj_J g Ψ pc vs st := by
  obtain ⟨p, l, e, R, s, m, args, below, meth, c, D, E, Q, mc, ms⟩ := g
  subst hp
  subst hs
  intro H locs ls hl hh
  obtain ⟨k, hk⟩ := List.getElem?_of_mem (pj_lv_mem.mpr hg)
  exact lv_iinc C.1.1 C.1.2.1 hdg hl.has hk (by rw [hv]) (by rw [C.1.2.2.1]; exact hn) rfl (fun ls' h' => kk H locs ls' (pj_L.back (List.getElem?_eq_some_iff.mp hg).1 hc h') hh)
theorem pj_if_eq (C : pj_X g cc nL own ret rm) {x : Int32} {off : Int} {tgt : Nat} {A B : Prop} (hdg : decode cc pc = .ok (.ifCond .eq off, 3)) (hp : pc + 3 = pc') (ht : (pc : Int) + off = (tgt : Int)) (h : ((x = 0) → A) ∧ (¬ (x = 0) → B)) (kt : A → pj_J g Ψ tgt vs st) (kf : B → pj_J g Ψ pc' vs st) : pj_J g Ψ pc vs (.int x :: st) := by
  obtain ⟨p, l, e, R, s, m, args, below, meth, c, D, E, Q, mc, ms⟩ := g
  subst hp
  intro H locs ls hl hh
  exact lv_if_eq C.1.1 C.1.2.1 hdg ht (fun z => kt (h.1 z) H locs ls hl hh) (fun z => kf (h.2 z) H locs ls hl hh)
theorem pj_icmp_eq (C : pj_X g cc nL own ret rm) {x y : Int32} {off : Int} {tgt : Nat} {A B : Prop} (hdg : decode cc pc = .ok (.if_icmp .eq off, 3)) (hp : pc + 3 = pc') (ht : (pc : Int) + off = (tgt : Int)) (h : ((x = y) → A) ∧ (¬ (x = y) → B)) (kt : A → pj_J g Ψ tgt vs st) (kf : B → pj_J g Ψ pc' vs st) : pj_J g Ψ pc vs (.int y :: .int x :: st) := by
  obtain ⟨p, l, e, R, s, m, args, below, meth, c, D, E, Q, mc, ms⟩ := g
  subst hp
  intro H locs ls hl hh
  exact lv_icmp_eq C.1.1 C.1.2.1 hdg ht (fun z => kt (h.1 z) H locs ls hl hh) (fun z => kf (h.2 z) H locs ls hl hh)
theorem pj_if_ne (C : pj_X g cc nL own ret rm) {x : Int32} {off : Int} {tgt : Nat} {A B : Prop} (hdg : decode cc pc = .ok (.ifCond .ne off, 3)) (hp : pc + 3 = pc') (ht : (pc : Int) + off = (tgt : Int)) (h : ((x = 0) → B) ∧ (¬ (x = 0) → A)) (kt : A → pj_J g Ψ tgt vs st) (kf : B → pj_J g Ψ pc' vs st) : pj_J g Ψ pc vs (.int x :: st) := by
  obtain ⟨p, l, e, R, s, m, args, below, meth, c, D, E, Q, mc, ms⟩ := g
  subst hp
  intro H locs ls hl hh
  exact lv_if_ne C.1.1 C.1.2.1 hdg ht (fun z => kt (h.2 z) H locs ls hl hh) (fun z => kf (h.1 z) H locs ls hl hh)
theorem pj_icmp_ne (C : pj_X g cc nL own ret rm) {x y : Int32} {off : Int} {tgt : Nat} {A B : Prop} (hdg : decode cc pc = .ok (.if_icmp .ne off, 3)) (hp : pc + 3 = pc') (ht : (pc : Int) + off = (tgt : Int)) (h : ((x = y) → B) ∧ (¬ (x = y) → A)) (kt : A → pj_J g Ψ tgt vs st) (kf : B → pj_J g Ψ pc' vs st) : pj_J g Ψ pc vs (.int y :: .int x :: st) := by
  obtain ⟨p, l, e, R, s, m, args, below, meth, c, D, E, Q, mc, ms⟩ := g
  subst hp
  intro H locs ls hl hh
  exact lv_icmp_ne C.1.1 C.1.2.1 hdg ht (fun z => kt (h.2 z) H locs ls hl hh) (fun z => kf (h.1 z) H locs ls hl hh)
theorem pj_if_lt (C : pj_X g cc nL own ret rm) {x : Int32} {off : Int} {tgt : Nat} {A B : Prop} (hdg : decode cc pc = .ok (.ifCond .lt off, 3)) (hp : pc + 3 = pc') (ht : (pc : Int) + off = (tgt : Int)) (h : ((x < 0) → A) ∧ (¬ (x < 0) → B)) (kt : A → pj_J g Ψ tgt vs st) (kf : B → pj_J g Ψ pc' vs st) : pj_J g Ψ pc vs (.int x :: st) := by
  obtain ⟨p, l, e, R, s, m, args, below, meth, c, D, E, Q, mc, ms⟩ := g
  subst hp
  intro H locs ls hl hh
  exact lv_if_lt C.1.1 C.1.2.1 hdg ht (fun z => kt (h.1 z) H locs ls hl hh) (fun z => kf (h.2 z) H locs ls hl hh)
theorem pj_icmp_lt (C : pj_X g cc nL own ret rm) {x y : Int32} {off : Int} {tgt : Nat} {A B : Prop} (hdg : decode cc pc = .ok (.if_icmp .lt off, 3)) (hp : pc + 3 = pc') (ht : (pc : Int) + off = (tgt : Int)) (h : ((x < y) → A) ∧ (¬ (x < y) → B)) (kt : A → pj_J g Ψ tgt vs st) (kf : B → pj_J g Ψ pc' vs st) : pj_J g Ψ pc vs (.int y :: .int x :: st) := by
  obtain ⟨p, l, e, R, s, m, args, below, meth, c, D, E, Q, mc, ms⟩ := g
  subst hp
  intro H locs ls hl hh
  exact lv_icmp_lt C.1.1 C.1.2.1 hdg ht (fun z => kt (h.1 z) H locs ls hl hh) (fun z => kf (h.2 z) H locs ls hl hh)
theorem pj_if_ge (C : pj_X g cc nL own ret rm) {x : Int32} {off : Int} {tgt : Nat} {A B : Prop} (hdg : decode cc pc = .ok (.ifCond .ge off, 3)) (hp : pc + 3 = pc') (ht : (pc : Int) + off = (tgt : Int)) (h : ((0 ≤ x) → A) ∧ (¬ (0 ≤ x) → B)) (kt : A → pj_J g Ψ tgt vs st) (kf : B → pj_J g Ψ pc' vs st) : pj_J g Ψ pc vs (.int x :: st) := by
  obtain ⟨p, l, e, R, s, m, args, below, meth, c, D, E, Q, mc, ms⟩ := g
  subst hp
  intro H locs ls hl hh
  exact lv_if_ge C.1.1 C.1.2.1 hdg ht (fun z => kt (h.1 z) H locs ls hl hh) (fun z => kf (h.2 z) H locs ls hl hh)
theorem pj_icmp_ge (C : pj_X g cc nL own ret rm) {x y : Int32} {off : Int} {tgt : Nat} {A B : Prop} (hdg : decode cc pc = .ok (.if_icmp .ge off, 3)) (hp : pc + 3 = pc') (ht : (pc : Int) + off = (tgt : Int)) (h : ((y ≤ x) → A) ∧ (¬ (y ≤ x) → B)) (kt : A → pj_J g Ψ tgt vs st) (kf : B → pj_J g Ψ pc' vs st) : pj_J g Ψ pc vs (.int y :: .int x :: st) := by
  obtain ⟨p, l, e, R, s, m, args, below, meth, c, D, E, Q, mc, ms⟩ := g
  subst hp
  intro H locs ls hl hh
  exact lv_icmp_ge C.1.1 C.1.2.1 hdg ht (fun z => kt (h.1 z) H locs ls hl hh) (fun z => kf (h.2 z) H locs ls hl hh)
theorem pj_if_gt (C : pj_X g cc nL own ret rm) {x : Int32} {off : Int} {tgt : Nat} {A B : Prop} (hdg : decode cc pc = .ok (.ifCond .gt off, 3)) (hp : pc + 3 = pc') (ht : (pc : Int) + off = (tgt : Int)) (h : ((0 < x) → A) ∧ (¬ (0 < x) → B)) (kt : A → pj_J g Ψ tgt vs st) (kf : B → pj_J g Ψ pc' vs st) : pj_J g Ψ pc vs (.int x :: st) := by
  obtain ⟨p, l, e, R, s, m, args, below, meth, c, D, E, Q, mc, ms⟩ := g
  subst hp
  intro H locs ls hl hh
  exact lv_if_gt C.1.1 C.1.2.1 hdg ht (fun z => kt (h.1 z) H locs ls hl hh) (fun z => kf (h.2 z) H locs ls hl hh)
theorem pj_icmp_gt (C : pj_X g cc nL own ret rm) {x y : Int32} {off : Int} {tgt : Nat} {A B : Prop} (hdg : decode cc pc = .ok (.if_icmp .gt off, 3)) (hp : pc + 3 = pc') (ht : (pc : Int) + off = (tgt : Int)) (h : ((y < x) → A) ∧ (¬ (y < x) → B)) (kt : A → pj_J g Ψ tgt vs st) (kf : B → pj_J g Ψ pc' vs st) : pj_J g Ψ pc vs (.int y :: .int x :: st) := by
  obtain ⟨p, l, e, R, s, m, args, below, meth, c, D, E, Q, mc, ms⟩ := g
  subst hp
  intro H locs ls hl hh
  exact lv_icmp_gt C.1.1 C.1.2.1 hdg ht (fun z => kt (h.1 z) H locs ls hl hh) (fun z => kf (h.2 z) H locs ls hl hh)
theorem pj_if_le (C : pj_X g cc nL own ret rm) {x : Int32} {off : Int} {tgt : Nat} {A B : Prop} (hdg : decode cc pc = .ok (.ifCond .le off, 3)) (hp : pc + 3 = pc') (ht : (pc : Int) + off = (tgt : Int)) (h : ((x ≤ 0) → A) ∧ (¬ (x ≤ 0) → B)) (kt : A → pj_J g Ψ tgt vs st) (kf : B → pj_J g Ψ pc' vs st) : pj_J g Ψ pc vs (.int x :: st) := by
  obtain ⟨p, l, e, R, s, m, args, below, meth, c, D, E, Q, mc, ms⟩ := g
  subst hp
  intro H locs ls hl hh
  exact lv_if_le C.1.1 C.1.2.1 hdg ht (fun z => kt (h.1 z) H locs ls hl hh) (fun z => kf (h.2 z) H locs ls hl hh)
theorem pj_icmp_le (C : pj_X g cc nL own ret rm) {x y : Int32} {off : Int} {tgt : Nat} {A B : Prop} (hdg : decode cc pc = .ok (.if_icmp .le off, 3)) (hp : pc + 3 = pc') (ht : (pc : Int) + off = (tgt : Int)) (h : ((x ≤ y) → A) ∧ (¬ (x ≤ y) → B)) (kt : A → pj_J g Ψ tgt vs st) (kf : B → pj_J g Ψ pc' vs st) : pj_J g Ψ pc vs (.int y :: .int x :: st) := by
  obtain ⟨p, l, e, R, s, m, args, below, meth, c, D, E, Q, mc, ms⟩ := g
  subst hp
  intro H locs ls hl hh
  exact lv_icmp_le C.1.1 C.1.2.1 hdg ht (fun z => kt (h.1 z) H locs ls hl hh) (fun z => kf (h.2 z) H locs ls hl hh)
theorem pj_goto (C : pj_X g cc nL own ret rm) {off : Int} {tgt : Nat} (hdg : decode cc pc = .ok (.goto off, 3)) (ht : (pc : Int) + off = (tgt : Int)) (k : pj_J g Ψ tgt vs st) : pj_J g Ψ pc vs st := by
  obtain ⟨p, l, e, R, s, m, args, below, meth, c, D, E, Q, mc, ms⟩ := g
  intro H locs ls hl hh
  exact lv_goto C.1.1 C.1.2.1 hdg ht (k H locs ls hl hh)
theorem pj_ifnullN (C : pj_X g cc nL own ret rm) {off : Int} {tgt : Nat} (hdg : decode cc pc = .ok (.ifnull off, 3)) (ht : (pc : Int) + off = (tgt : Int)) (k : pj_J g Ψ tgt vs st) : pj_J g Ψ pc vs (.null :: st) := by
  obtain ⟨p, l, e, R, s, m, args, below, meth, c, D, E, Q, mc, ms⟩ := g
  intro H locs ls hl hh
  exact lv_ifnullN C.1.1 C.1.2.1 hdg ht (k H locs ls hl hh)
theorem pj_ifnull (C : pj_X g cc nL own ret rm) {x : Nat} {off : Int} (hdg : decode cc pc = .ok (.ifnull off, 3)) (hp : pc + 3 = pc') (k : pj_J g Ψ pc' vs st) : pj_J g Ψ pc vs (.ref x :: st) := by
  obtain ⟨p, l, e, R, s, m, args, below, meth, c, D, E, Q, mc, ms⟩ := g
  subst hp
  intro H locs ls hl hh
  exact lv_ifnull C.1.1 C.1.2.1 hdg (k H locs ls hl hh)
theorem pj_ifnonnullN (C : pj_X g cc nL own ret rm) {off : Int} (hdg : decode cc pc = .ok (.ifnonnull off, 3)) (hp : pc + 3 = pc') (k : pj_J g Ψ pc' vs st) : pj_J g Ψ pc vs (.null :: st) := by
  obtain ⟨p, l, e, R, s, m, args, below, meth, c, D, E, Q, mc, ms⟩ := g
  subst hp
  intro H locs ls hl hh
  exact lv_ifnonnullN C.1.1 C.1.2.1 hdg (k H locs ls hl hh)
theorem pj_ifnonnull (C : pj_X g cc nL own ret rm) {x : Nat} {off : Int} {tgt : Nat} (hdg : decode cc pc = .ok (.ifnonnull off, 3)) (ht : (pc : Int) + off = (tgt : Int)) (k : pj_J g Ψ tgt vs st) : pj_J g Ψ pc vs (.ref x :: st) := by
  obtain ⟨p, l, e, R, s, m, args, below, meth, c, D, E, Q, mc, ms⟩ := g
  intro H locs ls hl hh
  exact lv_ifnonnull C.1.1 C.1.2.1 hdg ht (k H locs ls hl hh)
theorem pj_acmp_ne (C : pj_X g cc nL own ret rm) {x y : Nat} {off : Int} {tgt : Nat} {A B : Prop} (hdg : decode cc pc = .ok (.if_acmp .ne off, 3)) (hp : pc + 3 = pc') (ht : (pc : Int) + off = (tgt : Int)) (h : (x = y → B) ∧ (¬ x = y → A)) (kt : A → pj_J g Ψ tgt vs st) (kf : B → pj_J g Ψ pc' vs st) : pj_J g Ψ pc vs (.ref (b + y) :: .ref (b + x) :: st) := by
  obtain ⟨p, l, e, R, s, m, args, below, meth, c, D, E, Q, mc, ms⟩ := g
  subst hp
  intro H locs ls hl hh
  exact lv_acmp_ne (rx := some (b + x)) (ry := some (b + y)) C.1.1 C.1.2.1 hdg ht (fun z => kt (h.2 (fun q => z (by rw [q]))) H locs ls hl hh) (fun z => kf (h.1 (Nat.add_left_cancel (Option.some.inj z))) H locs ls hl hh)
theorem pj_acmp_eq (C : pj_X g cc nL own ret rm) {x y : Nat} {off : Int} {tgt : Nat} {A B : Prop} (hdg : decode cc pc = .ok (.if_acmp .eq off, 3)) (hp : pc + 3 = pc') (ht : (pc : Int) + off = (tgt : Int)) (h : (x = y → A) ∧ (¬ x = y → B)) (kt : A → pj_J g Ψ tgt vs st) (kf : B → pj_J g Ψ pc' vs st) : pj_J g Ψ pc vs (.ref (b + y) :: .ref (b + x) :: st) := by
  obtain ⟨p, l, e, R, s, m, args, below, meth, c, D, E, Q, mc, ms⟩ := g
  subst hp
  intro H locs ls hl hh
  exact lv_acmp_eq (rx := some (b + x)) (ry := some (b + y)) C.1.1 C.1.2.1 hdg ht (fun z => kt (h.1 (Nat.add_left_cancel (Option.some.inj z))) H locs ls hl hh) (fun z => kf (h.2 (fun q => z (by rw [q]))) H locs ls hl hh)
theorem pj_iret (C : pj_X g cc nL own (some .int) rm) {post : Option Value → pj_M → Prop} (hE : pj_E g b post) {v : Int32} (hdg : decode cc pc = .ok (.ireturn, 1)) (h : post (some (.int v)) u) : pj_J g (pj_N g b u) pc vs [.int v] := by
  obtain ⟨p, l, e, R, s, m, args, below, meth, c, D, E, Q, mc, ms⟩ := g
  obtain ⟨rfl, rfl, rfl⟩ := hE
  intro H locs ls hl hh
  exact W.iret C.1.1 C.1.2.1 C.2.1 (fun t ht hW => ⟨⟨_, u, rfl, h, by rw [ht]; exact hh.1⟩, hh.2.F ht⟩) hh.2.2.2 hdg C.2.2.1
theorem pj_zret (C : pj_X g cc nL own (some .boolean) rm) {post : Option Value → pj_M → Prop} (hE : pj_E g b post) {v : Int32} (hdg : decode cc pc = .ok (.ireturn, 1)) (hn : pj_bi v) (h : post (some (.int v)) u) : pj_J g (pj_N g b u) pc vs [.int v] := by
  obtain ⟨p, l, e, R, s, m, args, below, meth, c, D, E, Q, mc, ms⟩ := g
  obtain ⟨rfl, rfl, rfl⟩ := hE
  intro H locs ls hl hh
  exact W.zret C.1.1 C.1.2.1 C.2.1 hn.nar (fun t ht hW => ⟨⟨_, u, rfl, h, by rw [ht]; exact hh.1⟩, hh.2.F ht⟩) hh.2.2.2 hdg C.2.2.1
theorem pj_vret (C : pj_X g cc nL own none rm) {post : Option Value → pj_M → Prop} (hE : pj_E g b post) (hdg : decode cc pc = .ok (.return_, 1)) (h : post none u) : pj_J g (pj_N g b u) pc vs [] := by
  obtain ⟨p, l, e, R, s, m, args, below, meth, c, D, E, Q, mc, ms⟩ := g
  obtain ⟨rfl, rfl, rfl⟩ := hE
  intro H locs ls hl hh
  exact W.vret C.1.1 C.1.2.1 C.2.1 (fun t ht hW => ⟨⟨_, u, rfl, h, by rw [ht]; exact hh.1⟩, hh.2.F ht⟩) hh.2.2.2 hdg C.2.2.1
theorem pj_aret {rt : FieldType} (C : pj_X g cc nL own (some rt) rm) {post : Option Value → pj_M → Prop} (hE : pj_E g b post) {v : Value} (hdg : decode cc pc = .ok (.areturn, 1)) (hrt : (∃ n, rt = .object n) ∨ ∃ t, rt = .array t) (hv : v = .null ∨ ∃ a, v = .ref a) (h : post (some v) u) : pj_J g (pj_N g b u) pc vs [v] := by
  obtain ⟨p, l, e, R, s, m, args, below, meth, c, D, E, Q, mc, ms⟩ := g
  obtain ⟨rfl, rfl, rfl⟩ := hE
  intro H locs ls hl hh
  exact W.aret C.1.1 C.1.2.1 C.2.1 hrt hv (fun t ht hW => ⟨⟨_, u, rfl, h, by rw [ht]; exact hh.1⟩, hh.2.F ht⟩) hh.2.2.2 hdg C.2.2.1
theorem pj_sub {vs' : List (Option Value)} (hv : ∀ (i : Nat) (v : Value), vs'[i]? = some (some v) → vs[i]? = some (some v)) (k : pj_J g Ψ pc vs' st) : pj_J g Ψ pc vs st := by
  obtain ⟨p, l, e, R, s, m, args, below, meth, c, D, E, Q, mc, ms⟩ := g
  intro H locs ls hl hh
  exact k H locs ls ⟨hl.1, hl.2.1, fun i v h => hl.2.2 i v (hv i v h)⟩ hh
def pj_le : List (Option Value) → List (Option Value) → Prop
  | [], _ => True
  | none :: a, _ :: c => pj_le a c
  | none :: a, [] => pj_le a []
  | some v :: a, some w :: c => v = w ∧ pj_le a c
  | some _ :: _, none :: _ => False
  | some _ :: _, [] => False
theorem pj_le_of : ∀ (x y : List (Option Value)), pj_le x y → ∀ (i : Nat) (v : Value), x[i]? = some (some v) → y[i]? = some (some v)
  | [], _, _, i, v, h => by simp at h
  | none :: a, w :: c, hl, i, v, h => by
    cases i with
    | zero => simp at h
    | succ i =>
      rw [List.getElem?_cons_succ] at h ⊢
      exact pj_le_of a c (by cases w <;> exact hl) i v h
  | none :: a, [], hl, i, v, h => by
    cases i with
    | zero => simp at h
    | succ i =>
      rw [List.getElem?_cons_succ] at h
      have := pj_le_of a [] hl i v h
      simp at this
  | some v0 :: a, some w :: c, hl, i, v, h => by
    cases i with
    | zero =>
      rw [List.getElem?_cons_zero] at h ⊢
      rw [← hl.1]
      exact h
    | succ i =>
      rw [List.getElem?_cons_succ] at h ⊢
      exact pj_le_of a c hl.2 i v h
  | some _ :: _, none :: _, hl, _, _, _ => False.elim hl
  | some _ :: _, [], hl, _, _, _ => False.elim hl
theorem pj_le_e {c : List (Option Value)} : pj_le [] c := trivial
theorem pj_le_n {a c : List (Option Value)} {w : Option Value} (h : pj_le a c) : pj_le (none :: a) (w :: c) := by cases w <;> exact h
theorem pj_le_s {a c : List (Option Value)} {v : Value} (h : pj_le a c) : pj_le (some v :: a) (some v :: c) := ⟨rfl, h⟩
theorem pj_name {x : Int32} {P : Int32 → Prop} (h : pj_let x P) (k : ∀ y, P y → pj_J g Ψ pc vs (.int y :: st)) : pj_J g Ψ pc vs (.int x :: st) := k x h
theorem pj_nameR {i : Nat} {P : Nat → Prop} (h : pj_let i P) (k : ∀ y, P y → pj_J g Ψ pc vs (.ref (b + y) :: st)) : pj_J g Ψ pc vs (.ref (b + i) :: st) := k i h
theorem pj_aload_nO (C : pj_X g cc nL own ret rm) {k : Fin 4} {i : Nat} {o : Option Nat} (hdg : decode cc pc = .ok (.aload_n k, 1)) (hp : pc + 1 = pc') (hi : (k : Nat) = i) (hv : vs[i]? = some (some (va_rf (o.map (b + ·))))) (kk : pj_J g Ψ pc' vs (va_rf (o.map (b + ·)) :: st)) : pj_J g Ψ pc vs st := by
  cases o with
  | none => exact pj_aload_nN C hdg hp hi hv kk
  | some j => exact pj_aload_n C hdg hp hi hv kk
theorem pj_aloadO (C : pj_X g cc nL own ret rm) {i : Nat} {o : Option Nat} (hdg : decode cc pc = .ok (.aload i, 2)) (hp : pc + 2 = pc') (hv : vs[i]? = some (some (va_rf (o.map (b + ·))))) (kk : pj_J g Ψ pc' vs (va_rf (o.map (b + ·)) :: st)) : pj_J g Ψ pc vs st := by
  cases o with
  | none => exact pj_aloadN C hdg hp hv kk
  | some j => exact pj_aload C hdg hp hv kk
theorem pj_astore_nO (C : pj_X g cc nL own ret rm) {k : Fin 4} {i : Nat} {o : Option Nat} {vs' : List (Option Value)} (hdg : decode cc pc = .ok (.astore_n k, 1)) (hp : pc + 1 = pc') (hi : (k : Nat) = i) (hn : i < nL) (hv : i < vs.length) (hc : pj_lo vs i = true) (hs : vs.set i (some (va_rf (o.map (b + ·)))) = vs') (kk : pj_J g Ψ pc' vs' st) : pj_J g Ψ pc vs (va_rf (o.map (b + ·)) :: st) := by
  cases o with
  | none => exact pj_astore_nN C hdg hp hi hn hv hc hs kk
  | some j => exact pj_astore_n C hdg hp hi hn hv hc hs kk
theorem pj_astoreO (C : pj_X g cc nL own ret rm) {i : Nat} {o : Option Nat} {vs' : List (Option Value)} (hdg : decode cc pc = .ok (.astore i, 2)) (hp : pc + 2 = pc') (hn : i < nL) (hv : i < vs.length) (hc : pj_lo vs i = true) (hs : vs.set i (some (va_rf (o.map (b + ·)))) = vs') (kk : pj_J g Ψ pc' vs' st) : pj_J g Ψ pc vs (va_rf (o.map (b + ·)) :: st) := by
  cases o with
  | none => exact pj_astoreN C hdg hp hn hv hc hs kk
  | some j => exact pj_astore C hdg hp hn hv hc hs kk
theorem pj_tsIn (C : pj_X g cc nL own ret rm) {dflt lo hi off kv : Int} {offs : Array Int} {len tgt : Nat} {x : Int32} (hdg : decode cc pc = .ok (.tableswitch dflt lo hi offs, len)) (hx : x.toInt = kv) (h1 : ¬ kv < lo) (h2 : ¬ hi < kv) (ho : offs[(kv - lo).toNat]? = some off) (ht : (pc : Int) + off = (tgt : Int)) (k : pj_J g Ψ tgt vs st) : pj_J g Ψ pc vs (.int x :: st) := by
  obtain ⟨p, l, e, R, s, m, args, below, meth, c, D, E, Q, mc, ms⟩ := g
  subst hx
  intro H locs ls hl hh
  exact lv_tableIn C.1.1 C.1.2.1 hdg h1 h2 ho ht (k H locs ls hl hh)
theorem pj_tsOut (C : pj_X g cc nL own ret rm) {dflt lo hi : Int} {offs : Array Int} {len tgt : Nat} {x : Int32} (hdg : decode cc pc = .ok (.tableswitch dflt lo hi offs, len)) (h : x.toInt < lo ∨ hi < x.toInt) (ht : (pc : Int) + dflt = (tgt : Int)) (k : pj_J g Ψ tgt vs st) : pj_J g Ψ pc vs (.int x :: st) := by
  obtain ⟨p, l, e, R, s, m, args, below, meth, c, D, E, Q, mc, ms⟩ := g
  intro H locs ls hl hh
  exact lv_tableOut C.1.1 C.1.2.1 hdg h ht (k H locs ls hl hh)
theorem pj_lk (C : pj_X g cc nL own ret rm) {dflt off : Int} {ps : Array (Int × Int)} {len tgt : Nat} {x : Int32} (hdg : decode cc pc = .ok (.lookupswitch dflt ps, len)) (hp : (ps.toList.zip (ps.toList.drop 1)).all (fun (a, next) => a.1 < next.1) = true) (ho : Op.lookupswitch.offset ps.toList dflt x.toInt = off) (ht : (pc : Int) + off = (tgt : Int)) (k : pj_J g Ψ tgt vs st) : pj_J g Ψ pc vs (.int x :: st) := by
  obtain ⟨p, l, e, R, s, m, args, below, meth, c, D, E, Q, mc, ms⟩ := g
  intro H locs ls hl hh
  exact lv_lookup C.1.1 C.1.2.1 hdg hp ho ht (k H locs ls hl hh)
def pj_Ki (K : Int32 → pj_M → Prop) : Option Value → pj_M → Prop := fun v u => ∃ r, v = some (.int r) ∧ K r u
def pj_Kv (K : pj_M → Prop) : Option Value → pj_M → Prop := fun v u => v = none ∧ K u
def pj_Kr (b : Nat) (K : Nat → pj_M → Prop) : Option Value → pj_M → Prop := fun v u => ∃ i, v = some (.ref (b + i)) ∧ K i u
def pj_Ko (b : Nat) (K : Option Nat → pj_M → Prop) : Option Value → pj_M → Prop := fun v u => ∃ o : Option Nat, v = some (va_rf (o.map (b + ·))) ∧ K o u
theorem pj_cut {vs' : List (Option Value)} (hv : pj_le vs' vs) (k : pj_J g Ψ pc vs' st) : pj_J g Ψ pc vs st := pj_sub (pj_le_of _ _ hv) k
/-- the number in a memory's place is of a kind, by the cell's own number alone -/
theorem pj_c_ne {E : Nat → ClassId} {i k : Nat} {v : Int32} (j : Nat) (hj : j ≠ i) : pj_c E b (pj_set u i k v) j = pj_c E b u j := by
  unfold pj_c
  rw [pj_set_ne hj]
def pj_arr (u : pj_M) (i : Nat) (f : Nat → Int32) (K : pj_M → Prop) : Prop := K (fun a => if a = i then f else u a)
theorem pj_get (C : pj_X g cc nL own ret rm) {i k ci N idx : Nat} {ref Cn : String} {T : u_T} {fs : List Value} {v : Value} (hc : pj_cl[ci]? = some (Cn, T, N)) (hin : ∀ w ∈ u_ws Cn T N, w ∈ pj_W) (hk : k < N) (hlink : Cond.fieldLink own idx ref (T k).2.1 (T k).2.2.1 ∈ pj_W) (hsame : ref = (T k).1 ∨ Cond.sameField ref (T k).1 (T k).2.1 (T k).2.2.1 ∈ pj_W) (hi : i < pj_n) (hw : ∀ E, pj_c E b u i = .inr (ci, fs)) (hv : fs[k]? = some v) (hdg : decode cc pc = .ok (.getfield idx, 3)) (hp : pc + 3 = pc') (kk : pj_J g (pj_N g b u) pc' vs (v :: st)) : pj_J g (pj_N g b u) pc vs (.ref (b + i) :: st) := by
  obtain ⟨p, l, e, R, s, m, args, below, meth, c, D, E, Q, mc, ms⟩ := g
  subst hp
  intro H locs ls hl hh
  obtain ⟨hP, hS⟩ := hh
  refine va_get C.1.1 C.1.2.1 C.1.2.2.2.2 hin C.1.2.2.2.1 C.2.2.2.1 hP i (by rw [pj_w_at hi, hw]) hc k hk (C.1.2.2.2.2 _ hlink) (fun x hx => ?_) hv hdg (kk H locs ls hl ⟨hP, hS⟩)
  rcases hsame with h | h
  · rw [h]; exact hx
  · exact u_same (C.1.2.2.2.2 _ h) x hx
theorem pj_putI (C : pj_X g cc nL own ret rm) {i k ci N idx : Nat} {ref Cn : String} {T : u_T} {F : (Nat → Int32) → List Value} {v : Int32} {ty : FieldType} {P : pj_M → Prop} (hc : pj_cl[ci]? = some (Cn, T, N)) (hin : ∀ w ∈ u_ws Cn T N, w ∈ pj_W) (ty0 : Nat → FieldType) (hty : ∀ k, k < N → parseFieldDescriptor (T k).2.2.1 = some (ty0 k)) (hnm : ∀ a, a < N → ∀ b, b < N → a ≠ b → (T a).2.1 ≠ (T b).2.1) (hk : k < N) (hlink : Cond.fieldLink own idx ref (T k).2.1 (T k).2.2.1 ∈ pj_W) (hsame : ref = (T k).1 ∨ Cond.sameField ref (T k).1 (T k).2.1 (T k).2.2.1 ∈ pj_W) (hfin : (T k).2.2.2 = false) (hd : parseFieldDescriptor (T k).2.2.1 = some ty) (hn : narrow ty (.int v) = .int v) (hfit : fits ty (.int v) = true) (hi : i < pj_n) (hw : ∀ E u, pj_c E b u i = .inr (ci, F (u i))) (hlen : ∀ f, k < (F f).length) (hF : ∀ f x, F (upd f k x) = (F f).set k (.int x)) (hdg : decode cc pc = .ok (.putfield idx, 3)) (hp : pc + 3 = pc') (h : pj_put u i k v P) (kk : ∀ u', P u' → pj_J g (pj_N g b u') pc' vs st) : pj_J g (pj_N g b u) pc vs (.int v :: .ref (b + i) :: st) := by
  obtain ⟨p, l, e, R, s, m, args, below, meth, c, D, E, Q, mc, ms⟩ := g
  subst hp
  intro H locs ls hl hh
  obtain ⟨hP, hS⟩ := hh
  refine va_put C.1.1 C.1.2.1 C.1.2.2.2.2 hin ty0 hty hnm C.1.2.2.2.1 C.2.2.2.1 hP pj_w_D hS i (by rw [pj_w_at hi, hw]) hc k hk (C.1.2.2.2.2 _ hlink) (fun x hx => ?_) hfin hd hn hfit (hlen (u i)) hdg (fun H1 locs1 hP1 hD1 hS1 => ?_)
  · rcases hsame with h | h
    · rw [h]; exact hx
    · exact u_same (C.1.2.2.2.2 _ h) x hx
  · rw [pj_w_set (f' := pj_c E b (pj_set u i k v)) hi (by rw [hw, pj_set_eq, hF]) (fun j hj => pj_c_ne j hj)] at hP1
    exact kk _ h H1 locs1 ls hl ⟨hP1, hS1⟩
theorem pj_iald (C : pj_X g cc nL own ret rm) {i n : Nat} {j : Int32} {B : Prop} (hi : i < pj_n) (hw : ∀ E u, pj_c E b u i = .inl (E 0, n, .inl (u i))) (hdg : decode cc pc = .ok (.iaload, 1)) (hp : pc + 1 = pc') (h : vp_in j n ∧ B) (kk : B → pj_J g (pj_N g b u) pc' vs (.int (u i j.toNatClampNeg) :: st)) : pj_J g (pj_N g b u) pc vs (.int j :: .ref (b + i) :: st) := by
  obtain ⟨p, l, e, R, s, m, args, below, meth, c, D, E, Q, mc, ms⟩ := g
  subst hp
  intro H locs ls hl hh
  obtain ⟨hP, hS⟩ := hh
  exact va_iald C.1.1 C.1.2.1 C.2.2.2.1 hP i 0 (by rw [pj_w_at hi, hw]) rfl h.1 hdg (kk h.2 H locs ls hl ⟨hP, hS⟩)
theorem pj_zald (C : pj_X g cc nL own ret rm) {i n : Nat} {j : Int32} {B : Prop} (hi : i < pj_n) (hw : ∀ E u, pj_c E b u i = .inl (E 1, n, .inl (u i))) (hdg : decode cc pc = .ok (.baload, 1)) (hp : pc + 1 = pc') (h : vp_in j n ∧ B) (kk : B → pj_J g (pj_N g b u) pc' vs (.int (u i j.toNatClampNeg) :: st)) : pj_J g (pj_N g b u) pc vs (.int j :: .ref (b + i) :: st) := by
  obtain ⟨p, l, e, R, s, m, args, below, meth, c, D, E, Q, mc, ms⟩ := g
  subst hp
  intro H locs ls hl hh
  obtain ⟨hP, hS⟩ := hh
  exact va_zald C.1.1 C.1.2.1 C.2.2.2.1 hP i 1 (by rw [pj_w_at hi, hw]) rfl h.1 hdg (kk h.2 H locs ls hl ⟨hP, hS⟩)
theorem pj_iast (C : pj_X g cc nL own ret rm) {i n : Nat} {j x : Int32} {P : pj_M → Prop} (hi : i < pj_n) (hw : ∀ E u, pj_c E b u i = .inl (E 0, n, .inl (u i))) (hdg : decode cc pc = .ok (.iastore, 1)) (hp : pc + 1 = pc') (h : vp_in j n ∧ pj_put u i j.toNatClampNeg x P) (kk : ∀ u', P u' → pj_J g (pj_N g b u') pc' vs st) : pj_J g (pj_N g b u) pc vs (.int x :: .int j :: .ref (b + i) :: st) := by
  obtain ⟨p, l, e, R, s, m, args, below, meth, c, D, E, Q, mc, ms⟩ := g
  subst hp
  intro H locs ls hl hh
  obtain ⟨hP, hS⟩ := hh
  refine va_iast C.1.1 C.1.2.1 C.2.2.2.1 hP pj_w_D hS i 0 (by rw [pj_w_at hi, hw]) rfl h.1 hdg (fun H1 locs1 hP1 hD1 hS1 => ?_)
  rw [pj_w_set (f' := pj_c E b (pj_set u i j.toNatClampNeg x)) hi (by rw [hw, pj_set_eq]) (fun j hj => pj_c_ne j hj)] at hP1
  exact kk _ h.2 H1 locs1 ls hl ⟨hP1, hS1⟩
theorem pj_zast (C : pj_X g cc nL own ret rm) {i n : Nat} {j x : Int32} {P : pj_M → Prop} (hi : i < pj_n) (hw : ∀ E u, pj_c E b u i = .inl (E 1, n, .inl (u i))) (hdg : decode cc pc = .ok (.bastore, 1)) (hp : pc + 1 = pc') (h : vp_in j n ∧ pj_put u i j.toNatClampNeg (vp_nar .boolean x) P) (kk : ∀ u', P u' → pj_J g (pj_N g b u') pc' vs st) : pj_J g (pj_N g b u) pc vs (.int x :: .int j :: .ref (b + i) :: st) := by
  obtain ⟨p, l, e, R, s, m, args, below, meth, c, D, E, Q, mc, ms⟩ := g
  subst hp
  intro H locs ls hl hh
  obtain ⟨hP, hS⟩ := hh
  refine va_zast C.1.1 C.1.2.1 C.2.2.2.1 hP pj_w_D hS i 1 (by rw [pj_w_at hi, hw]) rfl h.1 hdg (fun H1 locs1 hP1 hD1 hS1 => ?_)
  rw [pj_w_set (f' := pj_c E b (pj_set u i j.toNatClampNeg (vp_nar .boolean x))) hi (by rw [hw, pj_set_eq]) (fun j hj => pj_c_ne j hj)] at hP1
  exact kk _ h.2 H1 locs1 ls hl ⟨hP1, hS1⟩
/-- an array of references that never changes -/
theorem pj_aldS (C : pj_X g cc nL own ret rm) {i n t : Nat} {j : Int32} {B : Prop} {f : Nat → Nat} {Cn : String} (hi : i < pj_n) (hw : ∀ E u, pj_c E b u i = .inl (E t, n, .inr (.inr (.inr (.inr (fun q => some (b + f q))))))) (ht : ∀ E, (pj_tys E)[t]? = some (E t, .object Cn)) (hdg : decode cc pc = .ok (.aaload, 1)) (hp : pc + 1 = pc') (h : vp_in j n ∧ B) (kk : B → pj_J g (pj_N g b u) pc' vs (.ref (b + f j.toNatClampNeg) :: st)) : pj_J g (pj_N g b u) pc vs (.int j :: .ref (b + i) :: st) := by
  obtain ⟨p, l, e, R, s, m, args, below, meth, c, D, E, Q, mc, ms⟩ := g
  subst hp
  intro H locs ls hl hh
  obtain ⟨hP, hS⟩ := hh
  exact va_aldq (f := fun q => some (b + f q)) C.1.1 C.1.2.1 C.2.2.2.1 hP i t (by rw [pj_w_at hi, hw]) (ht E) h.1 hdg (kk h.2 H locs ls hl ⟨hP, hS⟩)
/-- an array of references whose places are numbers of the memory -/
theorem pj_aldM (C : pj_X g cc nL own ret rm) {i n t : Nat} {j : Int32} {B : Prop} {Cn : String} (hi : i < pj_n) (hw : ∀ E u, pj_c E b u i = .inl (E t, n, .inr (.inr (.inr (.inr (fun q => some (b + (u i q).toNatClampNeg))))))) (ht : ∀ E, (pj_tys E)[t]? = some (E t, .object Cn)) (hdg : decode cc pc = .ok (.aaload, 1)) (hp : pc + 1 = pc') (h : vp_in j n ∧ B) (kk : B → pj_J g (pj_N g b u) pc' vs (.ref (b + (u i j.toNatClampNeg).toNatClampNeg) :: st)) : pj_J g (pj_N g b u) pc vs (.int j :: .ref (b + i) :: st) := by
  obtain ⟨p, l, e, R, s, m, args, below, meth, c, D, E, Q, mc, ms⟩ := g
  subst hp
  intro H locs ls hl hh
  obtain ⟨hP, hS⟩ := hh
  exact va_aldq (f := fun q => some (b + (u i q).toNatClampNeg)) C.1.1 C.1.2.1 C.2.2.2.1 hP i t (by rw [pj_w_at hi, hw]) (ht E) h.1 hdg (kk h.2 H locs ls hl ⟨hP, hS⟩)
theorem pj_astM (C : pj_X g cc nL own ret rm) {i n t x ci : Nat} {j : Int32} {r : vw_C} {P : pj_M → Prop} {fs : List Value} (hi : i < pj_n) (hw : ∀ E u, pj_c E b u i = .inl (E t, n, .inr (.inr (.inr (.inr (fun q => some (b + (u i q).toNatClampNeg))))))) (ht : ∀ E, (pj_tys E)[t]? = some (E t, .object r.1)) (hx : x < pj_n) (hx2 : pj_n < 2 ^ 31) (hwx : ∀ E, pj_c E b u x = .inr (ci, fs)) (hc : pj_cl[ci]? = some r) (hdg : decode cc pc = .ok (.aastore, 1)) (hp : pc + 1 = pc') (h : vp_in j n ∧ pj_put u i j.toNatClampNeg (nI x) P) (kk : ∀ u', P u' → pj_J g (pj_N g b u') pc' vs st) : pj_J g (pj_N g b u) pc vs (.ref (b + x) :: .int j :: .ref (b + i) :: st) := by
  obtain ⟨p, l, e, R, s, m, args, below, meth, c, D, E, Q, mc, ms⟩ := g
  subst hp
  intro H locs ls hl hh
  obtain ⟨hP, hS⟩ := hh
  refine va_astq C.1.1 C.1.2.1 C.2.2.2.1 hP pj_w_D hS i t x ci (by rw [pj_w_at hi, hw]) (ht E) (by rw [pj_w_at hx, hwx]) hc h.1 hdg (fun H1 locs1 hP1 hD1 hS1 => ?_)
  have hfe : (fun q => some (b + (upd (u i) j.toNatClampNeg (nI x) q).toNatClampNeg)) = va_up (fun q => some (b + (u i q).toNatClampNeg)) j.toNatClampNeg (some (b + x)) := by
    funext q
    by_cases hq : q = j.toNatClampNeg
    · simp [va_up, upd, hq, nI_clamp (show x < 2 ^ 31 by omega)]
    · simp [va_up, upd, hq]
  rw [pj_w_set (f' := pj_c E b (pj_set u i j.toNatClampNeg (nI x))) hi (by rw [hw, pj_set_eq, hfe]) (fun j hj => pj_c_ne j hj)] at hP1
  exact kk _ h.2 H1 locs1 ls hl ⟨hP1, hS1⟩
/-- System.arraycopy of ints from one array into another -/
theorem pj_copy (C : pj_X g cc nL own ret rm) {i0 i1 n0 n1 idx : Nat} {sp dp n : Int32} {P : pj_M → Prop} (w1 : Cond.methodLink own idx arraycopyName ∈ pj_W) (w2 : Cond.native arraycopyName ∈ pj_W) (w3 : Cond.static arraycopyName ∈ pj_W) (w4 : Cond.initialized "java/lang/System" ∈ pj_W) (hi0 : i0 < pj_n) (hi1 : i1 < pj_n) (hw0 : ∀ E u, pj_c E b u i0 = .inl (E 0, n0, .inl (u i0))) (hw1 : ∀ E u, pj_c E b u i1 = .inl (E 0, n1, .inl (u i1))) (hR : 1 ≤ rm.frames ∧ (st.map fun v => v.category).sum + (nativeFrameWords "java/lang/System" "arraycopy" 5 + 11) ≤ rm.locals) (hdg : decode cc pc = .ok (.invokestatic idx, 3)) (hp : pc + 3 = pc') (h : (¬ sp < 0 ∧ ¬ dp < 0 ∧ ¬ n < 0 ∧ sp.toNatClampNeg + n.toNatClampNeg ≤ n0 ∧ dp.toNatClampNeg + n.toNatClampNeg ≤ n1) ∧ pj_arr u i1 (va_cpy (u i0) (u i1) sp.toNatClampNeg dp.toNatClampNeg n.toNatClampNeg) P) (kk : ∀ u', P u' → pj_J g (pj_N g b u') pc' vs st) : pj_J g (pj_N g b u) pc vs (.int n :: .int dp :: .ref (b + i1) :: .int sp :: .ref (b + i0) :: st) := by
  obtain ⟨p, l, e, R, s, m, args, below, meth, c, D, E, Q, mc, ms⟩ := g
  subst hp
  obtain ⟨C1, -, -, hK, rfl, hmc, hms⟩ := C
  intro H locs ls hl hh
  obtain ⟨hP, hS⟩ := hh
  refine va_copyi C1.1 C1.2.1 hl.1.symm C1.2.2.2.1 (C1.2.2.2.2 _ w1) (C1.2.2.2.2 _ w2) (C1.2.2.2.2 _ w3) (C1.2.2.2.2 _ w4) hK hP pj_w_D hS i0 i1 0 0 (f := u i0) (g := u i1) (by rw [pj_w_at hi0, hw0]) (by rw [pj_w_at hi1, hw1]) rfl rfl rfl h.1.1 h.1.2.1 h.1.2.2.1 h.1.2.2.2.1 h.1.2.2.2.2 (fun _ _ => rfl) hR.1 hR.2 hdg (fun H1 locs1 hP1 hD1 hS1 => ?_)
  rw [pj_w_set (f' := pj_c E b (fun a => if a = i1 then va_cpy (u i0) (u i1) sp.toNatClampNeg dp.toNatClampNeg n.toNatClampNeg else u a)) hi1 (by rw [hw1, if_pos rfl]) (fun j hj => by unfold pj_c; show pj_k E b (pj_T j) (if j = i1 then _ else u j) j = _; rw [if_neg hj])] at hP1
  exact kk _ h.2 H1 locs1 ls hl ⟨hP1, hS1⟩
theorem pj_min (C : pj_X g cc nL own ret rm) {idx : Nat} {x y : Int32} (w1 : Cond.methodLink own idx Lib.Math.min.name ∈ pj_W) (w2 : Cond.static Lib.Math.min.name ∈ pj_W) (w3 : Cond.initialized "java/lang/Math" ∈ pj_W) (w4 : Cond.code Lib.Math.min.name Lib.Math.min.code 2 (some .int) ∈ pj_W) (hR : 1 ≤ rm.frames ∧ (st.map fun v => v.category).sum + 13 ≤ rm.locals) (hdg : decode cc pc = .ok (.invokestatic idx, 3)) (hp : pc + 3 = pc') (kk : pj_J g (pj_N g b u) pc' vs (.int (if y < x then y else x) :: st)) : pj_J g (pj_N g b u) pc vs (.int y :: .int x :: st) := by
  obtain ⟨p, l, e, R, s, m, args, below, meth, c, D, E, Q, mc, ms⟩ := g
  subst hp
  obtain ⟨C1, -, -, hK, rfl, hmc, hms⟩ := C
  intro H locs ls hl hh
  obtain ⟨hP, hS⟩ := hh
  exact va_mmin C1.1 C1.2.1 hl.1.symm C1.2.2.2.1 (C1.2.2.2.2 _ w1) (C1.2.2.2.2 _ w2) (C1.2.2.2.2 _ w3) (C1.2.2.2.2 _ w4) hR.1 hR.2 hmc hms hdg (kk H locs ls hl ⟨hP, hS⟩)
/-- a method's contract -/
def pj_C (l : Launch) (y : MethodName) (bytes : ByteArray) (maxL : Nat) (ret : Option FieldType) (rm : Room) (D : va_G) (E : Nat → ClassId) (b : Nat) (av : List Value) (u : pj_M) (post : Option Value → pj_M → Prop) : Prop := Met l y (Cond.code y bytes maxL ret :: pj_W) rm (pj_Pc D E b av u) (pj_Qc D E b post) 0 0 (fun q => b ≤ q)
theorem pj_goes {p : Program} {l : Launch} {e : Env} {R : Room} {s : State} {m : MethodId} {args : Array Value} {below : List Frame} {meth : Method} {c : Code} {D : va_G} {E : Nat → ClassId} {post' : Option Value → pj_M → Prop} {H : Heap} {locs : List Loc} {cells slots : Nat} {Q : State → Prop} {ls : Array Slot} {st0 rest : List Value} {a : Array Value} (hr : va_Run p l e R s m args below meth c H locs cells slots 0 0 (F0 m pc ls st0) rest (pj_Qc D E b post' a) (fun q => b ≤ q)) (hS : va_S (fun q => b ≤ q) s.heap H locs)
    (kk : ∀ v u', post' v u' → ∀ H1 locs1, va_P D pj_cl (pj_w pj_n (pj_c E b u') b) H1 → va_S (fun q => b ≤ q) s.heap H1 locs1 → W p l e R s m args below meth c H1 locs1 cells slots Q (F0 m (pc + 3) ls (v.toList ++ rest))) : W p l e R s m args below meth c H locs cells slots Q (F0 m pc ls st0) := by
  intro T hT X
  obtain ⟨v, st₀, t, T', L, h0, X', hL, e1, e2, ⟨⟨v', u', hv, hp, hb⟩, hz, hk⟩, hst⟩ := hr T hT X
  cases hv
  rw [h0] at hz hk
  obtain ⟨t2, a1, b1⟩ := kk _ u' hp T'.heap (locs ++ L) (by rw [e1]; exact hb) ⟨Nat.le_trans hS.1 (by rw [e1]; exact hz), fun q h1 h2 => by rw [e1, hk q (Nat.lt_of_lt_of_le h1 hS.1) h2]; exact hS.2.1 q h1 h2, fun q hq => by
      rcases List.mem_append.mp hq with h | h
      · exact hS.2.2 q h
      · exact hL q h⟩ T' rfl X'
  exact ⟨t2, hst t2 a1, b1⟩
theorem pj_good {y : MethodName} {bytes : ByteArray} {maxL : Nat} {ret' : Option FieldType} (w5 : Cond.code y bytes maxL ret' ∈ pj_W) : GoodIn pj_W (Cond.code y bytes maxL ret' :: pj_W) := by
  intro w hw
  rcases List.mem_cons.mp hw with rfl | hw
  · exact ⟨w5, pj_Wg _ w5⟩
  · exact ⟨hw, pj_Wg _ hw⟩
theorem pj_callB {s : State} {args : Array Value} {y : MethodName} {bytes : ByteArray} {maxL idx n : Nat} {ret' : Option FieldType} {rm' R : Room} (hts : ∀ w ∈ pj_W, w.before args s = true) (hrc : rm'.cells = 0) (hrs : rm'.slots = 0) (w1 : Cond.methodLink own idx y ∈ pj_W) (w4 : Cond.initialized y.cls ∈ pj_W) (w5 : Cond.code y bytes maxL ret' ∈ pj_W) (hd : y.cls ≠ "java/lang/invoke/MethodHandle" ∧ y.cls ≠ "java/lang/invoke/VarHandle" ∧ (parseMethodDescriptor y.desc).map (fun d => d.parameters.length) = some n) (hR : rm'.frames + 1 ≤ R.frames ∧ 8 + (maxL + 11) + rm'.locals ≤ R.locals) : CallB R s args own idx y bytes maxL ret' (Cond.code y bytes maxL ret' :: pj_W) rm' 0 0 n :=
  callB_of n hts (pj_good w5) rfl hrc hrs (hts _ w4) (hts _ w1) hd hR
theorem pj_pre {D : va_G} {E : Nat → ClassId} {s : State} {H : Heap} {av : List Value} (hP : va_P D pj_cl (pj_w pj_n (pj_c E b u) b) H) (hK : va_K D pj_cl (pj_tys E) s) : PreS s H (pj_Pc D E b av u) av :=
  ⟨fun a U g mk q => ⟨q.1, q.2.1, va_K.moved (u := U) (U := U.calling g mk a) (Vm.Alike.refl U.vm) q.2.2⟩, fun U hU hW => ⟨rfl, by rw [hU]; exact hP, va_K.moved hW.alike hK⟩⟩
theorem pj_callV (C : pj_X g cc nL own ret rm) {y : MethodName} {bytes : ByteArray} {maxL idx n i ci N : Nat} {ret' : Option FieldType} {rm' : Room} {Cn : String} {T : u_T} {fs : List Value} {As rest : List Value} {post' : Option Value → pj_M → Prop} (hM : ∀ l D E, pj_C l y bytes maxL ret' rm' D E b (.ref (b + i) :: As) u post') (hrc : rm'.cells = 0) (hrs : rm'.slots = 0) (hc : pj_cl[ci]? = some (Cn, T, N)) (hi : i < pj_n) (hw : ∀ E, pj_c E b u i = .inr (ci, fs)) (w1 : Cond.methodLink own idx y ∈ pj_W) (w2 : Cond.instanceMethod y ∈ pj_W) (w3 : Cond.selects Cn y y ∈ pj_W) (w4 : Cond.initialized y.cls ∈ pj_W) (w5 : Cond.code y bytes maxL ret' ∈ pj_W) (hd : y.cls ≠ "java/lang/invoke/MethodHandle" ∧ y.cls ≠ "java/lang/invoke/VarHandle" ∧ (parseMethodDescriptor y.desc).map (fun d => d.parameters.length) = some n) (hn : As.length = n) (hR : rm'.frames + 1 ≤ rm.frames ∧ 8 + (maxL + 11) + rm'.locals ≤ rm.locals) (hst : st = As.reverse ++ .ref (b + i) :: rest) (h8 : (rest.map fun v => v.category).sum ≤ 8) (hdg : decode cc pc = .ok (.invokevirtual idx, 3)) (hp : pc + 3 = pc') (kk : ∀ v u', post' v u' → pj_J g (pj_N g b u') pc' vs (v.toList ++ rest)) : pj_J g (pj_N g b u) pc vs st := by
  obtain ⟨p, l, e, R, s, m, args, below, meth, c, D, E, Q, mc, ms⟩ := g
  subst hp
  subst hst
  obtain ⟨C1, -, -, hK, rfl, hmc, hms⟩ := C
  intro H locs ls hl hh
  obtain ⟨hP, hS⟩ := hh
  have hpre := pj_pre (av := .ref (b + i) :: As) hP hK
  refine pj_goes (va_runV (As := As) (b := b + i) (rest := rest) C1 (hM l D E) ⟨pj_callB C1.2.2.2.2 hrc hrs w1 w4 w5 hd hR, C1.2.2.2.2 _ w2, C1.2.2.2.2 _ w3⟩ ⟨hpre.1, va_recv hK hP hc (by rw [pj_w_at hi, hw]), hpre.2⟩ rfl hn (by show ls.size = _; rw [hl.1]; exact C1.2.2.1) rfl (lv_room h8) hdg ⟨hmc, hms⟩) hS (fun v u' hp H1 locs1 hP1 hS1 => kk v u' hp H1 locs1 ls hl ⟨hP1, hS1⟩)
theorem pj_callU (C : pj_X g cc nL own ret rm) {x y : MethodName} {bytes : ByteArray} {maxL idx n i ci N : Nat} {ret' : Option FieldType} {rm' : Room} {Cn owner : String} {T : u_T} {fs : List Value} {As rest : List Value} {post' : Option Value → pj_M → Prop} (hM : ∀ l D E, pj_C l y bytes maxL ret' rm' D E b (.ref (b + i) :: As) u post') (hrc : rm'.cells = 0) (hrs : rm'.slots = 0) (hc : pj_cl[ci]? = some (Cn, T, N)) (hi : i < pj_n) (hw : ∀ E, pj_c E b u i = .inr (ci, fs)) (hyx : y = ⟨owner, x.name, x.desc⟩) (w1 : Cond.methodLink own idx x ∈ pj_W) (w2 : Cond.instanceMethod y ∈ pj_W) (w3 : Cond.selects Cn x y ∈ pj_W) (w4 : Cond.initialized y.cls ∈ pj_W) (w5 : Cond.code y bytes maxL ret' ∈ pj_W) (w6 : Cond.sameMethod x.cls owner x.name x.desc ∈ pj_W) (hd : owner ≠ "java/lang/invoke/MethodHandle" ∧ owner ≠ "java/lang/invoke/VarHandle" ∧ (parseMethodDescriptor x.desc).map (fun d => d.parameters.length) = some n) (hn : As.length = n) (hR : rm'.frames + 1 ≤ rm.frames ∧ 8 + (maxL + 11) + rm'.locals ≤ rm.locals) (hst : st = As.reverse ++ .ref (b + i) :: rest) (h8 : (rest.map fun v => v.category).sum ≤ 8) (hdg : decode cc pc = .ok (.invokevirtual idx, 3)) (hp : pc + 3 = pc') (kk : ∀ v u', post' v u' → pj_J g (pj_N g b u') pc' vs (v.toList ++ rest)) : pj_J g (pj_N g b u) pc vs st := by
  obtain ⟨p, l, e, R, s, m, args, below, meth, c, D, E, Q, mc, ms⟩ := g
  subst hp
  subst hst
  obtain ⟨C1, -, -, hK, rfl, hmc, hms⟩ := C
  intro H locs ls hl hh
  obtain ⟨hP, hS⟩ := hh
  have hpre := pj_pre (av := .ref (b + i) :: As) hP hK
  have hT : GoodIn pj_W (va_wsU own idx Cn owner x y (Cond.code y bytes maxL ret' :: pj_W)) := by
    intro w hw
    have hm : w ∈ pj_W := by
      rcases List.mem_append.mp hw with h | h
      · simp only [List.mem_cons, List.not_mem_nil, or_false] at h
        rcases h with rfl | rfl | rfl | rfl | rfl <;> assumption
      · exact (pj_good w5 w h).1
    exact ⟨hm, pj_Wg _ hm⟩
  refine pj_goes (va_runU (As := As) (b := b + i) (rest := rest) C1 (hM l D E) (va_cwU n C1.2.2.2.2 hT rfl hrc hrs hyx hd hR) ⟨hpre.1, va_recv hK hP hc (by rw [pj_w_at hi, hw]), hpre.2⟩ rfl hn (by show ls.size = _; rw [hl.1]; exact C1.2.2.1) rfl (lv_room h8) hdg ⟨hmc, hms⟩) hS (fun v u' hp H1 locs1 hP1 hS1 => kk v u' hp H1 locs1 ls hl ⟨hP1, hS1⟩)
theorem pj_callS (C : pj_X g cc nL own ret rm) {y : MethodName} {bytes : ByteArray} {maxL idx n : Nat} {ret' : Option FieldType} {rm' : Room} {As rest : List Value} {post' : Option Value → pj_M → Prop} (hM : ∀ l D E, pj_C l y bytes maxL ret' rm' D E b As u post') (hrc : rm'.cells = 0) (hrs : rm'.slots = 0) (w1 : Cond.methodLink own idx y ∈ pj_W) (w2 : Cond.static y ∈ pj_W) (w4 : Cond.initialized y.cls ∈ pj_W) (w5 : Cond.code y bytes maxL ret' ∈ pj_W) (hd : y.cls ≠ "java/lang/invoke/MethodHandle" ∧ y.cls ≠ "java/lang/invoke/VarHandle" ∧ (parseMethodDescriptor y.desc).map (fun d => d.parameters.length) = some n) (hn : As.length = n) (hR : rm'.frames + 1 ≤ rm.frames ∧ 8 + (maxL + 11) + rm'.locals ≤ rm.locals) (hst : st = As.reverse ++ rest) (h8 : (rest.map fun v => v.category).sum ≤ 8) (hdg : decode cc pc = .ok (.invokestatic idx, 3)) (hp : pc + 3 = pc') (kk : ∀ v u', post' v u' → pj_J g (pj_N g b u') pc' vs (v.toList ++ rest)) : pj_J g (pj_N g b u) pc vs st := by
  obtain ⟨p, l, e, R, s, m, args, below, meth, c, D, E, Q, mc, ms⟩ := g
  subst hp
  subst hst
  obtain ⟨C1, -, -, hK, rfl, hmc, hms⟩ := C
  intro H locs ls hl hh
  obtain ⟨hP, hS⟩ := hh
  refine pj_goes (va_runS (As := As) (rest := rest) C1 (hM l D E) ⟨pj_callB C1.2.2.2.2 hrc hrs w1 w4 w5 hd hR, C1.2.2.2.2 _ w2⟩ (pj_pre hP hK) rfl hn (by show ls.size = _; rw [hl.1]; exact C1.2.2.1) rfl (lv_room h8) hdg ⟨hmc, hms⟩) hS (fun v u' hp H1 locs1 hP1 hS1 => kk v u' hp H1 locs1 ls hl ⟨hP1, hS1⟩)
def pj_vs : List Value → List (Option Value)
  | [] => []
  | v :: l => some v :: (if v.category = 2 then none :: pj_vs l else pj_vs l)
theorem pj_vs_mem : ∀ (av : List Value) (k i : Nat) (v : Value), (pj_vs av)[i]? = some (some v) → (k + i, v) ∈ lv_args k av
  | [], _, i, v, h => by simp [pj_vs] at h
  | a :: l, k, i, v, h => by
    cases i with
    | zero =>
      simp [pj_vs] at h
      subst h
      simp [lv_args]
    | succ i =>
      rw [pj_vs, List.getElem?_cons_succ] at h
      refine List.mem_cons_of_mem _ ?_
      by_cases hc : a.category = 2
      · rw [if_pos hc] at h ⊢
        cases i with
        | zero => simp at h
        | succ i =>
          rw [List.getElem?_cons_succ] at h
          have := pj_vs_mem l (k + 2) i v h
          rw [show k + (i + 1 + 1) = k + 2 + i by omega]
          exact this
      · rw [if_neg hc] at h ⊢
        have := pj_vs_mem l (k + 1) i v h
        rw [show k + (i + 1) = k + 1 + i by omega]
        exact this
theorem pj_vs_pad {av : List Value} {n i : Nat} {v : Value} (h : (pj_vs av ++ List.replicate n none)[i]? = some (some v)) : (i, v) ∈ lv_args 0 av := by
  by_cases hi : i < (pj_vs av).length
  · rw [List.getElem?_append_left hi] at h
    have := pj_vs_mem av 0 i v h
    rwa [Nat.zero_add] at this
  · rw [List.getElem?_append_right (by omega), List.getElem?_replicate] at h
    split at h <;> simp at h
/-- a contract out of a walk from the method's first instruction -/
theorem pj_met {l : Launch} {y : MethodName} {D : va_G} {E : Nat → ClassId} {av : List Value} {post : Option Value → pj_M → Prop} (hy : plainName y.cls = true) (hcl : y.cls = own) (hlen : (lg_sl av).length ≤ nL)
    (hJ : ∀ g : pj_G, pj_E g b post → pj_X g cc nL own ret rm → pj_J g (pj_N g b u) 0 (pj_vs av ++ List.replicate (nL - (pj_vs av).length) none) []) : pj_C l y cc nL ret rm D E b av u post := by
  refine Met.ofW (cc := cc) (maxL := nL) (ret := ret) hy rfl ?_
  intro p e s m args below meth c s₁ B hml hv
  obtain ⟨rfl, hP, hK⟩ := hv
  have hts0 := atoms_spec (ws := Cond.code y cc nL ret :: pj_W) B.pre
  have hown : s.vm.findClass own = some m.cls := by rw [← hcl]; exact findClass_of_methodNamed B.named
  have hl := lv_entry av (n := nL) hlen
  rw [lg_entry_eq]
  refine hJ (p, l, e, rm, s, m, av.toArray, below, meth, c, D, E, _, 0, 0) ⟨rfl, rfl, rfl⟩ ⟨⟨B.exec, B.bytes, hml, hown, fun w hw => hts0 w (List.mem_cons_of_mem _ hw)⟩, B.returns, B.notSynchronized, hK, rfl, Nat.zero_le _, Nat.zero_le _⟩ s.heap [] _ ⟨hl.1.trans hml.symm, hl.2.1, fun i v h => hl.2.2 (i, v) (pj_vs_pad h)⟩ ⟨hP, va_S.rf⟩
end PJ
