/-! THE CLAIM OUT OF ONE WALK OF THE LAW'S BODY. Your part is whole_start (and what it stands on); all else here is the same for every law, but numbers. -/
def R_law : String := "PortGuardLaw"
def lw_P (b : Addr) (xs : List Int32) (args : Array Value) (s : State) : Prop := args = #[.ref b] ∧ s.IntsAt b xs ∧ xs.length ≤ 2561 ∧ (Jvm.Cond.and given_1 narrow_1).before args s = true
def lw_Q (_ : Array Value) (s : State) (o : Outcome) (t : State) : Prop := o = .returned (some (.int 1)) ∧ Framed s o t [] 600000 7302250
def lw_Z (below : List Frame) (a : Array Value) (s : State) : State → Prop := fun t => ∃ o, t.status = .running ∧ Ended t below o ∧ lw_Q a s o t
/-- the law's own end, with 1 on the stack, nothing written that was there before, its room as the claim has it -/
theorem lw_ret {p : Program} {l : Launch} {e : Env} {s : State} {m : MethodId} {below : List Frame} {meth : Method} {c : Code} {b : Nat} (hx : p.tables.exec = Jvm.exec) (hb : c.code = code) (hr : meth.sig.returnType = ret) (hlocks : meth.locks = false) {pc : Nat} {H : Heap} {ls : Array Slot} (hdg : decode code pc = .ok (.ireturn, 1)) : W p l e room_1 s m #[Value.ref b] below meth c H [] 600000 7302250 (lw_Z below #[Value.ref b] s) (F0 m pc ls [.int 1]) := by
  intro T hT X
  obtain ⟨fs, hret, hrun, hended, hW, hframe⟩ := X.leave (v := some (.int 1)) (hlocks := hlocks) (fun h => by rw [hr] at h; cases h)
  have hmeth' : T.vm.method? m = some meth := X.method'
  refine ⟨T.setFrames fs, ?_, .returned (some (.int 1)), hrun, hended, rfl, ⟨_, rfl⟩, hW, hframe⟩
  jvm_step X.here [X.here.top, hx, hb, hdg, hmeth', hr, ret, narrow_b1]
  (try refine ⟨rfl, ?_⟩); (try refine ⟨rfl, ?_⟩)
  first | (intro acts; rw [hret _ acts rfl rfl rfl]) | rw [hret _ _ rfl rfl rfl]
  exact Steps.refl _
/-- what holds at the law's entry: the machine, the code, the tables' words (any of lw_tbl by 'hts w (by decide +kernel)'), the script of L ints xs at the cell b, what the Statement gives of the start (any of its parts by flat_of_before) -/
def lw_At (p : Program) (s : State) (m : MethodId) (meth : Method) (c : Code) (b L : Nat) (xs : Nat → Int32) : Prop :=
  p.tables.exec = Jvm.exec ∧ c.code = code ∧ meth.sig.returnType = ret ∧ c.maxLocals = 4 ∧ s.vm.findClass R_law = some m.cls ∧ (∀ w ∈ lw_tbl, w.before #[Value.ref b] s = true) ∧ va_X b L xs s s.heap ∧ b < s.heap.size ∧ meth.locks = false ∧ (Jvm.Cond.and given_1 narrow_1).before #[Value.ref b] s = true
/-! The law: its script, its end -/
def pl_S (g : pj_G) (b sb L : Nat) (xs : Nat → Int32) : Prop := match g with
  | (_, _, _, R, s, _, args, below, _, _, _, _, Q, mc, ms) => va_X sb L xs s s.heap ∧ sb < s.heap.size ∧ b = s.heap.size ∧ L < 2 ^ 31 ∧ args = #[Value.ref sb] ∧ Q = lw_Z below #[Value.ref sb] s ∧ R = room_1 ∧ mc = 600000 ∧ ms = 7302250
section PL
variable {g : pj_G} {b sb L : Nat} {xs : Nat → Int32} {u : pj_M} {pc pc' : Nat} {vs : List (Option Value)} {st : List Value}
theorem pl_sld (C : pj_X g code 4 R_La ret room_1) (SX : pl_S g b sb L xs) {j : Int32} {B : Prop} (hdg : decode code pc = .ok (.iaload, 1)) (hp : pc + 1 = pc') (h : vp_in j L ∧ B) (kk : B → pj_J g (pj_N g b u) pc' vs (.int (xs j.toNatClampNeg) :: st)) : pj_J g (pj_N g b u) pc vs (.int j :: .ref sb :: st) := by
  obtain ⟨p, l, e, R, s, m, args, below, meth, c, D, E, Q, mc, ms⟩ := g
  subst hp
  obtain ⟨hX, hs, hb, -⟩ := SX
  intro H locs ls hl hh
  exact va_sld C.1.1 C.1.2.1 hX hs (by rw [hb]; exact Nat.not_le.mpr hs) hh.2 h.1 hdg (kk h.2 H locs ls hl hh)
theorem pl_slen (C : pj_X g code 4 R_La ret room_1) (SX : pl_S g b sb L xs) (hdg : decode code pc = .ok (.arraylength, 1)) (hp : pc + 1 = pc') (kk : pj_J g (pj_N g b u) pc' vs (.int (nI L) :: st)) : pj_J g (pj_N g b u) pc vs (.ref sb :: st) := by
  obtain ⟨p, l, e, R, s, m, args, below, meth, c, D, E, Q, mc, ms⟩ := g
  subst hp
  obtain ⟨hX, hs, hb, -⟩ := SX
  intro H locs ls hl hh
  exact va_slen C.1.1 C.1.2.1 hX hs (by rw [hb]; exact Nat.not_le.mpr hs) hh.2 hdg (kk H locs ls hl hh)
theorem pl_ret (C : pj_X g code 4 R_La ret room_1) (SX : pl_S g b sb L xs) (hdg : decode code pc = .ok (.ireturn, 1)) : pj_J g (pj_N g b u) pc vs [.int 1] := by
  obtain ⟨p, l, e, R, s, m, args, below, meth, c, D, E, Q, mc, ms⟩ := g
  obtain ⟨hX, hs, hb, hL, rfl, rfl, rfl, rfl, rfl⟩ := SX
  intro H locs ls hl hh
  exact va_forget (fun q hq => by rw [← hb]; exact hh.2.2.2 q hq) (lw_ret C.1.1 C.1.2.1 C.2.1 C.2.2.1 hdg)
end PL
/-! cell(script, k) -/
def pl_cv (L : Nat) (xs : Nat → Int32) : Int32 := if 0 < L then xs 0 else 0
def rm_La_cell : Room := { frames := 0, cells := 0, slots := 0, locals := 0 }
theorem pc_La_cell (l : Launch) {sb L : Nat} {xs : Nat → Int32} (hL : L < 2 ^ 31) : Met l y_La_cell (Cond.code y_La_cell c_La_cell 2 (some .int) :: pj_W) rm_La_cell (va_Pc [.ref sb, .int 0] (fun U => va_X sb L xs U U.heap ∧ sb < U.heap.size)) (fun _ st oc t => oc = .returned (some (.int (pl_cv L xs))) ∧ t.heap = st.heap) 0 0 (fun _ => False) := by
  refine Met.ofW (cc := c_La_cell) (maxL := 2) (ret := some .int) (by decide +kernel) rfl ?_
  intro p e s m args below meth c s₁ B hml hv
  obtain ⟨rfl, hX, hs⟩ := hv
  have hx := B.exec
  have hb := B.bytes
  have hr := B.returns
  have hlocks := B.notSynchronized
  have hS : va_S (fun _ => False) s.heap s.heap [] := va_S.rf
  have hl := lv_entry ([.ref sb, .int 0]) (n := 2) (Nat.le_of_ble_eq_true rfl)
  rw [lg_entry_eq]
  generalize (lg_sl ([.ref sb, .int 0]) ++ List.replicate (2 - (lg_sl ([.ref sb, .int 0])).length) Slot.unset).toArray = ls at hl ⊢
  have hl : lv_has ls 2 [(0, .ref sb), (1, .int 0)] := hl
  refine lv_iload_n hx hb d_La_cell_0 rfl (lv_at hl 1 rfl) ?_
  refine lv_aload_n hx hb d_La_cell_1 rfl (lv_at hl 0 rfl) ?_
  refine va_slen hx hb hX hs id hS d_La_cell_2 ?_
  refine lv_icmp_ge hx hb d_La_cell_3 (tgt := 12) (by decide) (fun h => ?_) (fun h => ?_)
  · have h0 : ¬ 0 < L := fun q => nI_ge (a := 0) (b := L) q hL h
    refine lv_iconst (v := 0) hx hb d_La_cell_12 (by decide) ?_
    exact W.iret hx hb hr (fun t ht hW => ⟨by rw [pl_cv, if_neg h0], ht⟩) (fun q hq => absurd hq List.not_mem_nil) d_La_cell_13
  · have h0 : 0 < L := Nat.pos_of_ne_zero (fun q => h (by subst q; exact Int32.le_refl _))
    refine lv_aload_n hx hb d_La_cell_6 rfl (lv_at hl 0 rfl) ?_
    refine lv_iload_n hx hb d_La_cell_7 rfl (lv_at hl 1 rfl) ?_
    refine va_sld hx hb hX hs id hS (i := 0) (vp_in_nI (n := 0) h0 hL) d_La_cell_8 ?_
    refine lv_goto hx hb d_La_cell_9 (tgt := 13) (by decide) ?_
    exact W.iret hx hb hr (fun t ht hW => ⟨by rw [pl_cv, if_pos h0]; rfl, ht⟩) (fun q hq => absurd hq List.not_mem_nil) d_La_cell_13
def pl_Y (g : pj_G) (b sb L : Nat) (xs : Nat → Int32) : Prop := match g with
  | (_, _, _, _, s, _, _, _, _, _, _, _, _, _, _) => va_X sb L xs s s.heap ∧ sb < s.heap.size ∧ b = s.heap.size
section PLZ
variable {g : pj_G} {b n0 n1 n sb L : Nat} {xs : Nat → Int32} {u : pj_M} {pc pc' : Nat} {vs : List (Option Value)} {st : List Value}
/-- the law calls cell while the cells are made -/
theorem pl_cell (Z : pz_X g b n0 n1 code 4 R_La ret room_1) (hX : pl_Y g b sb L xs) (hL : L < 2 ^ 31) (h0 : n0 ≤ n) (h1 : n ≤ n1) (w1 : Cond.methodLink R_La 9 y_La_cell ∈ pj_W) (w2 : Cond.static y_La_cell ∈ pj_W) (w4 : Cond.initialized y_La_cell.cls ∈ pj_W) (w5 : Cond.code y_La_cell c_La_cell 2 (some .int) ∈ pj_W) (h8 : (st.map fun v => v.category).sum ≤ 8) (hdg : decode code pc = .ok (.invokestatic 9, 3)) (hp : pc + 3 = pc') (kk : pj_J (pz_g g n0 n) (pz_N g b n u) pc' vs (.int (pl_cv L xs) :: st)) : pj_J (pz_g g n0 n) (pz_N g b n u) pc vs (.int 0 :: .ref sb :: st) := by
  obtain ⟨p, l, e, R, s, m, args, below, meth, c, D, E, Q, mc, ms⟩ := g
  subst hp
  obtain ⟨C1, z2, z3, hK, rfl, z6, z7, z8, z9, z10, z11, z12⟩ := Z
  obtain ⟨hX, hs, hb⟩ := hX
  intro H locs ls hl hh
  obtain ⟨hP, hS⟩ := hh
  have hbA : ¬ b ≤ sb := by rw [hb]; exact Nat.not_le.mpr hs
  have hH : H[sb]? = s.heap[sb]? := hS.2.1 sb hs hbA
  have hXH : va_X sb L xs s H := hX.kept hH
  have hpre : PreS s H (va_Pc [.ref sb, .int 0] (fun U => va_X sb L xs U U.heap ∧ sb < U.heap.size)) [.ref sb, .int 0] :=
    ⟨fun a U g mk q => ⟨q.1, va_X.moved (u := U) (U := U.calling g mk a) (Vm.Alike.refl U.vm) q.2.1, q.2.2⟩, fun U hU hW => ⟨rfl, by rw [hU]; exact hXH.moved hW.alike, by rw [hU]; exact Nat.lt_of_lt_of_le hs hS.1⟩⟩
  have hf : n - n0 + 0 ≤ room_1.cells ∧ pz_s n - pz_s n0 + 0 ≤ room_1.slots := ⟨Nat.le_trans (pz_ar7 h1) z9, Nat.le_trans (pz_ar7 (pz_s_mono h1 z12)) z10⟩
  have hrun := va_runS (g := F0 m pc ls (.int 0 :: .ref sb :: st)) (As := [.ref sb, .int 0]) (rest := st) (locs := locs) (cells := n - n0) (slots := pz_s n - pz_s n0) (e := e) (below := below) (meth := meth) C1 (pc_La_cell l (sb := sb) (xs := xs) hL) ⟨pj_callB C1.2.2.2.2 (n := 2) rfl rfl w1 w4 w5 (by decide +kernel) ⟨Nat.le_of_ble_eq_true rfl, Nat.le_of_ble_eq_true rfl⟩, C1.2.2.2.2 _ w2⟩ hpre rfl rfl (by show ls.size = _; rw [hl.1]; exact C1.2.2.1) rfl (lv_room h8) hdg hf
  intro T hT X
  obtain ⟨v, st₀, t, T', Lo, e0, X', hLo, e1, e2, ⟨hv, ht⟩, hst⟩ := hrun T hT X
  cases hv
  have hLn : Lo = [] := List.eq_nil_iff_forall_not_mem.mpr (fun q hq => hLo q hq)
  subst hLn
  rw [List.append_nil] at X'
  obtain ⟨t2, a1, b1⟩ := kk H locs ls hl ⟨hP, hS⟩ T' (by rw [e1, ht, e0]) X'
  exact ⟨t2, hst t2 a1, b1⟩
end PLZ
theorem ck_Law_104_PortGuard {g : pj_G} {b : Nat} {cc : ByteArray} {nL : Nat} {ret : Option FieldType} {rm : Room} {u : pj_M} {pc pc' : Nat} {vs : List (Option Value)} {st : List Value} (C : pj_X g cc nL R_La ret rm)  {K : Int32 → pj_M → Prop}  (h : pw_PG_favourite u  K) (hdg : decode cc pc = .ok (.invokevirtual 104, 3)) (hp : pc + 3 = pc') (hR : rm_PG_favourite.frames + 1 ≤ rm.frames ∧ 8 + (1 + 11) + rm_PG_favourite.locals ≤ rm.locals) (h8 : (st.map fun v => v.category).sum ≤ 8) (kk : ∀ r u', K r u' → pj_J g (pj_N g b u') pc' vs (.int r :: st)) : pj_J g (pj_N g b u) pc vs (.ref (b + 0) :: st) :=
  pj_callV C (As := []) (fun l D E => pc_PG_favourite l D E  h) rfl rfl cl_PortGuard (pj_lt tk_0 (by decide)) (fun E => ko_0 tk_0) wm_1111 wm_1112 wm_1113 wm_91 wm_1114 (by decide +kernel) (n := 0) rfl hR rfl h8 hdg hp (fun v u' hq => by obtain ⟨r, rfl, hk⟩ := hq; exact kk r u' hk)
theorem ck_Law_107_Model {g : pj_G} {b : Nat} {cc : ByteArray} {nL : Nat} {ret : Option FieldType} {rm : Room} {u : pj_M} {pc pc' : Nat} {vs : List (Option Value)} {st : List Value} (C : pj_X g cc nL R_La ret rm)  {K : Int32 → pj_M → Prop}  (h : pw_Mo_favourite u  K) (hdg : decode cc pc = .ok (.invokevirtual 107, 3)) (hp : pc + 3 = pc') (hR : rm_Mo_favourite.frames + 1 ≤ rm.frames ∧ 8 + (1 + 11) + rm_Mo_favourite.locals ≤ rm.locals) (h8 : (st.map fun v => v.category).sum ≤ 8) (kk : ∀ r u', K r u' → pj_J g (pj_N g b u') pc' vs (.int r :: st)) : pj_J g (pj_N g b u) pc vs (.ref (b + 217) :: st) :=
  pj_callV C (As := []) (fun l D E => pc_Mo_favourite l D E  h) rfl rfl cl_Model (pj_lt tk_217 (by decide)) (fun E => ko_11 tk_217) wm_1626 wm_1627 wm_1628 wm_103 wm_1629 (by decide +kernel) (n := 0) rfl hR rfl h8 hdg hp (fun v u' hq => by obtain ⟨r, rfl, hk⟩ := hq; exact kk r u' hk)
theorem ck_Law_100_PortGuard {g : pj_G} {b : Nat} {cc : ByteArray} {nL : Nat} {ret : Option FieldType} {rm : Room} {u : pj_M} {pc pc' : Nat} {vs : List (Option Value)} {st : List Value} (C : pj_X g cc nL R_La ret rm) {x1 : Int32} {K : Int32 → pj_M → Prop}  (h : pw_PG_learned u x1 K) (hdg : decode cc pc = .ok (.invokevirtual 100, 3)) (hp : pc + 3 = pc') (hR : rm_PG_learned.frames + 1 ≤ rm.frames ∧ 8 + (2 + 11) + rm_PG_learned.locals ≤ rm.locals) (h8 : (st.map fun v => v.category).sum ≤ 8) (kk : ∀ r u', K r u' → pj_J g (pj_N g b u') pc' vs (.int r :: st)) : pj_J g (pj_N g b u) pc vs (.int x1 :: .ref (b + 0) :: st) :=
  pj_callV C (As := [.int x1]) (fun l D E => pc_PG_learned l D E  h) rfl rfl cl_PortGuard (pj_lt tk_0 (by decide)) (fun E => ko_0 tk_0) wm_1107 wm_1108 wm_1109 wm_91 wm_1110 (by decide +kernel) (n := 1) rfl hR rfl h8 hdg hp (fun v u' hq => by obtain ⟨r, rfl, hk⟩ := hq; exact kk r u' hk)
theorem ck_Law_103_Model {g : pj_G} {b : Nat} {cc : ByteArray} {nL : Nat} {ret : Option FieldType} {rm : Room} {u : pj_M} {pc pc' : Nat} {vs : List (Option Value)} {st : List Value} (C : pj_X g cc nL R_La ret rm) {x1 : Int32} {K : Int32 → pj_M → Prop}  (h : pw_Mo_learned u x1 K) (hdg : decode cc pc = .ok (.invokevirtual 103, 3)) (hp : pc + 3 = pc') (hR : rm_Mo_learned.frames + 1 ≤ rm.frames ∧ 8 + (2 + 11) + rm_Mo_learned.locals ≤ rm.locals) (h8 : (st.map fun v => v.category).sum ≤ 8) (kk : ∀ r u', K r u' → pj_J g (pj_N g b u') pc' vs (.int r :: st)) : pj_J g (pj_N g b u) pc vs (.int x1 :: .ref (b + 217) :: st) :=
  pj_callV C (As := [.int x1]) (fun l D E => pc_Mo_learned l D E  h) rfl rfl cl_Model (pj_lt tk_217 (by decide)) (fun E => ko_11 tk_217) wm_1622 wm_1623 wm_1624 wm_103 wm_1625 (by decide +kernel) (n := 1) rfl hR rfl h8 hdg hp (fun v u' hq => by obtain ⟨r, rfl, hk⟩ := hq; exact kk r u' hk)
theorem ck_Law_95_PortGuard {g : pj_G} {b : Nat} {cc : ByteArray} {nL : Nat} {ret : Option FieldType} {rm : Room} {u : pj_M} {pc pc' : Nat} {vs : List (Option Value)} {st : List Value} (C : pj_X g cc nL R_La ret rm) {x1 : Int32} {K : Int32 → pj_M → Prop}  (h : pw_PG_wrong u x1 K) (hdg : decode cc pc = .ok (.invokevirtual 95, 3)) (hp : pc + 3 = pc') (hR : rm_PG_wrong.frames + 1 ≤ rm.frames ∧ 8 + (4 + 11) + rm_PG_wrong.locals ≤ rm.locals) (h8 : (st.map fun v => v.category).sum ≤ 8) (kk : ∀ r u', K r u' → pj_J g (pj_N g b u') pc' vs (.int r :: st)) : pj_J g (pj_N g b u) pc vs (.int x1 :: .ref (b + 0) :: st) :=
  pj_callV C (As := [.int x1]) (fun l D E => pc_PG_wrong l D E  h) rfl rfl cl_PortGuard (pj_lt tk_0 (by decide)) (fun E => ko_0 tk_0) wm_1103 wm_1104 wm_1105 wm_91 wm_1106 (by decide +kernel) (n := 1) rfl hR rfl h8 hdg hp (fun v u' hq => by obtain ⟨r, rfl, hk⟩ := hq; exact kk r u' hk)
theorem ck_Law_99_Model {g : pj_G} {b : Nat} {cc : ByteArray} {nL : Nat} {ret : Option FieldType} {rm : Room} {u : pj_M} {pc pc' : Nat} {vs : List (Option Value)} {st : List Value} (C : pj_X g cc nL R_La ret rm) {x1 : Int32} {K : Int32 → pj_M → Prop}  (h : pw_Mo_wrong u x1 K) (hdg : decode cc pc = .ok (.invokevirtual 99, 3)) (hp : pc + 3 = pc') (hR : rm_Mo_wrong.frames + 1 ≤ rm.frames ∧ 8 + (2 + 11) + rm_Mo_wrong.locals ≤ rm.locals) (h8 : (st.map fun v => v.category).sum ≤ 8) (kk : ∀ r u', K r u' → pj_J g (pj_N g b u') pc' vs (.int r :: st)) : pj_J g (pj_N g b u) pc vs (.int x1 :: .ref (b + 217) :: st) :=
  pj_callV C (As := [.int x1]) (fun l D E => pc_Mo_wrong l D E  h) rfl rfl cl_Model (pj_lt tk_217 (by decide)) (fun E => ko_11 tk_217) wm_1618 wm_1619 wm_1620 wm_103 wm_1621 (by decide +kernel) (n := 1) rfl hR rfl h8 hdg hp (fun v u' hq => by obtain ⟨r, rfl, hk⟩ := hq; exact kk r u' hk)
theorem ck_Law_91_PortGuard {g : pj_G} {b : Nat} {cc : ByteArray} {nL : Nat} {ret : Option FieldType} {rm : Room} {u : pj_M} {pc pc' : Nat} {vs : List (Option Value)} {st : List Value} (C : pj_X g cc nL R_La ret rm) {x1 : Int32} {x2 : Int32} {K : Int32 → pj_M → Prop}  (h : pw_PG_server u x1 x2 K) (hdg : decode cc pc = .ok (.invokevirtual 91, 3)) (hp : pc + 3 = pc') (hR : rm_PG_server.frames + 1 ≤ rm.frames ∧ 8 + (3 + 11) + rm_PG_server.locals ≤ rm.locals) (h8 : (st.map fun v => v.category).sum ≤ 8) (kk : ∀ r u', K r u' → pj_J g (pj_N g b u') pc' vs (.int r :: st)) : pj_J g (pj_N g b u) pc vs (.int x2 :: .int x1 :: .ref (b + 0) :: st) :=
  pj_callV C (As := [.int x1, .int x2]) (fun l D E => pc_PG_server l D E  h) rfl rfl cl_PortGuard (pj_lt tk_0 (by decide)) (fun E => ko_0 tk_0) wm_1095 wm_1096 wm_1097 wm_91 wm_1098 (by decide +kernel) (n := 2) rfl hR rfl h8 hdg hp (fun v u' hq => by obtain ⟨r, rfl, hk⟩ := hq; exact kk r u' hk)
theorem ck_Law_94_Model {g : pj_G} {b : Nat} {cc : ByteArray} {nL : Nat} {ret : Option FieldType} {rm : Room} {u : pj_M} {pc pc' : Nat} {vs : List (Option Value)} {st : List Value} (C : pj_X g cc nL R_La ret rm) {x1 : Int32} {x2 : Int32} {K : Int32 → pj_M → Prop}  (h : pw_Mo_server u x1 x2 K) (hdg : decode cc pc = .ok (.invokevirtual 94, 3)) (hp : pc + 3 = pc') (hR : rm_Mo_server.frames + 1 ≤ rm.frames ∧ 8 + (3 + 11) + rm_Mo_server.locals ≤ rm.locals) (h8 : (st.map fun v => v.category).sum ≤ 8) (kk : ∀ r u', K r u' → pj_J g (pj_N g b u') pc' vs (.int r :: st)) : pj_J g (pj_N g b u) pc vs (.int x2 :: .int x1 :: .ref (b + 217) :: st) :=
  pj_callV C (As := [.int x1, .int x2]) (fun l D E => pc_Mo_server l D E  h) rfl rfl cl_Model (pj_lt tk_217 (by decide)) (fun E => ko_11 tk_217) wm_1614 wm_1615 wm_1616 wm_103 wm_1617 (by decide +kernel) (n := 2) rfl hR rfl h8 hdg hp (fun v u' hq => by obtain ⟨r, rfl, hk⟩ := hq; exact kk r u' hk)
theorem ck_Law_87_PortGuard {g : pj_G} {b : Nat} {cc : ByteArray} {nL : Nat} {ret : Option FieldType} {rm : Room} {u : pj_M} {pc pc' : Nat} {vs : List (Option Value)} {st : List Value} (C : pj_X g cc nL R_La ret rm) {x1 : Int32} {x2 : Int32} {K : Int32 → pj_M → Prop}  (h : pw_PG_station u x1 x2 K) (hdg : decode cc pc = .ok (.invokevirtual 87, 3)) (hp : pc + 3 = pc') (hR : rm_PG_station.frames + 1 ≤ rm.frames ∧ 8 + (3 + 11) + rm_PG_station.locals ≤ rm.locals) (h8 : (st.map fun v => v.category).sum ≤ 8) (kk : ∀ r u', K r u' → pj_J g (pj_N g b u') pc' vs (.int r :: st)) : pj_J g (pj_N g b u) pc vs (.int x2 :: .int x1 :: .ref (b + 0) :: st) :=
  pj_callV C (As := [.int x1, .int x2]) (fun l D E => pc_PG_station l D E  h) rfl rfl cl_PortGuard (pj_lt tk_0 (by decide)) (fun E => ko_0 tk_0) wm_1087 wm_1088 wm_1089 wm_91 wm_1090 (by decide +kernel) (n := 2) rfl hR rfl h8 hdg hp (fun v u' hq => by obtain ⟨r, rfl, hk⟩ := hq; exact kk r u' hk)
theorem ck_Law_90_Model {g : pj_G} {b : Nat} {cc : ByteArray} {nL : Nat} {ret : Option FieldType} {rm : Room} {u : pj_M} {pc pc' : Nat} {vs : List (Option Value)} {st : List Value} (C : pj_X g cc nL R_La ret rm) {x1 : Int32} {x2 : Int32} {K : Int32 → pj_M → Prop}  (h : pw_Mo_station u x1 x2 K) (hdg : decode cc pc = .ok (.invokevirtual 90, 3)) (hp : pc + 3 = pc') (hR : rm_Mo_station.frames + 1 ≤ rm.frames ∧ 8 + (3 + 11) + rm_Mo_station.locals ≤ rm.locals) (h8 : (st.map fun v => v.category).sum ≤ 8) (kk : ∀ r u', K r u' → pj_J g (pj_N g b u') pc' vs (.int r :: st)) : pj_J g (pj_N g b u) pc vs (.int x2 :: .int x1 :: .ref (b + 217) :: st) :=
  pj_callV C (As := [.int x1, .int x2]) (fun l D E => pc_Mo_station l D E  h) rfl rfl cl_Model (pj_lt tk_217 (by decide)) (fun E => ko_11 tk_217) wm_1610 wm_1611 wm_1612 wm_103 wm_1613 (by decide +kernel) (n := 2) rfl hR rfl h8 hdg hp (fun v u' hq => by obtain ⟨r, rfl, hk⟩ := hq; exact kk r u' hk)
theorem ck_Law_83_PortGuard {g : pj_G} {b : Nat} {cc : ByteArray} {nL : Nat} {ret : Option FieldType} {rm : Room} {u : pj_M} {pc pc' : Nat} {vs : List (Option Value)} {st : List Value} (C : pj_X g cc nL R_La ret rm) {x1 : Int32} {x2 : Int32} {K : Int32 → pj_M → Prop}  (h : pw_PG_port u x1 x2 K) (hdg : decode cc pc = .ok (.invokevirtual 83, 3)) (hp : pc + 3 = pc') (hR : rm_PG_port.frames + 1 ≤ rm.frames ∧ 8 + (3 + 11) + rm_PG_port.locals ≤ rm.locals) (h8 : (st.map fun v => v.category).sum ≤ 8) (kk : ∀ r u', K r u' → pj_J g (pj_N g b u') pc' vs (.int r :: st)) : pj_J g (pj_N g b u) pc vs (.int x2 :: .int x1 :: .ref (b + 0) :: st) :=
  pj_callV C (As := [.int x1, .int x2]) (fun l D E => pc_PG_port l D E  h) rfl rfl cl_PortGuard (pj_lt tk_0 (by decide)) (fun E => ko_0 tk_0) wm_1079 wm_1080 wm_1081 wm_91 wm_1082 (by decide +kernel) (n := 2) rfl hR rfl h8 hdg hp (fun v u' hq => by obtain ⟨r, rfl, hk⟩ := hq; exact kk r u' hk)
theorem ck_Law_86_Model {g : pj_G} {b : Nat} {cc : ByteArray} {nL : Nat} {ret : Option FieldType} {rm : Room} {u : pj_M} {pc pc' : Nat} {vs : List (Option Value)} {st : List Value} (C : pj_X g cc nL R_La ret rm) {x1 : Int32} {x2 : Int32} {K : Int32 → pj_M → Prop}  (h : pw_Mo_port u x1 x2 K) (hdg : decode cc pc = .ok (.invokevirtual 86, 3)) (hp : pc + 3 = pc') (hR : rm_Mo_port.frames + 1 ≤ rm.frames ∧ 8 + (3 + 11) + rm_Mo_port.locals ≤ rm.locals) (h8 : (st.map fun v => v.category).sum ≤ 8) (kk : ∀ r u', K r u' → pj_J g (pj_N g b u') pc' vs (.int r :: st)) : pj_J g (pj_N g b u) pc vs (.int x2 :: .int x1 :: .ref (b + 217) :: st) :=
  pj_callV C (As := [.int x1, .int x2]) (fun l D E => pc_Mo_port l D E  h) rfl rfl cl_Model (pj_lt tk_217 (by decide)) (fun E => ko_11 tk_217) wm_1606 wm_1607 wm_1608 wm_103 wm_1609 (by decide +kernel) (n := 2) rfl hR rfl h8 hdg hp (fun v u' hq => by obtain ⟨r, rfl, hk⟩ := hq; exact kk r u' hk)
theorem ck_Law_78_PortGuard {g : pj_G} {b : Nat} {cc : ByteArray} {nL : Nat} {ret : Option FieldType} {rm : Room} {u : pj_M} {pc pc' : Nat} {vs : List (Option Value)} {st : List Value} (C : pj_X g cc nL R_La ret rm) {x1 : Int32} {x2 : Int32} {K : Int32 → pj_M → Prop}  (h : pw_PG_message u x1 x2 K) (hdg : decode cc pc = .ok (.invokevirtual 78, 3)) (hp : pc + 3 = pc') (hR : rm_PG_message.frames + 1 ≤ rm.frames ∧ 8 + (3 + 11) + rm_PG_message.locals ≤ rm.locals) (h8 : (st.map fun v => v.category).sum ≤ 8) (kk : ∀ r u', K r u' → pj_J g (pj_N g b u') pc' vs (.int r :: st)) : pj_J g (pj_N g b u) pc vs (.int x2 :: .int x1 :: .ref (b + 0) :: st) :=
  pj_callV C (As := [.int x1, .int x2]) (fun l D E => pc_PG_message l D E  h) rfl rfl cl_PortGuard (pj_lt tk_0 (by decide)) (fun E => ko_0 tk_0) wm_1075 wm_1076 wm_1077 wm_91 wm_1078 (by decide +kernel) (n := 2) rfl hR rfl h8 hdg hp (fun v u' hq => by obtain ⟨r, rfl, hk⟩ := hq; exact kk r u' hk)
theorem ck_Law_82_Model {g : pj_G} {b : Nat} {cc : ByteArray} {nL : Nat} {ret : Option FieldType} {rm : Room} {u : pj_M} {pc pc' : Nat} {vs : List (Option Value)} {st : List Value} (C : pj_X g cc nL R_La ret rm) {x1 : Int32} {x2 : Int32} {K : Int32 → pj_M → Prop}  (h : pw_Mo_message u x1 x2 K) (hdg : decode cc pc = .ok (.invokevirtual 82, 3)) (hp : pc + 3 = pc') (hR : rm_Mo_message.frames + 1 ≤ rm.frames ∧ 8 + (3 + 11) + rm_Mo_message.locals ≤ rm.locals) (h8 : (st.map fun v => v.category).sum ≤ 8) (kk : ∀ r u', K r u' → pj_J g (pj_N g b u') pc' vs (.int r :: st)) : pj_J g (pj_N g b u) pc vs (.int x2 :: .int x1 :: .ref (b + 217) :: st) :=
  pj_callV C (As := [.int x1, .int x2]) (fun l D E => pc_Mo_message l D E  h) rfl rfl cl_Model (pj_lt tk_217 (by decide)) (fun E => ko_11 tk_217) wm_1602 wm_1603 wm_1604 wm_103 wm_1605 (by decide +kernel) (n := 2) rfl hR rfl h8 hdg hp (fun v u' hq => by obtain ⟨r, rfl, hk⟩ := hq; exact kk r u' hk)
theorem ck_Law_74_PortGuard {g : pj_G} {b : Nat} {cc : ByteArray} {nL : Nat} {ret : Option FieldType} {rm : Room} {u : pj_M} {pc pc' : Nat} {vs : List (Option Value)} {st : List Value} (C : pj_X g cc nL R_La ret rm)  {K : Int32 → pj_M → Prop}  (h : pw_PG_waiting u  K) (hdg : decode cc pc = .ok (.invokevirtual 74, 3)) (hp : pc + 3 = pc') (hR : rm_PG_waiting.frames + 1 ≤ rm.frames ∧ 8 + (1 + 11) + rm_PG_waiting.locals ≤ rm.locals) (h8 : (st.map fun v => v.category).sum ≤ 8) (kk : ∀ r u', K r u' → pj_J g (pj_N g b u') pc' vs (.int r :: st)) : pj_J g (pj_N g b u) pc vs (.ref (b + 0) :: st) :=
  pj_callV C (As := []) (fun l D E => pc_PG_waiting l D E  h) rfl rfl cl_PortGuard (pj_lt tk_0 (by decide)) (fun E => ko_0 tk_0) wm_1071 wm_1072 wm_1073 wm_91 wm_1074 (by decide +kernel) (n := 0) rfl hR rfl h8 hdg hp (fun v u' hq => by obtain ⟨r, rfl, hk⟩ := hq; exact kk r u' hk)
theorem ck_Law_77_Model {g : pj_G} {b : Nat} {cc : ByteArray} {nL : Nat} {ret : Option FieldType} {rm : Room} {u : pj_M} {pc pc' : Nat} {vs : List (Option Value)} {st : List Value} (C : pj_X g cc nL R_La ret rm)  {K : Int32 → pj_M → Prop}  (h : pw_Mo_waiting u  K) (hdg : decode cc pc = .ok (.invokevirtual 77, 3)) (hp : pc + 3 = pc') (hR : rm_Mo_waiting.frames + 1 ≤ rm.frames ∧ 8 + (1 + 11) + rm_Mo_waiting.locals ≤ rm.locals) (h8 : (st.map fun v => v.category).sum ≤ 8) (kk : ∀ r u', K r u' → pj_J g (pj_N g b u') pc' vs (.int r :: st)) : pj_J g (pj_N g b u) pc vs (.ref (b + 217) :: st) :=
  pj_callV C (As := []) (fun l D E => pc_Mo_waiting l D E  h) rfl rfl cl_Model (pj_lt tk_217 (by decide)) (fun E => ko_11 tk_217) wm_1598 wm_1599 wm_1600 wm_103 wm_1601 (by decide +kernel) (n := 0) rfl hR rfl h8 hdg hp (fun v u' hq => by obtain ⟨r, rfl, hk⟩ := hq; exact kk r u' hk)
theorem ck_Law_69_PortGuard {g : pj_G} {b : Nat} {cc : ByteArray} {nL : Nat} {ret : Option FieldType} {rm : Room} {u : pj_M} {pc pc' : Nat} {vs : List (Option Value)} {st : List Value} (C : pj_X g cc nL R_La ret rm) {x1 : Int32} {x2 : Int32} {x3 : Int32} {K : Int32 → pj_M → Prop}  (h : pw_PG_data u x1 x2 x3 K) (hdg : decode cc pc = .ok (.invokevirtual 69, 3)) (hp : pc + 3 = pc') (hR : rm_PG_data.frames + 1 ≤ rm.frames ∧ 8 + (4 + 11) + rm_PG_data.locals ≤ rm.locals) (h8 : (st.map fun v => v.category).sum ≤ 8) (kk : ∀ r u', K r u' → pj_J g (pj_N g b u') pc' vs (.int r :: st)) : pj_J g (pj_N g b u) pc vs (.int x3 :: .int x2 :: .int x1 :: .ref (b + 0) :: st) :=
  pj_callV C (As := [.int x1, .int x2, .int x3]) (fun l D E => pc_PG_data l D E  h) rfl rfl cl_PortGuard (pj_lt tk_0 (by decide)) (fun E => ko_0 tk_0) wm_1063 wm_1064 wm_1065 wm_91 wm_1066 (by decide +kernel) (n := 3) rfl hR rfl h8 hdg hp (fun v u' hq => by obtain ⟨r, rfl, hk⟩ := hq; exact kk r u' hk)
theorem ck_Law_73_Model {g : pj_G} {b : Nat} {cc : ByteArray} {nL : Nat} {ret : Option FieldType} {rm : Room} {u : pj_M} {pc pc' : Nat} {vs : List (Option Value)} {st : List Value} (C : pj_X g cc nL R_La ret rm) {x1 : Int32} {x2 : Int32} {x3 : Int32} {K : Int32 → pj_M → Prop}  (h : pw_Mo_data u x1 x2 x3 K) (hdg : decode cc pc = .ok (.invokevirtual 73, 3)) (hp : pc + 3 = pc') (hR : rm_Mo_data.frames + 1 ≤ rm.frames ∧ 8 + (7 + 11) + rm_Mo_data.locals ≤ rm.locals) (h8 : (st.map fun v => v.category).sum ≤ 8) (kk : ∀ r u', K r u' → pj_J g (pj_N g b u') pc' vs (.int r :: st)) : pj_J g (pj_N g b u) pc vs (.int x3 :: .int x2 :: .int x1 :: .ref (b + 217) :: st) :=
  pj_callV C (As := [.int x1, .int x2, .int x3]) (fun l D E => pc_Mo_data l D E  h) rfl rfl cl_Model (pj_lt tk_217 (by decide)) (fun E => ko_11 tk_217) wm_1594 wm_1595 wm_1596 wm_103 wm_1597 (by decide +kernel) (n := 3) rfl hR rfl h8 hdg hp (fun v u' hq => by obtain ⟨r, rfl, hk⟩ := hq; exact kk r u' hk)
theorem ck_Law_64_PortGuard {g : pj_G} {b : Nat} {cc : ByteArray} {nL : Nat} {ret : Option FieldType} {rm : Room} {u : pj_M} {pc pc' : Nat} {vs : List (Option Value)} {st : List Value} (C : pj_X g cc nL R_La ret rm)  {K : Int32 → pj_M → Prop}  (h : pw_PG_tick u  K) (hdg : decode cc pc = .ok (.invokevirtual 64, 3)) (hp : pc + 3 = pc') (hR : rm_PG_tick.frames + 1 ≤ rm.frames ∧ 8 + (2 + 11) + rm_PG_tick.locals ≤ rm.locals) (h8 : (st.map fun v => v.category).sum ≤ 8) (kk : ∀ r u', K r u' → pj_J g (pj_N g b u') pc' vs (.int r :: st)) : pj_J g (pj_N g b u) pc vs (.ref (b + 0) :: st) :=
  pj_callV C (As := []) (fun l D E => pc_PG_tick l D E  h) rfl rfl cl_PortGuard (pj_lt tk_0 (by decide)) (fun E => ko_0 tk_0) wm_1046 wm_1047 wm_1048 wm_91 wm_1049 (by decide +kernel) (n := 0) rfl hR rfl h8 hdg hp (fun v u' hq => by obtain ⟨r, rfl, hk⟩ := hq; exact kk r u' hk)
theorem ck_Law_68_Model {g : pj_G} {b : Nat} {cc : ByteArray} {nL : Nat} {ret : Option FieldType} {rm : Room} {u : pj_M} {pc pc' : Nat} {vs : List (Option Value)} {st : List Value} (C : pj_X g cc nL R_La ret rm)  {K : Int32 → pj_M → Prop}  (h : pw_Mo_tick u  K) (hdg : decode cc pc = .ok (.invokevirtual 68, 3)) (hp : pc + 3 = pc') (hR : rm_Mo_tick.frames + 1 ≤ rm.frames ∧ 8 + (2 + 11) + rm_Mo_tick.locals ≤ rm.locals) (h8 : (st.map fun v => v.category).sum ≤ 8) (kk : ∀ r u', K r u' → pj_J g (pj_N g b u') pc' vs (.int r :: st)) : pj_J g (pj_N g b u) pc vs (.ref (b + 217) :: st) :=
  pj_callV C (As := []) (fun l D E => pc_Mo_tick l D E  h) rfl rfl cl_Model (pj_lt tk_217 (by decide)) (fun E => ko_11 tk_217) wm_1398 wm_1399 wm_1400 wm_103 wm_1401 (by decide +kernel) (n := 0) rfl hR rfl h8 hdg hp (fun v u' hq => by obtain ⟨r, rfl, hk⟩ := hq; exact kk r u' hk)
theorem ck_Law_60_PortGuard {g : pj_G} {b : Nat} {cc : ByteArray} {nL : Nat} {ret : Option FieldType} {rm : Room} {u : pj_M} {pc pc' : Nat} {vs : List (Option Value)} {st : List Value} (C : pj_X g cc nL R_La ret rm) {x1 : Int32} {x2 : Int32} {K : Int32 → pj_M → Prop}  (h : pw_PG_forge u x1 x2 K) (hdg : decode cc pc = .ok (.invokevirtual 60, 3)) (hp : pc + 3 = pc') (hR : rm_PG_forge.frames + 1 ≤ rm.frames ∧ 8 + (3 + 11) + rm_PG_forge.locals ≤ rm.locals) (h8 : (st.map fun v => v.category).sum ≤ 8) (kk : ∀ r u', K r u' → pj_J g (pj_N g b u') pc' vs (.int r :: st)) : pj_J g (pj_N g b u) pc vs (.int x2 :: .int x1 :: .ref (b + 0) :: st) :=
  pj_callV C (As := [.int x1, .int x2]) (fun l D E => pc_PG_forge l D E  h) rfl rfl cl_PortGuard (pj_lt tk_0 (by decide)) (fun E => ko_0 tk_0) wm_1038 wm_1039 wm_1040 wm_91 wm_1041 (by decide +kernel) (n := 2) rfl hR rfl h8 hdg hp (fun v u' hq => by obtain ⟨r, rfl, hk⟩ := hq; exact kk r u' hk)
theorem ck_Law_63_Model {g : pj_G} {b : Nat} {cc : ByteArray} {nL : Nat} {ret : Option FieldType} {rm : Room} {u : pj_M} {pc pc' : Nat} {vs : List (Option Value)} {st : List Value} (C : pj_X g cc nL R_La ret rm) {x1 : Int32} {x2 : Int32} {K : Int32 → pj_M → Prop}  (h : pw_Mo_forge u x1 x2 K) (hdg : decode cc pc = .ok (.invokevirtual 63, 3)) (hp : pc + 3 = pc') (hR : rm_Mo_forge.frames + 1 ≤ rm.frames ∧ 8 + (4 + 11) + rm_Mo_forge.locals ≤ rm.locals) (h8 : (st.map fun v => v.category).sum ≤ 8) (kk : ∀ r u', K r u' → pj_J g (pj_N g b u') pc' vs (.int r :: st)) : pj_J g (pj_N g b u) pc vs (.int x2 :: .int x1 :: .ref (b + 217) :: st) :=
  pj_callV C (As := [.int x1, .int x2]) (fun l D E => pc_Mo_forge l D E  h) rfl rfl cl_Model (pj_lt tk_217 (by decide)) (fun E => ko_11 tk_217) wm_1590 wm_1591 wm_1592 wm_103 wm_1593 (by decide +kernel) (n := 2) rfl hR rfl h8 hdg hp (fun v u' hq => by obtain ⟨r, rfl, hk⟩ := hq; exact kk r u' hk)
theorem ck_Law_55_PortGuard {g : pj_G} {b : Nat} {cc : ByteArray} {nL : Nat} {ret : Option FieldType} {rm : Room} {u : pj_M} {pc pc' : Nat} {vs : List (Option Value)} {st : List Value} (C : pj_X g cc nL R_La ret rm) {x1 : Int64} {x3 : Int32} {K : Int32 → pj_M → Prop}  (h : pw_PG_draft u x1 x3 K) (hdg : decode cc pc = .ok (.invokevirtual 55, 3)) (hp : pc + 3 = pc') (hR : rm_PG_draft.frames + 1 ≤ rm.frames ∧ 8 + (5 + 11) + rm_PG_draft.locals ≤ rm.locals) (h8 : (st.map fun v => v.category).sum ≤ 8) (kk : ∀ r u', K r u' → pj_J g (pj_N g b u') pc' vs (.int r :: st)) : pj_J g (pj_N g b u) pc vs (.int x3 :: .long x1 :: .ref (b + 0) :: st) :=
  pj_callV C (As := [.long x1, .int x3]) (fun l D E => pc_PG_draft l D E  h) rfl rfl cl_PortGuard (pj_lt tk_0 (by decide)) (fun E => ko_0 tk_0) wm_1033 wm_1034 wm_1035 wm_91 wm_1036 (by decide +kernel) (n := 2) rfl hR rfl h8 hdg hp (fun v u' hq => by obtain ⟨r, rfl, hk⟩ := hq; exact kk r u' hk)
theorem ck_Law_59_Model {g : pj_G} {b : Nat} {cc : ByteArray} {nL : Nat} {ret : Option FieldType} {rm : Room} {u : pj_M} {pc pc' : Nat} {vs : List (Option Value)} {st : List Value} (C : pj_X g cc nL R_La ret rm) {x1 : Int64} {x3 : Int32} {K : Int32 → pj_M → Prop}  (h : pw_Mo_draft u x1 x3 K) (hdg : decode cc pc = .ok (.invokevirtual 59, 3)) (hp : pc + 3 = pc') (hR : rm_Mo_draft.frames + 1 ≤ rm.frames ∧ 8 + (5 + 11) + rm_Mo_draft.locals ≤ rm.locals) (h8 : (st.map fun v => v.category).sum ≤ 8) (kk : ∀ r u', K r u' → pj_J g (pj_N g b u') pc' vs (.int r :: st)) : pj_J g (pj_N g b u) pc vs (.int x3 :: .long x1 :: .ref (b + 217) :: st) :=
  pj_callV C (As := [.long x1, .int x3]) (fun l D E => pc_Mo_draft l D E  h) rfl rfl cl_Model (pj_lt tk_217 (by decide)) (fun E => ko_11 tk_217) wm_1585 wm_1586 wm_1587 wm_103 wm_1588 (by decide +kernel) (n := 2) rfl hR rfl h8 hdg hp (fun v u' hq => by obtain ⟨r, rfl, hk⟩ := hq; exact kk r u' hk)
theorem ck_Law_49_PortGuard {g : pj_G} {b : Nat} {cc : ByteArray} {nL : Nat} {ret : Option FieldType} {rm : Room} {u : pj_M} {pc pc' : Nat} {vs : List (Option Value)} {st : List Value} (C : pj_X g cc nL R_La ret rm) {x1 : Int32} {x2 : Int32} {x3 : Int32} {K : Int32 → pj_M → Prop}  (h : pw_PG_alter u x1 x2 x3 K) (hdg : decode cc pc = .ok (.invokevirtual 49, 3)) (hp : pc + 3 = pc') (hR : rm_PG_alter.frames + 1 ≤ rm.frames ∧ 8 + (5 + 11) + rm_PG_alter.locals ≤ rm.locals) (h8 : (st.map fun v => v.category).sum ≤ 8) (kk : ∀ r u', K r u' → pj_J g (pj_N g b u') pc' vs (.int r :: st)) : pj_J g (pj_N g b u) pc vs (.int x3 :: .int x2 :: .int x1 :: .ref (b + 0) :: st) :=
  pj_callV C (As := [.int x1, .int x2, .int x3]) (fun l D E => pc_PG_alter l D E  h) rfl rfl cl_PortGuard (pj_lt tk_0 (by decide)) (fun E => ko_0 tk_0) wm_1027 wm_1028 wm_1029 wm_91 wm_1030 (by decide +kernel) (n := 3) rfl hR rfl h8 hdg hp (fun v u' hq => by obtain ⟨r, rfl, hk⟩ := hq; exact kk r u' hk)
theorem ck_Law_52_Model {g : pj_G} {b : Nat} {cc : ByteArray} {nL : Nat} {ret : Option FieldType} {rm : Room} {u : pj_M} {pc pc' : Nat} {vs : List (Option Value)} {st : List Value} (C : pj_X g cc nL R_La ret rm) {x1 : Int32} {x2 : Int32} {x3 : Int32} {K : Int32 → pj_M → Prop}  (h : pw_Mo_alter u x1 x2 x3 K) (hdg : decode cc pc = .ok (.invokevirtual 52, 3)) (hp : pc + 3 = pc') (hR : rm_Mo_alter.frames + 1 ≤ rm.frames ∧ 8 + (4 + 11) + rm_Mo_alter.locals ≤ rm.locals) (h8 : (st.map fun v => v.category).sum ≤ 8) (kk : ∀ r u', K r u' → pj_J g (pj_N g b u') pc' vs (.int r :: st)) : pj_J g (pj_N g b u) pc vs (.int x3 :: .int x2 :: .int x1 :: .ref (b + 217) :: st) :=
  pj_callV C (As := [.int x1, .int x2, .int x3]) (fun l D E => pc_Mo_alter l D E  h) rfl rfl cl_Model (pj_lt tk_217 (by decide)) (fun E => ko_11 tk_217) wm_1581 wm_1582 wm_1583 wm_103 wm_1584 (by decide +kernel) (n := 3) rfl hR rfl h8 hdg hp (fun v u' hq => by obtain ⟨r, rfl, hk⟩ := hq; exact kk r u' hk)
theorem ck_Law_44_PortGuard {g : pj_G} {b : Nat} {cc : ByteArray} {nL : Nat} {ret : Option FieldType} {rm : Room} {u : pj_M} {pc pc' : Nat} {vs : List (Option Value)} {st : List Value} (C : pj_X g cc nL R_La ret rm) {x1 : Int32} {x2 : Int32} {K : Int32 → pj_M → Prop}  (h : pw_PG_pass u x1 x2 K) (hdg : decode cc pc = .ok (.invokevirtual 44, 3)) (hp : pc + 3 = pc') (hR : rm_PG_pass.frames + 1 ≤ rm.frames ∧ 8 + (5 + 11) + rm_PG_pass.locals ≤ rm.locals) (h8 : (st.map fun v => v.category).sum ≤ 8) (kk : ∀ r u', K r u' → pj_J g (pj_N g b u') pc' vs (.int r :: st)) : pj_J g (pj_N g b u) pc vs (.int x2 :: .int x1 :: .ref (b + 0) :: st) :=
  pj_callV C (As := [.int x1, .int x2]) (fun l D E => pc_PG_pass l D E  h) rfl rfl cl_PortGuard (pj_lt tk_0 (by decide)) (fun E => ko_0 tk_0) wm_675 wm_676 wm_677 wm_91 wm_678 (by decide +kernel) (n := 2) rfl hR rfl h8 hdg hp (fun v u' hq => by obtain ⟨r, rfl, hk⟩ := hq; exact kk r u' hk)
theorem ck_Law_48_Model {g : pj_G} {b : Nat} {cc : ByteArray} {nL : Nat} {ret : Option FieldType} {rm : Room} {u : pj_M} {pc pc' : Nat} {vs : List (Option Value)} {st : List Value} (C : pj_X g cc nL R_La ret rm) {x1 : Int32} {x2 : Int32} {K : Int32 → pj_M → Prop}  (h : pw_Mo_pass u x1 x2 K) (hdg : decode cc pc = .ok (.invokevirtual 48, 3)) (hp : pc + 3 = pc') (hR : rm_Mo_pass.frames + 1 ≤ rm.frames ∧ 8 + (6 + 11) + rm_Mo_pass.locals ≤ rm.locals) (h8 : (st.map fun v => v.category).sum ≤ 8) (kk : ∀ r u', K r u' → pj_J g (pj_N g b u') pc' vs (.int r :: st)) : pj_J g (pj_N g b u) pc vs (.int x2 :: .int x1 :: .ref (b + 217) :: st) :=
  pj_callV C (As := [.int x1, .int x2]) (fun l D E => pc_Mo_pass l D E  h) rfl rfl cl_Model (pj_lt tk_217 (by decide)) (fun E => ko_11 tk_217) wm_1460 wm_1461 wm_1462 wm_103 wm_1463 (by decide +kernel) (n := 2) rfl hR rfl h8 hdg hp (fun v u' hq => by obtain ⟨r, rfl, hk⟩ := hq; exact kk r u' hk)
theorem ck_Law_40_PortGuard {g : pj_G} {b : Nat} {cc : ByteArray} {nL : Nat} {ret : Option FieldType} {rm : Room} {u : pj_M} {pc pc' : Nat} {vs : List (Option Value)} {st : List Value} (C : pj_X g cc nL R_La ret rm) {x1 : Int32} {x2 : Int32} {K : Int32 → pj_M → Prop}  (h : pw_PG_power u x1 x2 K) (hdg : decode cc pc = .ok (.invokevirtual 40, 3)) (hp : pc + 3 = pc') (hR : rm_PG_power.frames + 1 ≤ rm.frames ∧ 8 + (3 + 11) + rm_PG_power.locals ≤ rm.locals) (h8 : (st.map fun v => v.category).sum ≤ 8) (kk : ∀ r u', K r u' → pj_J g (pj_N g b u') pc' vs (.int r :: st)) : pj_J g (pj_N g b u) pc vs (.int x2 :: .int x1 :: .ref (b + 0) :: st) :=
  pj_callV C (As := [.int x1, .int x2]) (fun l D E => pc_PG_power l D E  h) rfl rfl cl_PortGuard (pj_lt tk_0 (by decide)) (fun E => ko_0 tk_0) wm_664 wm_665 wm_666 wm_91 wm_667 (by decide +kernel) (n := 2) rfl hR rfl h8 hdg hp (fun v u' hq => by obtain ⟨r, rfl, hk⟩ := hq; exact kk r u' hk)
theorem ck_Law_43_Model {g : pj_G} {b : Nat} {cc : ByteArray} {nL : Nat} {ret : Option FieldType} {rm : Room} {u : pj_M} {pc pc' : Nat} {vs : List (Option Value)} {st : List Value} (C : pj_X g cc nL R_La ret rm) {x1 : Int32} {x2 : Int32} {K : Int32 → pj_M → Prop}  (h : pw_Mo_power u x1 x2 K) (hdg : decode cc pc = .ok (.invokevirtual 43, 3)) (hp : pc + 3 = pc') (hR : rm_Mo_power.frames + 1 ≤ rm.frames ∧ 8 + (3 + 11) + rm_Mo_power.locals ≤ rm.locals) (h8 : (st.map fun v => v.category).sum ≤ 8) (kk : ∀ r u', K r u' → pj_J g (pj_N g b u') pc' vs (.int r :: st)) : pj_J g (pj_N g b u) pc vs (.int x2 :: .int x1 :: .ref (b + 217) :: st) :=
  pj_callV C (As := [.int x1, .int x2]) (fun l D E => pc_Mo_power l D E  h) rfl rfl cl_Model (pj_lt tk_217 (by decide)) (fun E => ko_11 tk_217) wm_1366 wm_1367 wm_1368 wm_103 wm_1369 (by decide +kernel) (n := 2) rfl hR rfl h8 hdg hp (fun v u' hq => by obtain ⟨r, rfl, hk⟩ := hq; exact kk r u' hk)
theorem ck_Law_36_PortGuard {g : pj_G} {b : Nat} {cc : ByteArray} {nL : Nat} {ret : Option FieldType} {rm : Room} {u : pj_M} {pc pc' : Nat} {vs : List (Option Value)} {st : List Value} (C : pj_X g cc nL R_La ret rm) {x1 : Int32} {x2 : Int32} {K : Int32 → pj_M → Prop}  (h : pw_PG_link u x1 x2 K) (hdg : decode cc pc = .ok (.invokevirtual 36, 3)) (hp : pc + 3 = pc') (hR : rm_PG_link.frames + 1 ≤ rm.frames ∧ 8 + (3 + 11) + rm_PG_link.locals ≤ rm.locals) (h8 : (st.map fun v => v.category).sum ≤ 8) (kk : ∀ r u', K r u' → pj_J g (pj_N g b u') pc' vs (.int r :: st)) : pj_J g (pj_N g b u) pc vs (.int x2 :: .int x1 :: .ref (b + 0) :: st) :=
  pj_callV C (As := [.int x1, .int x2]) (fun l D E => pc_PG_link l D E  h) rfl rfl cl_PortGuard (pj_lt tk_0 (by decide)) (fun E => ko_0 tk_0) wm_594 wm_595 wm_596 wm_91 wm_597 (by decide +kernel) (n := 2) rfl hR rfl h8 hdg hp (fun v u' hq => by obtain ⟨r, rfl, hk⟩ := hq; exact kk r u' hk)
theorem ck_Law_39_Model {g : pj_G} {b : Nat} {cc : ByteArray} {nL : Nat} {ret : Option FieldType} {rm : Room} {u : pj_M} {pc pc' : Nat} {vs : List (Option Value)} {st : List Value} (C : pj_X g cc nL R_La ret rm) {x1 : Int32} {x2 : Int32} {K : Int32 → pj_M → Prop}  (h : pw_Mo_link u x1 x2 K) (hdg : decode cc pc = .ok (.invokevirtual 39, 3)) (hp : pc + 3 = pc') (hR : rm_Mo_link.frames + 1 ≤ rm.frames ∧ 8 + (3 + 11) + rm_Mo_link.locals ≤ rm.locals) (h8 : (st.map fun v => v.category).sum ≤ 8) (kk : ∀ r u', K r u' → pj_J g (pj_N g b u') pc' vs (.int r :: st)) : pj_J g (pj_N g b u) pc vs (.int x2 :: .int x1 :: .ref (b + 217) :: st) :=
  pj_callV C (As := [.int x1, .int x2]) (fun l D E => pc_Mo_link l D E  h) rfl rfl cl_Model (pj_lt tk_217 (by decide)) (fun E => ko_11 tk_217) wm_1370 wm_1371 wm_1372 wm_103 wm_1373 (by decide +kernel) (n := 2) rfl hR rfl h8 hdg hp (fun v u' hq => by obtain ⟨r, rfl, hk⟩ := hq; exact kk r u' hk)
theorem ck_Law_31_PortGuard {g : pj_G} {b : Nat} {cc : ByteArray} {nL : Nat} {ret : Option FieldType} {rm : Room} {u : pj_M} {pc pc' : Nat} {vs : List (Option Value)} {st : List Value} (C : pj_X g cc nL R_La ret rm) {x1 : Int32} {x2 : Int32} {K : Int32 → pj_M → Prop}  (h : pw_PG_start u x1 x2 K) (hdg : decode cc pc = .ok (.invokevirtual 31, 3)) (hp : pc + 3 = pc') (hR : rm_PG_start.frames + 1 ≤ rm.frames ∧ 8 + (3 + 11) + rm_PG_start.locals ≤ rm.locals) (h8 : (st.map fun v => v.category).sum ≤ 8) (kk : ∀ r u', K r u' → pj_J g (pj_N g b u') pc' vs (.int r :: st)) : pj_J g (pj_N g b u) pc vs (.int x2 :: .int x1 :: .ref (b + 0) :: st) :=
  pj_callV C (As := [.int x1, .int x2]) (fun l D E => pc_PG_start l D E  h) rfl rfl cl_PortGuard (pj_lt tk_0 (by decide)) (fun E => ko_0 tk_0) wm_566 wm_567 wm_568 wm_91 wm_569 (by decide +kernel) (n := 2) rfl hR rfl h8 hdg hp (fun v u' hq => by obtain ⟨r, rfl, hk⟩ := hq; exact kk r u' hk)
theorem ck_Law_35_Model {g : pj_G} {b : Nat} {cc : ByteArray} {nL : Nat} {ret : Option FieldType} {rm : Room} {u : pj_M} {pc pc' : Nat} {vs : List (Option Value)} {st : List Value} (C : pj_X g cc nL R_La ret rm) {x1 : Int32} {x2 : Int32} {K : Int32 → pj_M → Prop}  (h : pw_Mo_start u x1 x2 K) (hdg : decode cc pc = .ok (.invokevirtual 35, 3)) (hp : pc + 3 = pc') (hR : rm_Mo_start.frames + 1 ≤ rm.frames ∧ 8 + (3 + 11) + rm_Mo_start.locals ≤ rm.locals) (h8 : (st.map fun v => v.category).sum ≤ 8) (kk : ∀ r u', K r u' → pj_J g (pj_N g b u') pc' vs (.int r :: st)) : pj_J g (pj_N g b u) pc vs (.int x2 :: .int x1 :: .ref (b + 217) :: st) :=
  pj_callV C (As := [.int x1, .int x2]) (fun l D E => pc_Mo_start l D E  h) rfl rfl cl_Model (pj_lt tk_217 (by decide)) (fun E => ko_11 tk_217) wm_1354 wm_1355 wm_1356 wm_103 wm_1357 (by decide +kernel) (n := 2) rfl hR rfl h8 hdg hp (fun v u' hq => by obtain ⟨r, rfl, hk⟩ := hq; exact kk r u' hk)
theorem ck_Law_26_PortGuard {g : pj_G} {b : Nat} {cc : ByteArray} {nL : Nat} {ret : Option FieldType} {rm : Room} {u : pj_M} {pc pc' : Nat} {vs : List (Option Value)} {st : List Value} (C : pj_X g cc nL R_La ret rm) {x1 : Int32} {x2 : Int32} {x3 : Int32} {x4 : Int32} {K : Int32 → pj_M → Prop}  (h : pw_PG_host u x1 x2 x3 x4 K) (hdg : decode cc pc = .ok (.invokevirtual 26, 3)) (hp : pc + 3 = pc') (hR : rm_PG_host.frames + 1 ≤ rm.frames ∧ 8 + (5 + 11) + rm_PG_host.locals ≤ rm.locals) (h8 : (st.map fun v => v.category).sum ≤ 8) (kk : ∀ r u', K r u' → pj_J g (pj_N g b u') pc' vs (.int r :: st)) : pj_J g (pj_N g b u) pc vs (.int x4 :: .int x3 :: .int x2 :: .int x1 :: .ref (b + 0) :: st) :=
  pj_callV C (As := [.int x1, .int x2, .int x3, .int x4]) (fun l D E => pc_PG_host l D E  h) rfl rfl cl_PortGuard (pj_lt tk_0 (by decide)) (fun E => ko_0 tk_0) wm_551 wm_552 wm_553 wm_91 wm_554 (by decide +kernel) (n := 4) rfl hR rfl h8 hdg hp (fun v u' hq => by obtain ⟨r, rfl, hk⟩ := hq; exact kk r u' hk)
theorem ck_Law_30_Model {g : pj_G} {b : Nat} {cc : ByteArray} {nL : Nat} {ret : Option FieldType} {rm : Room} {u : pj_M} {pc pc' : Nat} {vs : List (Option Value)} {st : List Value} (C : pj_X g cc nL R_La ret rm) {x1 : Int32} {x2 : Int32} {x3 : Int32} {x4 : Int32} {K : Int32 → pj_M → Prop}  (h : pw_Mo_host u x1 x2 x3 x4 K) (hdg : decode cc pc = .ok (.invokevirtual 30, 3)) (hp : pc + 3 = pc') (hR : rm_Mo_host.frames + 1 ≤ rm.frames ∧ 8 + (5 + 11) + rm_Mo_host.locals ≤ rm.locals) (h8 : (st.map fun v => v.category).sum ≤ 8) (kk : ∀ r u', K r u' → pj_J g (pj_N g b u') pc' vs (.int r :: st)) : pj_J g (pj_N g b u) pc vs (.int x4 :: .int x3 :: .int x2 :: .int x1 :: .ref (b + 217) :: st) :=
  pj_callV C (As := [.int x1, .int x2, .int x3, .int x4]) (fun l D E => pc_Mo_host l D E  h) rfl rfl cl_Model (pj_lt tk_217 (by decide)) (fun E => ko_11 tk_217) wm_1346 wm_1347 wm_1348 wm_103 wm_1349 (by decide +kernel) (n := 4) rfl hR rfl h8 hdg hp (fun v u' hq => by obtain ⟨r, rfl, hk⟩ := hq; exact kk r u' hk)
theorem ck_Law_21_PortGuard {g : pj_G} {b : Nat} {cc : ByteArray} {nL : Nat} {ret : Option FieldType} {rm : Room} {u : pj_M} {pc pc' : Nat} {vs : List (Option Value)} {st : List Value} (C : pj_X g cc nL R_La ret rm) {x1 : Int32} {x2 : Int32} {x3 : Int32} {K : Int32 → pj_M → Prop}  (h : pw_PG_user u x1 x2 x3 K) (hdg : decode cc pc = .ok (.invokevirtual 21, 3)) (hp : pc + 3 = pc') (hR : rm_PG_user.frames + 1 ≤ rm.frames ∧ 8 + (4 + 11) + rm_PG_user.locals ≤ rm.locals) (h8 : (st.map fun v => v.category).sum ≤ 8) (kk : ∀ r u', K r u' → pj_J g (pj_N g b u') pc' vs (.int r :: st)) : pj_J g (pj_N g b u) pc vs (.int x3 :: .int x2 :: .int x1 :: .ref (b + 0) :: st) :=
  pj_callV C (As := [.int x1, .int x2, .int x3]) (fun l D E => pc_PG_user l D E  h) rfl rfl cl_PortGuard (pj_lt tk_0 (by decide)) (fun E => ko_0 tk_0) wm_547 wm_548 wm_549 wm_91 wm_550 (by decide +kernel) (n := 3) rfl hR rfl h8 hdg hp (fun v u' hq => by obtain ⟨r, rfl, hk⟩ := hq; exact kk r u' hk)
theorem ck_Law_25_Model {g : pj_G} {b : Nat} {cc : ByteArray} {nL : Nat} {ret : Option FieldType} {rm : Room} {u : pj_M} {pc pc' : Nat} {vs : List (Option Value)} {st : List Value} (C : pj_X g cc nL R_La ret rm) {x1 : Int32} {x2 : Int32} {x3 : Int32} {K : Int32 → pj_M → Prop}  (h : pw_Mo_user u x1 x2 x3 K) (hdg : decode cc pc = .ok (.invokevirtual 25, 3)) (hp : pc + 3 = pc') (hR : rm_Mo_user.frames + 1 ≤ rm.frames ∧ 8 + (4 + 11) + rm_Mo_user.locals ≤ rm.locals) (h8 : (st.map fun v => v.category).sum ≤ 8) (kk : ∀ r u', K r u' → pj_J g (pj_N g b u') pc' vs (.int r :: st)) : pj_J g (pj_N g b u) pc vs (.int x3 :: .int x2 :: .int x1 :: .ref (b + 217) :: st) :=
  pj_callV C (As := [.int x1, .int x2, .int x3]) (fun l D E => pc_Mo_user l D E  h) rfl rfl cl_Model (pj_lt tk_217 (by decide)) (fun E => ko_11 tk_217) wm_1342 wm_1343 wm_1344 wm_103 wm_1345 (by decide +kernel) (n := 3) rfl hR rfl h8 hdg hp (fun v u' hq => by obtain ⟨r, rfl, hk⟩ := hq; exact kk r u' hk)
def pb_La_law_813  (L : Nat) (xs : Nat → Int32) (u : pj_M)  : Prop := True
set_option maxHeartbeats 4000000 in
theorem pt_La_law_813 {g : pj_G} {b sb L : Nat} {xs : Nat → Int32} (C : pj_X g code 4 R_La ret room_1) (SX : pl_S g b sb L xs)  {u : pj_M}   (h : pb_La_law_813  L xs u ) : pj_J g (pj_N g b u) 813 [none, none, none, none] [] := by
  unfold pb_La_law_813 at h
  refine pj_iconst C d_La_law_813 (pc' := 814) rfl (v := 1) (by decide) ?_
  exact pl_ret C SX d_La_law_814
def pb_La_law_807 (R28 : pj_M → Int32 → Prop) (L : Nat) (xs : Nat → Int32) (u : pj_M) (x3 : Int32) : Prop := R28 u (x3 + 5)
set_option maxHeartbeats 4000000 in
theorem pt_La_law_807 {g : pj_G} {b sb L : Nat} {xs : Nat → Int32} (C : pj_X g code 4 R_La ret room_1) (SX : pl_S g b sb L xs) {R28 : pj_M → Int32 → Prop} {u : pj_M} {x3 : Int32} (hR28 : ∀ (u : pj_M) (x3 : Int32), R28 u x3 → pj_J g (pj_N g b u) 28 [some (.ref sb), some (.ref (b + 0)), some (.ref (b + 217)), some (.int x3)] []) (h : pb_La_law_807 R28 L xs u x3) : pj_J g (pj_N g b u) 807 [some (.ref sb), some (.ref (b + 0)), some (.ref (b + 217)), some (.int x3)] [] := by
  unfold pb_La_law_807 at h
  refine pj_iinc C d_La_law_807 (pc' := 810) (x := x3) (d := 5) (vs' := [some (.ref sb), some (.ref (b + 0)), some (.ref (b + 217)), some (.int (x3 + 5))]) rfl rfl (Nat.le_of_ble_eq_true rfl) rfl (by decide) rfl ?_
  refine pj_goto C d_La_law_810 (tgt := 28) (by decide) ?_
  exact pj_cut (pj_le_s (pj_le_s (pj_le_s (pj_le_s pj_le_e)))) (hR28 _ _ h)
def pb_La_law_173  (L : Nat) (xs : Nat → Int32) (u : pj_M)  : Prop := False
set_option maxHeartbeats 4000000 in
theorem pt_La_law_173 {g : pj_G} {b sb L : Nat} {xs : Nat → Int32} (C : pj_X g code 4 R_La ret room_1) (SX : pl_S g b sb L xs)  {u : pj_M}   (h : pb_La_law_173  L xs u ) : pj_J g (pj_N g b u) 173 [none, none, none, none] [] := by
  unfold pb_La_law_173 at h
  refine pj_iconst C d_La_law_173 (pc' := 174) rfl (v := 0) (by decide) ?_
  exact False.elim h
def pb_La_law_132 (R28 : pj_M → Int32 → Prop) (L : Nat) (xs : Nat → Int32) (u : pj_M) (x3 : Int32) : Prop := vp_in (x3 + 1) L ∧ (vp_in (x3 + 2) L ∧ (vp_in (x3 + 3) L ∧ (pw_PG_user u (xs (x3 + 1).toNatClampNeg) (xs (x3 + 2).toNatClampNeg) (xs (x3 + 3).toNatClampNeg) fun r2 u1 => (vp_in (x3 + 1) L ∧ (vp_in (x3 + 2) L ∧ (vp_in (x3 + 3) L ∧ (pw_Mo_user u1 (xs (x3 + 1).toNatClampNeg) (xs (x3 + 2).toNatClampNeg) (xs (x3 + 3).toNatClampNeg) fun r4 u3 => (((r2 = r4) → (pb_La_law_807 R28 L xs u3 x3)) ∧ (¬ (r2 = r4) → (pb_La_law_173  L xs u3 ))))))))))
set_option maxHeartbeats 4000000 in
theorem pt_La_law_132 {g : pj_G} {b sb L : Nat} {xs : Nat → Int32} (C : pj_X g code 4 R_La ret room_1) (SX : pl_S g b sb L xs) {R28 : pj_M → Int32 → Prop} {u : pj_M} {x3 : Int32} (hR28 : ∀ (u : pj_M) (x3 : Int32), R28 u x3 → pj_J g (pj_N g b u) 28 [some (.ref sb), some (.ref (b + 0)), some (.ref (b + 217)), some (.int x3)] []) (h : pb_La_law_132 R28 L xs u x3) : pj_J g (pj_N g b u) 132 [some (.ref sb), some (.ref (b + 0)), some (.ref (b + 217)), some (.int x3)] [] := by
  unfold pb_La_law_132 at h
  refine pj_aload_n C d_La_law_132 (pc' := 133) (i := 1) (x := b + 0) rfl rfl rfl ?_
  refine pj_aload_n C d_La_law_133 (pc' := 134) (i := 0) (x := sb) rfl rfl rfl ?_
  refine pj_iload_n C d_La_law_134 (pc' := 135) (i := 3) (x := x3) rfl rfl rfl ?_
  refine pj_iconst C d_La_law_135 (pc' := 136) rfl (v := 1) (by decide) ?_
  refine pj_iadd C d_La_law_136 (pc' := 137) rfl ?_
  refine pl_sld C SX d_La_law_137 (pc' := 138) rfl h (fun h => ?_)
  refine pj_aload_n C d_La_law_138 (pc' := 139) (i := 0) (x := sb) rfl rfl rfl ?_
  refine pj_iload_n C d_La_law_139 (pc' := 140) (i := 3) (x := x3) rfl rfl rfl ?_
  refine pj_iconst C d_La_law_140 (pc' := 141) rfl (v := 2) (by decide) ?_
  refine pj_iadd C d_La_law_141 (pc' := 142) rfl ?_
  refine pl_sld C SX d_La_law_142 (pc' := 143) rfl h (fun h => ?_)
  refine pj_aload_n C d_La_law_143 (pc' := 144) (i := 0) (x := sb) rfl rfl rfl ?_
  refine pj_iload_n C d_La_law_144 (pc' := 145) (i := 3) (x := x3) rfl rfl rfl ?_
  refine pj_iconst C d_La_law_145 (pc' := 146) rfl (v := 3) (by decide) ?_
  refine pj_iadd C d_La_law_146 (pc' := 147) rfl ?_
  refine pl_sld C SX d_La_law_147 (pc' := 148) rfl h (fun h => ?_)
  refine ck_Law_21_PortGuard C  h d_La_law_148 (pc' := 151) rfl ⟨Nat.le_of_ble_eq_true rfl, Nat.le_of_ble_eq_true rfl⟩ (Nat.le_of_ble_eq_true rfl) (fun r2 u1 h => ?_)
  refine pj_aload_n C d_La_law_151 (pc' := 152) (i := 2) (x := b + 217) rfl rfl rfl ?_
  refine pj_aload_n C d_La_law_152 (pc' := 153) (i := 0) (x := sb) rfl rfl rfl ?_
  refine pj_iload_n C d_La_law_153 (pc' := 154) (i := 3) (x := x3) rfl rfl rfl ?_
  refine pj_iconst C d_La_law_154 (pc' := 155) rfl (v := 1) (by decide) ?_
  refine pj_iadd C d_La_law_155 (pc' := 156) rfl ?_
  refine pl_sld C SX d_La_law_156 (pc' := 157) rfl h (fun h => ?_)
  refine pj_aload_n C d_La_law_157 (pc' := 158) (i := 0) (x := sb) rfl rfl rfl ?_
  refine pj_iload_n C d_La_law_158 (pc' := 159) (i := 3) (x := x3) rfl rfl rfl ?_
  refine pj_iconst C d_La_law_159 (pc' := 160) rfl (v := 2) (by decide) ?_
  refine pj_iadd C d_La_law_160 (pc' := 161) rfl ?_
  refine pl_sld C SX d_La_law_161 (pc' := 162) rfl h (fun h => ?_)
  refine pj_aload_n C d_La_law_162 (pc' := 163) (i := 0) (x := sb) rfl rfl rfl ?_
  refine pj_iload_n C d_La_law_163 (pc' := 164) (i := 3) (x := x3) rfl rfl rfl ?_
  refine pj_iconst C d_La_law_164 (pc' := 165) rfl (v := 3) (by decide) ?_
  refine pj_iadd C d_La_law_165 (pc' := 166) rfl ?_
  refine pl_sld C SX d_La_law_166 (pc' := 167) rfl h (fun h => ?_)
  refine ck_Law_25_Model C  h d_La_law_167 (pc' := 170) rfl ⟨Nat.le_of_ble_eq_true rfl, Nat.le_of_ble_eq_true rfl⟩ (Nat.le_of_ble_eq_true rfl) (fun r4 u3 h => ?_)
  refine pj_icmp_eq C d_La_law_170 (pc' := 173) rfl (tgt := 807) (by decide) h (fun h => ?_) (fun h => ?_)
  · exact pj_cut (pj_le_s (pj_le_s (pj_le_s (pj_le_s pj_le_e)))) (pt_La_law_807 C SX hR28 h)
  · exact pj_cut (pj_le_n (pj_le_n (pj_le_n (pj_le_n pj_le_e)))) (pt_La_law_173 C SX  h)
def pb_La_law_226  (L : Nat) (xs : Nat → Int32) (u : pj_M)  : Prop := False
set_option maxHeartbeats 4000000 in
theorem pt_La_law_226 {g : pj_G} {b sb L : Nat} {xs : Nat → Int32} (C : pj_X g code 4 R_La ret room_1) (SX : pl_S g b sb L xs)  {u : pj_M}   (h : pb_La_law_226  L xs u ) : pj_J g (pj_N g b u) 226 [none, none, none, none] [] := by
  unfold pb_La_law_226 at h
  refine pj_iconst C d_La_law_226 (pc' := 227) rfl (v := 0) (by decide) ?_
  exact False.elim h
def pb_La_law_175 (R28 : pj_M → Int32 → Prop) (L : Nat) (xs : Nat → Int32) (u : pj_M) (x3 : Int32) : Prop := vp_in (x3 + 1) L ∧ (vp_in (x3 + 2) L ∧ (vp_in (x3 + 3) L ∧ (vp_in (x3 + 4) L ∧ (pw_PG_host u (xs (x3 + 1).toNatClampNeg) (xs (x3 + 2).toNatClampNeg) (xs (x3 + 3).toNatClampNeg) (xs (x3 + 4).toNatClampNeg) fun r2 u1 => (vp_in (x3 + 1) L ∧ (vp_in (x3 + 2) L ∧ (vp_in (x3 + 3) L ∧ (vp_in (x3 + 4) L ∧ (pw_Mo_host u1 (xs (x3 + 1).toNatClampNeg) (xs (x3 + 2).toNatClampNeg) (xs (x3 + 3).toNatClampNeg) (xs (x3 + 4).toNatClampNeg) fun r4 u3 => (((r2 = r4) → (pb_La_law_807 R28 L xs u3 x3)) ∧ (¬ (r2 = r4) → (pb_La_law_226  L xs u3 ))))))))))))
set_option maxHeartbeats 4000000 in
theorem pt_La_law_175 {g : pj_G} {b sb L : Nat} {xs : Nat → Int32} (C : pj_X g code 4 R_La ret room_1) (SX : pl_S g b sb L xs) {R28 : pj_M → Int32 → Prop} {u : pj_M} {x3 : Int32} (hR28 : ∀ (u : pj_M) (x3 : Int32), R28 u x3 → pj_J g (pj_N g b u) 28 [some (.ref sb), some (.ref (b + 0)), some (.ref (b + 217)), some (.int x3)] []) (h : pb_La_law_175 R28 L xs u x3) : pj_J g (pj_N g b u) 175 [some (.ref sb), some (.ref (b + 0)), some (.ref (b + 217)), some (.int x3)] [] := by
  unfold pb_La_law_175 at h
  refine pj_aload_n C d_La_law_175 (pc' := 176) (i := 1) (x := b + 0) rfl rfl rfl ?_
  refine pj_aload_n C d_La_law_176 (pc' := 177) (i := 0) (x := sb) rfl rfl rfl ?_
  refine pj_iload_n C d_La_law_177 (pc' := 178) (i := 3) (x := x3) rfl rfl rfl ?_
  refine pj_iconst C d_La_law_178 (pc' := 179) rfl (v := 1) (by decide) ?_
  refine pj_iadd C d_La_law_179 (pc' := 180) rfl ?_
  refine pl_sld C SX d_La_law_180 (pc' := 181) rfl h (fun h => ?_)
  refine pj_aload_n C d_La_law_181 (pc' := 182) (i := 0) (x := sb) rfl rfl rfl ?_
  refine pj_iload_n C d_La_law_182 (pc' := 183) (i := 3) (x := x3) rfl rfl rfl ?_
  refine pj_iconst C d_La_law_183 (pc' := 184) rfl (v := 2) (by decide) ?_
  refine pj_iadd C d_La_law_184 (pc' := 185) rfl ?_
  refine pl_sld C SX d_La_law_185 (pc' := 186) rfl h (fun h => ?_)
  refine pj_aload_n C d_La_law_186 (pc' := 187) (i := 0) (x := sb) rfl rfl rfl ?_
  refine pj_iload_n C d_La_law_187 (pc' := 188) (i := 3) (x := x3) rfl rfl rfl ?_
  refine pj_iconst C d_La_law_188 (pc' := 189) rfl (v := 3) (by decide) ?_
  refine pj_iadd C d_La_law_189 (pc' := 190) rfl ?_
  refine pl_sld C SX d_La_law_190 (pc' := 191) rfl h (fun h => ?_)
  refine pj_aload_n C d_La_law_191 (pc' := 192) (i := 0) (x := sb) rfl rfl rfl ?_
  refine pj_iload_n C d_La_law_192 (pc' := 193) (i := 3) (x := x3) rfl rfl rfl ?_
  refine pj_iconst C d_La_law_193 (pc' := 194) rfl (v := 4) (by decide) ?_
  refine pj_iadd C d_La_law_194 (pc' := 195) rfl ?_
  refine pl_sld C SX d_La_law_195 (pc' := 196) rfl h (fun h => ?_)
  refine ck_Law_26_PortGuard C  h d_La_law_196 (pc' := 199) rfl ⟨Nat.le_of_ble_eq_true rfl, Nat.le_of_ble_eq_true rfl⟩ (Nat.le_of_ble_eq_true rfl) (fun r2 u1 h => ?_)
  refine pj_aload_n C d_La_law_199 (pc' := 200) (i := 2) (x := b + 217) rfl rfl rfl ?_
  refine pj_aload_n C d_La_law_200 (pc' := 201) (i := 0) (x := sb) rfl rfl rfl ?_
  refine pj_iload_n C d_La_law_201 (pc' := 202) (i := 3) (x := x3) rfl rfl rfl ?_
  refine pj_iconst C d_La_law_202 (pc' := 203) rfl (v := 1) (by decide) ?_
  refine pj_iadd C d_La_law_203 (pc' := 204) rfl ?_
  refine pl_sld C SX d_La_law_204 (pc' := 205) rfl h (fun h => ?_)
  refine pj_aload_n C d_La_law_205 (pc' := 206) (i := 0) (x := sb) rfl rfl rfl ?_
  refine pj_iload_n C d_La_law_206 (pc' := 207) (i := 3) (x := x3) rfl rfl rfl ?_
  refine pj_iconst C d_La_law_207 (pc' := 208) rfl (v := 2) (by decide) ?_
  refine pj_iadd C d_La_law_208 (pc' := 209) rfl ?_
  refine pl_sld C SX d_La_law_209 (pc' := 210) rfl h (fun h => ?_)
  refine pj_aload_n C d_La_law_210 (pc' := 211) (i := 0) (x := sb) rfl rfl rfl ?_
  refine pj_iload_n C d_La_law_211 (pc' := 212) (i := 3) (x := x3) rfl rfl rfl ?_
  refine pj_iconst C d_La_law_212 (pc' := 213) rfl (v := 3) (by decide) ?_
  refine pj_iadd C d_La_law_213 (pc' := 214) rfl ?_
  refine pl_sld C SX d_La_law_214 (pc' := 215) rfl h (fun h => ?_)
  refine pj_aload_n C d_La_law_215 (pc' := 216) (i := 0) (x := sb) rfl rfl rfl ?_
  refine pj_iload_n C d_La_law_216 (pc' := 217) (i := 3) (x := x3) rfl rfl rfl ?_
  refine pj_iconst C d_La_law_217 (pc' := 218) rfl (v := 4) (by decide) ?_
  refine pj_iadd C d_La_law_218 (pc' := 219) rfl ?_
  refine pl_sld C SX d_La_law_219 (pc' := 220) rfl h (fun h => ?_)
  refine ck_Law_30_Model C  h d_La_law_220 (pc' := 223) rfl ⟨Nat.le_of_ble_eq_true rfl, Nat.le_of_ble_eq_true rfl⟩ (Nat.le_of_ble_eq_true rfl) (fun r4 u3 h => ?_)
  refine pj_icmp_eq C d_La_law_223 (pc' := 226) rfl (tgt := 807) (by decide) h (fun h => ?_) (fun h => ?_)
  · exact pj_cut (pj_le_s (pj_le_s (pj_le_s (pj_le_s pj_le_e)))) (pt_La_law_807 C SX hR28 h)
  · exact pj_cut (pj_le_n (pj_le_n (pj_le_n (pj_le_n pj_le_e)))) (pt_La_law_226 C SX  h)
def pb_La_law_275  (L : Nat) (xs : Nat → Int32) (u : pj_M)  : Prop := False
set_option maxHeartbeats 4000000 in
theorem pt_La_law_275 {g : pj_G} {b sb L : Nat} {xs : Nat → Int32} (C : pj_X g code 4 R_La ret room_1) (SX : pl_S g b sb L xs)  {u : pj_M}   (h : pb_La_law_275  L xs u ) : pj_J g (pj_N g b u) 275 [none, none, none, none] [] := by
  unfold pb_La_law_275 at h
  refine pj_iconst C d_La_law_275 (pc' := 276) rfl (v := 0) (by decide) ?_
  exact False.elim h
def pb_La_law_269 (R28 : pj_M → Int32 → Prop) (L : Nat) (xs : Nat → Int32) (u : pj_M) (x3 : Int32) (s0 : Int32) (s1 : Int32) (s3 : Int32) : Prop := pw_Mo_start u s1 s0 fun r2 u1 => (((s3 = r2) → (pb_La_law_807 R28 L xs u1 x3)) ∧ (¬ (s3 = r2) → (pb_La_law_275  L xs u1 )))
set_option maxHeartbeats 4000000 in
theorem pt_La_law_269 {g : pj_G} {b sb L : Nat} {xs : Nat → Int32} (C : pj_X g code 4 R_La ret room_1) (SX : pl_S g b sb L xs) {R28 : pj_M → Int32 → Prop} {u : pj_M} {x3 : Int32} {s0 : Int32} {s1 : Int32} {s3 : Int32} (hR28 : ∀ (u : pj_M) (x3 : Int32), R28 u x3 → pj_J g (pj_N g b u) 28 [some (.ref sb), some (.ref (b + 0)), some (.ref (b + 217)), some (.int x3)] []) (h : pb_La_law_269 R28 L xs u x3 s0 s1 s3) : pj_J g (pj_N g b u) 269 [some (.ref sb), some (.ref (b + 0)), some (.ref (b + 217)), some (.int x3)] [.int s0, .int s1, .ref (b + 217), .int s3] := by
  unfold pb_La_law_269 at h
  refine ck_Law_35_Model C  h d_La_law_269 (pc' := 272) rfl ⟨Nat.le_of_ble_eq_true rfl, Nat.le_of_ble_eq_true rfl⟩ (Nat.le_of_ble_eq_true rfl) (fun r2 u1 h => ?_)
  refine pj_icmp_eq C d_La_law_272 (pc' := 275) rfl (tgt := 807) (by decide) h (fun h => ?_) (fun h => ?_)
  · exact pj_cut (pj_le_s (pj_le_s (pj_le_s (pj_le_s pj_le_e)))) (pt_La_law_807 C SX hR28 h)
  · exact pj_cut (pj_le_n (pj_le_n (pj_le_n (pj_le_n pj_le_e)))) (pt_La_law_275 C SX  h)
def pb_La_law_268 (R28 : pj_M → Int32 → Prop) (L : Nat) (xs : Nat → Int32) (u : pj_M) (x3 : Int32) (s0 : Int32) (s2 : Int32) : Prop := pb_La_law_269 R28 L xs u x3 0 s0 s2
set_option maxHeartbeats 4000000 in
theorem pt_La_law_268 {g : pj_G} {b sb L : Nat} {xs : Nat → Int32} (C : pj_X g code 4 R_La ret room_1) (SX : pl_S g b sb L xs) {R28 : pj_M → Int32 → Prop} {u : pj_M} {x3 : Int32} {s0 : Int32} {s2 : Int32} (hR28 : ∀ (u : pj_M) (x3 : Int32), R28 u x3 → pj_J g (pj_N g b u) 28 [some (.ref sb), some (.ref (b + 0)), some (.ref (b + 217)), some (.int x3)] []) (h : pb_La_law_268 R28 L xs u x3 s0 s2) : pj_J g (pj_N g b u) 268 [some (.ref sb), some (.ref (b + 0)), some (.ref (b + 217)), some (.int x3)] [.int s0, .ref (b + 217), .int s2] := by
  unfold pb_La_law_268 at h
  refine pj_iconst C d_La_law_268 (pc' := 269) rfl (v := 0) (by decide) ?_
  exact pj_cut (pj_le_s (pj_le_s (pj_le_s (pj_le_s pj_le_e)))) (pt_La_law_269 C SX hR28 h)
def pb_La_law_264 (R28 : pj_M → Int32 → Prop) (L : Nat) (xs : Nat → Int32) (u : pj_M) (x3 : Int32) (s0 : Int32) (s2 : Int32) : Prop := pb_La_law_269 R28 L xs u x3 1 s0 s2
set_option maxHeartbeats 4000000 in
theorem pt_La_law_264 {g : pj_G} {b sb L : Nat} {xs : Nat → Int32} (C : pj_X g code 4 R_La ret room_1) (SX : pl_S g b sb L xs) {R28 : pj_M → Int32 → Prop} {u : pj_M} {x3 : Int32} {s0 : Int32} {s2 : Int32} (hR28 : ∀ (u : pj_M) (x3 : Int32), R28 u x3 → pj_J g (pj_N g b u) 28 [some (.ref sb), some (.ref (b + 0)), some (.ref (b + 217)), some (.int x3)] []) (h : pb_La_law_264 R28 L xs u x3 s0 s2) : pj_J g (pj_N g b u) 264 [some (.ref sb), some (.ref (b + 0)), some (.ref (b + 217)), some (.int x3)] [.int s0, .ref (b + 217), .int s2] := by
  unfold pb_La_law_264 at h
  refine pj_iconst C d_La_law_264 (pc' := 265) rfl (v := 1) (by decide) ?_
  refine pj_goto C d_La_law_265 (tgt := 269) (by decide) ?_
  exact pj_cut (pj_le_s (pj_le_s (pj_le_s (pj_le_s pj_le_e)))) (pt_La_law_269 C SX hR28 h)
def pb_La_law_247 (R28 : pj_M → Int32 → Prop) (L : Nat) (xs : Nat → Int32) (u : pj_M) (x3 : Int32) (s0 : Int32) (s1 : Int32) : Prop := pw_PG_start u s1 s0 fun r2 u1 => (vp_in (x3 + 1) L ∧ (vp_in (x3 + 2) L ∧ ((((xs (x3 + 2).toNatClampNeg) = 0) → (pb_La_law_268 R28 L xs u1 x3 (xs (x3 + 1).toNatClampNeg) r2)) ∧ (¬ ((xs (x3 + 2).toNatClampNeg) = 0) → (pb_La_law_264 R28 L xs u1 x3 (xs (x3 + 1).toNatClampNeg) r2)))))
set_option maxHeartbeats 4000000 in
theorem pt_La_law_247 {g : pj_G} {b sb L : Nat} {xs : Nat → Int32} (C : pj_X g code 4 R_La ret room_1) (SX : pl_S g b sb L xs) {R28 : pj_M → Int32 → Prop} {u : pj_M} {x3 : Int32} {s0 : Int32} {s1 : Int32} (hR28 : ∀ (u : pj_M) (x3 : Int32), R28 u x3 → pj_J g (pj_N g b u) 28 [some (.ref sb), some (.ref (b + 0)), some (.ref (b + 217)), some (.int x3)] []) (h : pb_La_law_247 R28 L xs u x3 s0 s1) : pj_J g (pj_N g b u) 247 [some (.ref sb), some (.ref (b + 0)), some (.ref (b + 217)), some (.int x3)] [.int s0, .int s1, .ref (b + 0)] := by
  unfold pb_La_law_247 at h
  refine ck_Law_31_PortGuard C  h d_La_law_247 (pc' := 250) rfl ⟨Nat.le_of_ble_eq_true rfl, Nat.le_of_ble_eq_true rfl⟩ (Nat.le_of_ble_eq_true rfl) (fun r2 u1 h => ?_)
  refine pj_aload_n C d_La_law_250 (pc' := 251) (i := 2) (x := b + 217) rfl rfl rfl ?_
  refine pj_aload_n C d_La_law_251 (pc' := 252) (i := 0) (x := sb) rfl rfl rfl ?_
  refine pj_iload_n C d_La_law_252 (pc' := 253) (i := 3) (x := x3) rfl rfl rfl ?_
  refine pj_iconst C d_La_law_253 (pc' := 254) rfl (v := 1) (by decide) ?_
  refine pj_iadd C d_La_law_254 (pc' := 255) rfl ?_
  refine pl_sld C SX d_La_law_255 (pc' := 256) rfl h (fun h => ?_)
  refine pj_aload_n C d_La_law_256 (pc' := 257) (i := 0) (x := sb) rfl rfl rfl ?_
  refine pj_iload_n C d_La_law_257 (pc' := 258) (i := 3) (x := x3) rfl rfl rfl ?_
  refine pj_iconst C d_La_law_258 (pc' := 259) rfl (v := 2) (by decide) ?_
  refine pj_iadd C d_La_law_259 (pc' := 260) rfl ?_
  refine pl_sld C SX d_La_law_260 (pc' := 261) rfl h (fun h => ?_)
  refine pj_if_eq C d_La_law_261 (pc' := 264) rfl (tgt := 268) (by decide) h (fun h => ?_) (fun h => ?_)
  · exact pj_cut (pj_le_s (pj_le_s (pj_le_s (pj_le_s pj_le_e)))) (pt_La_law_268 C SX hR28 h)
  · exact pj_cut (pj_le_s (pj_le_s (pj_le_s (pj_le_s pj_le_e)))) (pt_La_law_264 C SX hR28 h)
def pb_La_law_246 (R28 : pj_M → Int32 → Prop) (L : Nat) (xs : Nat → Int32) (u : pj_M) (x3 : Int32) (s0 : Int32) : Prop := pb_La_law_247 R28 L xs u x3 0 s0
set_option maxHeartbeats 4000000 in
theorem pt_La_law_246 {g : pj_G} {b sb L : Nat} {xs : Nat → Int32} (C : pj_X g code 4 R_La ret room_1) (SX : pl_S g b sb L xs) {R28 : pj_M → Int32 → Prop} {u : pj_M} {x3 : Int32} {s0 : Int32} (hR28 : ∀ (u : pj_M) (x3 : Int32), R28 u x3 → pj_J g (pj_N g b u) 28 [some (.ref sb), some (.ref (b + 0)), some (.ref (b + 217)), some (.int x3)] []) (h : pb_La_law_246 R28 L xs u x3 s0) : pj_J g (pj_N g b u) 246 [some (.ref sb), some (.ref (b + 0)), some (.ref (b + 217)), some (.int x3)] [.int s0, .ref (b + 0)] := by
  unfold pb_La_law_246 at h
  refine pj_iconst C d_La_law_246 (pc' := 247) rfl (v := 0) (by decide) ?_
  exact pj_cut (pj_le_s (pj_le_s (pj_le_s (pj_le_s pj_le_e)))) (pt_La_law_247 C SX hR28 h)
def pb_La_law_242 (R28 : pj_M → Int32 → Prop) (L : Nat) (xs : Nat → Int32) (u : pj_M) (x3 : Int32) (s0 : Int32) : Prop := pb_La_law_247 R28 L xs u x3 1 s0
set_option maxHeartbeats 4000000 in
theorem pt_La_law_242 {g : pj_G} {b sb L : Nat} {xs : Nat → Int32} (C : pj_X g code 4 R_La ret room_1) (SX : pl_S g b sb L xs) {R28 : pj_M → Int32 → Prop} {u : pj_M} {x3 : Int32} {s0 : Int32} (hR28 : ∀ (u : pj_M) (x3 : Int32), R28 u x3 → pj_J g (pj_N g b u) 28 [some (.ref sb), some (.ref (b + 0)), some (.ref (b + 217)), some (.int x3)] []) (h : pb_La_law_242 R28 L xs u x3 s0) : pj_J g (pj_N g b u) 242 [some (.ref sb), some (.ref (b + 0)), some (.ref (b + 217)), some (.int x3)] [.int s0, .ref (b + 0)] := by
  unfold pb_La_law_242 at h
  refine pj_iconst C d_La_law_242 (pc' := 243) rfl (v := 1) (by decide) ?_
  refine pj_goto C d_La_law_243 (tgt := 247) (by decide) ?_
  exact pj_cut (pj_le_s (pj_le_s (pj_le_s (pj_le_s pj_le_e)))) (pt_La_law_247 C SX hR28 h)
def pb_La_law_228 (R28 : pj_M → Int32 → Prop) (L : Nat) (xs : Nat → Int32) (u : pj_M) (x3 : Int32) : Prop := vp_in (x3 + 1) L ∧ (vp_in (x3 + 2) L ∧ ((((xs (x3 + 2).toNatClampNeg) = 0) → (pb_La_law_246 R28 L xs u x3 (xs (x3 + 1).toNatClampNeg))) ∧ (¬ ((xs (x3 + 2).toNatClampNeg) = 0) → (pb_La_law_242 R28 L xs u x3 (xs (x3 + 1).toNatClampNeg)))))
set_option maxHeartbeats 4000000 in
theorem pt_La_law_228 {g : pj_G} {b sb L : Nat} {xs : Nat → Int32} (C : pj_X g code 4 R_La ret room_1) (SX : pl_S g b sb L xs) {R28 : pj_M → Int32 → Prop} {u : pj_M} {x3 : Int32} (hR28 : ∀ (u : pj_M) (x3 : Int32), R28 u x3 → pj_J g (pj_N g b u) 28 [some (.ref sb), some (.ref (b + 0)), some (.ref (b + 217)), some (.int x3)] []) (h : pb_La_law_228 R28 L xs u x3) : pj_J g (pj_N g b u) 228 [some (.ref sb), some (.ref (b + 0)), some (.ref (b + 217)), some (.int x3)] [] := by
  unfold pb_La_law_228 at h
  refine pj_aload_n C d_La_law_228 (pc' := 229) (i := 1) (x := b + 0) rfl rfl rfl ?_
  refine pj_aload_n C d_La_law_229 (pc' := 230) (i := 0) (x := sb) rfl rfl rfl ?_
  refine pj_iload_n C d_La_law_230 (pc' := 231) (i := 3) (x := x3) rfl rfl rfl ?_
  refine pj_iconst C d_La_law_231 (pc' := 232) rfl (v := 1) (by decide) ?_
  refine pj_iadd C d_La_law_232 (pc' := 233) rfl ?_
  refine pl_sld C SX d_La_law_233 (pc' := 234) rfl h (fun h => ?_)
  refine pj_aload_n C d_La_law_234 (pc' := 235) (i := 0) (x := sb) rfl rfl rfl ?_
  refine pj_iload_n C d_La_law_235 (pc' := 236) (i := 3) (x := x3) rfl rfl rfl ?_
  refine pj_iconst C d_La_law_236 (pc' := 237) rfl (v := 2) (by decide) ?_
  refine pj_iadd C d_La_law_237 (pc' := 238) rfl ?_
  refine pl_sld C SX d_La_law_238 (pc' := 239) rfl h (fun h => ?_)
  refine pj_if_eq C d_La_law_239 (pc' := 242) rfl (tgt := 246) (by decide) h (fun h => ?_) (fun h => ?_)
  · exact pj_cut (pj_le_s (pj_le_s (pj_le_s (pj_le_s pj_le_e)))) (pt_La_law_246 C SX hR28 h)
  · exact pj_cut (pj_le_s (pj_le_s (pj_le_s (pj_le_s pj_le_e)))) (pt_La_law_242 C SX hR28 h)
def pb_La_law_324  (L : Nat) (xs : Nat → Int32) (u : pj_M)  : Prop := False
set_option maxHeartbeats 4000000 in
theorem pt_La_law_324 {g : pj_G} {b sb L : Nat} {xs : Nat → Int32} (C : pj_X g code 4 R_La ret room_1) (SX : pl_S g b sb L xs)  {u : pj_M}   (h : pb_La_law_324  L xs u ) : pj_J g (pj_N g b u) 324 [none, none, none, none] [] := by
  unfold pb_La_law_324 at h
  refine pj_iconst C d_La_law_324 (pc' := 325) rfl (v := 0) (by decide) ?_
  exact False.elim h
def pb_La_law_318 (R28 : pj_M → Int32 → Prop) (L : Nat) (xs : Nat → Int32) (u : pj_M) (x3 : Int32) (s0 : Int32) (s1 : Int32) (s3 : Int32) : Prop := pw_Mo_link u s1 s0 fun r2 u1 => (((s3 = r2) → (pb_La_law_807 R28 L xs u1 x3)) ∧ (¬ (s3 = r2) → (pb_La_law_324  L xs u1 )))
set_option maxHeartbeats 4000000 in
theorem pt_La_law_318 {g : pj_G} {b sb L : Nat} {xs : Nat → Int32} (C : pj_X g code 4 R_La ret room_1) (SX : pl_S g b sb L xs) {R28 : pj_M → Int32 → Prop} {u : pj_M} {x3 : Int32} {s0 : Int32} {s1 : Int32} {s3 : Int32} (hR28 : ∀ (u : pj_M) (x3 : Int32), R28 u x3 → pj_J g (pj_N g b u) 28 [some (.ref sb), some (.ref (b + 0)), some (.ref (b + 217)), some (.int x3)] []) (h : pb_La_law_318 R28 L xs u x3 s0 s1 s3) : pj_J g (pj_N g b u) 318 [some (.ref sb), some (.ref (b + 0)), some (.ref (b + 217)), some (.int x3)] [.int s0, .int s1, .ref (b + 217), .int s3] := by
  unfold pb_La_law_318 at h
  refine ck_Law_39_Model C  h d_La_law_318 (pc' := 321) rfl ⟨Nat.le_of_ble_eq_true rfl, Nat.le_of_ble_eq_true rfl⟩ (Nat.le_of_ble_eq_true rfl) (fun r2 u1 h => ?_)
  refine pj_icmp_eq C d_La_law_321 (pc' := 324) rfl (tgt := 807) (by decide) h (fun h => ?_) (fun h => ?_)
  · exact pj_cut (pj_le_s (pj_le_s (pj_le_s (pj_le_s pj_le_e)))) (pt_La_law_807 C SX hR28 h)
  · exact pj_cut (pj_le_n (pj_le_n (pj_le_n (pj_le_n pj_le_e)))) (pt_La_law_324 C SX  h)
def pb_La_law_317 (R28 : pj_M → Int32 → Prop) (L : Nat) (xs : Nat → Int32) (u : pj_M) (x3 : Int32) (s0 : Int32) (s2 : Int32) : Prop := pb_La_law_318 R28 L xs u x3 0 s0 s2
set_option maxHeartbeats 4000000 in
theorem pt_La_law_317 {g : pj_G} {b sb L : Nat} {xs : Nat → Int32} (C : pj_X g code 4 R_La ret room_1) (SX : pl_S g b sb L xs) {R28 : pj_M → Int32 → Prop} {u : pj_M} {x3 : Int32} {s0 : Int32} {s2 : Int32} (hR28 : ∀ (u : pj_M) (x3 : Int32), R28 u x3 → pj_J g (pj_N g b u) 28 [some (.ref sb), some (.ref (b + 0)), some (.ref (b + 217)), some (.int x3)] []) (h : pb_La_law_317 R28 L xs u x3 s0 s2) : pj_J g (pj_N g b u) 317 [some (.ref sb), some (.ref (b + 0)), some (.ref (b + 217)), some (.int x3)] [.int s0, .ref (b + 217), .int s2] := by
  unfold pb_La_law_317 at h
  refine pj_iconst C d_La_law_317 (pc' := 318) rfl (v := 0) (by decide) ?_
  exact pj_cut (pj_le_s (pj_le_s (pj_le_s (pj_le_s pj_le_e)))) (pt_La_law_318 C SX hR28 h)
def pb_La_law_313 (R28 : pj_M → Int32 → Prop) (L : Nat) (xs : Nat → Int32) (u : pj_M) (x3 : Int32) (s0 : Int32) (s2 : Int32) : Prop := pb_La_law_318 R28 L xs u x3 1 s0 s2
set_option maxHeartbeats 4000000 in
theorem pt_La_law_313 {g : pj_G} {b sb L : Nat} {xs : Nat → Int32} (C : pj_X g code 4 R_La ret room_1) (SX : pl_S g b sb L xs) {R28 : pj_M → Int32 → Prop} {u : pj_M} {x3 : Int32} {s0 : Int32} {s2 : Int32} (hR28 : ∀ (u : pj_M) (x3 : Int32), R28 u x3 → pj_J g (pj_N g b u) 28 [some (.ref sb), some (.ref (b + 0)), some (.ref (b + 217)), some (.int x3)] []) (h : pb_La_law_313 R28 L xs u x3 s0 s2) : pj_J g (pj_N g b u) 313 [some (.ref sb), some (.ref (b + 0)), some (.ref (b + 217)), some (.int x3)] [.int s0, .ref (b + 217), .int s2] := by
  unfold pb_La_law_313 at h
  refine pj_iconst C d_La_law_313 (pc' := 314) rfl (v := 1) (by decide) ?_
  refine pj_goto C d_La_law_314 (tgt := 318) (by decide) ?_
  exact pj_cut (pj_le_s (pj_le_s (pj_le_s (pj_le_s pj_le_e)))) (pt_La_law_318 C SX hR28 h)
def pb_La_law_296 (R28 : pj_M → Int32 → Prop) (L : Nat) (xs : Nat → Int32) (u : pj_M) (x3 : Int32) (s0 : Int32) (s1 : Int32) : Prop := pw_PG_link u s1 s0 fun r2 u1 => (vp_in (x3 + 1) L ∧ (vp_in (x3 + 2) L ∧ ((((xs (x3 + 2).toNatClampNeg) = 0) → (pb_La_law_317 R28 L xs u1 x3 (xs (x3 + 1).toNatClampNeg) r2)) ∧ (¬ ((xs (x3 + 2).toNatClampNeg) = 0) → (pb_La_law_313 R28 L xs u1 x3 (xs (x3 + 1).toNatClampNeg) r2)))))
set_option maxHeartbeats 4000000 in
theorem pt_La_law_296 {g : pj_G} {b sb L : Nat} {xs : Nat → Int32} (C : pj_X g code 4 R_La ret room_1) (SX : pl_S g b sb L xs) {R28 : pj_M → Int32 → Prop} {u : pj_M} {x3 : Int32} {s0 : Int32} {s1 : Int32} (hR28 : ∀ (u : pj_M) (x3 : Int32), R28 u x3 → pj_J g (pj_N g b u) 28 [some (.ref sb), some (.ref (b + 0)), some (.ref (b + 217)), some (.int x3)] []) (h : pb_La_law_296 R28 L xs u x3 s0 s1) : pj_J g (pj_N g b u) 296 [some (.ref sb), some (.ref (b + 0)), some (.ref (b + 217)), some (.int x3)] [.int s0, .int s1, .ref (b + 0)] := by
  unfold pb_La_law_296 at h
  refine ck_Law_36_PortGuard C  h d_La_law_296 (pc' := 299) rfl ⟨Nat.le_of_ble_eq_true rfl, Nat.le_of_ble_eq_true rfl⟩ (Nat.le_of_ble_eq_true rfl) (fun r2 u1 h => ?_)
  refine pj_aload_n C d_La_law_299 (pc' := 300) (i := 2) (x := b + 217) rfl rfl rfl ?_
  refine pj_aload_n C d_La_law_300 (pc' := 301) (i := 0) (x := sb) rfl rfl rfl ?_
  refine pj_iload_n C d_La_law_301 (pc' := 302) (i := 3) (x := x3) rfl rfl rfl ?_
  refine pj_iconst C d_La_law_302 (pc' := 303) rfl (v := 1) (by decide) ?_
  refine pj_iadd C d_La_law_303 (pc' := 304) rfl ?_
  refine pl_sld C SX d_La_law_304 (pc' := 305) rfl h (fun h => ?_)
  refine pj_aload_n C d_La_law_305 (pc' := 306) (i := 0) (x := sb) rfl rfl rfl ?_
  refine pj_iload_n C d_La_law_306 (pc' := 307) (i := 3) (x := x3) rfl rfl rfl ?_
  refine pj_iconst C d_La_law_307 (pc' := 308) rfl (v := 2) (by decide) ?_
  refine pj_iadd C d_La_law_308 (pc' := 309) rfl ?_
  refine pl_sld C SX d_La_law_309 (pc' := 310) rfl h (fun h => ?_)
  refine pj_if_eq C d_La_law_310 (pc' := 313) rfl (tgt := 317) (by decide) h (fun h => ?_) (fun h => ?_)
  · exact pj_cut (pj_le_s (pj_le_s (pj_le_s (pj_le_s pj_le_e)))) (pt_La_law_317 C SX hR28 h)
  · exact pj_cut (pj_le_s (pj_le_s (pj_le_s (pj_le_s pj_le_e)))) (pt_La_law_313 C SX hR28 h)
def pb_La_law_295 (R28 : pj_M → Int32 → Prop) (L : Nat) (xs : Nat → Int32) (u : pj_M) (x3 : Int32) (s0 : Int32) : Prop := pb_La_law_296 R28 L xs u x3 0 s0
set_option maxHeartbeats 4000000 in
theorem pt_La_law_295 {g : pj_G} {b sb L : Nat} {xs : Nat → Int32} (C : pj_X g code 4 R_La ret room_1) (SX : pl_S g b sb L xs) {R28 : pj_M → Int32 → Prop} {u : pj_M} {x3 : Int32} {s0 : Int32} (hR28 : ∀ (u : pj_M) (x3 : Int32), R28 u x3 → pj_J g (pj_N g b u) 28 [some (.ref sb), some (.ref (b + 0)), some (.ref (b + 217)), some (.int x3)] []) (h : pb_La_law_295 R28 L xs u x3 s0) : pj_J g (pj_N g b u) 295 [some (.ref sb), some (.ref (b + 0)), some (.ref (b + 217)), some (.int x3)] [.int s0, .ref (b + 0)] := by
  unfold pb_La_law_295 at h
  refine pj_iconst C d_La_law_295 (pc' := 296) rfl (v := 0) (by decide) ?_
  exact pj_cut (pj_le_s (pj_le_s (pj_le_s (pj_le_s pj_le_e)))) (pt_La_law_296 C SX hR28 h)
def pb_La_law_291 (R28 : pj_M → Int32 → Prop) (L : Nat) (xs : Nat → Int32) (u : pj_M) (x3 : Int32) (s0 : Int32) : Prop := pb_La_law_296 R28 L xs u x3 1 s0
set_option maxHeartbeats 4000000 in
theorem pt_La_law_291 {g : pj_G} {b sb L : Nat} {xs : Nat → Int32} (C : pj_X g code 4 R_La ret room_1) (SX : pl_S g b sb L xs) {R28 : pj_M → Int32 → Prop} {u : pj_M} {x3 : Int32} {s0 : Int32} (hR28 : ∀ (u : pj_M) (x3 : Int32), R28 u x3 → pj_J g (pj_N g b u) 28 [some (.ref sb), some (.ref (b + 0)), some (.ref (b + 217)), some (.int x3)] []) (h : pb_La_law_291 R28 L xs u x3 s0) : pj_J g (pj_N g b u) 291 [some (.ref sb), some (.ref (b + 0)), some (.ref (b + 217)), some (.int x3)] [.int s0, .ref (b + 0)] := by
  unfold pb_La_law_291 at h
  refine pj_iconst C d_La_law_291 (pc' := 292) rfl (v := 1) (by decide) ?_
  refine pj_goto C d_La_law_292 (tgt := 296) (by decide) ?_
  exact pj_cut (pj_le_s (pj_le_s (pj_le_s (pj_le_s pj_le_e)))) (pt_La_law_296 C SX hR28 h)
def pb_La_law_277 (R28 : pj_M → Int32 → Prop) (L : Nat) (xs : Nat → Int32) (u : pj_M) (x3 : Int32) : Prop := vp_in (x3 + 1) L ∧ (vp_in (x3 + 2) L ∧ ((((xs (x3 + 2).toNatClampNeg) = 0) → (pb_La_law_295 R28 L xs u x3 (xs (x3 + 1).toNatClampNeg))) ∧ (¬ ((xs (x3 + 2).toNatClampNeg) = 0) → (pb_La_law_291 R28 L xs u x3 (xs (x3 + 1).toNatClampNeg)))))
set_option maxHeartbeats 4000000 in
theorem pt_La_law_277 {g : pj_G} {b sb L : Nat} {xs : Nat → Int32} (C : pj_X g code 4 R_La ret room_1) (SX : pl_S g b sb L xs) {R28 : pj_M → Int32 → Prop} {u : pj_M} {x3 : Int32} (hR28 : ∀ (u : pj_M) (x3 : Int32), R28 u x3 → pj_J g (pj_N g b u) 28 [some (.ref sb), some (.ref (b + 0)), some (.ref (b + 217)), some (.int x3)] []) (h : pb_La_law_277 R28 L xs u x3) : pj_J g (pj_N g b u) 277 [some (.ref sb), some (.ref (b + 0)), some (.ref (b + 217)), some (.int x3)] [] := by
  unfold pb_La_law_277 at h
  refine pj_aload_n C d_La_law_277 (pc' := 278) (i := 1) (x := b + 0) rfl rfl rfl ?_
  refine pj_aload_n C d_La_law_278 (pc' := 279) (i := 0) (x := sb) rfl rfl rfl ?_
  refine pj_iload_n C d_La_law_279 (pc' := 280) (i := 3) (x := x3) rfl rfl rfl ?_
  refine pj_iconst C d_La_law_280 (pc' := 281) rfl (v := 1) (by decide) ?_
  refine pj_iadd C d_La_law_281 (pc' := 282) rfl ?_
  refine pl_sld C SX d_La_law_282 (pc' := 283) rfl h (fun h => ?_)
  refine pj_aload_n C d_La_law_283 (pc' := 284) (i := 0) (x := sb) rfl rfl rfl ?_
  refine pj_iload_n C d_La_law_284 (pc' := 285) (i := 3) (x := x3) rfl rfl rfl ?_
  refine pj_iconst C d_La_law_285 (pc' := 286) rfl (v := 2) (by decide) ?_
  refine pj_iadd C d_La_law_286 (pc' := 287) rfl ?_
  refine pl_sld C SX d_La_law_287 (pc' := 288) rfl h (fun h => ?_)
  refine pj_if_eq C d_La_law_288 (pc' := 291) rfl (tgt := 295) (by decide) h (fun h => ?_) (fun h => ?_)
  · exact pj_cut (pj_le_s (pj_le_s (pj_le_s (pj_le_s pj_le_e)))) (pt_La_law_295 C SX hR28 h)
  · exact pj_cut (pj_le_s (pj_le_s (pj_le_s (pj_le_s pj_le_e)))) (pt_La_law_291 C SX hR28 h)
def pb_La_law_373  (L : Nat) (xs : Nat → Int32) (u : pj_M)  : Prop := False
set_option maxHeartbeats 4000000 in
theorem pt_La_law_373 {g : pj_G} {b sb L : Nat} {xs : Nat → Int32} (C : pj_X g code 4 R_La ret room_1) (SX : pl_S g b sb L xs)  {u : pj_M}   (h : pb_La_law_373  L xs u ) : pj_J g (pj_N g b u) 373 [none, none, none, none] [] := by
  unfold pb_La_law_373 at h
  refine pj_iconst C d_La_law_373 (pc' := 374) rfl (v := 0) (by decide) ?_
  exact False.elim h
def pb_La_law_367 (R28 : pj_M → Int32 → Prop) (L : Nat) (xs : Nat → Int32) (u : pj_M) (x3 : Int32) (s0 : Int32) (s1 : Int32) (s3 : Int32) : Prop := pw_Mo_power u s1 s0 fun r2 u1 => (((s3 = r2) → (pb_La_law_807 R28 L xs u1 x3)) ∧ (¬ (s3 = r2) → (pb_La_law_373  L xs u1 )))
set_option maxHeartbeats 4000000 in
theorem pt_La_law_367 {g : pj_G} {b sb L : Nat} {xs : Nat → Int32} (C : pj_X g code 4 R_La ret room_1) (SX : pl_S g b sb L xs) {R28 : pj_M → Int32 → Prop} {u : pj_M} {x3 : Int32} {s0 : Int32} {s1 : Int32} {s3 : Int32} (hR28 : ∀ (u : pj_M) (x3 : Int32), R28 u x3 → pj_J g (pj_N g b u) 28 [some (.ref sb), some (.ref (b + 0)), some (.ref (b + 217)), some (.int x3)] []) (h : pb_La_law_367 R28 L xs u x3 s0 s1 s3) : pj_J g (pj_N g b u) 367 [some (.ref sb), some (.ref (b + 0)), some (.ref (b + 217)), some (.int x3)] [.int s0, .int s1, .ref (b + 217), .int s3] := by
  unfold pb_La_law_367 at h
  refine ck_Law_43_Model C  h d_La_law_367 (pc' := 370) rfl ⟨Nat.le_of_ble_eq_true rfl, Nat.le_of_ble_eq_true rfl⟩ (Nat.le_of_ble_eq_true rfl) (fun r2 u1 h => ?_)
  refine pj_icmp_eq C d_La_law_370 (pc' := 373) rfl (tgt := 807) (by decide) h (fun h => ?_) (fun h => ?_)
  · exact pj_cut (pj_le_s (pj_le_s (pj_le_s (pj_le_s pj_le_e)))) (pt_La_law_807 C SX hR28 h)
  · exact pj_cut (pj_le_n (pj_le_n (pj_le_n (pj_le_n pj_le_e)))) (pt_La_law_373 C SX  h)
def pb_La_law_366 (R28 : pj_M → Int32 → Prop) (L : Nat) (xs : Nat → Int32) (u : pj_M) (x3 : Int32) (s0 : Int32) (s2 : Int32) : Prop := pb_La_law_367 R28 L xs u x3 0 s0 s2
set_option maxHeartbeats 4000000 in
theorem pt_La_law_366 {g : pj_G} {b sb L : Nat} {xs : Nat → Int32} (C : pj_X g code 4 R_La ret room_1) (SX : pl_S g b sb L xs) {R28 : pj_M → Int32 → Prop} {u : pj_M} {x3 : Int32} {s0 : Int32} {s2 : Int32} (hR28 : ∀ (u : pj_M) (x3 : Int32), R28 u x3 → pj_J g (pj_N g b u) 28 [some (.ref sb), some (.ref (b + 0)), some (.ref (b + 217)), some (.int x3)] []) (h : pb_La_law_366 R28 L xs u x3 s0 s2) : pj_J g (pj_N g b u) 366 [some (.ref sb), some (.ref (b + 0)), some (.ref (b + 217)), some (.int x3)] [.int s0, .ref (b + 217), .int s2] := by
  unfold pb_La_law_366 at h
  refine pj_iconst C d_La_law_366 (pc' := 367) rfl (v := 0) (by decide) ?_
  exact pj_cut (pj_le_s (pj_le_s (pj_le_s (pj_le_s pj_le_e)))) (pt_La_law_367 C SX hR28 h)
def pb_La_law_362 (R28 : pj_M → Int32 → Prop) (L : Nat) (xs : Nat → Int32) (u : pj_M) (x3 : Int32) (s0 : Int32) (s2 : Int32) : Prop := pb_La_law_367 R28 L xs u x3 1 s0 s2
set_option maxHeartbeats 4000000 in
theorem pt_La_law_362 {g : pj_G} {b sb L : Nat} {xs : Nat → Int32} (C : pj_X g code 4 R_La ret room_1) (SX : pl_S g b sb L xs) {R28 : pj_M → Int32 → Prop} {u : pj_M} {x3 : Int32} {s0 : Int32} {s2 : Int32} (hR28 : ∀ (u : pj_M) (x3 : Int32), R28 u x3 → pj_J g (pj_N g b u) 28 [some (.ref sb), some (.ref (b + 0)), some (.ref (b + 217)), some (.int x3)] []) (h : pb_La_law_362 R28 L xs u x3 s0 s2) : pj_J g (pj_N g b u) 362 [some (.ref sb), some (.ref (b + 0)), some (.ref (b + 217)), some (.int x3)] [.int s0, .ref (b + 217), .int s2] := by
  unfold pb_La_law_362 at h
  refine pj_iconst C d_La_law_362 (pc' := 363) rfl (v := 1) (by decide) ?_
  refine pj_goto C d_La_law_363 (tgt := 367) (by decide) ?_
  exact pj_cut (pj_le_s (pj_le_s (pj_le_s (pj_le_s pj_le_e)))) (pt_La_law_367 C SX hR28 h)
def pb_La_law_345 (R28 : pj_M → Int32 → Prop) (L : Nat) (xs : Nat → Int32) (u : pj_M) (x3 : Int32) (s0 : Int32) (s1 : Int32) : Prop := pw_PG_power u s1 s0 fun r2 u1 => (vp_in (x3 + 1) L ∧ (vp_in (x3 + 2) L ∧ ((((xs (x3 + 2).toNatClampNeg) = 0) → (pb_La_law_366 R28 L xs u1 x3 (xs (x3 + 1).toNatClampNeg) r2)) ∧ (¬ ((xs (x3 + 2).toNatClampNeg) = 0) → (pb_La_law_362 R28 L xs u1 x3 (xs (x3 + 1).toNatClampNeg) r2)))))
set_option maxHeartbeats 4000000 in
theorem pt_La_law_345 {g : pj_G} {b sb L : Nat} {xs : Nat → Int32} (C : pj_X g code 4 R_La ret room_1) (SX : pl_S g b sb L xs) {R28 : pj_M → Int32 → Prop} {u : pj_M} {x3 : Int32} {s0 : Int32} {s1 : Int32} (hR28 : ∀ (u : pj_M) (x3 : Int32), R28 u x3 → pj_J g (pj_N g b u) 28 [some (.ref sb), some (.ref (b + 0)), some (.ref (b + 217)), some (.int x3)] []) (h : pb_La_law_345 R28 L xs u x3 s0 s1) : pj_J g (pj_N g b u) 345 [some (.ref sb), some (.ref (b + 0)), some (.ref (b + 217)), some (.int x3)] [.int s0, .int s1, .ref (b + 0)] := by
  unfold pb_La_law_345 at h
  refine ck_Law_40_PortGuard C  h d_La_law_345 (pc' := 348) rfl ⟨Nat.le_of_ble_eq_true rfl, Nat.le_of_ble_eq_true rfl⟩ (Nat.le_of_ble_eq_true rfl) (fun r2 u1 h => ?_)
  refine pj_aload_n C d_La_law_348 (pc' := 349) (i := 2) (x := b + 217) rfl rfl rfl ?_
  refine pj_aload_n C d_La_law_349 (pc' := 350) (i := 0) (x := sb) rfl rfl rfl ?_
  refine pj_iload_n C d_La_law_350 (pc' := 351) (i := 3) (x := x3) rfl rfl rfl ?_
  refine pj_iconst C d_La_law_351 (pc' := 352) rfl (v := 1) (by decide) ?_
  refine pj_iadd C d_La_law_352 (pc' := 353) rfl ?_
  refine pl_sld C SX d_La_law_353 (pc' := 354) rfl h (fun h => ?_)
  refine pj_aload_n C d_La_law_354 (pc' := 355) (i := 0) (x := sb) rfl rfl rfl ?_
  refine pj_iload_n C d_La_law_355 (pc' := 356) (i := 3) (x := x3) rfl rfl rfl ?_
  refine pj_iconst C d_La_law_356 (pc' := 357) rfl (v := 2) (by decide) ?_
  refine pj_iadd C d_La_law_357 (pc' := 358) rfl ?_
  refine pl_sld C SX d_La_law_358 (pc' := 359) rfl h (fun h => ?_)
  refine pj_if_eq C d_La_law_359 (pc' := 362) rfl (tgt := 366) (by decide) h (fun h => ?_) (fun h => ?_)
  · exact pj_cut (pj_le_s (pj_le_s (pj_le_s (pj_le_s pj_le_e)))) (pt_La_law_366 C SX hR28 h)
  · exact pj_cut (pj_le_s (pj_le_s (pj_le_s (pj_le_s pj_le_e)))) (pt_La_law_362 C SX hR28 h)
def pb_La_law_344 (R28 : pj_M → Int32 → Prop) (L : Nat) (xs : Nat → Int32) (u : pj_M) (x3 : Int32) (s0 : Int32) : Prop := pb_La_law_345 R28 L xs u x3 0 s0
set_option maxHeartbeats 4000000 in
theorem pt_La_law_344 {g : pj_G} {b sb L : Nat} {xs : Nat → Int32} (C : pj_X g code 4 R_La ret room_1) (SX : pl_S g b sb L xs) {R28 : pj_M → Int32 → Prop} {u : pj_M} {x3 : Int32} {s0 : Int32} (hR28 : ∀ (u : pj_M) (x3 : Int32), R28 u x3 → pj_J g (pj_N g b u) 28 [some (.ref sb), some (.ref (b + 0)), some (.ref (b + 217)), some (.int x3)] []) (h : pb_La_law_344 R28 L xs u x3 s0) : pj_J g (pj_N g b u) 344 [some (.ref sb), some (.ref (b + 0)), some (.ref (b + 217)), some (.int x3)] [.int s0, .ref (b + 0)] := by
  unfold pb_La_law_344 at h
  refine pj_iconst C d_La_law_344 (pc' := 345) rfl (v := 0) (by decide) ?_
  exact pj_cut (pj_le_s (pj_le_s (pj_le_s (pj_le_s pj_le_e)))) (pt_La_law_345 C SX hR28 h)
def pb_La_law_340 (R28 : pj_M → Int32 → Prop) (L : Nat) (xs : Nat → Int32) (u : pj_M) (x3 : Int32) (s0 : Int32) : Prop := pb_La_law_345 R28 L xs u x3 1 s0
set_option maxHeartbeats 4000000 in
theorem pt_La_law_340 {g : pj_G} {b sb L : Nat} {xs : Nat → Int32} (C : pj_X g code 4 R_La ret room_1) (SX : pl_S g b sb L xs) {R28 : pj_M → Int32 → Prop} {u : pj_M} {x3 : Int32} {s0 : Int32} (hR28 : ∀ (u : pj_M) (x3 : Int32), R28 u x3 → pj_J g (pj_N g b u) 28 [some (.ref sb), some (.ref (b + 0)), some (.ref (b + 217)), some (.int x3)] []) (h : pb_La_law_340 R28 L xs u x3 s0) : pj_J g (pj_N g b u) 340 [some (.ref sb), some (.ref (b + 0)), some (.ref (b + 217)), some (.int x3)] [.int s0, .ref (b + 0)] := by
  unfold pb_La_law_340 at h
  refine pj_iconst C d_La_law_340 (pc' := 341) rfl (v := 1) (by decide) ?_
  refine pj_goto C d_La_law_341 (tgt := 345) (by decide) ?_
  exact pj_cut (pj_le_s (pj_le_s (pj_le_s (pj_le_s pj_le_e)))) (pt_La_law_345 C SX hR28 h)
def pb_La_law_326 (R28 : pj_M → Int32 → Prop) (L : Nat) (xs : Nat → Int32) (u : pj_M) (x3 : Int32) : Prop := vp_in (x3 + 1) L ∧ (vp_in (x3 + 2) L ∧ ((((xs (x3 + 2).toNatClampNeg) = 0) → (pb_La_law_344 R28 L xs u x3 (xs (x3 + 1).toNatClampNeg))) ∧ (¬ ((xs (x3 + 2).toNatClampNeg) = 0) → (pb_La_law_340 R28 L xs u x3 (xs (x3 + 1).toNatClampNeg)))))
set_option maxHeartbeats 4000000 in
theorem pt_La_law_326 {g : pj_G} {b sb L : Nat} {xs : Nat → Int32} (C : pj_X g code 4 R_La ret room_1) (SX : pl_S g b sb L xs) {R28 : pj_M → Int32 → Prop} {u : pj_M} {x3 : Int32} (hR28 : ∀ (u : pj_M) (x3 : Int32), R28 u x3 → pj_J g (pj_N g b u) 28 [some (.ref sb), some (.ref (b + 0)), some (.ref (b + 217)), some (.int x3)] []) (h : pb_La_law_326 R28 L xs u x3) : pj_J g (pj_N g b u) 326 [some (.ref sb), some (.ref (b + 0)), some (.ref (b + 217)), some (.int x3)] [] := by
  unfold pb_La_law_326 at h
  refine pj_aload_n C d_La_law_326 (pc' := 327) (i := 1) (x := b + 0) rfl rfl rfl ?_
  refine pj_aload_n C d_La_law_327 (pc' := 328) (i := 0) (x := sb) rfl rfl rfl ?_
  refine pj_iload_n C d_La_law_328 (pc' := 329) (i := 3) (x := x3) rfl rfl rfl ?_
  refine pj_iconst C d_La_law_329 (pc' := 330) rfl (v := 1) (by decide) ?_
  refine pj_iadd C d_La_law_330 (pc' := 331) rfl ?_
  refine pl_sld C SX d_La_law_331 (pc' := 332) rfl h (fun h => ?_)
  refine pj_aload_n C d_La_law_332 (pc' := 333) (i := 0) (x := sb) rfl rfl rfl ?_
  refine pj_iload_n C d_La_law_333 (pc' := 334) (i := 3) (x := x3) rfl rfl rfl ?_
  refine pj_iconst C d_La_law_334 (pc' := 335) rfl (v := 2) (by decide) ?_
  refine pj_iadd C d_La_law_335 (pc' := 336) rfl ?_
  refine pl_sld C SX d_La_law_336 (pc' := 337) rfl h (fun h => ?_)
  refine pj_if_eq C d_La_law_337 (pc' := 340) rfl (tgt := 344) (by decide) h (fun h => ?_) (fun h => ?_)
  · exact pj_cut (pj_le_s (pj_le_s (pj_le_s (pj_le_s pj_le_e)))) (pt_La_law_344 C SX hR28 h)
  · exact pj_cut (pj_le_s (pj_le_s (pj_le_s (pj_le_s pj_le_e)))) (pt_La_law_340 C SX hR28 h)
def pb_La_law_406  (L : Nat) (xs : Nat → Int32) (u : pj_M)  : Prop := False
set_option maxHeartbeats 4000000 in
theorem pt_La_law_406 {g : pj_G} {b sb L : Nat} {xs : Nat → Int32} (C : pj_X g code 4 R_La ret room_1) (SX : pl_S g b sb L xs)  {u : pj_M}   (h : pb_La_law_406  L xs u ) : pj_J g (pj_N g b u) 406 [none, none, none, none] [] := by
  unfold pb_La_law_406 at h
  refine pj_iconst C d_La_law_406 (pc' := 407) rfl (v := 0) (by decide) ?_
  exact False.elim h
def pb_La_law_375 (R28 : pj_M → Int32 → Prop) (L : Nat) (xs : Nat → Int32) (u : pj_M) (x3 : Int32) : Prop := vp_in (x3 + 1) L ∧ (vp_in (x3 + 2) L ∧ (pw_PG_pass u (xs (x3 + 1).toNatClampNeg) (xs (x3 + 2).toNatClampNeg) fun r2 u1 => (vp_in (x3 + 1) L ∧ (vp_in (x3 + 2) L ∧ (pw_Mo_pass u1 (xs (x3 + 1).toNatClampNeg) (xs (x3 + 2).toNatClampNeg) fun r4 u3 => (((r2 = r4) → (pb_La_law_807 R28 L xs u3 x3)) ∧ (¬ (r2 = r4) → (pb_La_law_406  L xs u3 ))))))))
set_option maxHeartbeats 4000000 in
theorem pt_La_law_375 {g : pj_G} {b sb L : Nat} {xs : Nat → Int32} (C : pj_X g code 4 R_La ret room_1) (SX : pl_S g b sb L xs) {R28 : pj_M → Int32 → Prop} {u : pj_M} {x3 : Int32} (hR28 : ∀ (u : pj_M) (x3 : Int32), R28 u x3 → pj_J g (pj_N g b u) 28 [some (.ref sb), some (.ref (b + 0)), some (.ref (b + 217)), some (.int x3)] []) (h : pb_La_law_375 R28 L xs u x3) : pj_J g (pj_N g b u) 375 [some (.ref sb), some (.ref (b + 0)), some (.ref (b + 217)), some (.int x3)] [] := by
  unfold pb_La_law_375 at h
  refine pj_aload_n C d_La_law_375 (pc' := 376) (i := 1) (x := b + 0) rfl rfl rfl ?_
  refine pj_aload_n C d_La_law_376 (pc' := 377) (i := 0) (x := sb) rfl rfl rfl ?_
  refine pj_iload_n C d_La_law_377 (pc' := 378) (i := 3) (x := x3) rfl rfl rfl ?_
  refine pj_iconst C d_La_law_378 (pc' := 379) rfl (v := 1) (by decide) ?_
  refine pj_iadd C d_La_law_379 (pc' := 380) rfl ?_
  refine pl_sld C SX d_La_law_380 (pc' := 381) rfl h (fun h => ?_)
  refine pj_aload_n C d_La_law_381 (pc' := 382) (i := 0) (x := sb) rfl rfl rfl ?_
  refine pj_iload_n C d_La_law_382 (pc' := 383) (i := 3) (x := x3) rfl rfl rfl ?_
  refine pj_iconst C d_La_law_383 (pc' := 384) rfl (v := 2) (by decide) ?_
  refine pj_iadd C d_La_law_384 (pc' := 385) rfl ?_
  refine pl_sld C SX d_La_law_385 (pc' := 386) rfl h (fun h => ?_)
  refine ck_Law_44_PortGuard C  h d_La_law_386 (pc' := 389) rfl ⟨Nat.le_of_ble_eq_true rfl, Nat.le_of_ble_eq_true rfl⟩ (Nat.le_of_ble_eq_true rfl) (fun r2 u1 h => ?_)
  refine pj_aload_n C d_La_law_389 (pc' := 390) (i := 2) (x := b + 217) rfl rfl rfl ?_
  refine pj_aload_n C d_La_law_390 (pc' := 391) (i := 0) (x := sb) rfl rfl rfl ?_
  refine pj_iload_n C d_La_law_391 (pc' := 392) (i := 3) (x := x3) rfl rfl rfl ?_
  refine pj_iconst C d_La_law_392 (pc' := 393) rfl (v := 1) (by decide) ?_
  refine pj_iadd C d_La_law_393 (pc' := 394) rfl ?_
  refine pl_sld C SX d_La_law_394 (pc' := 395) rfl h (fun h => ?_)
  refine pj_aload_n C d_La_law_395 (pc' := 396) (i := 0) (x := sb) rfl rfl rfl ?_
  refine pj_iload_n C d_La_law_396 (pc' := 397) (i := 3) (x := x3) rfl rfl rfl ?_
  refine pj_iconst C d_La_law_397 (pc' := 398) rfl (v := 2) (by decide) ?_
  refine pj_iadd C d_La_law_398 (pc' := 399) rfl ?_
  refine pl_sld C SX d_La_law_399 (pc' := 400) rfl h (fun h => ?_)
  refine ck_Law_48_Model C  h d_La_law_400 (pc' := 403) rfl ⟨Nat.le_of_ble_eq_true rfl, Nat.le_of_ble_eq_true rfl⟩ (Nat.le_of_ble_eq_true rfl) (fun r4 u3 h => ?_)
  refine pj_icmp_eq C d_La_law_403 (pc' := 406) rfl (tgt := 807) (by decide) h (fun h => ?_) (fun h => ?_)
  · exact pj_cut (pj_le_s (pj_le_s (pj_le_s (pj_le_s pj_le_e)))) (pt_La_law_807 C SX hR28 h)
  · exact pj_cut (pj_le_n (pj_le_n (pj_le_n (pj_le_n pj_le_e)))) (pt_La_law_406 C SX  h)
def pb_La_law_449  (L : Nat) (xs : Nat → Int32) (u : pj_M)  : Prop := False
set_option maxHeartbeats 4000000 in
theorem pt_La_law_449 {g : pj_G} {b sb L : Nat} {xs : Nat → Int32} (C : pj_X g code 4 R_La ret room_1) (SX : pl_S g b sb L xs)  {u : pj_M}   (h : pb_La_law_449  L xs u ) : pj_J g (pj_N g b u) 449 [none, none, none, none] [] := by
  unfold pb_La_law_449 at h
  refine pj_iconst C d_La_law_449 (pc' := 450) rfl (v := 0) (by decide) ?_
  exact False.elim h
def pb_La_law_408 (R28 : pj_M → Int32 → Prop) (L : Nat) (xs : Nat → Int32) (u : pj_M) (x3 : Int32) : Prop := vp_in (x3 + 1) L ∧ (vp_in (x3 + 2) L ∧ (vp_in (x3 + 3) L ∧ (pw_PG_alter u (xs (x3 + 1).toNatClampNeg) (xs (x3 + 2).toNatClampNeg) (xs (x3 + 3).toNatClampNeg) fun r2 u1 => (vp_in (x3 + 1) L ∧ (vp_in (x3 + 2) L ∧ (vp_in (x3 + 3) L ∧ (pw_Mo_alter u1 (xs (x3 + 1).toNatClampNeg) (xs (x3 + 2).toNatClampNeg) (xs (x3 + 3).toNatClampNeg) fun r4 u3 => (((r2 = r4) → (pb_La_law_807 R28 L xs u3 x3)) ∧ (¬ (r2 = r4) → (pb_La_law_449  L xs u3 ))))))))))
set_option maxHeartbeats 4000000 in
theorem pt_La_law_408 {g : pj_G} {b sb L : Nat} {xs : Nat → Int32} (C : pj_X g code 4 R_La ret room_1) (SX : pl_S g b sb L xs) {R28 : pj_M → Int32 → Prop} {u : pj_M} {x3 : Int32} (hR28 : ∀ (u : pj_M) (x3 : Int32), R28 u x3 → pj_J g (pj_N g b u) 28 [some (.ref sb), some (.ref (b + 0)), some (.ref (b + 217)), some (.int x3)] []) (h : pb_La_law_408 R28 L xs u x3) : pj_J g (pj_N g b u) 408 [some (.ref sb), some (.ref (b + 0)), some (.ref (b + 217)), some (.int x3)] [] := by
  unfold pb_La_law_408 at h
  refine pj_aload_n C d_La_law_408 (pc' := 409) (i := 1) (x := b + 0) rfl rfl rfl ?_
  refine pj_aload_n C d_La_law_409 (pc' := 410) (i := 0) (x := sb) rfl rfl rfl ?_
  refine pj_iload_n C d_La_law_410 (pc' := 411) (i := 3) (x := x3) rfl rfl rfl ?_
  refine pj_iconst C d_La_law_411 (pc' := 412) rfl (v := 1) (by decide) ?_
  refine pj_iadd C d_La_law_412 (pc' := 413) rfl ?_
  refine pl_sld C SX d_La_law_413 (pc' := 414) rfl h (fun h => ?_)
  refine pj_aload_n C d_La_law_414 (pc' := 415) (i := 0) (x := sb) rfl rfl rfl ?_
  refine pj_iload_n C d_La_law_415 (pc' := 416) (i := 3) (x := x3) rfl rfl rfl ?_
  refine pj_iconst C d_La_law_416 (pc' := 417) rfl (v := 2) (by decide) ?_
  refine pj_iadd C d_La_law_417 (pc' := 418) rfl ?_
  refine pl_sld C SX d_La_law_418 (pc' := 419) rfl h (fun h => ?_)
  refine pj_aload_n C d_La_law_419 (pc' := 420) (i := 0) (x := sb) rfl rfl rfl ?_
  refine pj_iload_n C d_La_law_420 (pc' := 421) (i := 3) (x := x3) rfl rfl rfl ?_
  refine pj_iconst C d_La_law_421 (pc' := 422) rfl (v := 3) (by decide) ?_
  refine pj_iadd C d_La_law_422 (pc' := 423) rfl ?_
  refine pl_sld C SX d_La_law_423 (pc' := 424) rfl h (fun h => ?_)
  refine ck_Law_49_PortGuard C  h d_La_law_424 (pc' := 427) rfl ⟨Nat.le_of_ble_eq_true rfl, Nat.le_of_ble_eq_true rfl⟩ (Nat.le_of_ble_eq_true rfl) (fun r2 u1 h => ?_)
  refine pj_aload_n C d_La_law_427 (pc' := 428) (i := 2) (x := b + 217) rfl rfl rfl ?_
  refine pj_aload_n C d_La_law_428 (pc' := 429) (i := 0) (x := sb) rfl rfl rfl ?_
  refine pj_iload_n C d_La_law_429 (pc' := 430) (i := 3) (x := x3) rfl rfl rfl ?_
  refine pj_iconst C d_La_law_430 (pc' := 431) rfl (v := 1) (by decide) ?_
  refine pj_iadd C d_La_law_431 (pc' := 432) rfl ?_
  refine pl_sld C SX d_La_law_432 (pc' := 433) rfl h (fun h => ?_)
  refine pj_aload_n C d_La_law_433 (pc' := 434) (i := 0) (x := sb) rfl rfl rfl ?_
  refine pj_iload_n C d_La_law_434 (pc' := 435) (i := 3) (x := x3) rfl rfl rfl ?_
  refine pj_iconst C d_La_law_435 (pc' := 436) rfl (v := 2) (by decide) ?_
  refine pj_iadd C d_La_law_436 (pc' := 437) rfl ?_
  refine pl_sld C SX d_La_law_437 (pc' := 438) rfl h (fun h => ?_)
  refine pj_aload_n C d_La_law_438 (pc' := 439) (i := 0) (x := sb) rfl rfl rfl ?_
  refine pj_iload_n C d_La_law_439 (pc' := 440) (i := 3) (x := x3) rfl rfl rfl ?_
  refine pj_iconst C d_La_law_440 (pc' := 441) rfl (v := 3) (by decide) ?_
  refine pj_iadd C d_La_law_441 (pc' := 442) rfl ?_
  refine pl_sld C SX d_La_law_442 (pc' := 443) rfl h (fun h => ?_)
  refine ck_Law_52_Model C  h d_La_law_443 (pc' := 446) rfl ⟨Nat.le_of_ble_eq_true rfl, Nat.le_of_ble_eq_true rfl⟩ (Nat.le_of_ble_eq_true rfl) (fun r4 u3 h => ?_)
  refine pj_icmp_eq C d_La_law_446 (pc' := 449) rfl (tgt := 807) (by decide) h (fun h => ?_) (fun h => ?_)
  · exact pj_cut (pj_le_s (pj_le_s (pj_le_s (pj_le_s pj_le_e)))) (pt_La_law_807 C SX hR28 h)
  · exact pj_cut (pj_le_n (pj_le_n (pj_le_n (pj_le_n pj_le_e)))) (pt_La_law_449 C SX  h)
def pb_La_law_512  (L : Nat) (xs : Nat → Int32) (u : pj_M)  : Prop := False
set_option maxHeartbeats 4000000 in
theorem pt_La_law_512 {g : pj_G} {b sb L : Nat} {xs : Nat → Int32} (C : pj_X g code 4 R_La ret room_1) (SX : pl_S g b sb L xs)  {u : pj_M}   (h : pb_La_law_512  L xs u ) : pj_J g (pj_N g b u) 512 [none, none, none, none] [] := by
  unfold pb_La_law_512 at h
  refine pj_iconst C d_La_law_512 (pc' := 513) rfl (v := 0) (by decide) ?_
  exact False.elim h
def pb_La_law_451 (R28 : pj_M → Int32 → Prop) (L : Nat) (xs : Nat → Int32) (u : pj_M) (x3 : Int32) : Prop := vp_in (x3 + 1) L ∧ (vp_in (x3 + 2) L ∧ (vp_in (x3 + 3) L ∧ (pw_PG_draft u ((((xs (x3 + 1).toNatClampNeg).toInt64) <<< ((32 : Int32).toInt64 &&& 63)) ||| (((xs (x3 + 2).toNatClampNeg).toInt64) &&& 4294967295)) (xs (x3 + 3).toNatClampNeg) fun r2 u1 => (vp_in (x3 + 1) L ∧ (vp_in (x3 + 2) L ∧ (vp_in (x3 + 3) L ∧ (pw_Mo_draft u1 ((((xs (x3 + 1).toNatClampNeg).toInt64) <<< ((32 : Int32).toInt64 &&& 63)) ||| (((xs (x3 + 2).toNatClampNeg).toInt64) &&& 4294967295)) (xs (x3 + 3).toNatClampNeg) fun r4 u3 => (((r2 = r4) → (pb_La_law_807 R28 L xs u3 x3)) ∧ (¬ (r2 = r4) → (pb_La_law_512  L xs u3 ))))))))))
set_option maxHeartbeats 4000000 in
theorem pt_La_law_451 {g : pj_G} {b sb L : Nat} {xs : Nat → Int32} (C : pj_X g code 4 R_La ret room_1) (SX : pl_S g b sb L xs) {R28 : pj_M → Int32 → Prop} {u : pj_M} {x3 : Int32} (hR28 : ∀ (u : pj_M) (x3 : Int32), R28 u x3 → pj_J g (pj_N g b u) 28 [some (.ref sb), some (.ref (b + 0)), some (.ref (b + 217)), some (.int x3)] []) (h : pb_La_law_451 R28 L xs u x3) : pj_J g (pj_N g b u) 451 [some (.ref sb), some (.ref (b + 0)), some (.ref (b + 217)), some (.int x3)] [] := by
  unfold pb_La_law_451 at h
  refine pj_aload_n C d_La_law_451 (pc' := 452) (i := 1) (x := b + 0) rfl rfl rfl ?_
  refine pj_aload_n C d_La_law_452 (pc' := 453) (i := 0) (x := sb) rfl rfl rfl ?_
  refine pj_iload_n C d_La_law_453 (pc' := 454) (i := 3) (x := x3) rfl rfl rfl ?_
  refine pj_iconst C d_La_law_454 (pc' := 455) rfl (v := 1) (by decide) ?_
  refine pj_iadd C d_La_law_455 (pc' := 456) rfl ?_
  refine pl_sld C SX d_La_law_456 (pc' := 457) rfl h (fun h => ?_)
  refine pj_i2l C d_La_law_457 (pc' := 458) rfl ?_
  refine pj_bipush C d_La_law_458 (pc' := 460) rfl (v := 32) (by decide) ?_
  refine pj_lshl C d_La_law_460 (pc' := 461) rfl ?_
  refine pj_aload_n C d_La_law_461 (pc' := 462) (i := 0) (x := sb) rfl rfl rfl ?_
  refine pj_iload_n C d_La_law_462 (pc' := 463) (i := 3) (x := x3) rfl rfl rfl ?_
  refine pj_iconst C d_La_law_463 (pc' := 464) rfl (v := 2) (by decide) ?_
  refine pj_iadd C d_La_law_464 (pc' := 465) rfl ?_
  refine pl_sld C SX d_La_law_465 (pc' := 466) rfl h (fun h => ?_)
  refine pj_i2l C d_La_law_466 (pc' := 467) rfl ?_
  refine pj_ldc2 C d_La_law_467 (pc' := 470) rfl (v := 4294967295) wm_1630 ?_
  refine pj_land C d_La_law_470 (pc' := 471) rfl ?_
  refine pj_lor C d_La_law_471 (pc' := 472) rfl ?_
  refine pj_aload_n C d_La_law_472 (pc' := 473) (i := 0) (x := sb) rfl rfl rfl ?_
  refine pj_iload_n C d_La_law_473 (pc' := 474) (i := 3) (x := x3) rfl rfl rfl ?_
  refine pj_iconst C d_La_law_474 (pc' := 475) rfl (v := 3) (by decide) ?_
  refine pj_iadd C d_La_law_475 (pc' := 476) rfl ?_
  refine pl_sld C SX d_La_law_476 (pc' := 477) rfl h (fun h => ?_)
  refine ck_Law_55_PortGuard C  h d_La_law_477 (pc' := 480) rfl ⟨Nat.le_of_ble_eq_true rfl, Nat.le_of_ble_eq_true rfl⟩ (Nat.le_of_ble_eq_true rfl) (fun r2 u1 h => ?_)
  refine pj_aload_n C d_La_law_480 (pc' := 481) (i := 2) (x := b + 217) rfl rfl rfl ?_
  refine pj_aload_n C d_La_law_481 (pc' := 482) (i := 0) (x := sb) rfl rfl rfl ?_
  refine pj_iload_n C d_La_law_482 (pc' := 483) (i := 3) (x := x3) rfl rfl rfl ?_
  refine pj_iconst C d_La_law_483 (pc' := 484) rfl (v := 1) (by decide) ?_
  refine pj_iadd C d_La_law_484 (pc' := 485) rfl ?_
  refine pl_sld C SX d_La_law_485 (pc' := 486) rfl h (fun h => ?_)
  refine pj_i2l C d_La_law_486 (pc' := 487) rfl ?_
  refine pj_bipush C d_La_law_487 (pc' := 489) rfl (v := 32) (by decide) ?_
  refine pj_lshl C d_La_law_489 (pc' := 490) rfl ?_
  refine pj_aload_n C d_La_law_490 (pc' := 491) (i := 0) (x := sb) rfl rfl rfl ?_
  refine pj_iload_n C d_La_law_491 (pc' := 492) (i := 3) (x := x3) rfl rfl rfl ?_
  refine pj_iconst C d_La_law_492 (pc' := 493) rfl (v := 2) (by decide) ?_
  refine pj_iadd C d_La_law_493 (pc' := 494) rfl ?_
  refine pl_sld C SX d_La_law_494 (pc' := 495) rfl h (fun h => ?_)
  refine pj_i2l C d_La_law_495 (pc' := 496) rfl ?_
  refine pj_ldc2 C d_La_law_496 (pc' := 499) rfl (v := 4294967295) wm_1630 ?_
  refine pj_land C d_La_law_499 (pc' := 500) rfl ?_
  refine pj_lor C d_La_law_500 (pc' := 501) rfl ?_
  refine pj_aload_n C d_La_law_501 (pc' := 502) (i := 0) (x := sb) rfl rfl rfl ?_
  refine pj_iload_n C d_La_law_502 (pc' := 503) (i := 3) (x := x3) rfl rfl rfl ?_
  refine pj_iconst C d_La_law_503 (pc' := 504) rfl (v := 3) (by decide) ?_
  refine pj_iadd C d_La_law_504 (pc' := 505) rfl ?_
  refine pl_sld C SX d_La_law_505 (pc' := 506) rfl h (fun h => ?_)
  refine ck_Law_59_Model C  h d_La_law_506 (pc' := 509) rfl ⟨Nat.le_of_ble_eq_true rfl, Nat.le_of_ble_eq_true rfl⟩ (Nat.le_of_ble_eq_true rfl) (fun r4 u3 h => ?_)
  refine pj_icmp_eq C d_La_law_509 (pc' := 512) rfl (tgt := 807) (by decide) h (fun h => ?_) (fun h => ?_)
  · exact pj_cut (pj_le_s (pj_le_s (pj_le_s (pj_le_s pj_le_e)))) (pt_La_law_807 C SX hR28 h)
  · exact pj_cut (pj_le_n (pj_le_n (pj_le_n (pj_le_n pj_le_e)))) (pt_La_law_512 C SX  h)
def pb_La_law_545  (L : Nat) (xs : Nat → Int32) (u : pj_M)  : Prop := False
set_option maxHeartbeats 4000000 in
theorem pt_La_law_545 {g : pj_G} {b sb L : Nat} {xs : Nat → Int32} (C : pj_X g code 4 R_La ret room_1) (SX : pl_S g b sb L xs)  {u : pj_M}   (h : pb_La_law_545  L xs u ) : pj_J g (pj_N g b u) 545 [none, none, none, none] [] := by
  unfold pb_La_law_545 at h
  refine pj_iconst C d_La_law_545 (pc' := 546) rfl (v := 0) (by decide) ?_
  exact False.elim h
def pb_La_law_514 (R28 : pj_M → Int32 → Prop) (L : Nat) (xs : Nat → Int32) (u : pj_M) (x3 : Int32) : Prop := vp_in (x3 + 1) L ∧ (vp_in (x3 + 2) L ∧ (pw_PG_forge u (xs (x3 + 1).toNatClampNeg) (xs (x3 + 2).toNatClampNeg) fun r2 u1 => (vp_in (x3 + 1) L ∧ (vp_in (x3 + 2) L ∧ (pw_Mo_forge u1 (xs (x3 + 1).toNatClampNeg) (xs (x3 + 2).toNatClampNeg) fun r4 u3 => (((r2 = r4) → (pb_La_law_807 R28 L xs u3 x3)) ∧ (¬ (r2 = r4) → (pb_La_law_545  L xs u3 ))))))))
set_option maxHeartbeats 4000000 in
theorem pt_La_law_514 {g : pj_G} {b sb L : Nat} {xs : Nat → Int32} (C : pj_X g code 4 R_La ret room_1) (SX : pl_S g b sb L xs) {R28 : pj_M → Int32 → Prop} {u : pj_M} {x3 : Int32} (hR28 : ∀ (u : pj_M) (x3 : Int32), R28 u x3 → pj_J g (pj_N g b u) 28 [some (.ref sb), some (.ref (b + 0)), some (.ref (b + 217)), some (.int x3)] []) (h : pb_La_law_514 R28 L xs u x3) : pj_J g (pj_N g b u) 514 [some (.ref sb), some (.ref (b + 0)), some (.ref (b + 217)), some (.int x3)] [] := by
  unfold pb_La_law_514 at h
  refine pj_aload_n C d_La_law_514 (pc' := 515) (i := 1) (x := b + 0) rfl rfl rfl ?_
  refine pj_aload_n C d_La_law_515 (pc' := 516) (i := 0) (x := sb) rfl rfl rfl ?_
  refine pj_iload_n C d_La_law_516 (pc' := 517) (i := 3) (x := x3) rfl rfl rfl ?_
  refine pj_iconst C d_La_law_517 (pc' := 518) rfl (v := 1) (by decide) ?_
  refine pj_iadd C d_La_law_518 (pc' := 519) rfl ?_
  refine pl_sld C SX d_La_law_519 (pc' := 520) rfl h (fun h => ?_)
  refine pj_aload_n C d_La_law_520 (pc' := 521) (i := 0) (x := sb) rfl rfl rfl ?_
  refine pj_iload_n C d_La_law_521 (pc' := 522) (i := 3) (x := x3) rfl rfl rfl ?_
  refine pj_iconst C d_La_law_522 (pc' := 523) rfl (v := 2) (by decide) ?_
  refine pj_iadd C d_La_law_523 (pc' := 524) rfl ?_
  refine pl_sld C SX d_La_law_524 (pc' := 525) rfl h (fun h => ?_)
  refine ck_Law_60_PortGuard C  h d_La_law_525 (pc' := 528) rfl ⟨Nat.le_of_ble_eq_true rfl, Nat.le_of_ble_eq_true rfl⟩ (Nat.le_of_ble_eq_true rfl) (fun r2 u1 h => ?_)
  refine pj_aload_n C d_La_law_528 (pc' := 529) (i := 2) (x := b + 217) rfl rfl rfl ?_
  refine pj_aload_n C d_La_law_529 (pc' := 530) (i := 0) (x := sb) rfl rfl rfl ?_
  refine pj_iload_n C d_La_law_530 (pc' := 531) (i := 3) (x := x3) rfl rfl rfl ?_
  refine pj_iconst C d_La_law_531 (pc' := 532) rfl (v := 1) (by decide) ?_
  refine pj_iadd C d_La_law_532 (pc' := 533) rfl ?_
  refine pl_sld C SX d_La_law_533 (pc' := 534) rfl h (fun h => ?_)
  refine pj_aload_n C d_La_law_534 (pc' := 535) (i := 0) (x := sb) rfl rfl rfl ?_
  refine pj_iload_n C d_La_law_535 (pc' := 536) (i := 3) (x := x3) rfl rfl rfl ?_
  refine pj_iconst C d_La_law_536 (pc' := 537) rfl (v := 2) (by decide) ?_
  refine pj_iadd C d_La_law_537 (pc' := 538) rfl ?_
  refine pl_sld C SX d_La_law_538 (pc' := 539) rfl h (fun h => ?_)
  refine ck_Law_63_Model C  h d_La_law_539 (pc' := 542) rfl ⟨Nat.le_of_ble_eq_true rfl, Nat.le_of_ble_eq_true rfl⟩ (Nat.le_of_ble_eq_true rfl) (fun r4 u3 h => ?_)
  refine pj_icmp_eq C d_La_law_542 (pc' := 545) rfl (tgt := 807) (by decide) h (fun h => ?_) (fun h => ?_)
  · exact pj_cut (pj_le_s (pj_le_s (pj_le_s (pj_le_s pj_le_e)))) (pt_La_law_807 C SX hR28 h)
  · exact pj_cut (pj_le_n (pj_le_n (pj_le_n (pj_le_n pj_le_e)))) (pt_La_law_545 C SX  h)
def pb_La_law_558  (L : Nat) (xs : Nat → Int32) (u : pj_M)  : Prop := False
set_option maxHeartbeats 4000000 in
theorem pt_La_law_558 {g : pj_G} {b sb L : Nat} {xs : Nat → Int32} (C : pj_X g code 4 R_La ret room_1) (SX : pl_S g b sb L xs)  {u : pj_M}   (h : pb_La_law_558  L xs u ) : pj_J g (pj_N g b u) 558 [none, none, none, none] [] := by
  unfold pb_La_law_558 at h
  refine pj_iconst C d_La_law_558 (pc' := 559) rfl (v := 0) (by decide) ?_
  exact False.elim h
def pb_La_law_547 (R28 : pj_M → Int32 → Prop) (L : Nat) (xs : Nat → Int32) (u : pj_M) (x3 : Int32) : Prop := pw_PG_tick u  fun r2 u1 => (pw_Mo_tick u1  fun r4 u3 => (((r2 = r4) → (pb_La_law_807 R28 L xs u3 x3)) ∧ (¬ (r2 = r4) → (pb_La_law_558  L xs u3 ))))
set_option maxHeartbeats 4000000 in
theorem pt_La_law_547 {g : pj_G} {b sb L : Nat} {xs : Nat → Int32} (C : pj_X g code 4 R_La ret room_1) (SX : pl_S g b sb L xs) {R28 : pj_M → Int32 → Prop} {u : pj_M} {x3 : Int32} (hR28 : ∀ (u : pj_M) (x3 : Int32), R28 u x3 → pj_J g (pj_N g b u) 28 [some (.ref sb), some (.ref (b + 0)), some (.ref (b + 217)), some (.int x3)] []) (h : pb_La_law_547 R28 L xs u x3) : pj_J g (pj_N g b u) 547 [some (.ref sb), some (.ref (b + 0)), some (.ref (b + 217)), some (.int x3)] [] := by
  unfold pb_La_law_547 at h
  refine pj_aload_n C d_La_law_547 (pc' := 548) (i := 1) (x := b + 0) rfl rfl rfl ?_
  refine ck_Law_64_PortGuard C  h d_La_law_548 (pc' := 551) rfl ⟨Nat.le_of_ble_eq_true rfl, Nat.le_of_ble_eq_true rfl⟩ (Nat.le_of_ble_eq_true rfl) (fun r2 u1 h => ?_)
  refine pj_aload_n C d_La_law_551 (pc' := 552) (i := 2) (x := b + 217) rfl rfl rfl ?_
  refine ck_Law_68_Model C  h d_La_law_552 (pc' := 555) rfl ⟨Nat.le_of_ble_eq_true rfl, Nat.le_of_ble_eq_true rfl⟩ (Nat.le_of_ble_eq_true rfl) (fun r4 u3 h => ?_)
  refine pj_icmp_eq C d_La_law_555 (pc' := 558) rfl (tgt := 807) (by decide) h (fun h => ?_) (fun h => ?_)
  · exact pj_cut (pj_le_s (pj_le_s (pj_le_s (pj_le_s pj_le_e)))) (pt_La_law_807 C SX hR28 h)
  · exact pj_cut (pj_le_n (pj_le_n (pj_le_n (pj_le_n pj_le_e)))) (pt_La_law_558 C SX  h)
def pb_La_law_601  (L : Nat) (xs : Nat → Int32) (u : pj_M)  : Prop := False
set_option maxHeartbeats 4000000 in
theorem pt_La_law_601 {g : pj_G} {b sb L : Nat} {xs : Nat → Int32} (C : pj_X g code 4 R_La ret room_1) (SX : pl_S g b sb L xs)  {u : pj_M}   (h : pb_La_law_601  L xs u ) : pj_J g (pj_N g b u) 601 [none, none, none, none] [] := by
  unfold pb_La_law_601 at h
  refine pj_iconst C d_La_law_601 (pc' := 602) rfl (v := 0) (by decide) ?_
  exact False.elim h
def pb_La_law_560 (R28 : pj_M → Int32 → Prop) (L : Nat) (xs : Nat → Int32) (u : pj_M) (x3 : Int32) : Prop := vp_in (x3 + 1) L ∧ (vp_in (x3 + 2) L ∧ (vp_in (x3 + 3) L ∧ (pw_PG_data u (xs (x3 + 1).toNatClampNeg) (xs (x3 + 2).toNatClampNeg) (xs (x3 + 3).toNatClampNeg) fun r2 u1 => (vp_in (x3 + 1) L ∧ (vp_in (x3 + 2) L ∧ (vp_in (x3 + 3) L ∧ (pw_Mo_data u1 (xs (x3 + 1).toNatClampNeg) (xs (x3 + 2).toNatClampNeg) (xs (x3 + 3).toNatClampNeg) fun r4 u3 => (((r2 = r4) → (pb_La_law_807 R28 L xs u3 x3)) ∧ (¬ (r2 = r4) → (pb_La_law_601  L xs u3 ))))))))))
set_option maxHeartbeats 4000000 in
theorem pt_La_law_560 {g : pj_G} {b sb L : Nat} {xs : Nat → Int32} (C : pj_X g code 4 R_La ret room_1) (SX : pl_S g b sb L xs) {R28 : pj_M → Int32 → Prop} {u : pj_M} {x3 : Int32} (hR28 : ∀ (u : pj_M) (x3 : Int32), R28 u x3 → pj_J g (pj_N g b u) 28 [some (.ref sb), some (.ref (b + 0)), some (.ref (b + 217)), some (.int x3)] []) (h : pb_La_law_560 R28 L xs u x3) : pj_J g (pj_N g b u) 560 [some (.ref sb), some (.ref (b + 0)), some (.ref (b + 217)), some (.int x3)] [] := by
  unfold pb_La_law_560 at h
  refine pj_aload_n C d_La_law_560 (pc' := 561) (i := 1) (x := b + 0) rfl rfl rfl ?_
  refine pj_aload_n C d_La_law_561 (pc' := 562) (i := 0) (x := sb) rfl rfl rfl ?_
  refine pj_iload_n C d_La_law_562 (pc' := 563) (i := 3) (x := x3) rfl rfl rfl ?_
  refine pj_iconst C d_La_law_563 (pc' := 564) rfl (v := 1) (by decide) ?_
  refine pj_iadd C d_La_law_564 (pc' := 565) rfl ?_
  refine pl_sld C SX d_La_law_565 (pc' := 566) rfl h (fun h => ?_)
  refine pj_aload_n C d_La_law_566 (pc' := 567) (i := 0) (x := sb) rfl rfl rfl ?_
  refine pj_iload_n C d_La_law_567 (pc' := 568) (i := 3) (x := x3) rfl rfl rfl ?_
  refine pj_iconst C d_La_law_568 (pc' := 569) rfl (v := 2) (by decide) ?_
  refine pj_iadd C d_La_law_569 (pc' := 570) rfl ?_
  refine pl_sld C SX d_La_law_570 (pc' := 571) rfl h (fun h => ?_)
  refine pj_aload_n C d_La_law_571 (pc' := 572) (i := 0) (x := sb) rfl rfl rfl ?_
  refine pj_iload_n C d_La_law_572 (pc' := 573) (i := 3) (x := x3) rfl rfl rfl ?_
  refine pj_iconst C d_La_law_573 (pc' := 574) rfl (v := 3) (by decide) ?_
  refine pj_iadd C d_La_law_574 (pc' := 575) rfl ?_
  refine pl_sld C SX d_La_law_575 (pc' := 576) rfl h (fun h => ?_)
  refine ck_Law_69_PortGuard C  h d_La_law_576 (pc' := 579) rfl ⟨Nat.le_of_ble_eq_true rfl, Nat.le_of_ble_eq_true rfl⟩ (Nat.le_of_ble_eq_true rfl) (fun r2 u1 h => ?_)
  refine pj_aload_n C d_La_law_579 (pc' := 580) (i := 2) (x := b + 217) rfl rfl rfl ?_
  refine pj_aload_n C d_La_law_580 (pc' := 581) (i := 0) (x := sb) rfl rfl rfl ?_
  refine pj_iload_n C d_La_law_581 (pc' := 582) (i := 3) (x := x3) rfl rfl rfl ?_
  refine pj_iconst C d_La_law_582 (pc' := 583) rfl (v := 1) (by decide) ?_
  refine pj_iadd C d_La_law_583 (pc' := 584) rfl ?_
  refine pl_sld C SX d_La_law_584 (pc' := 585) rfl h (fun h => ?_)
  refine pj_aload_n C d_La_law_585 (pc' := 586) (i := 0) (x := sb) rfl rfl rfl ?_
  refine pj_iload_n C d_La_law_586 (pc' := 587) (i := 3) (x := x3) rfl rfl rfl ?_
  refine pj_iconst C d_La_law_587 (pc' := 588) rfl (v := 2) (by decide) ?_
  refine pj_iadd C d_La_law_588 (pc' := 589) rfl ?_
  refine pl_sld C SX d_La_law_589 (pc' := 590) rfl h (fun h => ?_)
  refine pj_aload_n C d_La_law_590 (pc' := 591) (i := 0) (x := sb) rfl rfl rfl ?_
  refine pj_iload_n C d_La_law_591 (pc' := 592) (i := 3) (x := x3) rfl rfl rfl ?_
  refine pj_iconst C d_La_law_592 (pc' := 593) rfl (v := 3) (by decide) ?_
  refine pj_iadd C d_La_law_593 (pc' := 594) rfl ?_
  refine pl_sld C SX d_La_law_594 (pc' := 595) rfl h (fun h => ?_)
  refine ck_Law_73_Model C  h d_La_law_595 (pc' := 598) rfl ⟨Nat.le_of_ble_eq_true rfl, Nat.le_of_ble_eq_true rfl⟩ (Nat.le_of_ble_eq_true rfl) (fun r4 u3 h => ?_)
  refine pj_icmp_eq C d_La_law_598 (pc' := 601) rfl (tgt := 807) (by decide) h (fun h => ?_) (fun h => ?_)
  · exact pj_cut (pj_le_s (pj_le_s (pj_le_s (pj_le_s pj_le_e)))) (pt_La_law_807 C SX hR28 h)
  · exact pj_cut (pj_le_n (pj_le_n (pj_le_n (pj_le_n pj_le_e)))) (pt_La_law_601 C SX  h)
def pb_La_law_614  (L : Nat) (xs : Nat → Int32) (u : pj_M)  : Prop := False
set_option maxHeartbeats 4000000 in
theorem pt_La_law_614 {g : pj_G} {b sb L : Nat} {xs : Nat → Int32} (C : pj_X g code 4 R_La ret room_1) (SX : pl_S g b sb L xs)  {u : pj_M}   (h : pb_La_law_614  L xs u ) : pj_J g (pj_N g b u) 614 [none, none, none, none] [] := by
  unfold pb_La_law_614 at h
  refine pj_iconst C d_La_law_614 (pc' := 615) rfl (v := 0) (by decide) ?_
  exact False.elim h
def pb_La_law_603 (R28 : pj_M → Int32 → Prop) (L : Nat) (xs : Nat → Int32) (u : pj_M) (x3 : Int32) : Prop := pw_PG_waiting u  fun r2 u1 => (pw_Mo_waiting u1  fun r4 u3 => (((r2 = r4) → (pb_La_law_807 R28 L xs u3 x3)) ∧ (¬ (r2 = r4) → (pb_La_law_614  L xs u3 ))))
set_option maxHeartbeats 4000000 in
theorem pt_La_law_603 {g : pj_G} {b sb L : Nat} {xs : Nat → Int32} (C : pj_X g code 4 R_La ret room_1) (SX : pl_S g b sb L xs) {R28 : pj_M → Int32 → Prop} {u : pj_M} {x3 : Int32} (hR28 : ∀ (u : pj_M) (x3 : Int32), R28 u x3 → pj_J g (pj_N g b u) 28 [some (.ref sb), some (.ref (b + 0)), some (.ref (b + 217)), some (.int x3)] []) (h : pb_La_law_603 R28 L xs u x3) : pj_J g (pj_N g b u) 603 [some (.ref sb), some (.ref (b + 0)), some (.ref (b + 217)), some (.int x3)] [] := by
  unfold pb_La_law_603 at h
  refine pj_aload_n C d_La_law_603 (pc' := 604) (i := 1) (x := b + 0) rfl rfl rfl ?_
  refine ck_Law_74_PortGuard C  h d_La_law_604 (pc' := 607) rfl ⟨Nat.le_of_ble_eq_true rfl, Nat.le_of_ble_eq_true rfl⟩ (Nat.le_of_ble_eq_true rfl) (fun r2 u1 h => ?_)
  refine pj_aload_n C d_La_law_607 (pc' := 608) (i := 2) (x := b + 217) rfl rfl rfl ?_
  refine ck_Law_77_Model C  h d_La_law_608 (pc' := 611) rfl ⟨Nat.le_of_ble_eq_true rfl, Nat.le_of_ble_eq_true rfl⟩ (Nat.le_of_ble_eq_true rfl) (fun r4 u3 h => ?_)
  refine pj_icmp_eq C d_La_law_611 (pc' := 614) rfl (tgt := 807) (by decide) h (fun h => ?_) (fun h => ?_)
  · exact pj_cut (pj_le_s (pj_le_s (pj_le_s (pj_le_s pj_le_e)))) (pt_La_law_807 C SX hR28 h)
  · exact pj_cut (pj_le_n (pj_le_n (pj_le_n (pj_le_n pj_le_e)))) (pt_La_law_614 C SX  h)
def pb_La_law_647  (L : Nat) (xs : Nat → Int32) (u : pj_M)  : Prop := False
set_option maxHeartbeats 4000000 in
theorem pt_La_law_647 {g : pj_G} {b sb L : Nat} {xs : Nat → Int32} (C : pj_X g code 4 R_La ret room_1) (SX : pl_S g b sb L xs)  {u : pj_M}   (h : pb_La_law_647  L xs u ) : pj_J g (pj_N g b u) 647 [none, none, none, none] [] := by
  unfold pb_La_law_647 at h
  refine pj_iconst C d_La_law_647 (pc' := 648) rfl (v := 0) (by decide) ?_
  exact False.elim h
def pb_La_law_616 (R28 : pj_M → Int32 → Prop) (L : Nat) (xs : Nat → Int32) (u : pj_M) (x3 : Int32) : Prop := vp_in (x3 + 1) L ∧ (vp_in (x3 + 2) L ∧ (pw_PG_message u (xs (x3 + 1).toNatClampNeg) (xs (x3 + 2).toNatClampNeg) fun r2 u1 => (vp_in (x3 + 1) L ∧ (vp_in (x3 + 2) L ∧ (pw_Mo_message u1 (xs (x3 + 1).toNatClampNeg) (xs (x3 + 2).toNatClampNeg) fun r4 u3 => (((r2 = r4) → (pb_La_law_807 R28 L xs u3 x3)) ∧ (¬ (r2 = r4) → (pb_La_law_647  L xs u3 ))))))))
set_option maxHeartbeats 4000000 in
theorem pt_La_law_616 {g : pj_G} {b sb L : Nat} {xs : Nat → Int32} (C : pj_X g code 4 R_La ret room_1) (SX : pl_S g b sb L xs) {R28 : pj_M → Int32 → Prop} {u : pj_M} {x3 : Int32} (hR28 : ∀ (u : pj_M) (x3 : Int32), R28 u x3 → pj_J g (pj_N g b u) 28 [some (.ref sb), some (.ref (b + 0)), some (.ref (b + 217)), some (.int x3)] []) (h : pb_La_law_616 R28 L xs u x3) : pj_J g (pj_N g b u) 616 [some (.ref sb), some (.ref (b + 0)), some (.ref (b + 217)), some (.int x3)] [] := by
  unfold pb_La_law_616 at h
  refine pj_aload_n C d_La_law_616 (pc' := 617) (i := 1) (x := b + 0) rfl rfl rfl ?_
  refine pj_aload_n C d_La_law_617 (pc' := 618) (i := 0) (x := sb) rfl rfl rfl ?_
  refine pj_iload_n C d_La_law_618 (pc' := 619) (i := 3) (x := x3) rfl rfl rfl ?_
  refine pj_iconst C d_La_law_619 (pc' := 620) rfl (v := 1) (by decide) ?_
  refine pj_iadd C d_La_law_620 (pc' := 621) rfl ?_
  refine pl_sld C SX d_La_law_621 (pc' := 622) rfl h (fun h => ?_)
  refine pj_aload_n C d_La_law_622 (pc' := 623) (i := 0) (x := sb) rfl rfl rfl ?_
  refine pj_iload_n C d_La_law_623 (pc' := 624) (i := 3) (x := x3) rfl rfl rfl ?_
  refine pj_iconst C d_La_law_624 (pc' := 625) rfl (v := 2) (by decide) ?_
  refine pj_iadd C d_La_law_625 (pc' := 626) rfl ?_
  refine pl_sld C SX d_La_law_626 (pc' := 627) rfl h (fun h => ?_)
  refine ck_Law_78_PortGuard C  h d_La_law_627 (pc' := 630) rfl ⟨Nat.le_of_ble_eq_true rfl, Nat.le_of_ble_eq_true rfl⟩ (Nat.le_of_ble_eq_true rfl) (fun r2 u1 h => ?_)
  refine pj_aload_n C d_La_law_630 (pc' := 631) (i := 2) (x := b + 217) rfl rfl rfl ?_
  refine pj_aload_n C d_La_law_631 (pc' := 632) (i := 0) (x := sb) rfl rfl rfl ?_
  refine pj_iload_n C d_La_law_632 (pc' := 633) (i := 3) (x := x3) rfl rfl rfl ?_
  refine pj_iconst C d_La_law_633 (pc' := 634) rfl (v := 1) (by decide) ?_
  refine pj_iadd C d_La_law_634 (pc' := 635) rfl ?_
  refine pl_sld C SX d_La_law_635 (pc' := 636) rfl h (fun h => ?_)
  refine pj_aload_n C d_La_law_636 (pc' := 637) (i := 0) (x := sb) rfl rfl rfl ?_
  refine pj_iload_n C d_La_law_637 (pc' := 638) (i := 3) (x := x3) rfl rfl rfl ?_
  refine pj_iconst C d_La_law_638 (pc' := 639) rfl (v := 2) (by decide) ?_
  refine pj_iadd C d_La_law_639 (pc' := 640) rfl ?_
  refine pl_sld C SX d_La_law_640 (pc' := 641) rfl h (fun h => ?_)
  refine ck_Law_82_Model C  h d_La_law_641 (pc' := 644) rfl ⟨Nat.le_of_ble_eq_true rfl, Nat.le_of_ble_eq_true rfl⟩ (Nat.le_of_ble_eq_true rfl) (fun r4 u3 h => ?_)
  refine pj_icmp_eq C d_La_law_644 (pc' := 647) rfl (tgt := 807) (by decide) h (fun h => ?_) (fun h => ?_)
  · exact pj_cut (pj_le_s (pj_le_s (pj_le_s (pj_le_s pj_le_e)))) (pt_La_law_807 C SX hR28 h)
  · exact pj_cut (pj_le_n (pj_le_n (pj_le_n (pj_le_n pj_le_e)))) (pt_La_law_647 C SX  h)
def pb_La_law_680  (L : Nat) (xs : Nat → Int32) (u : pj_M)  : Prop := False
set_option maxHeartbeats 4000000 in
theorem pt_La_law_680 {g : pj_G} {b sb L : Nat} {xs : Nat → Int32} (C : pj_X g code 4 R_La ret room_1) (SX : pl_S g b sb L xs)  {u : pj_M}   (h : pb_La_law_680  L xs u ) : pj_J g (pj_N g b u) 680 [none, none, none, none] [] := by
  unfold pb_La_law_680 at h
  refine pj_iconst C d_La_law_680 (pc' := 681) rfl (v := 0) (by decide) ?_
  exact False.elim h
def pb_La_law_649 (R28 : pj_M → Int32 → Prop) (L : Nat) (xs : Nat → Int32) (u : pj_M) (x3 : Int32) : Prop := vp_in (x3 + 1) L ∧ (vp_in (x3 + 2) L ∧ (pw_PG_port u (xs (x3 + 1).toNatClampNeg) (xs (x3 + 2).toNatClampNeg) fun r2 u1 => (vp_in (x3 + 1) L ∧ (vp_in (x3 + 2) L ∧ (pw_Mo_port u1 (xs (x3 + 1).toNatClampNeg) (xs (x3 + 2).toNatClampNeg) fun r4 u3 => (((r2 = r4) → (pb_La_law_807 R28 L xs u3 x3)) ∧ (¬ (r2 = r4) → (pb_La_law_680  L xs u3 ))))))))
set_option maxHeartbeats 4000000 in
theorem pt_La_law_649 {g : pj_G} {b sb L : Nat} {xs : Nat → Int32} (C : pj_X g code 4 R_La ret room_1) (SX : pl_S g b sb L xs) {R28 : pj_M → Int32 → Prop} {u : pj_M} {x3 : Int32} (hR28 : ∀ (u : pj_M) (x3 : Int32), R28 u x3 → pj_J g (pj_N g b u) 28 [some (.ref sb), some (.ref (b + 0)), some (.ref (b + 217)), some (.int x3)] []) (h : pb_La_law_649 R28 L xs u x3) : pj_J g (pj_N g b u) 649 [some (.ref sb), some (.ref (b + 0)), some (.ref (b + 217)), some (.int x3)] [] := by
  unfold pb_La_law_649 at h
  refine pj_aload_n C d_La_law_649 (pc' := 650) (i := 1) (x := b + 0) rfl rfl rfl ?_
  refine pj_aload_n C d_La_law_650 (pc' := 651) (i := 0) (x := sb) rfl rfl rfl ?_
  refine pj_iload_n C d_La_law_651 (pc' := 652) (i := 3) (x := x3) rfl rfl rfl ?_
  refine pj_iconst C d_La_law_652 (pc' := 653) rfl (v := 1) (by decide) ?_
  refine pj_iadd C d_La_law_653 (pc' := 654) rfl ?_
  refine pl_sld C SX d_La_law_654 (pc' := 655) rfl h (fun h => ?_)
  refine pj_aload_n C d_La_law_655 (pc' := 656) (i := 0) (x := sb) rfl rfl rfl ?_
  refine pj_iload_n C d_La_law_656 (pc' := 657) (i := 3) (x := x3) rfl rfl rfl ?_
  refine pj_iconst C d_La_law_657 (pc' := 658) rfl (v := 2) (by decide) ?_
  refine pj_iadd C d_La_law_658 (pc' := 659) rfl ?_
  refine pl_sld C SX d_La_law_659 (pc' := 660) rfl h (fun h => ?_)
  refine ck_Law_83_PortGuard C  h d_La_law_660 (pc' := 663) rfl ⟨Nat.le_of_ble_eq_true rfl, Nat.le_of_ble_eq_true rfl⟩ (Nat.le_of_ble_eq_true rfl) (fun r2 u1 h => ?_)
  refine pj_aload_n C d_La_law_663 (pc' := 664) (i := 2) (x := b + 217) rfl rfl rfl ?_
  refine pj_aload_n C d_La_law_664 (pc' := 665) (i := 0) (x := sb) rfl rfl rfl ?_
  refine pj_iload_n C d_La_law_665 (pc' := 666) (i := 3) (x := x3) rfl rfl rfl ?_
  refine pj_iconst C d_La_law_666 (pc' := 667) rfl (v := 1) (by decide) ?_
  refine pj_iadd C d_La_law_667 (pc' := 668) rfl ?_
  refine pl_sld C SX d_La_law_668 (pc' := 669) rfl h (fun h => ?_)
  refine pj_aload_n C d_La_law_669 (pc' := 670) (i := 0) (x := sb) rfl rfl rfl ?_
  refine pj_iload_n C d_La_law_670 (pc' := 671) (i := 3) (x := x3) rfl rfl rfl ?_
  refine pj_iconst C d_La_law_671 (pc' := 672) rfl (v := 2) (by decide) ?_
  refine pj_iadd C d_La_law_672 (pc' := 673) rfl ?_
  refine pl_sld C SX d_La_law_673 (pc' := 674) rfl h (fun h => ?_)
  refine ck_Law_86_Model C  h d_La_law_674 (pc' := 677) rfl ⟨Nat.le_of_ble_eq_true rfl, Nat.le_of_ble_eq_true rfl⟩ (Nat.le_of_ble_eq_true rfl) (fun r4 u3 h => ?_)
  refine pj_icmp_eq C d_La_law_677 (pc' := 680) rfl (tgt := 807) (by decide) h (fun h => ?_) (fun h => ?_)
  · exact pj_cut (pj_le_s (pj_le_s (pj_le_s (pj_le_s pj_le_e)))) (pt_La_law_807 C SX hR28 h)
  · exact pj_cut (pj_le_n (pj_le_n (pj_le_n (pj_le_n pj_le_e)))) (pt_La_law_680 C SX  h)
def pb_La_law_713  (L : Nat) (xs : Nat → Int32) (u : pj_M)  : Prop := False
set_option maxHeartbeats 4000000 in
theorem pt_La_law_713 {g : pj_G} {b sb L : Nat} {xs : Nat → Int32} (C : pj_X g code 4 R_La ret room_1) (SX : pl_S g b sb L xs)  {u : pj_M}   (h : pb_La_law_713  L xs u ) : pj_J g (pj_N g b u) 713 [none, none, none, none] [] := by
  unfold pb_La_law_713 at h
  refine pj_iconst C d_La_law_713 (pc' := 714) rfl (v := 0) (by decide) ?_
  exact False.elim h
def pb_La_law_682 (R28 : pj_M → Int32 → Prop) (L : Nat) (xs : Nat → Int32) (u : pj_M) (x3 : Int32) : Prop := vp_in (x3 + 1) L ∧ (vp_in (x3 + 2) L ∧ (pw_PG_station u (xs (x3 + 1).toNatClampNeg) (xs (x3 + 2).toNatClampNeg) fun r2 u1 => (vp_in (x3 + 1) L ∧ (vp_in (x3 + 2) L ∧ (pw_Mo_station u1 (xs (x3 + 1).toNatClampNeg) (xs (x3 + 2).toNatClampNeg) fun r4 u3 => (((r2 = r4) → (pb_La_law_807 R28 L xs u3 x3)) ∧ (¬ (r2 = r4) → (pb_La_law_713  L xs u3 ))))))))
set_option maxHeartbeats 4000000 in
theorem pt_La_law_682 {g : pj_G} {b sb L : Nat} {xs : Nat → Int32} (C : pj_X g code 4 R_La ret room_1) (SX : pl_S g b sb L xs) {R28 : pj_M → Int32 → Prop} {u : pj_M} {x3 : Int32} (hR28 : ∀ (u : pj_M) (x3 : Int32), R28 u x3 → pj_J g (pj_N g b u) 28 [some (.ref sb), some (.ref (b + 0)), some (.ref (b + 217)), some (.int x3)] []) (h : pb_La_law_682 R28 L xs u x3) : pj_J g (pj_N g b u) 682 [some (.ref sb), some (.ref (b + 0)), some (.ref (b + 217)), some (.int x3)] [] := by
  unfold pb_La_law_682 at h
  refine pj_aload_n C d_La_law_682 (pc' := 683) (i := 1) (x := b + 0) rfl rfl rfl ?_
  refine pj_aload_n C d_La_law_683 (pc' := 684) (i := 0) (x := sb) rfl rfl rfl ?_
  refine pj_iload_n C d_La_law_684 (pc' := 685) (i := 3) (x := x3) rfl rfl rfl ?_
  refine pj_iconst C d_La_law_685 (pc' := 686) rfl (v := 1) (by decide) ?_
  refine pj_iadd C d_La_law_686 (pc' := 687) rfl ?_
  refine pl_sld C SX d_La_law_687 (pc' := 688) rfl h (fun h => ?_)
  refine pj_aload_n C d_La_law_688 (pc' := 689) (i := 0) (x := sb) rfl rfl rfl ?_
  refine pj_iload_n C d_La_law_689 (pc' := 690) (i := 3) (x := x3) rfl rfl rfl ?_
  refine pj_iconst C d_La_law_690 (pc' := 691) rfl (v := 2) (by decide) ?_
  refine pj_iadd C d_La_law_691 (pc' := 692) rfl ?_
  refine pl_sld C SX d_La_law_692 (pc' := 693) rfl h (fun h => ?_)
  refine ck_Law_87_PortGuard C  h d_La_law_693 (pc' := 696) rfl ⟨Nat.le_of_ble_eq_true rfl, Nat.le_of_ble_eq_true rfl⟩ (Nat.le_of_ble_eq_true rfl) (fun r2 u1 h => ?_)
  refine pj_aload_n C d_La_law_696 (pc' := 697) (i := 2) (x := b + 217) rfl rfl rfl ?_
  refine pj_aload_n C d_La_law_697 (pc' := 698) (i := 0) (x := sb) rfl rfl rfl ?_
  refine pj_iload_n C d_La_law_698 (pc' := 699) (i := 3) (x := x3) rfl rfl rfl ?_
  refine pj_iconst C d_La_law_699 (pc' := 700) rfl (v := 1) (by decide) ?_
  refine pj_iadd C d_La_law_700 (pc' := 701) rfl ?_
  refine pl_sld C SX d_La_law_701 (pc' := 702) rfl h (fun h => ?_)
  refine pj_aload_n C d_La_law_702 (pc' := 703) (i := 0) (x := sb) rfl rfl rfl ?_
  refine pj_iload_n C d_La_law_703 (pc' := 704) (i := 3) (x := x3) rfl rfl rfl ?_
  refine pj_iconst C d_La_law_704 (pc' := 705) rfl (v := 2) (by decide) ?_
  refine pj_iadd C d_La_law_705 (pc' := 706) rfl ?_
  refine pl_sld C SX d_La_law_706 (pc' := 707) rfl h (fun h => ?_)
  refine ck_Law_90_Model C  h d_La_law_707 (pc' := 710) rfl ⟨Nat.le_of_ble_eq_true rfl, Nat.le_of_ble_eq_true rfl⟩ (Nat.le_of_ble_eq_true rfl) (fun r4 u3 h => ?_)
  refine pj_icmp_eq C d_La_law_710 (pc' := 713) rfl (tgt := 807) (by decide) h (fun h => ?_) (fun h => ?_)
  · exact pj_cut (pj_le_s (pj_le_s (pj_le_s (pj_le_s pj_le_e)))) (pt_La_law_807 C SX hR28 h)
  · exact pj_cut (pj_le_n (pj_le_n (pj_le_n (pj_le_n pj_le_e)))) (pt_La_law_713 C SX  h)
def pb_La_law_746  (L : Nat) (xs : Nat → Int32) (u : pj_M)  : Prop := False
set_option maxHeartbeats 4000000 in
theorem pt_La_law_746 {g : pj_G} {b sb L : Nat} {xs : Nat → Int32} (C : pj_X g code 4 R_La ret room_1) (SX : pl_S g b sb L xs)  {u : pj_M}   (h : pb_La_law_746  L xs u ) : pj_J g (pj_N g b u) 746 [none, none, none, none] [] := by
  unfold pb_La_law_746 at h
  refine pj_iconst C d_La_law_746 (pc' := 747) rfl (v := 0) (by decide) ?_
  exact False.elim h
def pb_La_law_715 (R28 : pj_M → Int32 → Prop) (L : Nat) (xs : Nat → Int32) (u : pj_M) (x3 : Int32) : Prop := vp_in (x3 + 1) L ∧ (vp_in (x3 + 2) L ∧ (pw_PG_server u (xs (x3 + 1).toNatClampNeg) (xs (x3 + 2).toNatClampNeg) fun r2 u1 => (vp_in (x3 + 1) L ∧ (vp_in (x3 + 2) L ∧ (pw_Mo_server u1 (xs (x3 + 1).toNatClampNeg) (xs (x3 + 2).toNatClampNeg) fun r4 u3 => (((r2 = r4) → (pb_La_law_807 R28 L xs u3 x3)) ∧ (¬ (r2 = r4) → (pb_La_law_746  L xs u3 ))))))))
set_option maxHeartbeats 4000000 in
theorem pt_La_law_715 {g : pj_G} {b sb L : Nat} {xs : Nat → Int32} (C : pj_X g code 4 R_La ret room_1) (SX : pl_S g b sb L xs) {R28 : pj_M → Int32 → Prop} {u : pj_M} {x3 : Int32} (hR28 : ∀ (u : pj_M) (x3 : Int32), R28 u x3 → pj_J g (pj_N g b u) 28 [some (.ref sb), some (.ref (b + 0)), some (.ref (b + 217)), some (.int x3)] []) (h : pb_La_law_715 R28 L xs u x3) : pj_J g (pj_N g b u) 715 [some (.ref sb), some (.ref (b + 0)), some (.ref (b + 217)), some (.int x3)] [] := by
  unfold pb_La_law_715 at h
  refine pj_aload_n C d_La_law_715 (pc' := 716) (i := 1) (x := b + 0) rfl rfl rfl ?_
  refine pj_aload_n C d_La_law_716 (pc' := 717) (i := 0) (x := sb) rfl rfl rfl ?_
  refine pj_iload_n C d_La_law_717 (pc' := 718) (i := 3) (x := x3) rfl rfl rfl ?_
  refine pj_iconst C d_La_law_718 (pc' := 719) rfl (v := 1) (by decide) ?_
  refine pj_iadd C d_La_law_719 (pc' := 720) rfl ?_
  refine pl_sld C SX d_La_law_720 (pc' := 721) rfl h (fun h => ?_)
  refine pj_aload_n C d_La_law_721 (pc' := 722) (i := 0) (x := sb) rfl rfl rfl ?_
  refine pj_iload_n C d_La_law_722 (pc' := 723) (i := 3) (x := x3) rfl rfl rfl ?_
  refine pj_iconst C d_La_law_723 (pc' := 724) rfl (v := 2) (by decide) ?_
  refine pj_iadd C d_La_law_724 (pc' := 725) rfl ?_
  refine pl_sld C SX d_La_law_725 (pc' := 726) rfl h (fun h => ?_)
  refine ck_Law_91_PortGuard C  h d_La_law_726 (pc' := 729) rfl ⟨Nat.le_of_ble_eq_true rfl, Nat.le_of_ble_eq_true rfl⟩ (Nat.le_of_ble_eq_true rfl) (fun r2 u1 h => ?_)
  refine pj_aload_n C d_La_law_729 (pc' := 730) (i := 2) (x := b + 217) rfl rfl rfl ?_
  refine pj_aload_n C d_La_law_730 (pc' := 731) (i := 0) (x := sb) rfl rfl rfl ?_
  refine pj_iload_n C d_La_law_731 (pc' := 732) (i := 3) (x := x3) rfl rfl rfl ?_
  refine pj_iconst C d_La_law_732 (pc' := 733) rfl (v := 1) (by decide) ?_
  refine pj_iadd C d_La_law_733 (pc' := 734) rfl ?_
  refine pl_sld C SX d_La_law_734 (pc' := 735) rfl h (fun h => ?_)
  refine pj_aload_n C d_La_law_735 (pc' := 736) (i := 0) (x := sb) rfl rfl rfl ?_
  refine pj_iload_n C d_La_law_736 (pc' := 737) (i := 3) (x := x3) rfl rfl rfl ?_
  refine pj_iconst C d_La_law_737 (pc' := 738) rfl (v := 2) (by decide) ?_
  refine pj_iadd C d_La_law_738 (pc' := 739) rfl ?_
  refine pl_sld C SX d_La_law_739 (pc' := 740) rfl h (fun h => ?_)
  refine ck_Law_94_Model C  h d_La_law_740 (pc' := 743) rfl ⟨Nat.le_of_ble_eq_true rfl, Nat.le_of_ble_eq_true rfl⟩ (Nat.le_of_ble_eq_true rfl) (fun r4 u3 h => ?_)
  refine pj_icmp_eq C d_La_law_743 (pc' := 746) rfl (tgt := 807) (by decide) h (fun h => ?_) (fun h => ?_)
  · exact pj_cut (pj_le_s (pj_le_s (pj_le_s (pj_le_s pj_le_e)))) (pt_La_law_807 C SX hR28 h)
  · exact pj_cut (pj_le_n (pj_le_n (pj_le_n (pj_le_n pj_le_e)))) (pt_La_law_746 C SX  h)
def pb_La_law_769  (L : Nat) (xs : Nat → Int32) (u : pj_M)  : Prop := False
set_option maxHeartbeats 4000000 in
theorem pt_La_law_769 {g : pj_G} {b sb L : Nat} {xs : Nat → Int32} (C : pj_X g code 4 R_La ret room_1) (SX : pl_S g b sb L xs)  {u : pj_M}   (h : pb_La_law_769  L xs u ) : pj_J g (pj_N g b u) 769 [none, none, none, none] [] := by
  unfold pb_La_law_769 at h
  refine pj_iconst C d_La_law_769 (pc' := 770) rfl (v := 0) (by decide) ?_
  exact False.elim h
def pb_La_law_748 (R28 : pj_M → Int32 → Prop) (L : Nat) (xs : Nat → Int32) (u : pj_M) (x3 : Int32) : Prop := vp_in (x3 + 1) L ∧ (pw_PG_wrong u (xs (x3 + 1).toNatClampNeg) fun r2 u1 => (vp_in (x3 + 1) L ∧ (pw_Mo_wrong u1 (xs (x3 + 1).toNatClampNeg) fun r4 u3 => (((r2 = r4) → (pb_La_law_807 R28 L xs u3 x3)) ∧ (¬ (r2 = r4) → (pb_La_law_769  L xs u3 ))))))
set_option maxHeartbeats 4000000 in
theorem pt_La_law_748 {g : pj_G} {b sb L : Nat} {xs : Nat → Int32} (C : pj_X g code 4 R_La ret room_1) (SX : pl_S g b sb L xs) {R28 : pj_M → Int32 → Prop} {u : pj_M} {x3 : Int32} (hR28 : ∀ (u : pj_M) (x3 : Int32), R28 u x3 → pj_J g (pj_N g b u) 28 [some (.ref sb), some (.ref (b + 0)), some (.ref (b + 217)), some (.int x3)] []) (h : pb_La_law_748 R28 L xs u x3) : pj_J g (pj_N g b u) 748 [some (.ref sb), some (.ref (b + 0)), some (.ref (b + 217)), some (.int x3)] [] := by
  unfold pb_La_law_748 at h
  refine pj_aload_n C d_La_law_748 (pc' := 749) (i := 1) (x := b + 0) rfl rfl rfl ?_
  refine pj_aload_n C d_La_law_749 (pc' := 750) (i := 0) (x := sb) rfl rfl rfl ?_
  refine pj_iload_n C d_La_law_750 (pc' := 751) (i := 3) (x := x3) rfl rfl rfl ?_
  refine pj_iconst C d_La_law_751 (pc' := 752) rfl (v := 1) (by decide) ?_
  refine pj_iadd C d_La_law_752 (pc' := 753) rfl ?_
  refine pl_sld C SX d_La_law_753 (pc' := 754) rfl h (fun h => ?_)
  refine ck_Law_95_PortGuard C  h d_La_law_754 (pc' := 757) rfl ⟨Nat.le_of_ble_eq_true rfl, Nat.le_of_ble_eq_true rfl⟩ (Nat.le_of_ble_eq_true rfl) (fun r2 u1 h => ?_)
  refine pj_aload_n C d_La_law_757 (pc' := 758) (i := 2) (x := b + 217) rfl rfl rfl ?_
  refine pj_aload_n C d_La_law_758 (pc' := 759) (i := 0) (x := sb) rfl rfl rfl ?_
  refine pj_iload_n C d_La_law_759 (pc' := 760) (i := 3) (x := x3) rfl rfl rfl ?_
  refine pj_iconst C d_La_law_760 (pc' := 761) rfl (v := 1) (by decide) ?_
  refine pj_iadd C d_La_law_761 (pc' := 762) rfl ?_
  refine pl_sld C SX d_La_law_762 (pc' := 763) rfl h (fun h => ?_)
  refine ck_Law_99_Model C  h d_La_law_763 (pc' := 766) rfl ⟨Nat.le_of_ble_eq_true rfl, Nat.le_of_ble_eq_true rfl⟩ (Nat.le_of_ble_eq_true rfl) (fun r4 u3 h => ?_)
  refine pj_icmp_eq C d_La_law_766 (pc' := 769) rfl (tgt := 807) (by decide) h (fun h => ?_) (fun h => ?_)
  · exact pj_cut (pj_le_s (pj_le_s (pj_le_s (pj_le_s pj_le_e)))) (pt_La_law_807 C SX hR28 h)
  · exact pj_cut (pj_le_n (pj_le_n (pj_le_n (pj_le_n pj_le_e)))) (pt_La_law_769 C SX  h)
def pb_La_law_792  (L : Nat) (xs : Nat → Int32) (u : pj_M)  : Prop := False
set_option maxHeartbeats 4000000 in
theorem pt_La_law_792 {g : pj_G} {b sb L : Nat} {xs : Nat → Int32} (C : pj_X g code 4 R_La ret room_1) (SX : pl_S g b sb L xs)  {u : pj_M}   (h : pb_La_law_792  L xs u ) : pj_J g (pj_N g b u) 792 [none, none, none, none] [] := by
  unfold pb_La_law_792 at h
  refine pj_iconst C d_La_law_792 (pc' := 793) rfl (v := 0) (by decide) ?_
  exact False.elim h
def pb_La_law_771 (R28 : pj_M → Int32 → Prop) (L : Nat) (xs : Nat → Int32) (u : pj_M) (x3 : Int32) : Prop := vp_in (x3 + 1) L ∧ (pw_PG_learned u (xs (x3 + 1).toNatClampNeg) fun r2 u1 => (vp_in (x3 + 1) L ∧ (pw_Mo_learned u1 (xs (x3 + 1).toNatClampNeg) fun r4 u3 => (((r2 = r4) → (pb_La_law_807 R28 L xs u3 x3)) ∧ (¬ (r2 = r4) → (pb_La_law_792  L xs u3 ))))))
set_option maxHeartbeats 4000000 in
theorem pt_La_law_771 {g : pj_G} {b sb L : Nat} {xs : Nat → Int32} (C : pj_X g code 4 R_La ret room_1) (SX : pl_S g b sb L xs) {R28 : pj_M → Int32 → Prop} {u : pj_M} {x3 : Int32} (hR28 : ∀ (u : pj_M) (x3 : Int32), R28 u x3 → pj_J g (pj_N g b u) 28 [some (.ref sb), some (.ref (b + 0)), some (.ref (b + 217)), some (.int x3)] []) (h : pb_La_law_771 R28 L xs u x3) : pj_J g (pj_N g b u) 771 [some (.ref sb), some (.ref (b + 0)), some (.ref (b + 217)), some (.int x3)] [] := by
  unfold pb_La_law_771 at h
  refine pj_aload_n C d_La_law_771 (pc' := 772) (i := 1) (x := b + 0) rfl rfl rfl ?_
  refine pj_aload_n C d_La_law_772 (pc' := 773) (i := 0) (x := sb) rfl rfl rfl ?_
  refine pj_iload_n C d_La_law_773 (pc' := 774) (i := 3) (x := x3) rfl rfl rfl ?_
  refine pj_iconst C d_La_law_774 (pc' := 775) rfl (v := 1) (by decide) ?_
  refine pj_iadd C d_La_law_775 (pc' := 776) rfl ?_
  refine pl_sld C SX d_La_law_776 (pc' := 777) rfl h (fun h => ?_)
  refine ck_Law_100_PortGuard C  h d_La_law_777 (pc' := 780) rfl ⟨Nat.le_of_ble_eq_true rfl, Nat.le_of_ble_eq_true rfl⟩ (Nat.le_of_ble_eq_true rfl) (fun r2 u1 h => ?_)
  refine pj_aload_n C d_La_law_780 (pc' := 781) (i := 2) (x := b + 217) rfl rfl rfl ?_
  refine pj_aload_n C d_La_law_781 (pc' := 782) (i := 0) (x := sb) rfl rfl rfl ?_
  refine pj_iload_n C d_La_law_782 (pc' := 783) (i := 3) (x := x3) rfl rfl rfl ?_
  refine pj_iconst C d_La_law_783 (pc' := 784) rfl (v := 1) (by decide) ?_
  refine pj_iadd C d_La_law_784 (pc' := 785) rfl ?_
  refine pl_sld C SX d_La_law_785 (pc' := 786) rfl h (fun h => ?_)
  refine ck_Law_103_Model C  h d_La_law_786 (pc' := 789) rfl ⟨Nat.le_of_ble_eq_true rfl, Nat.le_of_ble_eq_true rfl⟩ (Nat.le_of_ble_eq_true rfl) (fun r4 u3 h => ?_)
  refine pj_icmp_eq C d_La_law_789 (pc' := 792) rfl (tgt := 807) (by decide) h (fun h => ?_) (fun h => ?_)
  · exact pj_cut (pj_le_s (pj_le_s (pj_le_s (pj_le_s pj_le_e)))) (pt_La_law_807 C SX hR28 h)
  · exact pj_cut (pj_le_n (pj_le_n (pj_le_n (pj_le_n pj_le_e)))) (pt_La_law_792 C SX  h)
def pb_La_law_805  (L : Nat) (xs : Nat → Int32) (u : pj_M)  : Prop := False
set_option maxHeartbeats 4000000 in
theorem pt_La_law_805 {g : pj_G} {b sb L : Nat} {xs : Nat → Int32} (C : pj_X g code 4 R_La ret room_1) (SX : pl_S g b sb L xs)  {u : pj_M}   (h : pb_La_law_805  L xs u ) : pj_J g (pj_N g b u) 805 [none, none, none, none] [] := by
  unfold pb_La_law_805 at h
  refine pj_iconst C d_La_law_805 (pc' := 806) rfl (v := 0) (by decide) ?_
  exact False.elim h
def pb_La_law_794 (R28 : pj_M → Int32 → Prop) (L : Nat) (xs : Nat → Int32) (u : pj_M) (x3 : Int32) : Prop := pw_PG_favourite u  fun r2 u1 => (pw_Mo_favourite u1  fun r4 u3 => (((r2 = r4) → (pb_La_law_807 R28 L xs u3 x3)) ∧ (¬ (r2 = r4) → (pb_La_law_805  L xs u3 ))))
set_option maxHeartbeats 4000000 in
theorem pt_La_law_794 {g : pj_G} {b sb L : Nat} {xs : Nat → Int32} (C : pj_X g code 4 R_La ret room_1) (SX : pl_S g b sb L xs) {R28 : pj_M → Int32 → Prop} {u : pj_M} {x3 : Int32} (hR28 : ∀ (u : pj_M) (x3 : Int32), R28 u x3 → pj_J g (pj_N g b u) 28 [some (.ref sb), some (.ref (b + 0)), some (.ref (b + 217)), some (.int x3)] []) (h : pb_La_law_794 R28 L xs u x3) : pj_J g (pj_N g b u) 794 [some (.ref sb), some (.ref (b + 0)), some (.ref (b + 217)), some (.int x3)] [] := by
  unfold pb_La_law_794 at h
  refine pj_aload_n C d_La_law_794 (pc' := 795) (i := 1) (x := b + 0) rfl rfl rfl ?_
  refine ck_Law_104_PortGuard C  h d_La_law_795 (pc' := 798) rfl ⟨Nat.le_of_ble_eq_true rfl, Nat.le_of_ble_eq_true rfl⟩ (Nat.le_of_ble_eq_true rfl) (fun r2 u1 h => ?_)
  refine pj_aload_n C d_La_law_798 (pc' := 799) (i := 2) (x := b + 217) rfl rfl rfl ?_
  refine ck_Law_107_Model C  h d_La_law_799 (pc' := 802) rfl ⟨Nat.le_of_ble_eq_true rfl, Nat.le_of_ble_eq_true rfl⟩ (Nat.le_of_ble_eq_true rfl) (fun r4 u3 h => ?_)
  refine pj_icmp_eq C d_La_law_802 (pc' := 805) rfl (tgt := 807) (by decide) h (fun h => ?_) (fun h => ?_)
  · exact pj_cut (pj_le_s (pj_le_s (pj_le_s (pj_le_s pj_le_e)))) (pt_La_law_807 C SX hR28 h)
  · exact pj_cut (pj_le_n (pj_le_n (pj_le_n (pj_le_n pj_le_e)))) (pt_La_law_805 C SX  h)
def pb_La_law_36 (R28 : pj_M → Int32 → Prop) (L : Nat) (xs : Nat → Int32) (u : pj_M) (x3 : Int32) : Prop := vp_in x3 L ∧ ((((xs x3.toNatClampNeg) &&& 31 = 0) → (pb_La_law_132 R28 L xs u x3)) ∧ (¬ ((xs x3.toNatClampNeg) &&& 31 = 0) → (((xs x3.toNatClampNeg) &&& 31 = 1) → (pb_La_law_175 R28 L xs u x3)) ∧ (¬ ((xs x3.toNatClampNeg) &&& 31 = 1) → (((xs x3.toNatClampNeg) &&& 31 = 2) → (pb_La_law_228 R28 L xs u x3)) ∧ (¬ ((xs x3.toNatClampNeg) &&& 31 = 2) → (((xs x3.toNatClampNeg) &&& 31 = 3) → (pb_La_law_277 R28 L xs u x3)) ∧ (¬ ((xs x3.toNatClampNeg) &&& 31 = 3) → (((xs x3.toNatClampNeg) &&& 31 = 4) → (pb_La_law_326 R28 L xs u x3)) ∧ (¬ ((xs x3.toNatClampNeg) &&& 31 = 4) → (((xs x3.toNatClampNeg) &&& 31 = 5) → (pb_La_law_375 R28 L xs u x3)) ∧ (¬ ((xs x3.toNatClampNeg) &&& 31 = 5) → (((xs x3.toNatClampNeg) &&& 31 = 6) → (pb_La_law_408 R28 L xs u x3)) ∧ (¬ ((xs x3.toNatClampNeg) &&& 31 = 6) → (((xs x3.toNatClampNeg) &&& 31 = 7) → (pb_La_law_451 R28 L xs u x3)) ∧ (¬ ((xs x3.toNatClampNeg) &&& 31 = 7) → (((xs x3.toNatClampNeg) &&& 31 = 8) → (pb_La_law_514 R28 L xs u x3)) ∧ (¬ ((xs x3.toNatClampNeg) &&& 31 = 8) → (((xs x3.toNatClampNeg) &&& 31 = 9) → (pb_La_law_547 R28 L xs u x3)) ∧ (¬ ((xs x3.toNatClampNeg) &&& 31 = 9) → (((xs x3.toNatClampNeg) &&& 31 = 10) → (pb_La_law_560 R28 L xs u x3)) ∧ (¬ ((xs x3.toNatClampNeg) &&& 31 = 10) → (((xs x3.toNatClampNeg) &&& 31 = 11) → (pb_La_law_603 R28 L xs u x3)) ∧ (¬ ((xs x3.toNatClampNeg) &&& 31 = 11) → (((xs x3.toNatClampNeg) &&& 31 = 12) → (pb_La_law_616 R28 L xs u x3)) ∧ (¬ ((xs x3.toNatClampNeg) &&& 31 = 12) → (((xs x3.toNatClampNeg) &&& 31 = 13) → (pb_La_law_649 R28 L xs u x3)) ∧ (¬ ((xs x3.toNatClampNeg) &&& 31 = 13) → (((xs x3.toNatClampNeg) &&& 31 = 14) → (pb_La_law_682 R28 L xs u x3)) ∧ (¬ ((xs x3.toNatClampNeg) &&& 31 = 14) → (((xs x3.toNatClampNeg) &&& 31 = 15) → (pb_La_law_715 R28 L xs u x3)) ∧ (¬ ((xs x3.toNatClampNeg) &&& 31 = 15) → (((xs x3.toNatClampNeg) &&& 31 = 16) → (pb_La_law_748 R28 L xs u x3)) ∧ (¬ ((xs x3.toNatClampNeg) &&& 31 = 16) → (((xs x3.toNatClampNeg) &&& 31 = 17) → (pb_La_law_771 R28 L xs u x3)) ∧ (¬ ((xs x3.toNatClampNeg) &&& 31 = 17) → (((xs x3.toNatClampNeg) &&& 31 = 18) → (pb_La_law_794 R28 L xs u x3)) ∧ (¬ ((xs x3.toNatClampNeg) &&& 31 = 18) → (pb_La_law_807 R28 L xs u x3)))))))))))))))))))))
set_option maxHeartbeats 4000000 in
theorem pt_La_law_36 {g : pj_G} {b sb L : Nat} {xs : Nat → Int32} (C : pj_X g code 4 R_La ret room_1) (SX : pl_S g b sb L xs) {R28 : pj_M → Int32 → Prop} {u : pj_M} {x3 : Int32} (hR28 : ∀ (u : pj_M) (x3 : Int32), R28 u x3 → pj_J g (pj_N g b u) 28 [some (.ref sb), some (.ref (b + 0)), some (.ref (b + 217)), some (.int x3)] []) (h : pb_La_law_36 R28 L xs u x3) : pj_J g (pj_N g b u) 36 [some (.ref sb), some (.ref (b + 0)), some (.ref (b + 217)), some (.int x3)] [] := by
  unfold pb_La_law_36 at h
  refine pj_aload_n C d_La_law_36 (pc' := 37) (i := 0) (x := sb) rfl rfl rfl ?_
  refine pj_iload_n C d_La_law_37 (pc' := 38) (i := 3) (x := x3) rfl rfl rfl ?_
  refine pl_sld C SX d_La_law_38 (pc' := 39) rfl h (fun h => ?_)
  refine pj_bipush C d_La_law_39 (pc' := 41) rfl (v := 31) (by decide) ?_
  refine pj_iand C d_La_law_41 (pc' := 42) rfl ?_
  by_cases e0 : (xs x3.toNatClampNeg) &&& 31 = 0
  · have h := h.1 e0
    refine pj_tsIn C d_La_law_42 (kv := 0) (by rw [e0]; decide) (by decide) (by decide) (tgt := 132) rfl (by decide) ?_
    exact pj_cut (pj_le_s (pj_le_s (pj_le_s (pj_le_s pj_le_e)))) (pt_La_law_132 C SX hR28 h)
  have h := h.2 e0
  by_cases e1 : (xs x3.toNatClampNeg) &&& 31 = 1
  · have h := h.1 e1
    refine pj_tsIn C d_La_law_42 (kv := 1) (by rw [e1]; decide) (by decide) (by decide) (tgt := 175) rfl (by decide) ?_
    exact pj_cut (pj_le_s (pj_le_s (pj_le_s (pj_le_s pj_le_e)))) (pt_La_law_175 C SX hR28 h)
  have h := h.2 e1
  by_cases e2 : (xs x3.toNatClampNeg) &&& 31 = 2
  · have h := h.1 e2
    refine pj_tsIn C d_La_law_42 (kv := 2) (by rw [e2]; decide) (by decide) (by decide) (tgt := 228) rfl (by decide) ?_
    exact pj_cut (pj_le_s (pj_le_s (pj_le_s (pj_le_s pj_le_e)))) (pt_La_law_228 C SX hR28 h)
  have h := h.2 e2
  by_cases e3 : (xs x3.toNatClampNeg) &&& 31 = 3
  · have h := h.1 e3
    refine pj_tsIn C d_La_law_42 (kv := 3) (by rw [e3]; decide) (by decide) (by decide) (tgt := 277) rfl (by decide) ?_
    exact pj_cut (pj_le_s (pj_le_s (pj_le_s (pj_le_s pj_le_e)))) (pt_La_law_277 C SX hR28 h)
  have h := h.2 e3
  by_cases e4 : (xs x3.toNatClampNeg) &&& 31 = 4
  · have h := h.1 e4
    refine pj_tsIn C d_La_law_42 (kv := 4) (by rw [e4]; decide) (by decide) (by decide) (tgt := 326) rfl (by decide) ?_
    exact pj_cut (pj_le_s (pj_le_s (pj_le_s (pj_le_s pj_le_e)))) (pt_La_law_326 C SX hR28 h)
  have h := h.2 e4
  by_cases e5 : (xs x3.toNatClampNeg) &&& 31 = 5
  · have h := h.1 e5
    refine pj_tsIn C d_La_law_42 (kv := 5) (by rw [e5]; decide) (by decide) (by decide) (tgt := 375) rfl (by decide) ?_
    exact pj_cut (pj_le_s (pj_le_s (pj_le_s (pj_le_s pj_le_e)))) (pt_La_law_375 C SX hR28 h)
  have h := h.2 e5
  by_cases e6 : (xs x3.toNatClampNeg) &&& 31 = 6
  · have h := h.1 e6
    refine pj_tsIn C d_La_law_42 (kv := 6) (by rw [e6]; decide) (by decide) (by decide) (tgt := 408) rfl (by decide) ?_
    exact pj_cut (pj_le_s (pj_le_s (pj_le_s (pj_le_s pj_le_e)))) (pt_La_law_408 C SX hR28 h)
  have h := h.2 e6
  by_cases e7 : (xs x3.toNatClampNeg) &&& 31 = 7
  · have h := h.1 e7
    refine pj_tsIn C d_La_law_42 (kv := 7) (by rw [e7]; decide) (by decide) (by decide) (tgt := 451) rfl (by decide) ?_
    exact pj_cut (pj_le_s (pj_le_s (pj_le_s (pj_le_s pj_le_e)))) (pt_La_law_451 C SX hR28 h)
  have h := h.2 e7
  by_cases e8 : (xs x3.toNatClampNeg) &&& 31 = 8
  · have h := h.1 e8
    refine pj_tsIn C d_La_law_42 (kv := 8) (by rw [e8]; decide) (by decide) (by decide) (tgt := 514) rfl (by decide) ?_
    exact pj_cut (pj_le_s (pj_le_s (pj_le_s (pj_le_s pj_le_e)))) (pt_La_law_514 C SX hR28 h)
  have h := h.2 e8
  by_cases e9 : (xs x3.toNatClampNeg) &&& 31 = 9
  · have h := h.1 e9
    refine pj_tsIn C d_La_law_42 (kv := 9) (by rw [e9]; decide) (by decide) (by decide) (tgt := 547) rfl (by decide) ?_
    exact pj_cut (pj_le_s (pj_le_s (pj_le_s (pj_le_s pj_le_e)))) (pt_La_law_547 C SX hR28 h)
  have h := h.2 e9
  by_cases e10 : (xs x3.toNatClampNeg) &&& 31 = 10
  · have h := h.1 e10
    refine pj_tsIn C d_La_law_42 (kv := 10) (by rw [e10]; decide) (by decide) (by decide) (tgt := 560) rfl (by decide) ?_
    exact pj_cut (pj_le_s (pj_le_s (pj_le_s (pj_le_s pj_le_e)))) (pt_La_law_560 C SX hR28 h)
  have h := h.2 e10
  by_cases e11 : (xs x3.toNatClampNeg) &&& 31 = 11
  · have h := h.1 e11
    refine pj_tsIn C d_La_law_42 (kv := 11) (by rw [e11]; decide) (by decide) (by decide) (tgt := 603) rfl (by decide) ?_
    exact pj_cut (pj_le_s (pj_le_s (pj_le_s (pj_le_s pj_le_e)))) (pt_La_law_603 C SX hR28 h)
  have h := h.2 e11
  by_cases e12 : (xs x3.toNatClampNeg) &&& 31 = 12
  · have h := h.1 e12
    refine pj_tsIn C d_La_law_42 (kv := 12) (by rw [e12]; decide) (by decide) (by decide) (tgt := 616) rfl (by decide) ?_
    exact pj_cut (pj_le_s (pj_le_s (pj_le_s (pj_le_s pj_le_e)))) (pt_La_law_616 C SX hR28 h)
  have h := h.2 e12
  by_cases e13 : (xs x3.toNatClampNeg) &&& 31 = 13
  · have h := h.1 e13
    refine pj_tsIn C d_La_law_42 (kv := 13) (by rw [e13]; decide) (by decide) (by decide) (tgt := 649) rfl (by decide) ?_
    exact pj_cut (pj_le_s (pj_le_s (pj_le_s (pj_le_s pj_le_e)))) (pt_La_law_649 C SX hR28 h)
  have h := h.2 e13
  by_cases e14 : (xs x3.toNatClampNeg) &&& 31 = 14
  · have h := h.1 e14
    refine pj_tsIn C d_La_law_42 (kv := 14) (by rw [e14]; decide) (by decide) (by decide) (tgt := 682) rfl (by decide) ?_
    exact pj_cut (pj_le_s (pj_le_s (pj_le_s (pj_le_s pj_le_e)))) (pt_La_law_682 C SX hR28 h)
  have h := h.2 e14
  by_cases e15 : (xs x3.toNatClampNeg) &&& 31 = 15
  · have h := h.1 e15
    refine pj_tsIn C d_La_law_42 (kv := 15) (by rw [e15]; decide) (by decide) (by decide) (tgt := 715) rfl (by decide) ?_
    exact pj_cut (pj_le_s (pj_le_s (pj_le_s (pj_le_s pj_le_e)))) (pt_La_law_715 C SX hR28 h)
  have h := h.2 e15
  by_cases e16 : (xs x3.toNatClampNeg) &&& 31 = 16
  · have h := h.1 e16
    refine pj_tsIn C d_La_law_42 (kv := 16) (by rw [e16]; decide) (by decide) (by decide) (tgt := 748) rfl (by decide) ?_
    exact pj_cut (pj_le_s (pj_le_s (pj_le_s (pj_le_s pj_le_e)))) (pt_La_law_748 C SX hR28 h)
  have h := h.2 e16
  by_cases e17 : (xs x3.toNatClampNeg) &&& 31 = 17
  · have h := h.1 e17
    refine pj_tsIn C d_La_law_42 (kv := 17) (by rw [e17]; decide) (by decide) (by decide) (tgt := 771) rfl (by decide) ?_
    exact pj_cut (pj_le_s (pj_le_s (pj_le_s (pj_le_s pj_le_e)))) (pt_La_law_771 C SX hR28 h)
  have h := h.2 e17
  by_cases e18 : (xs x3.toNatClampNeg) &&& 31 = 18
  · have h := h.1 e18
    refine pj_tsIn C d_La_law_42 (kv := 18) (by rw [e18]; decide) (by decide) (by decide) (tgt := 794) rfl (by decide) ?_
    exact pj_cut (pj_le_s (pj_le_s (pj_le_s (pj_le_s pj_le_e)))) (pt_La_law_794 C SX hR28 h)
  have h := h.2 e18
  have z0 := lv_neT (a := 0) e0 (by decide)
  have z1 := lv_neT (a := 1) e1 (by decide)
  have z2 := lv_neT (a := 2) e2 (by decide)
  have z3 := lv_neT (a := 3) e3 (by decide)
  have z4 := lv_neT (a := 4) e4 (by decide)
  have z5 := lv_neT (a := 5) e5 (by decide)
  have z6 := lv_neT (a := 6) e6 (by decide)
  have z7 := lv_neT (a := 7) e7 (by decide)
  have z8 := lv_neT (a := 8) e8 (by decide)
  have z9 := lv_neT (a := 9) e9 (by decide)
  have z10 := lv_neT (a := 10) e10 (by decide)
  have z11 := lv_neT (a := 11) e11 (by decide)
  have z12 := lv_neT (a := 12) e12 (by decide)
  have z13 := lv_neT (a := 13) e13 (by decide)
  have z14 := lv_neT (a := 14) e14 (by decide)
  have z15 := lv_neT (a := 15) e15 (by decide)
  have z16 := lv_neT (a := 16) e16 (by decide)
  have z17 := lv_neT (a := 17) e17 (by decide)
  have z18 := lv_neT (a := 18) e18 (by decide)
  refine pj_tsOut C d_La_law_42 (by omega) (tgt := 807) (by decide) ?_
  exact pj_cut (pj_le_s (pj_le_s (pj_le_s (pj_le_s pj_le_e)))) (pt_La_law_807 C SX hR28 h)
def pb_La_law_28b (R28 : pj_M → Int32 → Prop) (L : Nat) (xs : Nat → Int32) (u : pj_M) (x3 : Int32) : Prop := ((((nI L) - 5) < x3) → (pb_La_law_813  L xs u )) ∧ (¬ (((nI L) - 5) < x3) → (pb_La_law_36 R28 L xs u x3))
set_option maxHeartbeats 4000000 in
theorem pt_La_law_28b {g : pj_G} {b sb L : Nat} {xs : Nat → Int32} (C : pj_X g code 4 R_La ret room_1) (SX : pl_S g b sb L xs) {R28 : pj_M → Int32 → Prop} {u : pj_M} {x3 : Int32} (hR28 : ∀ (u : pj_M) (x3 : Int32), R28 u x3 → pj_J g (pj_N g b u) 28 [some (.ref sb), some (.ref (b + 0)), some (.ref (b + 217)), some (.int x3)] []) (h : pb_La_law_28b R28 L xs u x3) : pj_J g (pj_N g b u) 28 [some (.ref sb), some (.ref (b + 0)), some (.ref (b + 217)), some (.int x3)] [] := by
  unfold pb_La_law_28b at h
  refine pj_iload_n C d_La_law_28 (pc' := 29) (i := 3) (x := x3) rfl rfl rfl ?_
  refine pj_aload_n C d_La_law_29 (pc' := 30) (i := 0) (x := sb) rfl rfl rfl ?_
  refine pl_slen C SX d_La_law_30 (pc' := 31) rfl ?_
  refine pj_iconst C d_La_law_31 (pc' := 32) rfl (v := 5) (by decide) ?_
  refine pj_isub C d_La_law_32 (pc' := 33) rfl ?_
  refine pj_icmp_gt C d_La_law_33 (pc' := 36) rfl (tgt := 813) (by decide) h (fun h => ?_) (fun h => ?_)
  · exact pj_cut (pj_le_n (pj_le_n (pj_le_n (pj_le_n pj_le_e)))) (pt_La_law_813 C SX  h)
  · exact pj_cut (pj_le_s (pj_le_s (pj_le_s (pj_le_s pj_le_e)))) (pt_La_law_36 C SX hR28 h)
def pb_La_law_28 (L : Nat) (xs : Nat → Int32) : Nat → pj_M → Int32 → Prop
  | 0 => fun _ _ => False
  | n + 1 => fun u x3 => pb_La_law_28b (pb_La_law_28 L xs n) L xs u x3
theorem pt_La_law_28 {g : pj_G} {b sb L : Nat} {xs : Nat → Int32} (C : pj_X g code 4 R_La ret room_1) (SX : pl_S g b sb L xs) : ∀ (n : Nat) (u : pj_M) (x3 : Int32), pb_La_law_28 L xs n u x3 → pj_J g (pj_N g b u) 28 [some (.ref sb), some (.ref (b + 0)), some (.ref (b + 217)), some (.int x3)] [] := by
  intro n
  induction n with
  | zero => intro u x3 h; exact False.elim h
  | succ n ih =>
    intro u x3 h
    exact pt_La_law_28b C SX ih h
def pb_La_law_26  (L : Nat) (xs : Nat → Int32) (u : pj_M)  : Prop := ∃ n, pb_La_law_28 L xs n u 1
set_option maxHeartbeats 4000000 in
theorem pt_La_law_26 {g : pj_G} {b sb L : Nat} {xs : Nat → Int32} (C : pj_X g code 4 R_La ret room_1) (SX : pl_S g b sb L xs)  {u : pj_M}   (h : pb_La_law_26  L xs u ) : pj_J g (pj_N g b u) 26 [some (.ref sb), some (.ref (b + 0)), some (.ref (b + 217)), none] [] := by
  unfold pb_La_law_26 at h
  refine pj_iconst C d_La_law_26 (pc' := 27) rfl (v := 1) (by decide) ?_
  refine pj_istore_n C d_La_law_27 (pc' := 28) (i := 3) (vs' := [some (.ref sb), some (.ref (b + 0)), some (.ref (b + 217)), some (.int 1)]) rfl rfl (Nat.le_of_ble_eq_true rfl) (Nat.le_of_ble_eq_true rfl) rfl rfl ?_
  obtain ⟨n, h⟩ := h
  exact pj_cut (pj_le_s (pj_le_s (pj_le_s (pj_le_s pj_le_e)))) (pt_La_law_28 C SX n _ _ h)
