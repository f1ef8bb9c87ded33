/-! Mailbox.has(I)Z -/
theorem fg_Mailbox_29_Mailbox {g : pj_G} {b : Nat} {cc : ByteArray} {nL : Nat} {ret : Option FieldType} {rm : Room} {u : pj_M} {pc pc' : Nat} {vs : List (Option Value)} {st : List Value} (C : pj_X g cc nL R_Ma ret rm) {i : Nat} (t : pj_T i = 2) (hdg : decode cc pc = .ok (.getfield 29, 3)) (hp : pc + 3 = pc') (kk : pj_J g (pj_N g b u) pc' vs (.int (u i 4) :: st)) : pj_J g (pj_N g b u) pc vs (.ref (b + i) :: st) :=
  pj_get C cl_Mailbox hin_Mailbox (k := 4) (Nat.le_of_ble_eq_true rfl) wm_169 (Or.inl rfl) (pj_lt t (by decide)) (fun E => ko_2 t) rfl hdg hp kk
def rm_Ma_has : Room := { frames := 0, cells := 0, slots := 0, locals := 0 }
def pb_Ma_has_17  (K : Int32 → pj_M → Prop) (u : pj_M) (s0 : Int32) : Prop := pj_bi s0 ∧ K s0 u
set_option maxHeartbeats 1000000 in
theorem pt_Ma_has_17 {g : pj_G} {b : Nat} (C : pj_X g c_Ma_has 2 R_Ma (some .boolean) rm_Ma_has) {K : Int32 → pj_M → Prop} (hE : pj_E g b (pj_Ki K))   {u : pj_M} {s0 : Int32}   (h : pb_Ma_has_17  K u s0) : pj_J g (pj_N g b u) 17 [none, none] [.int s0] := by
  unfold pb_Ma_has_17 at h
  exact pj_zret C hE d_Ma_has_17 h.1 ⟨_, rfl, h.2⟩
def pb_Ma_has_16  (K : Int32 → pj_M → Prop) (u : pj_M)  : Prop := pb_Ma_has_17  K u 0
set_option maxHeartbeats 1000000 in
theorem pt_Ma_has_16 {g : pj_G} {b : Nat} (C : pj_X g c_Ma_has 2 R_Ma (some .boolean) rm_Ma_has) {K : Int32 → pj_M → Prop} (hE : pj_E g b (pj_Ki K))   {u : pj_M}    (h : pb_Ma_has_16  K u ) : pj_J g (pj_N g b u) 16 [none, none] [] := by
  unfold pb_Ma_has_16 at h
  refine pj_iconst C d_Ma_has_16 (pc' := 17) rfl (v := 0) (by decide) ?_
  exact pj_cut (pj_le_n (pj_le_n pj_le_e)) (pt_Ma_has_17 C hE   h)
def pb_Ma_has_12  (K : Int32 → pj_M → Prop) (u : pj_M)  : Prop := pb_Ma_has_17  K u 1
set_option maxHeartbeats 1000000 in
theorem pt_Ma_has_12 {g : pj_G} {b : Nat} (C : pj_X g c_Ma_has 2 R_Ma (some .boolean) rm_Ma_has) {K : Int32 → pj_M → Prop} (hE : pj_E g b (pj_Ki K))   {u : pj_M}    (h : pb_Ma_has_12  K u ) : pj_J g (pj_N g b u) 12 [none, none] [] := by
  unfold pb_Ma_has_12 at h
  refine pj_iconst C d_Ma_has_12 (pc' := 13) rfl (v := 1) (by decide) ?_
  refine pj_goto C d_Ma_has_13 (tgt := 17) (by decide) ?_
  exact pj_cut (pj_le_n (pj_le_n pj_le_e)) (pt_Ma_has_17 C hE   h)
def pb_Ma_has_4  (K : Int32 → pj_M → Prop) (u : pj_M) (x1 : Int32) : Prop := (((u 4 4) ≤ x1) → (pb_Ma_has_16  K u )) ∧ (¬ ((u 4 4) ≤ x1) → (pb_Ma_has_12  K u ))
set_option maxHeartbeats 1000000 in
theorem pt_Ma_has_4 {g : pj_G} {b : Nat} (C : pj_X g c_Ma_has 2 R_Ma (some .boolean) rm_Ma_has) {K : Int32 → pj_M → Prop} (hE : pj_E g b (pj_Ki K))   {u : pj_M} {x1 : Int32}   (h : pb_Ma_has_4  K u x1) : pj_J g (pj_N g b u) 4 [some (.ref (b + 4)), some (.int x1)] [] := by
  unfold pb_Ma_has_4 at h
  refine pj_iload_n C d_Ma_has_4 (pc' := 5) (i := 1) (x := x1) rfl rfl rfl ?_
  refine pj_aload_n C d_Ma_has_5 (pc' := 6) (i := 0) (x := b + 4) rfl rfl rfl ?_
  refine fg_Mailbox_29_Mailbox C tk_4 d_Ma_has_6 (pc' := 9) rfl ?_
  refine pj_icmp_ge C d_Ma_has_9 (pc' := 12) rfl (tgt := 16) (by decide) h (fun h => ?_) (fun h => ?_)
  · exact pj_cut (pj_le_n (pj_le_n pj_le_e)) (pt_Ma_has_16 C hE   h)
  · exact pj_cut (pj_le_n (pj_le_n pj_le_e)) (pt_Ma_has_12 C hE   h)
def pb_Ma_has_0  (K : Int32 → pj_M → Prop) (u : pj_M) (x1 : Int32) : Prop := ((x1 < 0) → (pb_Ma_has_16  K u )) ∧ (¬ (x1 < 0) → (pb_Ma_has_4  K u x1))
set_option maxHeartbeats 1000000 in
theorem pt_Ma_has_0 {g : pj_G} {b : Nat} (C : pj_X g c_Ma_has 2 R_Ma (some .boolean) rm_Ma_has) {K : Int32 → pj_M → Prop} (hE : pj_E g b (pj_Ki K))   {u : pj_M} {x1 : Int32}   (h : pb_Ma_has_0  K u x1) : pj_J g (pj_N g b u) 0 [some (.ref (b + 4)), some (.int x1)] [] := by
  unfold pb_Ma_has_0 at h
  refine pj_iload_n C d_Ma_has_0 (pc' := 1) (i := 1) (x := x1) rfl rfl rfl ?_
  refine pj_if_lt C d_Ma_has_1 (pc' := 4) rfl (tgt := 16) (by decide) h (fun h => ?_) (fun h => ?_)
  · exact pj_cut (pj_le_n (pj_le_n pj_le_e)) (pt_Ma_has_16 C hE   h)
  · exact pj_cut (pj_le_s (pj_le_s pj_le_e)) (pt_Ma_has_4 C hE   h)
def pw_Ma_has (u : pj_M) (x1 : Int32) (K : Int32 → pj_M → Prop) : Prop := pb_Ma_has_0  K u x1
theorem pc_Ma_has (l : Launch) (D : va_G) (E : Nat → ClassId) {b : Nat} {u : pj_M} {x1 : Int32} {K : Int32 → pj_M → Prop}  (h : pw_Ma_has u x1 K) : pj_C l y_Ma_has c_Ma_has 2 (some .boolean) rm_Ma_has D E b [.ref (b + 4), .int x1] u (pj_Ki K) := by
  refine pj_met (own := R_Ma) (by decide +kernel) rfl (Nat.le_of_ble_eq_true rfl) (fun g hE C => ?_)
  unfold pw_Ma_has at h
  show pj_J g (pj_N g b u) 0 [some (.ref (b + 4)), some (.int x1)] []
  exact pj_cut (pj_le_s (pj_le_s pj_le_e)) (pt_Ma_has_0 C hE   h)
/-! Mailbox.add(II)LPortGuard$Row; -/
theorem fg_Mailbox_25_Mailbox {g : pj_G} {b : Nat} {cc : ByteArray} {nL : Nat} {ret : Option FieldType} {rm : Room} {u : pj_M} {pc pc' : Nat} {vs : List (Option Value)} {st : List Value} (C : pj_X g cc nL R_Ma ret rm) {i : Nat} (t : pj_T i = 2) (hdg : decode cc pc = .ok (.getfield 25, 3)) (hp : pc + 3 = pc') (kk : pj_J g (pj_N g b u) pc' vs (.ref (b + 8) :: st)) : pj_J g (pj_N g b u) pc vs (.ref (b + i) :: st) :=
  pj_get C cl_Mailbox hin_Mailbox (k := 3) (Nat.le_of_ble_eq_true rfl) wm_168 (Or.inl rfl) (pj_lt t (by decide)) (fun E => ko_2 t) rfl hdg hp kk
theorem fg_Mailbox_9_Mailbox {g : pj_G} {b : Nat} {cc : ByteArray} {nL : Nat} {ret : Option FieldType} {rm : Room} {u : pj_M} {pc pc' : Nat} {vs : List (Option Value)} {st : List Value} (C : pj_X g cc nL R_Ma ret rm) {i : Nat} (t : pj_T i = 2) (hdg : decode cc pc = .ok (.getfield 9, 3)) (hp : pc + 3 = pc') (kk : pj_J g (pj_N g b u) pc' vs (.ref (b + 5) :: st)) : pj_J g (pj_N g b u) pc vs (.ref (b + i) :: st) :=
  pj_get C cl_Mailbox hin_Mailbox (k := 0) (Nat.le_of_ble_eq_true rfl) wm_162 (Or.inl rfl) (pj_lt t (by decide)) (fun E => ko_2 t) rfl hdg hp kk
theorem fg_Mailbox_15_Mailbox {g : pj_G} {b : Nat} {cc : ByteArray} {nL : Nat} {ret : Option FieldType} {rm : Room} {u : pj_M} {pc pc' : Nat} {vs : List (Option Value)} {st : List Value} (C : pj_X g cc nL R_Ma ret rm) {i : Nat} (t : pj_T i = 2) (hdg : decode cc pc = .ok (.getfield 15, 3)) (hp : pc + 3 = pc') (kk : pj_J g (pj_N g b u) pc' vs (.ref (b + 6) :: st)) : pj_J g (pj_N g b u) pc vs (.ref (b + i) :: st) :=
  pj_get C cl_Mailbox hin_Mailbox (k := 1) (Nat.le_of_ble_eq_true rfl) wm_164 (Or.inl rfl) (pj_lt t (by decide)) (fun E => ko_2 t) rfl hdg hp kk
theorem fp_Mailbox_29_Mailbox {g : pj_G} {b : Nat} {cc : ByteArray} {nL : Nat} {ret : Option FieldType} {rm : Room} {u : pj_M} {pc pc' : Nat} {vs : List (Option Value)} {st : List Value} (C : pj_X g cc nL R_Ma ret rm) {i : Nat} {x : Int32} {P : pj_M → Prop} (t : pj_T i = 2)  (hdg : decode cc pc = .ok (.putfield 29, 3)) (hp : pc + 3 = pc') (h : pj_put u i 4 x P) (kk : ∀ u', P u' → pj_J g (pj_N g b u') pc' vs st) : pj_J g (pj_N g b u) pc vs (.int x :: .ref (b + i) :: st) :=
  pj_putI C cl_Mailbox hin_Mailbox ty_Mailbox tyok_Mailbox nm_Mailbox (k := 4) (Nat.le_of_ble_eq_true rfl) wm_169 (Or.inl rfl) rfl (ty := .int) (by decide +kernel) rfl rfl (pj_lt t (by decide)) (fun E u => ko_2 t) (F := fun f => [.ref (b + 5), .ref (b + 6), .ref (b + 7), .ref (b + 8), .int (f 4)]) (fun _ => Nat.le_of_ble_eq_true rfl) (fun _ _ => rfl) hdg hp h kk
theorem fg_Mailbox_20_Mailbox {g : pj_G} {b : Nat} {cc : ByteArray} {nL : Nat} {ret : Option FieldType} {rm : Room} {u : pj_M} {pc pc' : Nat} {vs : List (Option Value)} {st : List Value} (C : pj_X g cc nL R_Ma ret rm) {i : Nat} (t : pj_T i = 2) (hdg : decode cc pc = .ok (.getfield 20, 3)) (hp : pc + 3 = pc') (kk : pj_J g (pj_N g b u) pc' vs (.ref (b + 7) :: st)) : pj_J g (pj_N g b u) pc vs (.ref (b + i) :: st) :=
  pj_get C cl_Mailbox hin_Mailbox (k := 2) (Nat.le_of_ble_eq_true rfl) wm_166 (Or.inl rfl) (pj_lt t (by decide)) (fun E => ko_2 t) rfl hdg hp kk
def rm_Ma_add : Room := { frames := 0, cells := 0, slots := 0, locals := 0 }
def pb_Ma_add_14  (K : Nat → pj_M → Prop) (u : pj_M) (x1 : Int32) (x2 : Int32) : Prop := vp_in (u 4 4) 40 ∧ pj_put u 5 (u 4 4).toNatClampNeg x1 fun u1 => (vp_in (u1 4 4) 40 ∧ pj_put u1 6 (u1 4 4).toNatClampNeg x2 fun u2 => (pj_put u2 4 4 ((u2 4 4) + 1) fun u3 => (vp_in ((u3 4 4) - 1) 40 ∧ pj_let (u3 7 ((u3 4 4) - 1).toNatClampNeg).toNatClampNeg fun i104 => pj_T i104 = 3 ∧ (K i104 u3))))
set_option maxHeartbeats 1000000 in
theorem pt_Ma_add_14 {g : pj_G} {b : Nat} (C : pj_X g c_Ma_add 3 R_Ma (some (.object "PortGuard$Row")) rm_Ma_add) {K : Nat → pj_M → Prop} (hE : pj_E g b (pj_Kr b K))   {u : pj_M} {x1 : Int32} {x2 : Int32}   (h : pb_Ma_add_14  K u x1 x2) : pj_J g (pj_N g b u) 14 [some (.ref (b + 4)), some (.int x1), some (.int x2)] [] := by
  unfold pb_Ma_add_14 at h
  refine pj_aload_n C d_Ma_add_14 (pc' := 15) (i := 0) (x := b + 4) rfl rfl rfl ?_
  refine fg_Mailbox_9_Mailbox C tk_4 d_Ma_add_15 (pc' := 18) rfl ?_
  refine pj_aload_n C d_Ma_add_18 (pc' := 19) (i := 0) (x := b + 4) rfl rfl rfl ?_
  refine fg_Mailbox_29_Mailbox C tk_4 d_Ma_add_19 (pc' := 22) rfl ?_
  refine pj_iload_n C d_Ma_add_22 (pc' := 23) (i := 1) (x := x1) rfl rfl rfl ?_
  refine pj_iast C (pj_lt tk_5 (by decide)) (fun E u => ka_21 tk_5) d_Ma_add_23 (pc' := 24) rfl h (fun u1 h => ?_)
  refine pj_aload_n C d_Ma_add_24 (pc' := 25) (i := 0) (x := b + 4) rfl rfl rfl ?_
  refine fg_Mailbox_15_Mailbox C tk_4 d_Ma_add_25 (pc' := 28) rfl ?_
  refine pj_aload_n C d_Ma_add_28 (pc' := 29) (i := 0) (x := b + 4) rfl rfl rfl ?_
  refine fg_Mailbox_29_Mailbox C tk_4 d_Ma_add_29 (pc' := 32) rfl ?_
  refine pj_iload_n C d_Ma_add_32 (pc' := 33) (i := 2) (x := x2) rfl rfl rfl ?_
  refine pj_iast C (pj_lt tk_6 (by decide)) (fun E u => ka_21 tk_6) d_Ma_add_33 (pc' := 34) rfl h (fun u2 h => ?_)
  refine pj_aload_n C d_Ma_add_34 (pc' := 35) (i := 0) (x := b + 4) rfl rfl rfl ?_
  refine pj_dup C d_Ma_add_35 (pc' := 36) rfl rfl ?_
  refine fg_Mailbox_29_Mailbox C tk_4 d_Ma_add_36 (pc' := 39) rfl ?_
  refine pj_iconst C d_Ma_add_39 (pc' := 40) rfl (v := 1) (by decide) ?_
  refine pj_iadd C d_Ma_add_40 (pc' := 41) rfl ?_
  refine fp_Mailbox_29_Mailbox C tk_4  d_Ma_add_41 (pc' := 44) rfl h (fun u3 h => ?_)
  refine pj_aload_n C d_Ma_add_44 (pc' := 45) (i := 0) (x := b + 4) rfl rfl rfl ?_
  refine fg_Mailbox_20_Mailbox C tk_4 d_Ma_add_45 (pc' := 48) rfl ?_
  refine pj_aload_n C d_Ma_add_48 (pc' := 49) (i := 0) (x := b + 4) rfl rfl rfl ?_
  refine fg_Mailbox_29_Mailbox C tk_4 d_Ma_add_49 (pc' := 52) rfl ?_
  refine pj_iconst C d_Ma_add_52 (pc' := 53) rfl (v := 1) (by decide) ?_
  refine pj_isub C d_Ma_add_53 (pc' := 54) rfl ?_
  refine pj_aldM C (pj_lt tk_7 (by decide)) (fun E u => ka_24 tk_7) (fun E => rfl) d_Ma_add_54 (pc' := 55) rfl h (fun h => ?_)
  refine pj_nameR h (fun i104 h => ?_)
  obtain ⟨ti104, h⟩ := h
  exact pj_aret C hE d_Ma_add_55 (Or.inl ⟨_, rfl⟩) (Or.inr ⟨_, rfl⟩) ⟨_, rfl, h⟩
def pb_Ma_add_9  (K : Nat → pj_M → Prop) (u : pj_M)  : Prop := K 8 u
set_option maxHeartbeats 1000000 in
theorem pt_Ma_add_9 {g : pj_G} {b : Nat} (C : pj_X g c_Ma_add 3 R_Ma (some (.object "PortGuard$Row")) rm_Ma_add) {K : Nat → pj_M → Prop} (hE : pj_E g b (pj_Kr b K))   {u : pj_M}    (h : pb_Ma_add_9  K u ) : pj_J g (pj_N g b u) 9 [some (.ref (b + 4)), none, none] [] := by
  unfold pb_Ma_add_9 at h
  refine pj_aload_n C d_Ma_add_9 (pc' := 10) (i := 0) (x := b + 4) rfl rfl rfl ?_
  refine fg_Mailbox_25_Mailbox C tk_4 d_Ma_add_10 (pc' := 13) rfl ?_
  exact pj_aret C hE d_Ma_add_13 (Or.inl ⟨_, rfl⟩) (Or.inr ⟨_, rfl⟩) ⟨_, rfl, h⟩
def pb_Ma_add_0  (K : Nat → pj_M → Prop) (u : pj_M) (x1 : Int32) (x2 : Int32) : Prop := (((u 4 4) < 40) → (pb_Ma_add_14  K u x1 x2)) ∧ (¬ ((u 4 4) < 40) → (pb_Ma_add_9  K u ))
set_option maxHeartbeats 1000000 in
theorem pt_Ma_add_0 {g : pj_G} {b : Nat} (C : pj_X g c_Ma_add 3 R_Ma (some (.object "PortGuard$Row")) rm_Ma_add) {K : Nat → pj_M → Prop} (hE : pj_E g b (pj_Kr b K))   {u : pj_M} {x1 : Int32} {x2 : Int32}   (h : pb_Ma_add_0  K u x1 x2) : pj_J g (pj_N g b u) 0 [some (.ref (b + 4)), some (.int x1), some (.int x2)] [] := by
  unfold pb_Ma_add_0 at h
  refine pj_aload_n C d_Ma_add_0 (pc' := 1) (i := 0) (x := b + 4) rfl rfl rfl ?_
  refine fg_Mailbox_29_Mailbox C tk_4 d_Ma_add_1 (pc' := 4) rfl ?_
  refine pj_bipush C d_Ma_add_4 (pc' := 6) rfl (v := 40) (by decide) ?_
  refine pj_icmp_lt C d_Ma_add_6 (pc' := 9) rfl (tgt := 14) (by decide) h (fun h => ?_) (fun h => ?_)
  · exact pj_cut (pj_le_s (pj_le_s (pj_le_s pj_le_e))) (pt_Ma_add_14 C hE   h)
  · exact pj_cut (pj_le_s (pj_le_n (pj_le_n pj_le_e))) (pt_Ma_add_9 C hE   h)
def pw_Ma_add (u : pj_M) (x1 : Int32) (x2 : Int32) (K : Nat → pj_M → Prop) : Prop := pb_Ma_add_0  K u x1 x2
theorem pc_Ma_add (l : Launch) (D : va_G) (E : Nat → ClassId) {b : Nat} {u : pj_M} {x1 : Int32} {x2 : Int32} {K : Nat → pj_M → Prop}  (h : pw_Ma_add u x1 x2 K) : pj_C l y_Ma_add c_Ma_add 3 (some (.object "PortGuard$Row")) rm_Ma_add D E b [.ref (b + 4), .int x1, .int x2] u (pj_Kr b K) := by
  refine pj_met (own := R_Ma) (by decide +kernel) rfl (Nat.le_of_ble_eq_true rfl) (fun g hE C => ?_)
  unfold pw_Ma_add at h
  show pj_J g (pj_N g b u) 0 [some (.ref (b + 4)), some (.int x1), some (.int x2)] []
  exact pj_cut (pj_le_s (pj_le_s (pj_le_s pj_le_e))) (pt_Ma_add_0 C hE   h)
/-! Mailbox.send(IILPortGuard$Row;)V -/
theorem ck_Mailbox_33_Mailbox {g : pj_G} {b : Nat} {cc : ByteArray} {nL : Nat} {ret : Option FieldType} {rm : Room} {u : pj_M} {pc pc' : Nat} {vs : List (Option Value)} {st : List Value} (C : pj_X g cc nL R_Ma ret rm) {x1 : Int32} {x2 : Int32} {K : Nat → pj_M → Prop}  (h : pw_Ma_add u x1 x2 K) (hdg : decode cc pc = .ok (.invokevirtual 33, 3)) (hp : pc + 3 = pc') (hR : rm_Ma_add.frames + 1 ≤ rm.frames ∧ 8 + (3 + 11) + rm_Ma_add.locals ≤ rm.locals) (h8 : (st.map fun v => v.category).sum ≤ 8) (kk : ∀ r u', K r u' → pj_J g (pj_N g b u') pc' vs (.ref (b + r) :: st)) : pj_J g (pj_N g b u) pc vs (.int x2 :: .int x1 :: .ref (b + 4) :: st) :=
  pj_callV C (As := [.int x1, .int x2]) (fun l D E => pc_Ma_add l D E  h) rfl rfl cl_Mailbox (pj_lt tk_4 (by decide)) (fun E => ko_2 tk_4) wm_578 wm_580 wm_1 wm_93 wm_581 (by decide +kernel) (n := 2) rfl hR rfl h8 hdg hp (fun v u' hq => by obtain ⟨r, rfl, hk⟩ := hq; exact kk r u' hk)
theorem ck_Mailbox_37_Row {g : pj_G} {b : Nat} {cc : ByteArray} {nL : Nat} {ret : Option FieldType} {rm : Room} {u : pj_M} {pc pc' : Nat} {vs : List (Option Value)} {st : List Value} (C : pj_X g cc nL R_Ma ret rm) {i0 : Nat} {i1 : Nat} {K : pj_M → Prop} (t : pj_T i0 = 3) (t1 : pj_R i1) (h : pw_Ro_copy u i0 i1 K) (hdg : decode cc pc = .ok (.invokevirtual 37, 3)) (hp : pc + 3 = pc') (hR : rm_Ro_copy.frames + 1 ≤ rm.frames ∧ 8 + (2 + 11) + rm_Ro_copy.locals ≤ rm.locals) (h8 : (st.map fun v => v.category).sum ≤ 8) (kk : ∀ u', K u' → pj_J g (pj_N g b u') pc' vs st) : pj_J g (pj_N g b u) pc vs (.ref (b + i1) :: .ref (b + i0) :: st) := by
  have t0 : pj_R i0 := Or.inl t
  exact pj_callV C (As := [.ref (b + i1)]) (fun l D E => pc_Ro_copy l D E t0 t1 h) rfl rfl cl_Row (pj_lt t (by decide)) (fun E => ko_3 t) wm_696 wm_684 wm_685 wm_94 wm_688 (by decide +kernel) (n := 1) rfl hR rfl h8 hdg hp (fun v u' hq => by obtain ⟨rfl, hk⟩ := hq; exact kk u' hk)
def rm_Ma_send : Room := { frames := 2, cells := 0, slots := 0, locals := 81 }
def pb_Ma_send_0  (K : pj_M → Prop) (u : pj_M) (x1 : Int32) (x2 : Int32) (i3 : Nat) : Prop := pw_Ma_add u x1 x2 fun i102 u1 => (pj_T i102 = 3 ∧ (pw_Ro_copy u1 i102 i3 fun u3 => (K u3)))
set_option maxHeartbeats 1000000 in
theorem pt_Ma_send_0 {g : pj_G} {b : Nat} (C : pj_X g c_Ma_send 4 R_Ma none rm_Ma_send) {K : pj_M → Prop} (hE : pj_E g b (pj_Kv K))   {u : pj_M} {x1 : Int32} {x2 : Int32} {i3 : Nat}  (t3 : pj_R i3) (h : pb_Ma_send_0  K u x1 x2 i3) : pj_J g (pj_N g b u) 0 [some (.ref (b + 4)), some (.int x1), some (.int x2), some (.ref (b + i3))] [] := by
  unfold pb_Ma_send_0 at h
  refine pj_aload_n C d_Ma_send_0 (pc' := 1) (i := 0) (x := b + 4) rfl rfl rfl ?_
  refine pj_iload_n C d_Ma_send_1 (pc' := 2) (i := 1) (x := x1) rfl rfl rfl ?_
  refine pj_iload_n C d_Ma_send_2 (pc' := 3) (i := 2) (x := x2) rfl rfl rfl ?_
  refine ck_Mailbox_33_Mailbox C  h d_Ma_send_3 (pc' := 6) rfl ⟨Nat.le_of_ble_eq_true rfl, Nat.le_of_ble_eq_true rfl⟩ (Nat.le_of_ble_eq_true rfl) (fun i102 u1 h => ?_)
  obtain ⟨ti102, h⟩ := h
  refine pj_aload_n C d_Ma_send_6 (pc' := 7) (i := 3) (x := b + i3) rfl rfl rfl ?_
  refine ck_Mailbox_37_Row C ti102 t3 h d_Ma_send_7 (pc' := 10) rfl ⟨Nat.le_of_ble_eq_true rfl, Nat.le_of_ble_eq_true rfl⟩ (Nat.le_of_ble_eq_true rfl) (fun u3 h => ?_)
  exact pj_vret C hE d_Ma_send_10 ⟨rfl, h⟩
def pw_Ma_send (u : pj_M) (x1 : Int32) (x2 : Int32) (i3 : Nat) (K : pj_M → Prop) : Prop := pb_Ma_send_0  K u x1 x2 i3
theorem pc_Ma_send (l : Launch) (D : va_G) (E : Nat → ClassId) {b : Nat} {u : pj_M} {x1 : Int32} {x2 : Int32} {i3 : Nat} {K : pj_M → Prop} (t3 : pj_R i3) (h : pw_Ma_send u x1 x2 i3 K) : pj_C l y_Ma_send c_Ma_send 4 none rm_Ma_send D E b [.ref (b + 4), .int x1, .int x2, .ref (b + i3)] u (pj_Kv K) := by
  refine pj_met (own := R_Ma) (by decide +kernel) rfl (Nat.le_of_ble_eq_true rfl) (fun g hE C => ?_)
  unfold pw_Ma_send at h
  show pj_J g (pj_N g b u) 0 [some (.ref (b + 4)), some (.int x1), some (.int x2), some (.ref (b + i3))] []
  exact pj_cut (pj_le_s (pj_le_s (pj_le_s (pj_le_s pj_le_e)))) (pt_Ma_send_0 C hE  t3 h)
/-! Mailbox.sendPacket(IILPortGuard$Packet;)V -/
theorem fg_Mailbox_48_Packet {g : pj_G} {b : Nat} {cc : ByteArray} {nL : Nat} {ret : Option FieldType} {rm : Room} {u : pj_M} {pc pc' : Nat} {vs : List (Option Value)} {st : List Value} (C : pj_X g cc nL R_Ma ret rm) {i : Nat} (t : pj_T i = 4) (hdg : decode cc pc = .ok (.getfield 48, 3)) (hp : pc + 3 = pc') (kk : pj_J g (pj_N g b u) pc' vs (.int (u i 1) :: st)) : pj_J g (pj_N g b u) pc vs (.ref (b + i) :: st) :=
  pj_get C cl_Packet hin_Packet (k := 1) (Nat.le_of_ble_eq_true rfl) wm_152 (Or.inr wm_149) (pj_lt t (by decide)) (fun E => ko_4 t) rfl hdg hp kk
theorem ck_Mailbox_41_Row {g : pj_G} {b : Nat} {cc : ByteArray} {nL : Nat} {ret : Option FieldType} {rm : Room} {u : pj_M} {pc pc' : Nat} {vs : List (Option Value)} {st : List Value} (C : pj_X g cc nL R_Ma ret rm) {i0 : Nat} {K : pj_M → Prop} (t : pj_T i0 = 3) (h : pw_Ro_clear u i0 K) (hdg : decode cc pc = .ok (.invokevirtual 41, 3)) (hp : pc + 3 = pc') (hR : rm_Ro_clear.frames + 1 ≤ rm.frames ∧ 8 + (1 + 11) + rm_Ro_clear.locals ≤ rm.locals) (h8 : (st.map fun v => v.category).sum ≤ 8) (kk : ∀ u', K u' → pj_J g (pj_N g b u') pc' vs st) : pj_J g (pj_N g b u) pc vs (.ref (b + i0) :: st) := by
  have t0 : pj_R i0 := Or.inl t
  exact pj_callV C (As := []) (fun l D E => pc_Ro_clear l D E t0 h) rfl rfl cl_Row (pj_lt t (by decide)) (fun E => ko_3 t) wm_582 wm_583 wm_584 wm_94 wm_587 (by decide +kernel) (n := 0) rfl hR rfl h8 hdg hp (fun v u' hq => by obtain ⟨rfl, hk⟩ := hq; exact kk u' hk)
theorem ck_Mailbox_44_Row {g : pj_G} {b : Nat} {cc : ByteArray} {nL : Nat} {ret : Option FieldType} {rm : Room} {u : pj_M} {pc pc' : Nat} {vs : List (Option Value)} {st : List Value} (C : pj_X g cc nL R_Ma ret rm) {i0 : Nat} {x1 : Int32} {K : pj_M → Prop} (t : pj_T i0 = 3) (h : pw_Ro_put u i0 x1 K) (hdg : decode cc pc = .ok (.invokevirtual 44, 3)) (hp : pc + 3 = pc') (hR : rm_Ro_put.frames + 1 ≤ rm.frames ∧ 8 + (2 + 11) + rm_Ro_put.locals ≤ rm.locals) (h8 : (st.map fun v => v.category).sum ≤ 8) (kk : ∀ u', K u' → pj_J g (pj_N g b u') pc' vs st) : pj_J g (pj_N g b u) pc vs (.int x1 :: .ref (b + i0) :: st) := by
  have t0 : pj_R i0 := Or.inl t
  exact pj_callV C (As := [.int x1]) (fun l D E => pc_Ro_put l D E t0 h) rfl rfl cl_Row (pj_lt t (by decide)) (fun E => ko_3 t) wm_588 wm_589 wm_590 wm_94 wm_593 (by decide +kernel) (n := 1) rfl hR rfl h8 hdg hp (fun v u' hq => by obtain ⟨rfl, hk⟩ := hq; exact kk u' hk)
theorem ck_Mailbox_53_Row {g : pj_G} {b : Nat} {cc : ByteArray} {nL : Nat} {ret : Option FieldType} {rm : Room} {u : pj_M} {pc pc' : Nat} {vs : List (Option Value)} {st : List Value} (C : pj_X g cc nL R_Ma ret rm) {i0 : Nat} {i1 : Nat} {x2 : Int32} {x3 : Int32} {K : pj_M → Prop} (t : pj_T i0 = 3) (t1 : pj_R i1) (h : pw_Ro_append u i0 i1 x2 x3 K) (hdg : decode cc pc = .ok (.invokevirtual 53, 3)) (hp : pc + 3 = pc') (hR : rm_Ro_append.frames + 1 ≤ rm.frames ∧ 8 + (5 + 11) + rm_Ro_append.locals ≤ rm.locals) (h8 : (st.map fun v => v.category).sum ≤ 8) (kk : ∀ u', K u' → pj_J g (pj_N g b u') pc' vs st) : pj_J g (pj_N g b u) pc vs (.int x3 :: .int x2 :: .ref (b + i1) :: .ref (b + i0) :: st) := by
  have t0 : pj_R i0 := Or.inl t
  exact pj_callV C (As := [.ref (b + i1), .int x2, .int x3]) (fun l D E => pc_Ro_append l D E t0 t1 h) rfl rfl cl_Row (pj_lt t (by decide)) (fun E => ko_3 t) wm_636 wm_637 wm_638 wm_94 wm_641 (by decide +kernel) (n := 3) rfl hR rfl h8 hdg hp (fun v u' hq => by obtain ⟨rfl, hk⟩ := hq; exact kk u' hk)
def rm_Ma_sendPacket : Room := { frames := 1, cells := 0, slots := 0, locals := 24 }
def pb_Ma_sendPacket_0  (K : pj_M → Prop) (u : pj_M) (x1 : Int32) (x2 : Int32) (i3 : Nat) : Prop := pw_Ma_add u x1 x2 fun i102 u1 => (pj_T i102 = 3 ∧ (pw_Ro_clear u1 i102 fun u3 => (pw_Ro_put u3 i102 0 fun u4 => (pw_Ro_append u4 i102 i3 0 (u4 i3 1) fun u5 => (K u5)))))
set_option maxHeartbeats 1000000 in
theorem pt_Ma_sendPacket_0 {g : pj_G} {b : Nat} (C : pj_X g c_Ma_sendPacket 5 R_Ma none rm_Ma_sendPacket) {K : pj_M → Prop} (hE : pj_E g b (pj_Kv K))   {u : pj_M} {x1 : Int32} {x2 : Int32} {i3 : Nat}  (t3 : pj_T i3 = 4) (h : pb_Ma_sendPacket_0  K u x1 x2 i3) : pj_J g (pj_N g b u) 0 [some (.ref (b + 4)), some (.int x1), some (.int x2), some (.ref (b + i3)), none] [] := by
  unfold pb_Ma_sendPacket_0 at h
  refine pj_aload_n C d_Ma_sendPacket_0 (pc' := 1) (i := 0) (x := b + 4) rfl rfl rfl ?_
  refine pj_iload_n C d_Ma_sendPacket_1 (pc' := 2) (i := 1) (x := x1) rfl rfl rfl ?_
  refine pj_iload_n C d_Ma_sendPacket_2 (pc' := 3) (i := 2) (x := x2) rfl rfl rfl ?_
  refine ck_Mailbox_33_Mailbox C  h d_Ma_sendPacket_3 (pc' := 6) rfl ⟨Nat.le_of_ble_eq_true rfl, Nat.le_of_ble_eq_true rfl⟩ (Nat.le_of_ble_eq_true rfl) (fun i102 u1 h => ?_)
  obtain ⟨ti102, h⟩ := h
  refine pj_astore C d_Ma_sendPacket_6 (pc' := 8) (i := 4) (vs' := [some (.ref (b + 4)), some (.int x1), some (.int x2), some (.ref (b + i3)), some (.ref (b + i102))]) rfl (Nat.le_of_ble_eq_true rfl) (Nat.le_of_ble_eq_true rfl) rfl rfl ?_
  refine pj_aload C d_Ma_sendPacket_8 (pc' := 10) (i := 4) (x := b + i102) rfl rfl ?_
  refine ck_Mailbox_41_Row C ti102 h d_Ma_sendPacket_10 (pc' := 13) rfl ⟨Nat.le_of_ble_eq_true rfl, Nat.le_of_ble_eq_true rfl⟩ (Nat.le_of_ble_eq_true rfl) (fun u3 h => ?_)
  refine pj_aload C d_Ma_sendPacket_13 (pc' := 15) (i := 4) (x := b + i102) rfl rfl ?_
  refine pj_iconst C d_Ma_sendPacket_15 (pc' := 16) rfl (v := 0) (by decide) ?_
  refine ck_Mailbox_44_Row C ti102 h d_Ma_sendPacket_16 (pc' := 19) rfl ⟨Nat.le_of_ble_eq_true rfl, Nat.le_of_ble_eq_true rfl⟩ (Nat.le_of_ble_eq_true rfl) (fun u4 h => ?_)
  refine pj_aload C d_Ma_sendPacket_19 (pc' := 21) (i := 4) (x := b + i102) rfl rfl ?_
  refine pj_aload_n C d_Ma_sendPacket_21 (pc' := 22) (i := 3) (x := b + i3) rfl rfl rfl ?_
  refine pj_iconst C d_Ma_sendPacket_22 (pc' := 23) rfl (v := 0) (by decide) ?_
  refine pj_aload_n C d_Ma_sendPacket_23 (pc' := 24) (i := 3) (x := b + i3) rfl rfl rfl ?_
  refine fg_Mailbox_48_Packet C t3 d_Ma_sendPacket_24 (pc' := 27) rfl ?_
  refine ck_Mailbox_53_Row C ti102 (Or.inr t3) h d_Ma_sendPacket_27 (pc' := 30) rfl ⟨Nat.le_of_ble_eq_true rfl, Nat.le_of_ble_eq_true rfl⟩ (Nat.le_of_ble_eq_true rfl) (fun u5 h => ?_)
  exact pj_vret C hE d_Ma_sendPacket_30 ⟨rfl, h⟩
def pw_Ma_sendPacket (u : pj_M) (x1 : Int32) (x2 : Int32) (i3 : Nat) (K : pj_M → Prop) : Prop := pb_Ma_sendPacket_0  K u x1 x2 i3
theorem pc_Ma_sendPacket (l : Launch) (D : va_G) (E : Nat → ClassId) {b : Nat} {u : pj_M} {x1 : Int32} {x2 : Int32} {i3 : Nat} {K : pj_M → Prop} (t3 : pj_T i3 = 4) (h : pw_Ma_sendPacket u x1 x2 i3 K) : pj_C l y_Ma_sendPacket c_Ma_sendPacket 5 none rm_Ma_sendPacket D E b [.ref (b + 4), .int x1, .int x2, .ref (b + i3)] u (pj_Kv K) := by
  refine pj_met (own := R_Ma) (by decide +kernel) rfl (Nat.le_of_ble_eq_true rfl) (fun g hE C => ?_)
  unfold pw_Ma_sendPacket at h
  show pj_J g (pj_N g b u) 0 [some (.ref (b + 4)), some (.int x1), some (.int x2), some (.ref (b + i3)), none] []
  exact pj_cut (pj_le_s (pj_le_s (pj_le_s (pj_le_s (pj_le_n pj_le_e))))) (pt_Ma_sendPacket_0 C hE  t3 h)
/-! Mailbox.sendByte(III)V -/
def rm_Ma_sendByte : Room := { frames := 1, cells := 0, slots := 0, locals := 22 }
def pb_Ma_sendByte_0  (K : pj_M → Prop) (u : pj_M) (x1 : Int32) (x2 : Int32) (x3 : Int32) : Prop := pw_Ma_add u x1 x2 fun i102 u1 => (pj_T i102 = 3 ∧ (pw_Ro_clear u1 i102 fun u3 => (pw_Ro_put u3 i102 x3 fun u4 => (K u4))))
set_option maxHeartbeats 1000000 in
theorem pt_Ma_sendByte_0 {g : pj_G} {b : Nat} (C : pj_X g c_Ma_sendByte 5 R_Ma none rm_Ma_sendByte) {K : pj_M → Prop} (hE : pj_E g b (pj_Kv K))   {u : pj_M} {x1 : Int32} {x2 : Int32} {x3 : Int32}   (h : pb_Ma_sendByte_0  K u x1 x2 x3) : pj_J g (pj_N g b u) 0 [some (.ref (b + 4)), some (.int x1), some (.int x2), some (.int x3), none] [] := by
  unfold pb_Ma_sendByte_0 at h
  refine pj_aload_n C d_Ma_sendByte_0 (pc' := 1) (i := 0) (x := b + 4) rfl rfl rfl ?_
  refine pj_iload_n C d_Ma_sendByte_1 (pc' := 2) (i := 1) (x := x1) rfl rfl rfl ?_
  refine pj_iload_n C d_Ma_sendByte_2 (pc' := 3) (i := 2) (x := x2) rfl rfl rfl ?_
  refine ck_Mailbox_33_Mailbox C  h d_Ma_sendByte_3 (pc' := 6) rfl ⟨Nat.le_of_ble_eq_true rfl, Nat.le_of_ble_eq_true rfl⟩ (Nat.le_of_ble_eq_true rfl) (fun i102 u1 h => ?_)
  obtain ⟨ti102, h⟩ := h
  refine pj_astore C d_Ma_sendByte_6 (pc' := 8) (i := 4) (vs' := [some (.ref (b + 4)), some (.int x1), some (.int x2), some (.int x3), some (.ref (b + i102))]) rfl (Nat.le_of_ble_eq_true rfl) (Nat.le_of_ble_eq_true rfl) rfl rfl ?_
  refine pj_aload C d_Ma_sendByte_8 (pc' := 10) (i := 4) (x := b + i102) rfl rfl ?_
  refine ck_Mailbox_41_Row C ti102 h d_Ma_sendByte_10 (pc' := 13) rfl ⟨Nat.le_of_ble_eq_true rfl, Nat.le_of_ble_eq_true rfl⟩ (Nat.le_of_ble_eq_true rfl) (fun u3 h => ?_)
  refine pj_aload C d_Ma_sendByte_13 (pc' := 15) (i := 4) (x := b + i102) rfl rfl ?_
  refine pj_iload_n C d_Ma_sendByte_15 (pc' := 16) (i := 3) (x := x3) rfl rfl rfl ?_
  refine ck_Mailbox_44_Row C ti102 h d_Ma_sendByte_16 (pc' := 19) rfl ⟨Nat.le_of_ble_eq_true rfl, Nat.le_of_ble_eq_true rfl⟩ (Nat.le_of_ble_eq_true rfl) (fun u4 h => ?_)
  exact pj_vret C hE d_Ma_sendByte_19 ⟨rfl, h⟩
def pw_Ma_sendByte (u : pj_M) (x1 : Int32) (x2 : Int32) (x3 : Int32) (K : pj_M → Prop) : Prop := pb_Ma_sendByte_0  K u x1 x2 x3
theorem pc_Ma_sendByte (l : Launch) (D : va_G) (E : Nat → ClassId) {b : Nat} {u : pj_M} {x1 : Int32} {x2 : Int32} {x3 : Int32} {K : pj_M → Prop}  (h : pw_Ma_sendByte u x1 x2 x3 K) : pj_C l y_Ma_sendByte c_Ma_sendByte 5 none rm_Ma_sendByte D E b [.ref (b + 4), .int x1, .int x2, .int x3] u (pj_Kv K) := by
  refine pj_met (own := R_Ma) (by decide +kernel) rfl (Nat.le_of_ble_eq_true rfl) (fun g hE C => ?_)
  unfold pw_Ma_sendByte at h
  show pj_J g (pj_N g b u) 0 [some (.ref (b + 4)), some (.int x1), some (.int x2), some (.int x3), none] []
  exact pj_cut (pj_le_s (pj_le_s (pj_le_s (pj_le_s (pj_le_n pj_le_e))))) (pt_Ma_sendByte_0 C hE   h)
/-! Mailbox.drop(I)V -/
theorem ck_Mailbox_57_Mailbox {g : pj_G} {b : Nat} {cc : ByteArray} {nL : Nat} {ret : Option FieldType} {rm : Room} {u : pj_M} {pc pc' : Nat} {vs : List (Option Value)} {st : List Value} (C : pj_X g cc nL R_Ma ret rm) {x1 : Int32} {K : Int32 → pj_M → Prop}  (h : pw_Ma_has u x1 K) (hdg : decode cc pc = .ok (.invokevirtual 57, 3)) (hp : pc + 3 = pc') (hR : rm_Ma_has.frames + 1 ≤ rm.frames ∧ 8 + (2 + 11) + rm_Ma_has.locals ≤ rm.locals) (h8 : (st.map fun v => v.category).sum ≤ 8) (kk : ∀ r u', K r u' → pj_J g (pj_N g b u') pc' vs (.int r :: st)) : pj_J g (pj_N g b u) pc vs (.int x1 :: .ref (b + 4) :: st) :=
  pj_callV C (As := [.int x1]) (fun l D E => pc_Ma_has l D E  h) rfl rfl cl_Mailbox (pj_lt tk_4 (by decide)) (fun E => ko_2 tk_4) wm_701 wm_680 wm_681 wm_93 wm_682 (by decide +kernel) (n := 1) rfl hR rfl h8 hdg hp (fun v u' hq => by obtain ⟨r, rfl, hk⟩ := hq; exact kk r u' hk)
def rm_Ma_drop : Room := { frames := 1, cells := 0, slots := 0, locals := 21 }
def pb_Ma_drop_76  (K : pj_M → Prop) (u : pj_M) (i2 : Nat) : Prop := pj_put u 4 4 ((u 4 4) - 1) fun u1 => (vp_in (u1 4 4) 40 ∧ pj_put u1 7 (u1 4 4).toNatClampNeg (nI i2) fun u2 => (K u2))
set_option maxHeartbeats 1000000 in
theorem pt_Ma_drop_76 {g : pj_G} {b : Nat} (C : pj_X g c_Ma_drop 4 R_Ma none rm_Ma_drop) {K : pj_M → Prop} (hE : pj_E g b (pj_Kv K))   {u : pj_M} {i2 : Nat}  (t2 : pj_T i2 = 3) (h : pb_Ma_drop_76  K u i2) : pj_J g (pj_N g b u) 76 [some (.ref (b + 4)), none, some (.ref (b + i2)), none] [] := by
  unfold pb_Ma_drop_76 at h
  refine pj_aload_n C d_Ma_drop_76 (pc' := 77) (i := 0) (x := b + 4) rfl rfl rfl ?_
  refine pj_dup C d_Ma_drop_77 (pc' := 78) rfl rfl ?_
  refine fg_Mailbox_29_Mailbox C tk_4 d_Ma_drop_78 (pc' := 81) rfl ?_
  refine pj_iconst C d_Ma_drop_81 (pc' := 82) rfl (v := 1) (by decide) ?_
  refine pj_isub C d_Ma_drop_82 (pc' := 83) rfl ?_
  refine fp_Mailbox_29_Mailbox C tk_4  d_Ma_drop_83 (pc' := 86) rfl h (fun u1 h => ?_)
  refine pj_aload_n C d_Ma_drop_86 (pc' := 87) (i := 0) (x := b + 4) rfl rfl rfl ?_
  refine fg_Mailbox_20_Mailbox C tk_4 d_Ma_drop_87 (pc' := 90) rfl ?_
  refine pj_aload_n C d_Ma_drop_90 (pc' := 91) (i := 0) (x := b + 4) rfl rfl rfl ?_
  refine fg_Mailbox_29_Mailbox C tk_4 d_Ma_drop_91 (pc' := 94) rfl ?_
  refine pj_aload_n C d_Ma_drop_94 (pc' := 95) (i := 2) (x := b + i2) rfl rfl rfl ?_
  refine pj_astM C (pj_lt tk_7 (by decide)) (fun E u => ka_24 tk_7) (fun E => rfl) (pj_lt t2 (by decide)) (by decide) (fun E => ko_3 t2) rfl d_Ma_drop_95 (pc' := 96) rfl h (fun u2 h => ?_)
  exact pj_vret C hE d_Ma_drop_96 ⟨rfl, h⟩
def pb_Ma_drop_28 (R18 : pj_M → Int32 → Prop) (K : pj_M → Prop) (u : pj_M) (i2 : Nat) (x3 : Int32) : Prop := vp_in (x3 + 1) 40 ∧ (vp_in x3 40 ∧ pj_put u 5 x3.toNatClampNeg (u 5 (x3 + 1).toNatClampNeg) fun u1 => (vp_in (x3 + 1) 40 ∧ (vp_in x3 40 ∧ pj_put u1 6 x3.toNatClampNeg (u1 6 (x3 + 1).toNatClampNeg) fun u2 => (vp_in (x3 + 1) 40 ∧ pj_let (u2 7 (x3 + 1).toNatClampNeg).toNatClampNeg fun i103 => pj_T i103 = 3 ∧ (vp_in x3 40 ∧ pj_put u2 7 x3.toNatClampNeg (nI i103) fun u4 => (R18 u4 (x3 + 1)))))))
set_option maxHeartbeats 1000000 in
theorem pt_Ma_drop_28 {g : pj_G} {b : Nat} (C : pj_X g c_Ma_drop 4 R_Ma none rm_Ma_drop) {K : pj_M → Prop} (hE : pj_E g b (pj_Kv K)) {R18 : pj_M → Int32 → Prop}  {u : pj_M} {i2 : Nat} {x3 : Int32} (hR18 : ∀ (u : pj_M) (x3 : Int32), R18 u x3 → pj_J g (pj_N g b u) 18 [some (.ref (b + 4)), none, some (.ref (b + i2)), some (.int x3)] []) (t2 : pj_T i2 = 3) (h : pb_Ma_drop_28 R18 K u i2 x3) : pj_J g (pj_N g b u) 28 [some (.ref (b + 4)), none, some (.ref (b + i2)), some (.int x3)] [] := by
  unfold pb_Ma_drop_28 at h
  refine pj_aload_n C d_Ma_drop_28 (pc' := 29) (i := 0) (x := b + 4) rfl rfl rfl ?_
  refine fg_Mailbox_9_Mailbox C tk_4 d_Ma_drop_29 (pc' := 32) rfl ?_
  refine pj_iload_n C d_Ma_drop_32 (pc' := 33) (i := 3) (x := x3) rfl rfl rfl ?_
  refine pj_aload_n C d_Ma_drop_33 (pc' := 34) (i := 0) (x := b + 4) rfl rfl rfl ?_
  refine fg_Mailbox_9_Mailbox C tk_4 d_Ma_drop_34 (pc' := 37) rfl ?_
  refine pj_iload_n C d_Ma_drop_37 (pc' := 38) (i := 3) (x := x3) rfl rfl rfl ?_
  refine pj_iconst C d_Ma_drop_38 (pc' := 39) rfl (v := 1) (by decide) ?_
  refine pj_iadd C d_Ma_drop_39 (pc' := 40) rfl ?_
  refine pj_iald C (pj_lt tk_5 (by decide)) (fun E u => ka_21 tk_5) d_Ma_drop_40 (pc' := 41) rfl h (fun h => ?_)
  refine pj_iast C (pj_lt tk_5 (by decide)) (fun E u => ka_21 tk_5) d_Ma_drop_41 (pc' := 42) rfl h (fun u1 h => ?_)
  refine pj_aload_n C d_Ma_drop_42 (pc' := 43) (i := 0) (x := b + 4) rfl rfl rfl ?_
  refine fg_Mailbox_15_Mailbox C tk_4 d_Ma_drop_43 (pc' := 46) rfl ?_
  refine pj_iload_n C d_Ma_drop_46 (pc' := 47) (i := 3) (x := x3) rfl rfl rfl ?_
  refine pj_aload_n C d_Ma_drop_47 (pc' := 48) (i := 0) (x := b + 4) rfl rfl rfl ?_
  refine fg_Mailbox_15_Mailbox C tk_4 d_Ma_drop_48 (pc' := 51) rfl ?_
  refine pj_iload_n C d_Ma_drop_51 (pc' := 52) (i := 3) (x := x3) rfl rfl rfl ?_
  refine pj_iconst C d_Ma_drop_52 (pc' := 53) rfl (v := 1) (by decide) ?_
  refine pj_iadd C d_Ma_drop_53 (pc' := 54) rfl ?_
  refine pj_iald C (pj_lt tk_6 (by decide)) (fun E u => ka_21 tk_6) d_Ma_drop_54 (pc' := 55) rfl h (fun h => ?_)
  refine pj_iast C (pj_lt tk_6 (by decide)) (fun E u => ka_21 tk_6) d_Ma_drop_55 (pc' := 56) rfl h (fun u2 h => ?_)
  refine pj_aload_n C d_Ma_drop_56 (pc' := 57) (i := 0) (x := b + 4) rfl rfl rfl ?_
  refine fg_Mailbox_20_Mailbox C tk_4 d_Ma_drop_57 (pc' := 60) rfl ?_
  refine pj_iload_n C d_Ma_drop_60 (pc' := 61) (i := 3) (x := x3) rfl rfl rfl ?_
  refine pj_aload_n C d_Ma_drop_61 (pc' := 62) (i := 0) (x := b + 4) rfl rfl rfl ?_
  refine fg_Mailbox_20_Mailbox C tk_4 d_Ma_drop_62 (pc' := 65) rfl ?_
  refine pj_iload_n C d_Ma_drop_65 (pc' := 66) (i := 3) (x := x3) rfl rfl rfl ?_
  refine pj_iconst C d_Ma_drop_66 (pc' := 67) rfl (v := 1) (by decide) ?_
  refine pj_iadd C d_Ma_drop_67 (pc' := 68) rfl ?_
  refine pj_aldM C (pj_lt tk_7 (by decide)) (fun E u => ka_24 tk_7) (fun E => rfl) d_Ma_drop_68 (pc' := 69) rfl h (fun h => ?_)
  refine pj_nameR h (fun i103 h => ?_)
  obtain ⟨ti103, h⟩ := h
  refine pj_astM C (pj_lt tk_7 (by decide)) (fun E u => ka_24 tk_7) (fun E => rfl) (pj_lt ti103 (by decide)) (by decide) (fun E => ko_3 ti103) rfl d_Ma_drop_69 (pc' := 70) rfl h (fun u4 h => ?_)
  refine pj_iinc C d_Ma_drop_70 (pc' := 73) (x := x3) (d := 1) (vs' := [some (.ref (b + 4)), none, some (.ref (b + i2)), some (.int (x3 + 1))]) rfl rfl (Nat.le_of_ble_eq_true rfl) rfl (by decide) rfl ?_
  refine pj_goto C d_Ma_drop_73 (tgt := 18) (by decide) ?_
  exact pj_cut (pj_le_s (pj_le_n (pj_le_s (pj_le_s pj_le_e)))) (hR18 _ _ h)
def pb_Ma_drop_18b (R18 : pj_M → Int32 → Prop) (K : pj_M → Prop) (u : pj_M) (i2 : Nat) (x3 : Int32) : Prop := ((((u 4 4) - 1) ≤ x3) → (pb_Ma_drop_76  K u i2)) ∧ (¬ (((u 4 4) - 1) ≤ x3) → (pb_Ma_drop_28 R18 K u i2 x3))
set_option maxHeartbeats 1000000 in
theorem pt_Ma_drop_18b {g : pj_G} {b : Nat} (C : pj_X g c_Ma_drop 4 R_Ma none rm_Ma_drop) {K : pj_M → Prop} (hE : pj_E g b (pj_Kv K)) {R18 : pj_M → Int32 → Prop}  {u : pj_M} {i2 : Nat} {x3 : Int32} (hR18 : ∀ (u : pj_M) (x3 : Int32), R18 u x3 → pj_J g (pj_N g b u) 18 [some (.ref (b + 4)), none, some (.ref (b + i2)), some (.int x3)] []) (t2 : pj_T i2 = 3) (h : pb_Ma_drop_18b R18 K u i2 x3) : pj_J g (pj_N g b u) 18 [some (.ref (b + 4)), none, some (.ref (b + i2)), some (.int x3)] [] := by
  unfold pb_Ma_drop_18b at h
  refine pj_iload_n C d_Ma_drop_18 (pc' := 19) (i := 3) (x := x3) rfl rfl rfl ?_
  refine pj_aload_n C d_Ma_drop_19 (pc' := 20) (i := 0) (x := b + 4) rfl rfl rfl ?_
  refine fg_Mailbox_29_Mailbox C tk_4 d_Ma_drop_20 (pc' := 23) rfl ?_
  refine pj_iconst C d_Ma_drop_23 (pc' := 24) rfl (v := 1) (by decide) ?_
  refine pj_isub C d_Ma_drop_24 (pc' := 25) rfl ?_
  refine pj_icmp_ge C d_Ma_drop_25 (pc' := 28) rfl (tgt := 76) (by decide) h (fun h => ?_) (fun h => ?_)
  · exact pj_cut (pj_le_s (pj_le_n (pj_le_s (pj_le_n pj_le_e)))) (pt_Ma_drop_76 C hE  t2 h)
  · exact pj_cut (pj_le_s (pj_le_n (pj_le_s (pj_le_s pj_le_e)))) (pt_Ma_drop_28 C hE hR18 t2 h)
def pb_Ma_drop_18  (K : pj_M → Prop) (i2 : Nat) : Nat → pj_M → Int32 → Prop
  | 0 => fun _ _ => False
  | n + 1 => fun u x3 => pb_Ma_drop_18b (pb_Ma_drop_18  K i2 n) K u i2 x3
theorem pt_Ma_drop_18 {g : pj_G} {b : Nat} (C : pj_X g c_Ma_drop 4 R_Ma none rm_Ma_drop) {K : pj_M → Prop} (hE : pj_E g b (pj_Kv K))  {i2 : Nat}  (t2 : pj_T i2 = 3) : ∀ (n : Nat) (u : pj_M) (x3 : Int32), pb_Ma_drop_18  K i2 n u x3 → pj_J g (pj_N g b u) 18 [some (.ref (b + 4)), none, some (.ref (b + i2)), some (.int x3)] [] := by
  intro n
  induction n with
  | zero => intro u x3 h; exact False.elim h
  | succ n ih =>
    intro u x3 h
    exact (pt_Ma_drop_18b C hE ih t2 h)
def pb_Ma_drop_9  (K : pj_M → Prop) (u : pj_M) (x1 : Int32) : Prop := vp_in x1 40 ∧ pj_let (u 7 x1.toNatClampNeg).toNatClampNeg fun i101 => pj_T i101 = 3 ∧ (∃ n, pb_Ma_drop_18  K i101 n u x1)
set_option maxHeartbeats 1000000 in
theorem pt_Ma_drop_9 {g : pj_G} {b : Nat} (C : pj_X g c_Ma_drop 4 R_Ma none rm_Ma_drop) {K : pj_M → Prop} (hE : pj_E g b (pj_Kv K))   {u : pj_M} {x1 : Int32}   (h : pb_Ma_drop_9  K u x1) : pj_J g (pj_N g b u) 9 [some (.ref (b + 4)), some (.int x1), none, none] [] := by
  unfold pb_Ma_drop_9 at h
  refine pj_aload_n C d_Ma_drop_9 (pc' := 10) (i := 0) (x := b + 4) rfl rfl rfl ?_
  refine fg_Mailbox_20_Mailbox C tk_4 d_Ma_drop_10 (pc' := 13) rfl ?_
  refine pj_iload_n C d_Ma_drop_13 (pc' := 14) (i := 1) (x := x1) rfl rfl rfl ?_
  refine pj_aldM C (pj_lt tk_7 (by decide)) (fun E u => ka_24 tk_7) (fun E => rfl) d_Ma_drop_14 (pc' := 15) rfl h (fun h => ?_)
  refine pj_nameR h (fun i101 h => ?_)
  obtain ⟨ti101, h⟩ := h
  refine pj_astore_n C d_Ma_drop_15 (pc' := 16) (i := 2) (vs' := [some (.ref (b + 4)), some (.int x1), some (.ref (b + i101)), none]) rfl rfl (Nat.le_of_ble_eq_true rfl) (Nat.le_of_ble_eq_true rfl) rfl rfl ?_
  refine pj_iload_n C d_Ma_drop_16 (pc' := 17) (i := 1) (x := x1) rfl rfl rfl ?_
  refine pj_istore_n C d_Ma_drop_17 (pc' := 18) (i := 3) (vs' := [some (.ref (b + 4)), some (.int x1), some (.ref (b + i101)), some (.int x1)]) rfl rfl (Nat.le_of_ble_eq_true rfl) (Nat.le_of_ble_eq_true rfl) rfl rfl ?_
  obtain ⟨n, h⟩ := h
  exact pj_cut (pj_le_s (pj_le_n (pj_le_s (pj_le_s pj_le_e)))) (pt_Ma_drop_18 C hE  ti101 n _ _ h)
def pb_Ma_drop_8  (K : pj_M → Prop) (u : pj_M)  : Prop := K u
set_option maxHeartbeats 1000000 in
theorem pt_Ma_drop_8 {g : pj_G} {b : Nat} (C : pj_X g c_Ma_drop 4 R_Ma none rm_Ma_drop) {K : pj_M → Prop} (hE : pj_E g b (pj_Kv K))   {u : pj_M}    (h : pb_Ma_drop_8  K u ) : pj_J g (pj_N g b u) 8 [none, none, none, none] [] := by
  unfold pb_Ma_drop_8 at h
  exact pj_vret C hE d_Ma_drop_8 ⟨rfl, h⟩
def pb_Ma_drop_0  (K : pj_M → Prop) (u : pj_M) (x1 : Int32) : Prop := pw_Ma_has u x1 fun r2 u1 => (((r2 = 0) → (pb_Ma_drop_8  K u1 )) ∧ (¬ (r2 = 0) → (pb_Ma_drop_9  K u1 x1)))
set_option maxHeartbeats 1000000 in
theorem pt_Ma_drop_0 {g : pj_G} {b : Nat} (C : pj_X g c_Ma_drop 4 R_Ma none rm_Ma_drop) {K : pj_M → Prop} (hE : pj_E g b (pj_Kv K))   {u : pj_M} {x1 : Int32}   (h : pb_Ma_drop_0  K u x1) : pj_J g (pj_N g b u) 0 [some (.ref (b + 4)), some (.int x1), none, none] [] := by
  unfold pb_Ma_drop_0 at h
  refine pj_aload_n C d_Ma_drop_0 (pc' := 1) (i := 0) (x := b + 4) rfl rfl rfl ?_
  refine pj_iload_n C d_Ma_drop_1 (pc' := 2) (i := 1) (x := x1) rfl rfl rfl ?_
  refine ck_Mailbox_57_Mailbox C  h d_Ma_drop_2 (pc' := 5) rfl ⟨Nat.le_of_ble_eq_true rfl, Nat.le_of_ble_eq_true rfl⟩ (Nat.le_of_ble_eq_true rfl) (fun r2 u1 h => ?_)
  refine pj_if_ne C d_Ma_drop_5 (pc' := 8) rfl (tgt := 9) (by decide) h (fun h => ?_) (fun h => ?_)
  · exact pj_cut (pj_le_s (pj_le_s (pj_le_n (pj_le_n pj_le_e)))) (pt_Ma_drop_9 C hE   h)
  · exact pj_cut (pj_le_n (pj_le_n (pj_le_n (pj_le_n pj_le_e)))) (pt_Ma_drop_8 C hE   h)
def pw_Ma_drop (u : pj_M) (x1 : Int32) (K : pj_M → Prop) : Prop := pb_Ma_drop_0  K u x1
theorem pc_Ma_drop (l : Launch) (D : va_G) (E : Nat → ClassId) {b : Nat} {u : pj_M} {x1 : Int32} {K : pj_M → Prop}  (h : pw_Ma_drop u x1 K) : pj_C l y_Ma_drop c_Ma_drop 4 none rm_Ma_drop D E b [.ref (b + 4), .int x1] u (pj_Kv K) := by
  refine pj_met (own := R_Ma) (by decide +kernel) rfl (Nat.le_of_ble_eq_true rfl) (fun g hE C => ?_)
  unfold pw_Ma_drop at h
  show pj_J g (pj_N g b u) 0 [some (.ref (b + 4)), some (.int x1), none, none] []
  exact pj_cut (pj_le_s (pj_le_s (pj_le_n (pj_le_n pj_le_e)))) (pt_Ma_drop_0 C hE   h)
