/-! Datagram.code()I -/
theorem fg_Datagram_12_Datagram {g : pj_G} {b : Nat} {cc : ByteArray} {nL : Nat} {ret : Option FieldType} {rm : Room} {u : pj_M} {pc pc' : Nat} {vs : List (Option Value)} {st : List Value} (C : pj_X g cc nL R_Da ret rm) {i : Nat} (t : pj_T i = 5) (hdg : decode cc pc = .ok (.getfield 12, 3)) (hp : pc + 3 = pc') (kk : pj_J g (pj_N g b u) pc' vs (.ref (b + (i + 1)) :: st)) : pj_J g (pj_N g b u) pc vs (.ref (b + i) :: st) :=
  pj_get C cl_Datagram hin_Datagram (k := 0) (Nat.le_of_ble_eq_true rfl) wm_266 (Or.inl rfl) (pj_lt t (by decide)) (fun E => ko_5 t) rfl hdg hp kk
theorem ck_Datagram_25_Row {g : pj_G} {b : Nat} {cc : ByteArray} {nL : Nat} {ret : Option FieldType} {rm : Room} {u : pj_M} {pc pc' : Nat} {vs : List (Option Value)} {st : List Value} (C : pj_X g cc nL R_Da ret rm) {i0 : Nat} {x1 : Int32} {K : Int32 → pj_M → Prop} (t : pj_T i0 = 3) (h : pw_Ro_at u i0 x1 K) (hdg : decode cc pc = .ok (.invokevirtual 25, 3)) (hp : pc + 3 = pc') (hR : rm_Ro_at.frames + 1 ≤ rm.frames ∧ 8 + (2 + 11) + rm_Ro_at.locals ≤ rm.locals) (h8 : (st.map fun v => v.category).sum ≤ 8) (kk : ∀ r u', K r u' → pj_J g (pj_N g b u') pc' vs (.int r :: st)) : pj_J g (pj_N g b u) pc vs (.int x1 :: .ref (b + i0) :: st) := by
  have t0 : pj_R i0 := Or.inl t
  exact pj_callV C (As := [.int x1]) (fun l D E => pc_Ro_at l D E t0 h) rfl rfl cl_Row (pj_lt t (by decide)) (fun E => ko_3 t) wm_883 wm_650 wm_1633 wm_94 wm_651 (by decide +kernel) (n := 1) rfl hR rfl h8 hdg hp (fun v u' hq => by obtain ⟨r, rfl, hk⟩ := hq; exact kk r u' hk)
def rm_Da_code : Room := { frames := 1, cells := 0, slots := 0, locals := 21 }
def pb_Da_code_0  (K : Int32 → pj_M → Prop) (u : pj_M) (i0 : Nat) : Prop := pw_Ro_at u (i0 + 1) 0 fun r2 u1 => (K r2 u1)
set_option maxHeartbeats 1000000 in
theorem pt_Da_code_0 {g : pj_G} {b : Nat} (C : pj_X g c_Da_code 1 R_Da (some .int) rm_Da_code) {K : Int32 → pj_M → Prop} (hE : pj_E g b (pj_Ki K))   {u : pj_M} {i0 : Nat}  (t0 : pj_T i0 = 5) (h : pb_Da_code_0  K u i0) : pj_J g (pj_N g b u) 0 [some (.ref (b + i0))] [] := by
  unfold pb_Da_code_0 at h
  refine pj_aload_n C d_Da_code_0 (pc' := 1) (i := 0) (x := b + i0) rfl rfl rfl ?_
  refine fg_Datagram_12_Datagram C t0 d_Da_code_1 (pc' := 4) rfl ?_
  refine pj_iconst C d_Da_code_4 (pc' := 5) rfl (v := 0) (by decide) ?_
  refine ck_Datagram_25_Row C (pl_Datagram_row t0) h d_Da_code_5 (pc' := 8) rfl ⟨Nat.le_of_ble_eq_true rfl, Nat.le_of_ble_eq_true rfl⟩ (Nat.le_of_ble_eq_true rfl) (fun r2 u1 h => ?_)
  exact pj_iret C hE d_Da_code_8 ⟨_, rfl, h⟩
def pw_Da_code (u : pj_M) (i0 : Nat) (K : Int32 → pj_M → Prop) : Prop := pb_Da_code_0  K u i0
theorem pc_Da_code (l : Launch) (D : va_G) (E : Nat → ClassId) {b : Nat} {u : pj_M} {i0 : Nat} {K : Int32 → pj_M → Prop} (t0 : pj_T i0 = 5) (h : pw_Da_code u i0 K) : pj_C l y_Da_code c_Da_code 1 (some .int) rm_Da_code D E b [.ref (b + i0)] u (pj_Ki K) := by
  refine pj_met (own := R_Da) (by decide +kernel) rfl (Nat.le_of_ble_eq_true rfl) (fun g hE C => ?_)
  unfold pw_Da_code at h
  show pj_J g (pj_N g b u) 0 [some (.ref (b + i0))] []
  exact pj_cut (pj_le_s pj_le_e) (pt_Da_code_0 C hE  t0 h)
/-! Datagram.id()I -/
def rm_Da_id : Room := { frames := 1, cells := 0, slots := 0, locals := 21 }
def pb_Da_id_0  (K : Int32 → pj_M → Prop) (u : pj_M) (i0 : Nat) : Prop := pw_Ro_at u (i0 + 1) 1 fun r2 u1 => (K r2 u1)
set_option maxHeartbeats 1000000 in
theorem pt_Da_id_0 {g : pj_G} {b : Nat} (C : pj_X g c_Da_id 1 R_Da (some .int) rm_Da_id) {K : Int32 → pj_M → Prop} (hE : pj_E g b (pj_Ki K))   {u : pj_M} {i0 : Nat}  (t0 : pj_T i0 = 5) (h : pb_Da_id_0  K u i0) : pj_J g (pj_N g b u) 0 [some (.ref (b + i0))] [] := by
  unfold pb_Da_id_0 at h
  refine pj_aload_n C d_Da_id_0 (pc' := 1) (i := 0) (x := b + i0) rfl rfl rfl ?_
  refine fg_Datagram_12_Datagram C t0 d_Da_id_1 (pc' := 4) rfl ?_
  refine pj_iconst C d_Da_id_4 (pc' := 5) rfl (v := 1) (by decide) ?_
  refine ck_Datagram_25_Row C (pl_Datagram_row t0) h d_Da_id_5 (pc' := 8) rfl ⟨Nat.le_of_ble_eq_true rfl, Nat.le_of_ble_eq_true rfl⟩ (Nat.le_of_ble_eq_true rfl) (fun r2 u1 h => ?_)
  exact pj_iret C hE d_Da_id_8 ⟨_, rfl, h⟩
def pw_Da_id (u : pj_M) (i0 : Nat) (K : Int32 → pj_M → Prop) : Prop := pb_Da_id_0  K u i0
theorem pc_Da_id (l : Launch) (D : va_G) (E : Nat → ClassId) {b : Nat} {u : pj_M} {i0 : Nat} {K : Int32 → pj_M → Prop} (t0 : pj_T i0 = 5) (h : pw_Da_id u i0 K) : pj_C l y_Da_id c_Da_id 1 (some .int) rm_Da_id D E b [.ref (b + i0)] u (pj_Ki K) := by
  refine pj_met (own := R_Da) (by decide +kernel) rfl (Nat.le_of_ble_eq_true rfl) (fun g hE C => ?_)
  unfold pw_Da_id at h
  show pj_J g (pj_N g b u) 0 [some (.ref (b + i0))] []
  exact pj_cut (pj_le_s pj_le_e) (pt_Da_id_0 C hE  t0 h)
/-! Datagram.readAttribute(II)Z -/
theorem fg_Datagram_44_Datagram {g : pj_G} {b : Nat} {cc : ByteArray} {nL : Nat} {ret : Option FieldType} {rm : Room} {u : pj_M} {pc pc' : Nat} {vs : List (Option Value)} {st : List Value} (C : pj_X g cc nL R_Da ret rm) {i : Nat} (t : pj_T i = 5) (hdg : decode cc pc = .ok (.getfield 44, 3)) (hp : pc + 3 = pc') (kk : pj_J g (pj_N g b u) pc' vs (.int (u i 4) :: st)) : pj_J g (pj_N g b u) pc vs (.ref (b + i) :: st) :=
  pj_get C cl_Datagram hin_Datagram (k := 4) (Nat.le_of_ble_eq_true rfl) wm_277 (Or.inl rfl) (pj_lt t (by decide)) (fun E => ko_5 t) rfl hdg hp kk
theorem fp_Datagram_44_Datagram {g : pj_G} {b : Nat} {cc : ByteArray} {nL : Nat} {ret : Option FieldType} {rm : Room} {u : pj_M} {pc pc' : Nat} {vs : List (Option Value)} {st : List Value} (C : pj_X g cc nL R_Da ret rm) {i : Nat} {x : Int32} {P : pj_M → Prop} (t : pj_T i = 5)  (hdg : decode cc pc = .ok (.putfield 44, 3)) (hp : pc + 3 = pc') (h : pj_put u i 4 x P) (kk : ∀ u', P u' → pj_J g (pj_N g b u') pc' vs st) : pj_J g (pj_N g b u) pc vs (.int x :: .ref (b + i) :: st) :=
  pj_putI C cl_Datagram hin_Datagram ty_Datagram tyok_Datagram nm_Datagram (k := 4) (Nat.le_of_ble_eq_true rfl) wm_277 (Or.inl rfl) rfl (ty := .int) (by decide +kernel) rfl rfl (pj_lt t (by decide)) (fun E u => ko_5 t) (F := fun f => [.ref (b + (i + 1)), .ref (b + (i + 3)), .int (f 2), .int (f 3), .int (f 4), .int (f 5), .int (f 6)]) (fun _ => Nat.le_of_ble_eq_true rfl) (fun _ _ => rfl) hdg hp h kk
theorem fg_Datagram_21_Datagram {g : pj_G} {b : Nat} {cc : ByteArray} {nL : Nat} {ret : Option FieldType} {rm : Room} {u : pj_M} {pc pc' : Nat} {vs : List (Option Value)} {st : List Value} (C : pj_X g cc nL R_Da ret rm) {i : Nat} (t : pj_T i = 5) (hdg : decode cc pc = .ok (.getfield 21, 3)) (hp : pc + 3 = pc') (kk : pj_J g (pj_N g b u) pc' vs (.ref (b + (i + 3)) :: st)) : pj_J g (pj_N g b u) pc vs (.ref (b + i) :: st) :=
  pj_get C cl_Datagram hin_Datagram (k := 1) (Nat.le_of_ble_eq_true rfl) wm_269 (Or.inl rfl) (pj_lt t (by decide)) (fun E => ko_5 t) rfl hdg hp kk
theorem fg_Datagram_40_Datagram {g : pj_G} {b : Nat} {cc : ByteArray} {nL : Nat} {ret : Option FieldType} {rm : Room} {u : pj_M} {pc pc' : Nat} {vs : List (Option Value)} {st : List Value} (C : pj_X g cc nL R_Da ret rm) {i : Nat} (t : pj_T i = 5) (hdg : decode cc pc = .ok (.getfield 40, 3)) (hp : pc + 3 = pc') (kk : pj_J g (pj_N g b u) pc' vs (.int (u i 3) :: st)) : pj_J g (pj_N g b u) pc vs (.ref (b + i) :: st) :=
  pj_get C cl_Datagram hin_Datagram (k := 3) (Nat.le_of_ble_eq_true rfl) wm_274 (Or.inl rfl) (pj_lt t (by decide)) (fun E => ko_5 t) rfl hdg hp kk
theorem fp_Datagram_40_Datagram {g : pj_G} {b : Nat} {cc : ByteArray} {nL : Nat} {ret : Option FieldType} {rm : Room} {u : pj_M} {pc pc' : Nat} {vs : List (Option Value)} {st : List Value} (C : pj_X g cc nL R_Da ret rm) {i : Nat} {x : Int32} {P : pj_M → Prop} (t : pj_T i = 5)  (hdg : decode cc pc = .ok (.putfield 40, 3)) (hp : pc + 3 = pc') (h : pj_put u i 3 x P) (kk : ∀ u', P u' → pj_J g (pj_N g b u') pc' vs st) : pj_J g (pj_N g b u) pc vs (.int x :: .ref (b + i) :: st) :=
  pj_putI C cl_Datagram hin_Datagram ty_Datagram tyok_Datagram nm_Datagram (k := 3) (Nat.le_of_ble_eq_true rfl) wm_274 (Or.inl rfl) rfl (ty := .int) (by decide +kernel) rfl rfl (pj_lt t (by decide)) (fun E u => ko_5 t) (F := fun f => [.ref (b + (i + 1)), .ref (b + (i + 3)), .int (f 2), .int (f 3), .int (f 4), .int (f 5), .int (f 6)]) (fun _ => Nat.le_of_ble_eq_true rfl) (fun _ _ => rfl) hdg hp h kk
theorem fg_Datagram_36_Datagram {g : pj_G} {b : Nat} {cc : ByteArray} {nL : Nat} {ret : Option FieldType} {rm : Room} {u : pj_M} {pc pc' : Nat} {vs : List (Option Value)} {st : List Value} (C : pj_X g cc nL R_Da ret rm) {i : Nat} (t : pj_T i = 5) (hdg : decode cc pc = .ok (.getfield 36, 3)) (hp : pc + 3 = pc') (kk : pj_J g (pj_N g b u) pc' vs (.int (u i 2) :: st)) : pj_J g (pj_N g b u) pc vs (.ref (b + i) :: st) :=
  pj_get C cl_Datagram hin_Datagram (k := 2) (Nat.le_of_ble_eq_true rfl) wm_272 (Or.inl rfl) (pj_lt t (by decide)) (fun E => ko_5 t) rfl hdg hp kk
theorem fp_Datagram_36_Datagram {g : pj_G} {b : Nat} {cc : ByteArray} {nL : Nat} {ret : Option FieldType} {rm : Room} {u : pj_M} {pc pc' : Nat} {vs : List (Option Value)} {st : List Value} (C : pj_X g cc nL R_Da ret rm) {i : Nat} {x : Int32} {P : pj_M → Prop} (t : pj_T i = 5) (hb : pj_bi x) (hdg : decode cc pc = .ok (.putfield 36, 3)) (hp : pc + 3 = pc') (h : pj_put u i 2 x P) (kk : ∀ u', P u' → pj_J g (pj_N g b u') pc' vs st) : pj_J g (pj_N g b u) pc vs (.int x :: .ref (b + i) :: st) :=
  pj_putI C cl_Datagram hin_Datagram ty_Datagram tyok_Datagram nm_Datagram (k := 2) (Nat.le_of_ble_eq_true rfl) wm_272 (Or.inl rfl) rfl (ty := .boolean) (by decide +kernel) hb.nar hb.fit (pj_lt t (by decide)) (fun E u => ko_5 t) (F := fun f => [.ref (b + (i + 1)), .ref (b + (i + 3)), .int (f 2), .int (f 3), .int (f 4), .int (f 5), .int (f 6)]) (fun _ => Nat.le_of_ble_eq_true rfl) (fun _ _ => rfl) hdg hp h kk
theorem ck_Datagram_70_Packet {g : pj_G} {b : Nat} {cc : ByteArray} {nL : Nat} {ret : Option FieldType} {rm : Room} {u : pj_M} {pc pc' : Nat} {vs : List (Option Value)} {st : List Value} (C : pj_X g cc nL R_Da ret rm) {i0 : Nat} {i1 : Nat} {x2 : Int32} {x3 : Int32} {K : pj_M → Prop} (t : pj_T i0 = 4) (t1 : pj_R i1) (h : pw_Ro_append u i0 i1 x2 x3 K) (hdg : decode cc pc = .ok (.invokevirtual 70, 3)) (hp : pc + 3 = pc') (hR : rm_Ro_append.frames + 1 ≤ rm.frames ∧ 8 + (5 + 11) + rm_Ro_append.locals ≤ rm.locals) (h8 : (st.map fun v => v.category).sum ≤ 8) (kk : ∀ u', K u' → pj_J g (pj_N g b u') pc' vs st) : pj_J g (pj_N g b u) pc vs (.int x3 :: .int x2 :: .ref (b + i1) :: .ref (b + i0) :: st) := by
  have t0 : pj_R i0 := Or.inr t
  exact pj_callU C (x := ⟨"PortGuard$Packet", "append", "(LPortGuard$Row;II)V"⟩) (owner := "PortGuard$Row") (As := [.ref (b + i1), .int x2, .int x3]) (fun l D E => pc_Ro_append l D E t0 t1 h) rfl rfl cl_Packet (pj_lt t (by decide)) (fun E => ko_4 t) rfl wm_892 wm_637 wm_714 wm_94 wm_641 wm_712 (by decide +kernel) (n := 3) rfl hR rfl h8 hdg hp (fun v u' hq => by obtain ⟨rfl, hk⟩ := hq; exact kk u' hk)
def rm_Da_readAttribute : Room := { frames := 1, cells := 0, slots := 0, locals := 24 }
def pb_Da_readAttribute_64  (K : Int32 → pj_M → Prop) (u : pj_M)  : Prop := K 0 u
set_option maxHeartbeats 1000000 in
theorem pt_Da_readAttribute_64 {g : pj_G} {b : Nat} (C : pj_X g c_Da_readAttribute 3 R_Da (some .boolean) rm_Da_readAttribute) {K : Int32 → pj_M → Prop} (hE : pj_E g b (pj_Ki K))   {u : pj_M}    (h : pb_Da_readAttribute_64  K u ) : pj_J g (pj_N g b u) 64 [none, none, none] [] := by
  unfold pb_Da_readAttribute_64 at h
  refine pj_iconst C d_Da_readAttribute_64 (pc' := 65) rfl (v := 0) (by decide) ?_
  exact pj_zret C hE d_Da_readAttribute_65 pj_bi0 ⟨_, rfl, h⟩
def pb_Da_readAttribute_66  (K : Int32 → pj_M → Prop) (u : pj_M) (i0 : Nat) : Prop := pj_put u i0 2 1 fun u1 => (K 1 u1)
set_option maxHeartbeats 1000000 in
theorem pt_Da_readAttribute_66 {g : pj_G} {b : Nat} (C : pj_X g c_Da_readAttribute 3 R_Da (some .boolean) rm_Da_readAttribute) {K : Int32 → pj_M → Prop} (hE : pj_E g b (pj_Ki K))   {u : pj_M} {i0 : Nat}  (t0 : pj_T i0 = 5) (h : pb_Da_readAttribute_66  K u i0) : pj_J g (pj_N g b u) 66 [some (.ref (b + i0)), none, none] [] := by
  unfold pb_Da_readAttribute_66 at h
  refine pj_aload_n C d_Da_readAttribute_66 (pc' := 67) (i := 0) (x := b + i0) rfl rfl rfl ?_
  refine pj_iconst C d_Da_readAttribute_67 (pc' := 68) rfl (v := 1) (by decide) ?_
  refine fp_Datagram_36_Datagram C t0 pj_bi1 d_Da_readAttribute_68 (pc' := 71) rfl h (fun u1 h => ?_)
  refine pj_iconst C d_Da_readAttribute_71 (pc' := 72) rfl (v := 1) (by decide) ?_
  exact pj_zret C hE d_Da_readAttribute_72 pj_bi1 ⟨_, rfl, h⟩
def pb_Da_readAttribute_57  (K : Int32 → pj_M → Prop) (u : pj_M) (i0 : Nat) : Prop := (((u i0 2) = 0) → (pb_Da_readAttribute_66  K u i0)) ∧ (¬ ((u i0 2) = 0) → (pb_Da_readAttribute_64  K u ))
set_option maxHeartbeats 1000000 in
theorem pt_Da_readAttribute_57 {g : pj_G} {b : Nat} (C : pj_X g c_Da_readAttribute 3 R_Da (some .boolean) rm_Da_readAttribute) {K : Int32 → pj_M → Prop} (hE : pj_E g b (pj_Ki K))   {u : pj_M} {i0 : Nat}  (t0 : pj_T i0 = 5) (h : pb_Da_readAttribute_57  K u i0) : pj_J g (pj_N g b u) 57 [some (.ref (b + i0)), none, none] [] := by
  unfold pb_Da_readAttribute_57 at h
  refine pj_aload_n C d_Da_readAttribute_57 (pc' := 58) (i := 0) (x := b + i0) rfl rfl rfl ?_
  refine fg_Datagram_36_Datagram C t0 d_Da_readAttribute_58 (pc' := 61) rfl ?_
  refine pj_if_eq C d_Da_readAttribute_61 (pc' := 64) rfl (tgt := 66) (by decide) h (fun h => ?_) (fun h => ?_)
  · exact pj_cut (pj_le_s (pj_le_n (pj_le_n pj_le_e))) (pt_Da_readAttribute_66 C hE  t0 h)
  · exact pj_cut (pj_le_n (pj_le_n (pj_le_n pj_le_e))) (pt_Da_readAttribute_64 C hE   h)
def pb_Da_readAttribute_52  (K : Int32 → pj_M → Prop) (u : pj_M) (i0 : Nat) (x2 : Int32) : Prop := ((x2 = 3) → (pb_Da_readAttribute_57  K u i0)) ∧ (¬ (x2 = 3) → (pb_Da_readAttribute_64  K u ))
set_option maxHeartbeats 1000000 in
theorem pt_Da_readAttribute_52 {g : pj_G} {b : Nat} (C : pj_X g c_Da_readAttribute 3 R_Da (some .boolean) rm_Da_readAttribute) {K : Int32 → pj_M → Prop} (hE : pj_E g b (pj_Ki K))   {u : pj_M} {i0 : Nat} {x2 : Int32}  (t0 : pj_T i0 = 5) (h : pb_Da_readAttribute_52  K u i0 x2) : pj_J g (pj_N g b u) 52 [some (.ref (b + i0)), none, some (.int x2)] [] := by
  unfold pb_Da_readAttribute_52 at h
  refine pj_iload_n C d_Da_readAttribute_52 (pc' := 53) (i := 2) (x := x2) rfl rfl rfl ?_
  refine pj_iconst C d_Da_readAttribute_53 (pc' := 54) rfl (v := 3) (by decide) ?_
  refine pj_icmp_ne C d_Da_readAttribute_54 (pc' := 57) rfl (tgt := 64) (by decide) h (fun h => ?_) (fun h => ?_)
  · exact pj_cut (pj_le_n (pj_le_n (pj_le_n pj_le_e))) (pt_Da_readAttribute_64 C hE   h)
  · exact pj_cut (pj_le_s (pj_le_n (pj_le_n pj_le_e))) (pt_Da_readAttribute_57 C hE  t0 h)
def pb_Da_readAttribute_86  (K : Int32 → pj_M → Prop) (u : pj_M)  : Prop := K 0 u
set_option maxHeartbeats 1000000 in
theorem pt_Da_readAttribute_86 {g : pj_G} {b : Nat} (C : pj_X g c_Da_readAttribute 3 R_Da (some .boolean) rm_Da_readAttribute) {K : Int32 → pj_M → Prop} (hE : pj_E g b (pj_Ki K))   {u : pj_M}    (h : pb_Da_readAttribute_86  K u ) : pj_J g (pj_N g b u) 86 [none, none, none] [] := by
  unfold pb_Da_readAttribute_86 at h
  refine pj_iconst C d_Da_readAttribute_86 (pc' := 87) rfl (v := 0) (by decide) ?_
  exact pj_zret C hE d_Da_readAttribute_87 pj_bi0 ⟨_, rfl, h⟩
def pb_Da_readAttribute_88  (K : Int32 → pj_M → Prop) (u : pj_M) (i0 : Nat) (x1 : Int32) : Prop := pw_Ro_at u (i0 + 1) (x1 + 2) fun r2 u1 => (pw_Ro_at u1 (i0 + 1) (x1 + 3) fun r4 u3 => (pj_put u3 i0 3 ((r2 <<< (8 &&& 31)) ||| r4) fun u5 => (K 1 u5)))
set_option maxHeartbeats 1000000 in
theorem pt_Da_readAttribute_88 {g : pj_G} {b : Nat} (C : pj_X g c_Da_readAttribute 3 R_Da (some .boolean) rm_Da_readAttribute) {K : Int32 → pj_M → Prop} (hE : pj_E g b (pj_Ki K))   {u : pj_M} {i0 : Nat} {x1 : Int32}  (t0 : pj_T i0 = 5) (h : pb_Da_readAttribute_88  K u i0 x1) : pj_J g (pj_N g b u) 88 [some (.ref (b + i0)), some (.int x1), none] [] := by
  unfold pb_Da_readAttribute_88 at h
  refine pj_aload_n C d_Da_readAttribute_88 (pc' := 89) (i := 0) (x := b + i0) rfl rfl rfl ?_
  refine pj_aload_n C d_Da_readAttribute_89 (pc' := 90) (i := 0) (x := b + i0) rfl rfl rfl ?_
  refine fg_Datagram_12_Datagram C t0 d_Da_readAttribute_90 (pc' := 93) rfl ?_
  refine pj_iload_n C d_Da_readAttribute_93 (pc' := 94) (i := 1) (x := x1) rfl rfl rfl ?_
  refine pj_iconst C d_Da_readAttribute_94 (pc' := 95) rfl (v := 2) (by decide) ?_
  refine pj_iadd C d_Da_readAttribute_95 (pc' := 96) rfl ?_
  refine ck_Datagram_25_Row C (pl_Datagram_row t0) h d_Da_readAttribute_96 (pc' := 99) rfl ⟨Nat.le_of_ble_eq_true rfl, Nat.le_of_ble_eq_true rfl⟩ (Nat.le_of_ble_eq_true rfl) (fun r2 u1 h => ?_)
  refine pj_bipush C d_Da_readAttribute_99 (pc' := 101) rfl (v := 8) (by decide) ?_
  refine pj_ishl C d_Da_readAttribute_101 (pc' := 102) rfl ?_
  refine pj_aload_n C d_Da_readAttribute_102 (pc' := 103) (i := 0) (x := b + i0) rfl rfl rfl ?_
  refine fg_Datagram_12_Datagram C t0 d_Da_readAttribute_103 (pc' := 106) rfl ?_
  refine pj_iload_n C d_Da_readAttribute_106 (pc' := 107) (i := 1) (x := x1) rfl rfl rfl ?_
  refine pj_iconst C d_Da_readAttribute_107 (pc' := 108) rfl (v := 3) (by decide) ?_
  refine pj_iadd C d_Da_readAttribute_108 (pc' := 109) rfl ?_
  refine ck_Datagram_25_Row C (pl_Datagram_row t0) h d_Da_readAttribute_109 (pc' := 112) rfl ⟨Nat.le_of_ble_eq_true rfl, Nat.le_of_ble_eq_true rfl⟩ (Nat.le_of_ble_eq_true rfl) (fun r4 u3 h => ?_)
  refine pj_ior C d_Da_readAttribute_112 (pc' := 113) rfl ?_
  refine fp_Datagram_40_Datagram C t0  d_Da_readAttribute_113 (pc' := 116) rfl h (fun u5 h => ?_)
  refine pj_iconst C d_Da_readAttribute_116 (pc' := 117) rfl (v := 1) (by decide) ?_
  exact pj_zret C hE d_Da_readAttribute_117 pj_bi1 ⟨_, rfl, h⟩
def pb_Da_readAttribute_78  (K : Int32 → pj_M → Prop) (u : pj_M) (i0 : Nat) (x1 : Int32) : Prop := (((u i0 3) = ((-1))) → (pb_Da_readAttribute_88  K u i0 x1)) ∧ (¬ ((u i0 3) = ((-1))) → (pb_Da_readAttribute_86  K u ))
set_option maxHeartbeats 1000000 in
theorem pt_Da_readAttribute_78 {g : pj_G} {b : Nat} (C : pj_X g c_Da_readAttribute 3 R_Da (some .boolean) rm_Da_readAttribute) {K : Int32 → pj_M → Prop} (hE : pj_E g b (pj_Ki K))   {u : pj_M} {i0 : Nat} {x1 : Int32}  (t0 : pj_T i0 = 5) (h : pb_Da_readAttribute_78  K u i0 x1) : pj_J g (pj_N g b u) 78 [some (.ref (b + i0)), some (.int x1), none] [] := by
  unfold pb_Da_readAttribute_78 at h
  refine pj_aload_n C d_Da_readAttribute_78 (pc' := 79) (i := 0) (x := b + i0) rfl rfl rfl ?_
  refine fg_Datagram_40_Datagram C t0 d_Da_readAttribute_79 (pc' := 82) rfl ?_
  refine pj_iconst C d_Da_readAttribute_82 (pc' := 83) rfl (v := (-1)) (by decide) ?_
  refine pj_icmp_eq C d_Da_readAttribute_83 (pc' := 86) rfl (tgt := 88) (by decide) h (fun h => ?_) (fun h => ?_)
  · exact pj_cut (pj_le_s (pj_le_s (pj_le_n pj_le_e))) (pt_Da_readAttribute_88 C hE  t0 h)
  · exact pj_cut (pj_le_n (pj_le_n (pj_le_n pj_le_e))) (pt_Da_readAttribute_86 C hE   h)
def pb_Da_readAttribute_73  (K : Int32 → pj_M → Prop) (u : pj_M) (i0 : Nat) (x1 : Int32) (x2 : Int32) : Prop := ((x2 = 4) → (pb_Da_readAttribute_78  K u i0 x1)) ∧ (¬ (x2 = 4) → (pb_Da_readAttribute_86  K u ))
set_option maxHeartbeats 1000000 in
theorem pt_Da_readAttribute_73 {g : pj_G} {b : Nat} (C : pj_X g c_Da_readAttribute 3 R_Da (some .boolean) rm_Da_readAttribute) {K : Int32 → pj_M → Prop} (hE : pj_E g b (pj_Ki K))   {u : pj_M} {i0 : Nat} {x1 : Int32} {x2 : Int32}  (t0 : pj_T i0 = 5) (h : pb_Da_readAttribute_73  K u i0 x1 x2) : pj_J g (pj_N g b u) 73 [some (.ref (b + i0)), some (.int x1), some (.int x2)] [] := by
  unfold pb_Da_readAttribute_73 at h
  refine pj_iload_n C d_Da_readAttribute_73 (pc' := 74) (i := 2) (x := x2) rfl rfl rfl ?_
  refine pj_iconst C d_Da_readAttribute_74 (pc' := 75) rfl (v := 4) (by decide) ?_
  refine pj_icmp_ne C d_Da_readAttribute_75 (pc' := 78) rfl (tgt := 86) (by decide) h (fun h => ?_) (fun h => ?_)
  · exact pj_cut (pj_le_n (pj_le_n (pj_le_n pj_le_e))) (pt_Da_readAttribute_86 C hE   h)
  · exact pj_cut (pj_le_s (pj_le_s (pj_le_n pj_le_e))) (pt_Da_readAttribute_78 C hE  t0 h)
def pb_Da_readAttribute_129  (K : Int32 → pj_M → Prop) (u : pj_M)  : Prop := K 0 u
set_option maxHeartbeats 1000000 in
theorem pt_Da_readAttribute_129 {g : pj_G} {b : Nat} (C : pj_X g c_Da_readAttribute 3 R_Da (some .boolean) rm_Da_readAttribute) {K : Int32 → pj_M → Prop} (hE : pj_E g b (pj_Ki K))   {u : pj_M}    (h : pb_Da_readAttribute_129  K u ) : pj_J g (pj_N g b u) 129 [none, none, none] [] := by
  unfold pb_Da_readAttribute_129 at h
  refine pj_iconst C d_Da_readAttribute_129 (pc' := 130) rfl (v := 0) (by decide) ?_
  exact pj_zret C hE d_Da_readAttribute_130 pj_bi0 ⟨_, rfl, h⟩
def pb_Da_readAttribute_131  (K : Int32 → pj_M → Prop) (u : pj_M) (i0 : Nat) (x1 : Int32) (x2 : Int32) : Prop := pw_Ro_append u (i0 + 3) (i0 + 1) (x1 + 2) (x2 - 2) fun u1 => (K 1 u1)
set_option maxHeartbeats 1000000 in
theorem pt_Da_readAttribute_131 {g : pj_G} {b : Nat} (C : pj_X g c_Da_readAttribute 3 R_Da (some .boolean) rm_Da_readAttribute) {K : Int32 → pj_M → Prop} (hE : pj_E g b (pj_Ki K))   {u : pj_M} {i0 : Nat} {x1 : Int32} {x2 : Int32}  (t0 : pj_T i0 = 5) (h : pb_Da_readAttribute_131  K u i0 x1 x2) : pj_J g (pj_N g b u) 131 [some (.ref (b + i0)), some (.int x1), some (.int x2)] [] := by
  unfold pb_Da_readAttribute_131 at h
  refine pj_aload_n C d_Da_readAttribute_131 (pc' := 132) (i := 0) (x := b + i0) rfl rfl rfl ?_
  refine fg_Datagram_21_Datagram C t0 d_Da_readAttribute_132 (pc' := 135) rfl ?_
  refine pj_aload_n C d_Da_readAttribute_135 (pc' := 136) (i := 0) (x := b + i0) rfl rfl rfl ?_
  refine fg_Datagram_12_Datagram C t0 d_Da_readAttribute_136 (pc' := 139) rfl ?_
  refine pj_iload_n C d_Da_readAttribute_139 (pc' := 140) (i := 1) (x := x1) rfl rfl rfl ?_
  refine pj_iconst C d_Da_readAttribute_140 (pc' := 141) rfl (v := 2) (by decide) ?_
  refine pj_iadd C d_Da_readAttribute_141 (pc' := 142) rfl ?_
  refine pj_iload_n C d_Da_readAttribute_142 (pc' := 143) (i := 2) (x := x2) rfl rfl rfl ?_
  refine pj_iconst C d_Da_readAttribute_143 (pc' := 144) rfl (v := 2) (by decide) ?_
  refine pj_isub C d_Da_readAttribute_144 (pc' := 145) rfl ?_
  refine ck_Datagram_70_Packet C (pl_Datagram_packet t0) (Or.inl (pl_Datagram_row t0)) h d_Da_readAttribute_145 (pc' := 148) rfl ⟨Nat.le_of_ble_eq_true rfl, Nat.le_of_ble_eq_true rfl⟩ (Nat.le_of_ble_eq_true rfl) (fun u1 h => ?_)
  refine pj_iconst C d_Da_readAttribute_148 (pc' := 149) rfl (v := 1) (by decide) ?_
  exact pj_zret C hE d_Da_readAttribute_149 pj_bi1 ⟨_, rfl, h⟩
def pb_Da_readAttribute_123  (K : Int32 → pj_M → Prop) (u : pj_M) (i0 : Nat) (x1 : Int32) (x2 : Int32) : Prop := ((x2 ≤ 10) → (pb_Da_readAttribute_131  K u i0 x1 x2)) ∧ (¬ (x2 ≤ 10) → (pb_Da_readAttribute_129  K u ))
set_option maxHeartbeats 1000000 in
theorem pt_Da_readAttribute_123 {g : pj_G} {b : Nat} (C : pj_X g c_Da_readAttribute 3 R_Da (some .boolean) rm_Da_readAttribute) {K : Int32 → pj_M → Prop} (hE : pj_E g b (pj_Ki K))   {u : pj_M} {i0 : Nat} {x1 : Int32} {x2 : Int32}  (t0 : pj_T i0 = 5) (h : pb_Da_readAttribute_123  K u i0 x1 x2) : pj_J g (pj_N g b u) 123 [some (.ref (b + i0)), some (.int x1), some (.int x2)] [] := by
  unfold pb_Da_readAttribute_123 at h
  refine pj_iload_n C d_Da_readAttribute_123 (pc' := 124) (i := 2) (x := x2) rfl rfl rfl ?_
  refine pj_bipush C d_Da_readAttribute_124 (pc' := 126) rfl (v := 10) (by decide) ?_
  refine pj_icmp_le C d_Da_readAttribute_126 (pc' := 129) rfl (tgt := 131) (by decide) h (fun h => ?_) (fun h => ?_)
  · exact pj_cut (pj_le_s (pj_le_s (pj_le_s pj_le_e))) (pt_Da_readAttribute_131 C hE  t0 h)
  · exact pj_cut (pj_le_n (pj_le_n (pj_le_n pj_le_e))) (pt_Da_readAttribute_129 C hE   h)
def pb_Da_readAttribute_118  (K : Int32 → pj_M → Prop) (u : pj_M) (i0 : Nat) (x1 : Int32) (x2 : Int32) : Prop := ((x2 < 3) → (pb_Da_readAttribute_129  K u )) ∧ (¬ (x2 < 3) → (pb_Da_readAttribute_123  K u i0 x1 x2))
set_option maxHeartbeats 1000000 in
theorem pt_Da_readAttribute_118 {g : pj_G} {b : Nat} (C : pj_X g c_Da_readAttribute 3 R_Da (some .boolean) rm_Da_readAttribute) {K : Int32 → pj_M → Prop} (hE : pj_E g b (pj_Ki K))   {u : pj_M} {i0 : Nat} {x1 : Int32} {x2 : Int32}  (t0 : pj_T i0 = 5) (h : pb_Da_readAttribute_118  K u i0 x1 x2) : pj_J g (pj_N g b u) 118 [some (.ref (b + i0)), some (.int x1), some (.int x2)] [] := by
  unfold pb_Da_readAttribute_118 at h
  refine pj_iload_n C d_Da_readAttribute_118 (pc' := 119) (i := 2) (x := x2) rfl rfl rfl ?_
  refine pj_iconst C d_Da_readAttribute_119 (pc' := 120) rfl (v := 3) (by decide) ?_
  refine pj_icmp_lt C d_Da_readAttribute_120 (pc' := 123) rfl (tgt := 129) (by decide) h (fun h => ?_) (fun h => ?_)
  · exact pj_cut (pj_le_n (pj_le_n (pj_le_n pj_le_e))) (pt_Da_readAttribute_129 C hE   h)
  · exact pj_cut (pj_le_s (pj_le_s (pj_le_s pj_le_e))) (pt_Da_readAttribute_123 C hE  t0 h)
def pb_Da_readAttribute_164  (K : Int32 → pj_M → Prop) (u : pj_M)  : Prop := K 0 u
set_option maxHeartbeats 1000000 in
theorem pt_Da_readAttribute_164 {g : pj_G} {b : Nat} (C : pj_X g c_Da_readAttribute 3 R_Da (some .boolean) rm_Da_readAttribute) {K : Int32 → pj_M → Prop} (hE : pj_E g b (pj_Ki K))   {u : pj_M}    (h : pb_Da_readAttribute_164  K u ) : pj_J g (pj_N g b u) 164 [none, none, none] [] := by
  unfold pb_Da_readAttribute_164 at h
  refine pj_iconst C d_Da_readAttribute_164 (pc' := 165) rfl (v := 0) (by decide) ?_
  exact pj_zret C hE d_Da_readAttribute_165 pj_bi0 ⟨_, rfl, h⟩
def pb_Da_readAttribute_166  (K : Int32 → pj_M → Prop) (u : pj_M) (i0 : Nat) (x1 : Int32) : Prop := pj_put u i0 4 (x1 + 2) fun u1 => (K 1 u1)
set_option maxHeartbeats 1000000 in
theorem pt_Da_readAttribute_166 {g : pj_G} {b : Nat} (C : pj_X g c_Da_readAttribute 3 R_Da (some .boolean) rm_Da_readAttribute) {K : Int32 → pj_M → Prop} (hE : pj_E g b (pj_Ki K))   {u : pj_M} {i0 : Nat} {x1 : Int32}  (t0 : pj_T i0 = 5) (h : pb_Da_readAttribute_166  K u i0 x1) : pj_J g (pj_N g b u) 166 [some (.ref (b + i0)), some (.int x1), none] [] := by
  unfold pb_Da_readAttribute_166 at h
  refine pj_aload_n C d_Da_readAttribute_166 (pc' := 167) (i := 0) (x := b + i0) rfl rfl rfl ?_
  refine pj_iload_n C d_Da_readAttribute_167 (pc' := 168) (i := 1) (x := x1) rfl rfl rfl ?_
  refine pj_iconst C d_Da_readAttribute_168 (pc' := 169) rfl (v := 2) (by decide) ?_
  refine pj_iadd C d_Da_readAttribute_169 (pc' := 170) rfl ?_
  refine fp_Datagram_44_Datagram C t0  d_Da_readAttribute_170 (pc' := 173) rfl h (fun u1 h => ?_)
  refine pj_iconst C d_Da_readAttribute_173 (pc' := 174) rfl (v := 1) (by decide) ?_
  exact pj_zret C hE d_Da_readAttribute_174 pj_bi1 ⟨_, rfl, h⟩
def pb_Da_readAttribute_156  (K : Int32 → pj_M → Prop) (u : pj_M) (i0 : Nat) (x1 : Int32) : Prop := (((u i0 4) = ((-1))) → (pb_Da_readAttribute_166  K u i0 x1)) ∧ (¬ ((u i0 4) = ((-1))) → (pb_Da_readAttribute_164  K u ))
set_option maxHeartbeats 1000000 in
theorem pt_Da_readAttribute_156 {g : pj_G} {b : Nat} (C : pj_X g c_Da_readAttribute 3 R_Da (some .boolean) rm_Da_readAttribute) {K : Int32 → pj_M → Prop} (hE : pj_E g b (pj_Ki K))   {u : pj_M} {i0 : Nat} {x1 : Int32}  (t0 : pj_T i0 = 5) (h : pb_Da_readAttribute_156  K u i0 x1) : pj_J g (pj_N g b u) 156 [some (.ref (b + i0)), some (.int x1), none] [] := by
  unfold pb_Da_readAttribute_156 at h
  refine pj_aload_n C d_Da_readAttribute_156 (pc' := 157) (i := 0) (x := b + i0) rfl rfl rfl ?_
  refine fg_Datagram_44_Datagram C t0 d_Da_readAttribute_157 (pc' := 160) rfl ?_
  refine pj_iconst C d_Da_readAttribute_160 (pc' := 161) rfl (v := (-1)) (by decide) ?_
  refine pj_icmp_eq C d_Da_readAttribute_161 (pc' := 164) rfl (tgt := 166) (by decide) h (fun h => ?_) (fun h => ?_)
  · exact pj_cut (pj_le_s (pj_le_s (pj_le_n pj_le_e))) (pt_Da_readAttribute_166 C hE  t0 h)
  · exact pj_cut (pj_le_n (pj_le_n (pj_le_n pj_le_e))) (pt_Da_readAttribute_164 C hE   h)
def pb_Da_readAttribute_150  (K : Int32 → pj_M → Prop) (u : pj_M) (i0 : Nat) (x1 : Int32) (x2 : Int32) : Prop := ((x2 = 6) → (pb_Da_readAttribute_156  K u i0 x1)) ∧ (¬ (x2 = 6) → (pb_Da_readAttribute_164  K u ))
set_option maxHeartbeats 1000000 in
theorem pt_Da_readAttribute_150 {g : pj_G} {b : Nat} (C : pj_X g c_Da_readAttribute 3 R_Da (some .boolean) rm_Da_readAttribute) {K : Int32 → pj_M → Prop} (hE : pj_E g b (pj_Ki K))   {u : pj_M} {i0 : Nat} {x1 : Int32} {x2 : Int32}  (t0 : pj_T i0 = 5) (h : pb_Da_readAttribute_150  K u i0 x1 x2) : pj_J g (pj_N g b u) 150 [some (.ref (b + i0)), some (.int x1), some (.int x2)] [] := by
  unfold pb_Da_readAttribute_150 at h
  refine pj_iload_n C d_Da_readAttribute_150 (pc' := 151) (i := 2) (x := x2) rfl rfl rfl ?_
  refine pj_bipush C d_Da_readAttribute_151 (pc' := 153) rfl (v := 6) (by decide) ?_
  refine pj_icmp_ne C d_Da_readAttribute_153 (pc' := 156) rfl (tgt := 164) (by decide) h (fun h => ?_) (fun h => ?_)
  · exact pj_cut (pj_le_n (pj_le_n (pj_le_n pj_le_e))) (pt_Da_readAttribute_164 C hE   h)
  · exact pj_cut (pj_le_s (pj_le_s (pj_le_n pj_le_e))) (pt_Da_readAttribute_156 C hE  t0 h)
def pb_Da_readAttribute_175  (K : Int32 → pj_M → Prop) (u : pj_M)  : Prop := K 0 u
set_option maxHeartbeats 1000000 in
theorem pt_Da_readAttribute_175 {g : pj_G} {b : Nat} (C : pj_X g c_Da_readAttribute 3 R_Da (some .boolean) rm_Da_readAttribute) {K : Int32 → pj_M → Prop} (hE : pj_E g b (pj_Ki K))   {u : pj_M}    (h : pb_Da_readAttribute_175  K u ) : pj_J g (pj_N g b u) 175 [none, none, none] [] := by
  unfold pb_Da_readAttribute_175 at h
  refine pj_iconst C d_Da_readAttribute_175 (pc' := 176) rfl (v := 0) (by decide) ?_
  exact pj_zret C hE d_Da_readAttribute_176 pj_bi0 ⟨_, rfl, h⟩
def pb_Da_readAttribute_0  (K : Int32 → pj_M → Prop) (u : pj_M) (i0 : Nat) (x1 : Int32) (x2 : Int32) : Prop := pw_Ro_at u (i0 + 1) x1 fun r2 u1 => (((r2 = 1) → (pb_Da_readAttribute_52  K u1 i0 x2)) ∧ (¬ (r2 = 1) → ((r2 = 24) → (pb_Da_readAttribute_73  K u1 i0 x1 x2)) ∧ (¬ (r2 = 24) → ((r2 = 79) → (pb_Da_readAttribute_118  K u1 i0 x1 x2)) ∧ (¬ (r2 = 79) → ((r2 = 80) → (pb_Da_readAttribute_150  K u1 i0 x1 x2)) ∧ (¬ (r2 = 80) → (pb_Da_readAttribute_175  K u1 ))))))
set_option maxHeartbeats 1000000 in
theorem pt_Da_readAttribute_0 {g : pj_G} {b : Nat} (C : pj_X g c_Da_readAttribute 3 R_Da (some .boolean) rm_Da_readAttribute) {K : Int32 → pj_M → Prop} (hE : pj_E g b (pj_Ki K))   {u : pj_M} {i0 : Nat} {x1 : Int32} {x2 : Int32}  (t0 : pj_T i0 = 5) (h : pb_Da_readAttribute_0  K u i0 x1 x2) : pj_J g (pj_N g b u) 0 [some (.ref (b + i0)), some (.int x1), some (.int x2)] [] := by
  unfold pb_Da_readAttribute_0 at h
  refine pj_aload_n C d_Da_readAttribute_0 (pc' := 1) (i := 0) (x := b + i0) rfl rfl rfl ?_
  refine fg_Datagram_12_Datagram C t0 d_Da_readAttribute_1 (pc' := 4) rfl ?_
  refine pj_iload_n C d_Da_readAttribute_4 (pc' := 5) (i := 1) (x := x1) rfl rfl rfl ?_
  refine ck_Datagram_25_Row C (pl_Datagram_row t0) h d_Da_readAttribute_5 (pc' := 8) rfl ⟨Nat.le_of_ble_eq_true rfl, Nat.le_of_ble_eq_true rfl⟩ (Nat.le_of_ble_eq_true rfl) (fun r2 u1 h => ?_)
  by_cases e0 : r2 = 1
  · have h := h.1 e0
    refine pj_lk C d_Da_readAttribute_8 (by decide) (tgt := 52) (off := 44) (by rw [e0]; decide) (by decide) ?_
    exact pj_cut (pj_le_s (pj_le_n (pj_le_s pj_le_e))) (pt_Da_readAttribute_52 C hE  t0 h)
  have h := h.2 e0
  by_cases e1 : r2 = 24
  · have h := h.1 e1
    refine pj_lk C d_Da_readAttribute_8 (by decide) (tgt := 73) (off := 65) (by rw [e1]; decide) (by decide) ?_
    exact pj_cut (pj_le_s (pj_le_s (pj_le_s pj_le_e))) (pt_Da_readAttribute_73 C hE  t0 h)
  have h := h.2 e1
  by_cases e2 : r2 = 79
  · have h := h.1 e2
    refine pj_lk C d_Da_readAttribute_8 (by decide) (tgt := 118) (off := 110) (by rw [e2]; decide) (by decide) ?_
    exact pj_cut (pj_le_s (pj_le_s (pj_le_s pj_le_e))) (pt_Da_readAttribute_118 C hE  t0 h)
  have h := h.2 e2
  by_cases e3 : r2 = 80
  · have h := h.1 e3
    refine pj_lk C d_Da_readAttribute_8 (by decide) (tgt := 150) (off := 142) (by rw [e3]; decide) (by decide) ?_
    exact pj_cut (pj_le_s (pj_le_s (pj_le_s pj_le_e))) (pt_Da_readAttribute_150 C hE  t0 h)
  have h := h.2 e3
  have z0 := lv_neT (a := 1) e0 (by decide)
  have z1 := lv_neT (a := 24) e1 (by decide)
  have z2 := lv_neT (a := 79) e2 (by decide)
  have z3 := lv_neT (a := 80) e3 (by decide)
  refine pj_lk C d_Da_readAttribute_8 (by decide) (tgt := 175) (off := 167) (by rw [lv_osw e0 (by decide), lv_osw e1 (by decide), lv_osw e2 (by decide), lv_osw e3 (by decide)]; rfl) (by decide) ?_
  exact pj_cut (pj_le_n (pj_le_n (pj_le_n pj_le_e))) (pt_Da_readAttribute_175 C hE   h)
def pw_Da_readAttribute (u : pj_M) (i0 : Nat) (x1 : Int32) (x2 : Int32) (K : Int32 → pj_M → Prop) : Prop := pb_Da_readAttribute_0  K u i0 x1 x2
theorem pc_Da_readAttribute (l : Launch) (D : va_G) (E : Nat → ClassId) {b : Nat} {u : pj_M} {i0 : Nat} {x1 : Int32} {x2 : Int32} {K : Int32 → pj_M → Prop} (t0 : pj_T i0 = 5) (h : pw_Da_readAttribute u i0 x1 x2 K) : pj_C l y_Da_readAttribute c_Da_readAttribute 3 (some .boolean) rm_Da_readAttribute D E b [.ref (b + i0), .int x1, .int x2] u (pj_Ki K) := by
  refine pj_met (own := R_Da) (by decide +kernel) rfl (Nat.le_of_ble_eq_true rfl) (fun g hE C => ?_)
  unfold pw_Da_readAttribute at h
  show pj_J g (pj_N g b u) 0 [some (.ref (b + i0)), some (.int x1), some (.int x2)] []
  exact pj_cut (pj_le_s (pj_le_s (pj_le_s pj_le_e))) (pt_Da_readAttribute_0 C hE  t0 h)
/-! Datagram.readAttributes()Z -/
theorem fg_Datagram_47_Row {g : pj_G} {b : Nat} {cc : ByteArray} {nL : Nat} {ret : Option FieldType} {rm : Room} {u : pj_M} {pc pc' : Nat} {vs : List (Option Value)} {st : List Value} (C : pj_X g cc nL R_Da ret rm) {i : Nat} (t : pj_T i = 3) (hdg : decode cc pc = .ok (.getfield 47, 3)) (hp : pc + 3 = pc') (kk : pj_J g (pj_N g b u) pc' vs (.int (u i 1) :: st)) : pj_J g (pj_N g b u) pc vs (.ref (b + i) :: st) :=
  pj_get C cl_Row hin_Row (k := 1) (Nat.le_of_ble_eq_true rfl) wm_153 (Or.inl rfl) (pj_lt t (by decide)) (fun E => ko_3 t) rfl hdg hp kk
theorem ck_Datagram_66_Datagram {g : pj_G} {b : Nat} {cc : ByteArray} {nL : Nat} {ret : Option FieldType} {rm : Room} {u : pj_M} {pc pc' : Nat} {vs : List (Option Value)} {st : List Value} (C : pj_X g cc nL R_Da ret rm) {i0 : Nat} {x1 : Int32} {x2 : Int32} {K : Int32 → pj_M → Prop} (t0 : pj_T i0 = 5) (h : pw_Da_readAttribute u i0 x1 x2 K) (hdg : decode cc pc = .ok (.invokevirtual 66, 3)) (hp : pc + 3 = pc') (hR : rm_Da_readAttribute.frames + 1 ≤ rm.frames ∧ 8 + (3 + 11) + rm_Da_readAttribute.locals ≤ rm.locals) (h8 : (st.map fun v => v.category).sum ≤ 8) (kk : ∀ r u', K r u' → pj_J g (pj_N g b u') pc' vs (.int r :: st)) : pj_J g (pj_N g b u) pc vs (.int x2 :: .int x1 :: .ref (b + i0) :: st) :=
  pj_callV C (As := [.int x1, .int x2]) (fun l D E => pc_Da_readAttribute l D E t0 h) rfl rfl cl_Datagram (pj_lt t0 (by decide)) (fun E => ko_5 t0) wm_888 wm_890 wm_17 wm_98 wm_891 (by decide +kernel) (n := 2) rfl hR rfl h8 hdg hp (fun v u' hq => by obtain ⟨r, rfl, hk⟩ := hq; exact kk r u' hk)
def rm_Da_readAttributes : Room := { frames := 2, cells := 0, slots := 0, locals := 46 }
def pb_Da_readAttributes_80  (K : Int32 → pj_M → Prop) (u : pj_M) (s0 : Int32) : Prop := pj_bi s0 ∧ K s0 u
set_option maxHeartbeats 1000000 in
theorem pt_Da_readAttributes_80 {g : pj_G} {b : Nat} (C : pj_X g c_Da_readAttributes 4 R_Da (some .boolean) rm_Da_readAttributes) {K : Int32 → pj_M → Prop} (hE : pj_E g b (pj_Ki K))   {u : pj_M} {s0 : Int32}   (h : pb_Da_readAttributes_80  K u s0) : pj_J g (pj_N g b u) 80 [none, none, none, none] [.int s0] := by
  unfold pb_Da_readAttributes_80 at h
  exact pj_zret C hE d_Da_readAttributes_80 h.1 ⟨_, rfl, h.2⟩
def pb_Da_readAttributes_79  (K : Int32 → pj_M → Prop) (u : pj_M)  : Prop := pb_Da_readAttributes_80  K u 0
set_option maxHeartbeats 1000000 in
theorem pt_Da_readAttributes_79 {g : pj_G} {b : Nat} (C : pj_X g c_Da_readAttributes 4 R_Da (some .boolean) rm_Da_readAttributes) {K : Int32 → pj_M → Prop} (hE : pj_E g b (pj_Ki K))   {u : pj_M}    (h : pb_Da_readAttributes_79  K u ) : pj_J g (pj_N g b u) 79 [none, none, none, none] [] := by
  unfold pb_Da_readAttributes_79 at h
  refine pj_iconst C d_Da_readAttributes_79 (pc' := 80) rfl (v := 0) (by decide) ?_
  exact pj_cut (pj_le_n (pj_le_n (pj_le_n (pj_le_n pj_le_e)))) (pt_Da_readAttributes_80 C hE   h)
def pb_Da_readAttributes_75  (K : Int32 → pj_M → Prop) (u : pj_M)  : Prop := pb_Da_readAttributes_80  K u 1
set_option maxHeartbeats 1000000 in
theorem pt_Da_readAttributes_75 {g : pj_G} {b : Nat} (C : pj_X g c_Da_readAttributes 4 R_Da (some .boolean) rm_Da_readAttributes) {K : Int32 → pj_M → Prop} (hE : pj_E g b (pj_Ki K))   {u : pj_M}    (h : pb_Da_readAttributes_75  K u ) : pj_J g (pj_N g b u) 75 [none, none, none, none] [] := by
  unfold pb_Da_readAttributes_75 at h
  refine pj_iconst C d_Da_readAttributes_75 (pc' := 76) rfl (v := 1) (by decide) ?_
  refine pj_goto C d_Da_readAttributes_76 (tgt := 80) (by decide) ?_
  exact pj_cut (pj_le_n (pj_le_n (pj_le_n (pj_le_n pj_le_e)))) (pt_Da_readAttributes_80 C hE   h)
def pb_Da_readAttributes_67  (K : Int32 → pj_M → Prop) (u : pj_M) (i0 : Nat) : Prop := (((u i0 4) = ((-1))) → (pb_Da_readAttributes_79  K u )) ∧ (¬ ((u i0 4) = ((-1))) → (pb_Da_readAttributes_75  K u ))
set_option maxHeartbeats 1000000 in
theorem pt_Da_readAttributes_67 {g : pj_G} {b : Nat} (C : pj_X g c_Da_readAttributes 4 R_Da (some .boolean) rm_Da_readAttributes) {K : Int32 → pj_M → Prop} (hE : pj_E g b (pj_Ki K))   {u : pj_M} {i0 : Nat}  (t0 : pj_T i0 = 5) (h : pb_Da_readAttributes_67  K u i0) : pj_J g (pj_N g b u) 67 [some (.ref (b + i0)), none, none, none] [] := by
  unfold pb_Da_readAttributes_67 at h
  refine pj_aload_n C d_Da_readAttributes_67 (pc' := 68) (i := 0) (x := b + i0) rfl rfl rfl ?_
  refine fg_Datagram_44_Datagram C t0 d_Da_readAttributes_68 (pc' := 71) rfl ?_
  refine pj_iconst C d_Da_readAttributes_71 (pc' := 72) rfl (v := (-1)) (by decide) ?_
  refine pj_icmp_eq C d_Da_readAttributes_72 (pc' := 75) rfl (tgt := 79) (by decide) h (fun h => ?_) (fun h => ?_)
  · exact pj_cut (pj_le_n (pj_le_n (pj_le_n (pj_le_n pj_le_e)))) (pt_Da_readAttributes_79 C hE   h)
  · exact pj_cut (pj_le_n (pj_le_n (pj_le_n (pj_le_n pj_le_e)))) (pt_Da_readAttributes_75 C hE   h)
def pb_Da_readAttributes_55  (K : Int32 → pj_M → Prop) (u : pj_M)  : Prop := K 0 u
set_option maxHeartbeats 1000000 in
theorem pt_Da_readAttributes_55 {g : pj_G} {b : Nat} (C : pj_X g c_Da_readAttributes 4 R_Da (some .boolean) rm_Da_readAttributes) {K : Int32 → pj_M → Prop} (hE : pj_E g b (pj_Ki K))   {u : pj_M}    (h : pb_Da_readAttributes_55  K u ) : pj_J g (pj_N g b u) 55 [none, none, none, none] [] := by
  unfold pb_Da_readAttributes_55 at h
  refine pj_iconst C d_Da_readAttributes_55 (pc' := 56) rfl (v := 0) (by decide) ?_
  exact pj_zret C hE d_Da_readAttributes_56 pj_bi0 ⟨_, rfl, h⟩
def pb_Da_readAttributes_57 (R5 : pj_M → Int32 → Int32 → Prop) (K : Int32 → pj_M → Prop) (u : pj_M) (i0 : Nat) (x1 : Int32) (x2 : Int32) (x3 : Int32) : Prop := pj_let (x1 + x3) fun y1 => (R5 u y1 (x2 + 1))
set_option maxHeartbeats 1000000 in
theorem pt_Da_readAttributes_57 {g : pj_G} {b : Nat} (C : pj_X g c_Da_readAttributes 4 R_Da (some .boolean) rm_Da_readAttributes) {K : Int32 → pj_M → Prop} (hE : pj_E g b (pj_Ki K)) {R5 : pj_M → Int32 → Int32 → Prop}  {u : pj_M} {i0 : Nat} {x1 : Int32} {x2 : Int32} {x3 : Int32} (hR5 : ∀ (u : pj_M) (x1 : Int32) (x2 : Int32), R5 u x1 x2 → pj_J g (pj_N g b u) 5 [some (.ref (b + i0)), some (.int x1), some (.int x2), none] []) (t0 : pj_T i0 = 5) (h : pb_Da_readAttributes_57 R5 K u i0 x1 x2 x3) : pj_J g (pj_N g b u) 57 [some (.ref (b + i0)), some (.int x1), some (.int x2), some (.int x3)] [] := by
  unfold pb_Da_readAttributes_57 at h
  refine pj_iload_n C d_Da_readAttributes_57 (pc' := 58) (i := 1) (x := x1) rfl rfl rfl ?_
  refine pj_iload_n C d_Da_readAttributes_58 (pc' := 59) (i := 3) (x := x3) rfl rfl rfl ?_
  refine pj_iadd C d_Da_readAttributes_59 (pc' := 60) rfl ?_
  refine pj_name h (fun y1 h => ?_)
  refine pj_istore_n C d_Da_readAttributes_60 (pc' := 61) (i := 1) (vs' := [some (.ref (b + i0)), some (.int y1), some (.int x2), some (.int x3)]) rfl rfl (Nat.le_of_ble_eq_true rfl) (Nat.le_of_ble_eq_true rfl) rfl rfl ?_
  refine pj_iinc C d_Da_readAttributes_61 (pc' := 64) (x := x2) (d := 1) (vs' := [some (.ref (b + i0)), some (.int y1), some (.int (x2 + 1)), some (.int x3)]) rfl rfl (Nat.le_of_ble_eq_true rfl) rfl (by decide) rfl ?_
  refine pj_goto C d_Da_readAttributes_64 (tgt := 5) (by decide) ?_
  exact pj_cut (pj_le_s (pj_le_s (pj_le_s (pj_le_n pj_le_e)))) (hR5 _ _ _ h)
def pb_Da_readAttributes_46 (R5 : pj_M → Int32 → Int32 → Prop) (K : Int32 → pj_M → Prop) (u : pj_M) (i0 : Nat) (x1 : Int32) (x2 : Int32) (x3 : Int32) : Prop := pw_Da_readAttribute u i0 x1 x3 fun r2 u1 => (((r2 = 0) → (pb_Da_readAttributes_55  K u1 )) ∧ (¬ (r2 = 0) → (pb_Da_readAttributes_57 R5 K u1 i0 x1 x2 x3)))
set_option maxHeartbeats 1000000 in
theorem pt_Da_readAttributes_46 {g : pj_G} {b : Nat} (C : pj_X g c_Da_readAttributes 4 R_Da (some .boolean) rm_Da_readAttributes) {K : Int32 → pj_M → Prop} (hE : pj_E g b (pj_Ki K)) {R5 : pj_M → Int32 → Int32 → Prop}  {u : pj_M} {i0 : Nat} {x1 : Int32} {x2 : Int32} {x3 : Int32} (hR5 : ∀ (u : pj_M) (x1 : Int32) (x2 : Int32), R5 u x1 x2 → pj_J g (pj_N g b u) 5 [some (.ref (b + i0)), some (.int x1), some (.int x2), none] []) (t0 : pj_T i0 = 5) (h : pb_Da_readAttributes_46 R5 K u i0 x1 x2 x3) : pj_J g (pj_N g b u) 46 [some (.ref (b + i0)), some (.int x1), some (.int x2), some (.int x3)] [] := by
  unfold pb_Da_readAttributes_46 at h
  refine pj_aload_n C d_Da_readAttributes_46 (pc' := 47) (i := 0) (x := b + i0) rfl rfl rfl ?_
  refine pj_iload_n C d_Da_readAttributes_47 (pc' := 48) (i := 1) (x := x1) rfl rfl rfl ?_
  refine pj_iload_n C d_Da_readAttributes_48 (pc' := 49) (i := 3) (x := x3) rfl rfl rfl ?_
  refine ck_Datagram_66_Datagram C t0 h d_Da_readAttributes_49 (pc' := 52) rfl ⟨Nat.le_of_ble_eq_true rfl, Nat.le_of_ble_eq_true rfl⟩ (Nat.le_of_ble_eq_true rfl) (fun r2 u1 h => ?_)
  refine pj_if_ne C d_Da_readAttributes_52 (pc' := 55) rfl (tgt := 57) (by decide) h (fun h => ?_) (fun h => ?_)
  · exact pj_cut (pj_le_s (pj_le_s (pj_le_s (pj_le_s pj_le_e)))) (pt_Da_readAttributes_57 C hE hR5 t0 h)
  · exact pj_cut (pj_le_n (pj_le_n (pj_le_n (pj_le_n pj_le_e)))) (pt_Da_readAttributes_55 C hE   h)
def pb_Da_readAttributes_22 (R5 : pj_M → Int32 → Int32 → Prop) (K : Int32 → pj_M → Prop) (u : pj_M) (i0 : Nat) (x1 : Int32) (x2 : Int32) : Prop := pw_Ro_at u (i0 + 1) (x1 + 1) fun r2 u1 => ((((u1 (i0 + 1) 1) < (x1 + r2)) → (pb_Da_readAttributes_55  K u1 )) ∧ (¬ ((u1 (i0 + 1) 1) < (x1 + r2)) → (pb_Da_readAttributes_46 R5 K u1 i0 x1 x2 r2)))
set_option maxHeartbeats 1000000 in
theorem pt_Da_readAttributes_22 {g : pj_G} {b : Nat} (C : pj_X g c_Da_readAttributes 4 R_Da (some .boolean) rm_Da_readAttributes) {K : Int32 → pj_M → Prop} (hE : pj_E g b (pj_Ki K)) {R5 : pj_M → Int32 → Int32 → Prop}  {u : pj_M} {i0 : Nat} {x1 : Int32} {x2 : Int32} (hR5 : ∀ (u : pj_M) (x1 : Int32) (x2 : Int32), R5 u x1 x2 → pj_J g (pj_N g b u) 5 [some (.ref (b + i0)), some (.int x1), some (.int x2), none] []) (t0 : pj_T i0 = 5) (h : pb_Da_readAttributes_22 R5 K u i0 x1 x2) : pj_J g (pj_N g b u) 22 [some (.ref (b + i0)), some (.int x1), some (.int x2), none] [] := by
  unfold pb_Da_readAttributes_22 at h
  refine pj_aload_n C d_Da_readAttributes_22 (pc' := 23) (i := 0) (x := b + i0) rfl rfl rfl ?_
  refine fg_Datagram_12_Datagram C t0 d_Da_readAttributes_23 (pc' := 26) rfl ?_
  refine pj_iload_n C d_Da_readAttributes_26 (pc' := 27) (i := 1) (x := x1) rfl rfl rfl ?_
  refine pj_iconst C d_Da_readAttributes_27 (pc' := 28) rfl (v := 1) (by decide) ?_
  refine pj_iadd C d_Da_readAttributes_28 (pc' := 29) rfl ?_
  refine ck_Datagram_25_Row C (pl_Datagram_row t0) h d_Da_readAttributes_29 (pc' := 32) rfl ⟨Nat.le_of_ble_eq_true rfl, Nat.le_of_ble_eq_true rfl⟩ (Nat.le_of_ble_eq_true rfl) (fun r2 u1 h => ?_)
  refine pj_istore_n C d_Da_readAttributes_32 (pc' := 33) (i := 3) (vs' := [some (.ref (b + i0)), some (.int x1), some (.int x2), some (.int r2)]) rfl rfl (Nat.le_of_ble_eq_true rfl) (Nat.le_of_ble_eq_true rfl) rfl rfl ?_
  refine pj_iload_n C d_Da_readAttributes_33 (pc' := 34) (i := 1) (x := x1) rfl rfl rfl ?_
  refine pj_iload_n C d_Da_readAttributes_34 (pc' := 35) (i := 3) (x := r2) rfl rfl rfl ?_
  refine pj_iadd C d_Da_readAttributes_35 (pc' := 36) rfl ?_
  refine pj_aload_n C d_Da_readAttributes_36 (pc' := 37) (i := 0) (x := b + i0) rfl rfl rfl ?_
  refine fg_Datagram_12_Datagram C t0 d_Da_readAttributes_37 (pc' := 40) rfl ?_
  refine fg_Datagram_47_Row C (pl_Datagram_row t0) d_Da_readAttributes_40 (pc' := 43) rfl ?_
  refine pj_icmp_gt C d_Da_readAttributes_43 (pc' := 46) rfl (tgt := 55) (by decide) h (fun h => ?_) (fun h => ?_)
  · exact pj_cut (pj_le_n (pj_le_n (pj_le_n (pj_le_n pj_le_e)))) (pt_Da_readAttributes_55 C hE   h)
  · exact pj_cut (pj_le_s (pj_le_s (pj_le_s (pj_le_s pj_le_e)))) (pt_Da_readAttributes_46 C hE hR5 t0 h)
def pb_Da_readAttributes_11 (R5 : pj_M → Int32 → Int32 → Prop) (K : Int32 → pj_M → Prop) (u : pj_M) (i0 : Nat) (x1 : Int32) (x2 : Int32) : Prop := (((u (i0 + 1) 1) ≤ x1) → (pb_Da_readAttributes_67  K u i0)) ∧ (¬ ((u (i0 + 1) 1) ≤ x1) → (pb_Da_readAttributes_22 R5 K u i0 x1 x2))
set_option maxHeartbeats 1000000 in
theorem pt_Da_readAttributes_11 {g : pj_G} {b : Nat} (C : pj_X g c_Da_readAttributes 4 R_Da (some .boolean) rm_Da_readAttributes) {K : Int32 → pj_M → Prop} (hE : pj_E g b (pj_Ki K)) {R5 : pj_M → Int32 → Int32 → Prop}  {u : pj_M} {i0 : Nat} {x1 : Int32} {x2 : Int32} (hR5 : ∀ (u : pj_M) (x1 : Int32) (x2 : Int32), R5 u x1 x2 → pj_J g (pj_N g b u) 5 [some (.ref (b + i0)), some (.int x1), some (.int x2), none] []) (t0 : pj_T i0 = 5) (h : pb_Da_readAttributes_11 R5 K u i0 x1 x2) : pj_J g (pj_N g b u) 11 [some (.ref (b + i0)), some (.int x1), some (.int x2), none] [] := by
  unfold pb_Da_readAttributes_11 at h
  refine pj_iload_n C d_Da_readAttributes_11 (pc' := 12) (i := 1) (x := x1) rfl rfl rfl ?_
  refine pj_aload_n C d_Da_readAttributes_12 (pc' := 13) (i := 0) (x := b + i0) rfl rfl rfl ?_
  refine fg_Datagram_12_Datagram C t0 d_Da_readAttributes_13 (pc' := 16) rfl ?_
  refine fg_Datagram_47_Row C (pl_Datagram_row t0) d_Da_readAttributes_16 (pc' := 19) rfl ?_
  refine pj_icmp_ge C d_Da_readAttributes_19 (pc' := 22) rfl (tgt := 67) (by decide) h (fun h => ?_) (fun h => ?_)
  · exact pj_cut (pj_le_s (pj_le_n (pj_le_n (pj_le_n pj_le_e)))) (pt_Da_readAttributes_67 C hE  t0 h)
  · exact pj_cut (pj_le_s (pj_le_s (pj_le_s (pj_le_n pj_le_e)))) (pt_Da_readAttributes_22 C hE hR5 t0 h)
def pb_Da_readAttributes_5b (R5 : pj_M → Int32 → Int32 → Prop) (K : Int32 → pj_M → Prop) (u : pj_M) (i0 : Nat) (x1 : Int32) (x2 : Int32) : Prop := ((48 ≤ x2) → (pb_Da_readAttributes_67  K u i0)) ∧ (¬ (48 ≤ x2) → (pb_Da_readAttributes_11 R5 K u i0 x1 x2))
set_option maxHeartbeats 1000000 in
theorem pt_Da_readAttributes_5b {g : pj_G} {b : Nat} (C : pj_X g c_Da_readAttributes 4 R_Da (some .boolean) rm_Da_readAttributes) {K : Int32 → pj_M → Prop} (hE : pj_E g b (pj_Ki K)) {R5 : pj_M → Int32 → Int32 → Prop}  {u : pj_M} {i0 : Nat} {x1 : Int32} {x2 : Int32} (hR5 : ∀ (u : pj_M) (x1 : Int32) (x2 : Int32), R5 u x1 x2 → pj_J g (pj_N g b u) 5 [some (.ref (b + i0)), some (.int x1), some (.int x2), none] []) (t0 : pj_T i0 = 5) (h : pb_Da_readAttributes_5b R5 K u i0 x1 x2) : pj_J g (pj_N g b u) 5 [some (.ref (b + i0)), some (.int x1), some (.int x2), none] [] := by
  unfold pb_Da_readAttributes_5b at h
  refine pj_iload_n C d_Da_readAttributes_5 (pc' := 6) (i := 2) (x := x2) rfl rfl rfl ?_
  refine pj_bipush C d_Da_readAttributes_6 (pc' := 8) rfl (v := 48) (by decide) ?_
  refine pj_icmp_ge C d_Da_readAttributes_8 (pc' := 11) rfl (tgt := 67) (by decide) h (fun h => ?_) (fun h => ?_)
  · exact pj_cut (pj_le_s (pj_le_n (pj_le_n (pj_le_n pj_le_e)))) (pt_Da_readAttributes_67 C hE  t0 h)
  · exact pj_cut (pj_le_s (pj_le_s (pj_le_s (pj_le_n pj_le_e)))) (pt_Da_readAttributes_11 C hE hR5 t0 h)
def pb_Da_readAttributes_5  (K : Int32 → pj_M → Prop) (i0 : Nat) : Nat → pj_M → Int32 → Int32 → Prop
  | 0 => fun _ _ _ => False
  | n + 1 => fun u x1 x2 => pb_Da_readAttributes_5b (pb_Da_readAttributes_5  K i0 n) K u i0 x1 x2
theorem pt_Da_readAttributes_5 {g : pj_G} {b : Nat} (C : pj_X g c_Da_readAttributes 4 R_Da (some .boolean) rm_Da_readAttributes) {K : Int32 → pj_M → Prop} (hE : pj_E g b (pj_Ki K))  {i0 : Nat}  (t0 : pj_T i0 = 5) : ∀ (n : Nat) (u : pj_M) (x1 : Int32) (x2 : Int32), pb_Da_readAttributes_5  K i0 n u x1 x2 → pj_J g (pj_N g b u) 5 [some (.ref (b + i0)), some (.int x1), some (.int x2), none] [] := by
  intro n
  induction n with
  | zero => intro u x1 x2 h; exact False.elim h
  | succ n ih =>
    intro u x1 x2 h
    exact (pt_Da_readAttributes_5b C hE ih t0 h)
def pb_Da_readAttributes_0  (K : Int32 → pj_M → Prop) (u : pj_M) (i0 : Nat) : Prop := ∃ n, pb_Da_readAttributes_5  K i0 n u 7 0
set_option maxHeartbeats 1000000 in
theorem pt_Da_readAttributes_0 {g : pj_G} {b : Nat} (C : pj_X g c_Da_readAttributes 4 R_Da (some .boolean) rm_Da_readAttributes) {K : Int32 → pj_M → Prop} (hE : pj_E g b (pj_Ki K))   {u : pj_M} {i0 : Nat}  (t0 : pj_T i0 = 5) (h : pb_Da_readAttributes_0  K u i0) : pj_J g (pj_N g b u) 0 [some (.ref (b + i0)), none, none, none] [] := by
  unfold pb_Da_readAttributes_0 at h
  refine pj_bipush C d_Da_readAttributes_0 (pc' := 2) rfl (v := 7) (by decide) ?_
  refine pj_istore_n C d_Da_readAttributes_2 (pc' := 3) (i := 1) (vs' := [some (.ref (b + i0)), some (.int 7), none, none]) rfl rfl (Nat.le_of_ble_eq_true rfl) (Nat.le_of_ble_eq_true rfl) rfl rfl ?_
  refine pj_iconst C d_Da_readAttributes_3 (pc' := 4) rfl (v := 0) (by decide) ?_
  refine pj_istore_n C d_Da_readAttributes_4 (pc' := 5) (i := 2) (vs' := [some (.ref (b + i0)), some (.int 7), some (.int 0), none]) rfl rfl (Nat.le_of_ble_eq_true rfl) (Nat.le_of_ble_eq_true rfl) rfl rfl ?_
  obtain ⟨n, h⟩ := h
  exact pj_cut (pj_le_s (pj_le_s (pj_le_s (pj_le_n pj_le_e)))) (pt_Da_readAttributes_5 C hE  t0 n _ _ _ h)
def pw_Da_readAttributes (u : pj_M) (i0 : Nat) (K : Int32 → pj_M → Prop) : Prop := pb_Da_readAttributes_0  K u i0
theorem pc_Da_readAttributes (l : Launch) (D : va_G) (E : Nat → ClassId) {b : Nat} {u : pj_M} {i0 : Nat} {K : Int32 → pj_M → Prop} (t0 : pj_T i0 = 5) (h : pw_Da_readAttributes u i0 K) : pj_C l y_Da_readAttributes c_Da_readAttributes 4 (some .boolean) rm_Da_readAttributes D E b [.ref (b + i0)] u (pj_Ki K) := by
  refine pj_met (own := R_Da) (by decide +kernel) rfl (Nat.le_of_ble_eq_true rfl) (fun g hE C => ?_)
  unfold pw_Da_readAttributes at h
  show pj_J g (pj_N g b u) 0 [some (.ref (b + i0)), none, none, none] []
  exact pj_cut (pj_le_s (pj_le_n (pj_le_n (pj_le_n pj_le_e)))) (pt_Da_readAttributes_0 C hE  t0 h)
/-! Datagram.read(LPortGuard$Row;)Z -/
theorem fp_Datagram_57_Datagram {g : pj_G} {b : Nat} {cc : ByteArray} {nL : Nat} {ret : Option FieldType} {rm : Room} {u : pj_M} {pc pc' : Nat} {vs : List (Option Value)} {st : List Value} (C : pj_X g cc nL R_Da ret rm) {i : Nat} {x : Int32} {P : pj_M → Prop} (t : pj_T i = 5)  (hdg : decode cc pc = .ok (.putfield 57, 3)) (hp : pc + 3 = pc') (h : pj_put u i 5 x P) (kk : ∀ u', P u' → pj_J g (pj_N g b u') pc' vs st) : pj_J g (pj_N g b u) pc vs (.int x :: .ref (b + i) :: st) :=
  pj_putI C cl_Datagram hin_Datagram ty_Datagram tyok_Datagram nm_Datagram (k := 5) (Nat.le_of_ble_eq_true rfl) wm_279 (Or.inl rfl) rfl (ty := .int) (by decide +kernel) rfl rfl (pj_lt t (by decide)) (fun E u => ko_5 t) (F := fun f => [.ref (b + (i + 1)), .ref (b + (i + 3)), .int (f 2), .int (f 3), .int (f 4), .int (f 5), .int (f 6)]) (fun _ => Nat.le_of_ble_eq_true rfl) (fun _ _ => rfl) hdg hp h kk
theorem fp_Datagram_60_Datagram {g : pj_G} {b : Nat} {cc : ByteArray} {nL : Nat} {ret : Option FieldType} {rm : Room} {u : pj_M} {pc pc' : Nat} {vs : List (Option Value)} {st : List Value} (C : pj_X g cc nL R_Da ret rm) {i : Nat} {x : Int32} {P : pj_M → Prop} (t : pj_T i = 5)  (hdg : decode cc pc = .ok (.putfield 60, 3)) (hp : pc + 3 = pc') (h : pj_put u i 6 x P) (kk : ∀ u', P u' → pj_J g (pj_N g b u') pc' vs st) : pj_J g (pj_N g b u) pc vs (.int x :: .ref (b + i) :: st) :=
  pj_putI C cl_Datagram hin_Datagram ty_Datagram tyok_Datagram nm_Datagram (k := 6) (Nat.le_of_ble_eq_true rfl) wm_280 (Or.inl rfl) rfl (ty := .int) (by decide +kernel) rfl rfl (pj_lt t (by decide)) (fun E u => ko_5 t) (F := fun f => [.ref (b + (i + 1)), .ref (b + (i + 3)), .int (f 2), .int (f 3), .int (f 4), .int (f 5), .int (f 6)]) (fun _ => Nat.le_of_ble_eq_true rfl) (fun _ _ => rfl) hdg hp h kk
theorem ck_Datagram_29_Row {g : pj_G} {b : Nat} {cc : ByteArray} {nL : Nat} {ret : Option FieldType} {rm : Room} {u : pj_M} {pc pc' : Nat} {vs : List (Option Value)} {st : List Value} (C : pj_X g cc nL R_Da ret rm) {i0 : Nat} {i1 : Nat} {K : pj_M → Prop} (t : pj_T i0 = 3) (t1 : pj_R i1) (h : pw_Ro_copy u i0 i1 K) (hdg : decode cc pc = .ok (.invokevirtual 29, 3)) (hp : pc + 3 = pc') (hR : rm_Ro_copy.frames + 1 ≤ rm.frames ∧ 8 + (2 + 11) + rm_Ro_copy.locals ≤ rm.locals) (h8 : (st.map fun v => v.category).sum ≤ 8) (kk : ∀ u', K u' → pj_J g (pj_N g b u') pc' vs st) : pj_J g (pj_N g b u) pc vs (.ref (b + i1) :: .ref (b + i0) :: st) := by
  have t0 : pj_R i0 := Or.inl t
  exact pj_callV C (As := [.ref (b + i1)]) (fun l D E => pc_Ro_copy l D E t0 t1 h) rfl rfl cl_Row (pj_lt t (by decide)) (fun E => ko_3 t) wm_881 wm_684 wm_685 wm_94 wm_688 (by decide +kernel) (n := 1) rfl hR rfl h8 hdg hp (fun v u' hq => by obtain ⟨rfl, hk⟩ := hq; exact kk u' hk)
theorem ck_Datagram_33_Packet {g : pj_G} {b : Nat} {cc : ByteArray} {nL : Nat} {ret : Option FieldType} {rm : Room} {u : pj_M} {pc pc' : Nat} {vs : List (Option Value)} {st : List Value} (C : pj_X g cc nL R_Da ret rm) {i0 : Nat} {K : pj_M → Prop} (t : pj_T i0 = 4) (h : pw_Ro_clear u i0 K) (hdg : decode cc pc = .ok (.invokevirtual 33, 3)) (hp : pc + 3 = pc') (hR : rm_Ro_clear.frames + 1 ≤ rm.frames ∧ 8 + (1 + 11) + rm_Ro_clear.locals ≤ rm.locals) (h8 : (st.map fun v => v.category).sum ≤ 8) (kk : ∀ u', K u' → pj_J g (pj_N g b u') pc' vs st) : pj_J g (pj_N g b u) pc vs (.ref (b + i0) :: st) := by
  have t0 : pj_R i0 := Or.inr t
  exact pj_callU C (x := ⟨"PortGuard$Packet", "clear", "()V"⟩) (owner := "PortGuard$Row") (As := []) (fun l D E => pc_Ro_clear l D E t0 h) rfl rfl cl_Packet (pj_lt t (by decide)) (fun E => ko_4 t) rfl wm_882 wm_583 wm_613 wm_94 wm_587 wm_611 (by decide +kernel) (n := 0) rfl hR rfl h8 hdg hp (fun v u' hq => by obtain ⟨rfl, hk⟩ := hq; exact kk u' hk)
theorem ck_Datagram_50_Datagram {g : pj_G} {b : Nat} {cc : ByteArray} {nL : Nat} {ret : Option FieldType} {rm : Room} {u : pj_M} {pc pc' : Nat} {vs : List (Option Value)} {st : List Value} (C : pj_X g cc nL R_Da ret rm) {i0 : Nat} {K : Int32 → pj_M → Prop} (t0 : pj_T i0 = 5) (h : pw_Da_readAttributes u i0 K) (hdg : decode cc pc = .ok (.invokevirtual 50, 3)) (hp : pc + 3 = pc') (hR : rm_Da_readAttributes.frames + 1 ≤ rm.frames ∧ 8 + (4 + 11) + rm_Da_readAttributes.locals ≤ rm.locals) (h8 : (st.map fun v => v.category).sum ≤ 8) (kk : ∀ r u', K r u' → pj_J g (pj_N g b u') pc' vs (.int r :: st)) : pj_J g (pj_N g b u) pc vs (.ref (b + i0) :: st) :=
  pj_callV C (As := []) (fun l D E => pc_Da_readAttributes l D E t0 h) rfl rfl cl_Datagram (pj_lt t0 (by decide)) (fun E => ko_5 t0) wm_884 wm_886 wm_16 wm_98 wm_887 (by decide +kernel) (n := 0) rfl hR rfl h8 hdg hp (fun v u' hq => by obtain ⟨r, rfl, hk⟩ := hq; exact kk r u' hk)
theorem ck_Datagram_54_Row {g : pj_G} {b : Nat} {cc : ByteArray} {nL : Nat} {ret : Option FieldType} {rm : Room} {u : pj_M} {pc pc' : Nat} {vs : List (Option Value)} {st : List Value} (C : pj_X g cc nL R_Da ret rm) {i0 : Nat} {x1 : Int32} {K : Int32 → pj_M → Prop} (t : pj_T i0 = 3) (h : pw_Ro_intAt u i0 x1 K) (hdg : decode cc pc = .ok (.invokevirtual 54, 3)) (hp : pc + 3 = pc') (hR : rm_Ro_intAt.frames + 1 ≤ rm.frames ∧ 8 + (4 + 11) + rm_Ro_intAt.locals ≤ rm.locals) (h8 : (st.map fun v => v.category).sum ≤ 8) (kk : ∀ r u', K r u' → pj_J g (pj_N g b u') pc' vs (.int r :: st)) : pj_J g (pj_N g b u) pc vs (.int x1 :: .ref (b + i0) :: st) := by
  have t0 : pj_R i0 := Or.inl t
  exact pj_callV C (As := [.int x1]) (fun l D E => pc_Ro_intAt l D E t0 h) rfl rfl cl_Row (pj_lt t (by decide)) (fun E => ko_3 t) wm_893 wm_839 wm_1639 wm_94 wm_840 (by decide +kernel) (n := 1) rfl hR rfl h8 hdg hp (fun v u' hq => by obtain ⟨r, rfl, hk⟩ := hq; exact kk r u' hk)
theorem ck_Datagram_63_Packet {g : pj_G} {b : Nat} {cc : ByteArray} {nL : Nat} {ret : Option FieldType} {rm : Room} {u : pj_M} {pc pc' : Nat} {vs : List (Option Value)} {st : List Value} (C : pj_X g cc nL R_Da ret rm) {i0 : Nat} {K : Int32 → pj_M → Prop} (t0 : pj_T i0 = 4) (h : pw_Pa_isRight u i0 K) (hdg : decode cc pc = .ok (.invokevirtual 63, 3)) (hp : pc + 3 = pc') (hR : rm_Pa_isRight.frames + 1 ≤ rm.frames ∧ 8 + (1 + 11) + rm_Pa_isRight.locals ≤ rm.locals) (h8 : (st.map fun v => v.category).sum ≤ 8) (kk : ∀ r u', K r u' → pj_J g (pj_N g b u') pc' vs (.int r :: st)) : pj_J g (pj_N g b u) pc vs (.ref (b + i0) :: st) :=
  pj_callV C (As := []) (fun l D E => pc_Pa_isRight l D E t0 h) rfl rfl cl_Packet (pj_lt t0 (by decide)) (fun E => ko_4 t0) wm_894 wm_716 wm_717 wm_96 wm_718 (by decide +kernel) (n := 0) rfl hR rfl h8 hdg hp (fun v u' hq => by obtain ⟨r, rfl, hk⟩ := hq; exact kk r u' hk)
def rm_Da_read : Room := { frames := 3, cells := 0, slots := 0, locals := 81 }
def pb_Da_read_67  (K : Int32 → pj_M → Prop) (u : pj_M)  : Prop := K 0 u
set_option maxHeartbeats 1000000 in
theorem pt_Da_read_67 {g : pj_G} {b : Nat} (C : pj_X g c_Da_read 2 R_Da (some .boolean) rm_Da_read) {K : Int32 → pj_M → Prop} (hE : pj_E g b (pj_Ki K))   {u : pj_M}    (h : pb_Da_read_67  K u ) : pj_J g (pj_N g b u) 67 [none, none] [] := by
  unfold pb_Da_read_67 at h
  refine pj_iconst C d_Da_read_67 (pc' := 68) rfl (v := 0) (by decide) ?_
  exact pj_zret C hE d_Da_read_68 pj_bi0 ⟨_, rfl, h⟩
def pb_Da_read_69  (K : Int32 → pj_M → Prop) (u : pj_M) (i0 : Nat) : Prop := pw_Ro_intAt u (i0 + 1) 3 fun r2 u1 => (pj_put u1 i0 5 r2 fun u3 => (pw_Ro_intAt u3 (i0 + 1) (u3 i0 4) fun r5 u4 => (pj_put u4 i0 6 r5 fun u6 => (pw_Pa_isRight u6 (i0 + 3) fun r8 u7 => (pj_bi r8 ∧ K r8 u7)))))
set_option maxHeartbeats 1000000 in
theorem pt_Da_read_69 {g : pj_G} {b : Nat} (C : pj_X g c_Da_read 2 R_Da (some .boolean) rm_Da_read) {K : Int32 → pj_M → Prop} (hE : pj_E g b (pj_Ki K))   {u : pj_M} {i0 : Nat}  (t0 : pj_T i0 = 5) (h : pb_Da_read_69  K u i0) : pj_J g (pj_N g b u) 69 [some (.ref (b + i0)), none] [] := by
  unfold pb_Da_read_69 at h
  refine pj_aload_n C d_Da_read_69 (pc' := 70) (i := 0) (x := b + i0) rfl rfl rfl ?_
  refine pj_aload_n C d_Da_read_70 (pc' := 71) (i := 0) (x := b + i0) rfl rfl rfl ?_
  refine fg_Datagram_12_Datagram C t0 d_Da_read_71 (pc' := 74) rfl ?_
  refine pj_iconst C d_Da_read_74 (pc' := 75) rfl (v := 3) (by decide) ?_
  refine ck_Datagram_54_Row C (pl_Datagram_row t0) h d_Da_read_75 (pc' := 78) rfl ⟨Nat.le_of_ble_eq_true rfl, Nat.le_of_ble_eq_true rfl⟩ (Nat.le_of_ble_eq_true rfl) (fun r2 u1 h => ?_)
  refine fp_Datagram_57_Datagram C t0  d_Da_read_78 (pc' := 81) rfl h (fun u3 h => ?_)
  refine pj_aload_n C d_Da_read_81 (pc' := 82) (i := 0) (x := b + i0) rfl rfl rfl ?_
  refine pj_aload_n C d_Da_read_82 (pc' := 83) (i := 0) (x := b + i0) rfl rfl rfl ?_
  refine fg_Datagram_12_Datagram C t0 d_Da_read_83 (pc' := 86) rfl ?_
  refine pj_aload_n C d_Da_read_86 (pc' := 87) (i := 0) (x := b + i0) rfl rfl rfl ?_
  refine fg_Datagram_44_Datagram C t0 d_Da_read_87 (pc' := 90) rfl ?_
  refine ck_Datagram_54_Row C (pl_Datagram_row t0) h d_Da_read_90 (pc' := 93) rfl ⟨Nat.le_of_ble_eq_true rfl, Nat.le_of_ble_eq_true rfl⟩ (Nat.le_of_ble_eq_true rfl) (fun r5 u4 h => ?_)
  refine fp_Datagram_60_Datagram C t0  d_Da_read_93 (pc' := 96) rfl h (fun u6 h => ?_)
  refine pj_aload_n C d_Da_read_96 (pc' := 97) (i := 0) (x := b + i0) rfl rfl rfl ?_
  refine fg_Datagram_21_Datagram C t0 d_Da_read_97 (pc' := 100) rfl ?_
  refine ck_Datagram_63_Packet C (pl_Datagram_packet t0) h d_Da_read_100 (pc' := 103) rfl ⟨Nat.le_of_ble_eq_true rfl, Nat.le_of_ble_eq_true rfl⟩ (Nat.le_of_ble_eq_true rfl) (fun r8 u7 h => ?_)
  exact pj_zret C hE d_Da_read_103 h.1 ⟨_, rfl, h.2⟩
def pb_Da_read_60  (K : Int32 → pj_M → Prop) (u : pj_M) (i0 : Nat) : Prop := pw_Da_readAttributes u i0 fun r2 u1 => (((r2 = 0) → (pb_Da_read_67  K u1 )) ∧ (¬ (r2 = 0) → (pb_Da_read_69  K u1 i0)))
set_option maxHeartbeats 1000000 in
theorem pt_Da_read_60 {g : pj_G} {b : Nat} (C : pj_X g c_Da_read 2 R_Da (some .boolean) rm_Da_read) {K : Int32 → pj_M → Prop} (hE : pj_E g b (pj_Ki K))   {u : pj_M} {i0 : Nat}  (t0 : pj_T i0 = 5) (h : pb_Da_read_60  K u i0) : pj_J g (pj_N g b u) 60 [some (.ref (b + i0)), none] [] := by
  unfold pb_Da_read_60 at h
  refine pj_aload_n C d_Da_read_60 (pc' := 61) (i := 0) (x := b + i0) rfl rfl rfl ?_
  refine ck_Datagram_50_Datagram C t0 h d_Da_read_61 (pc' := 64) rfl ⟨Nat.le_of_ble_eq_true rfl, Nat.le_of_ble_eq_true rfl⟩ (Nat.le_of_ble_eq_true rfl) (fun r2 u1 h => ?_)
  refine pj_if_ne C d_Da_read_64 (pc' := 67) rfl (tgt := 69) (by decide) h (fun h => ?_) (fun h => ?_)
  · exact pj_cut (pj_le_s (pj_le_n pj_le_e)) (pt_Da_read_69 C hE  t0 h)
  · exact pj_cut (pj_le_n (pj_le_n pj_le_e)) (pt_Da_read_67 C hE   h)
def pb_Da_read_42  (K : Int32 → pj_M → Prop) (u : pj_M) (i0 : Nat) : Prop := pw_Ro_at u (i0 + 1) 2 fun r2 u1 => (((r2 = (u1 (i0 + 1) 1)) → (pb_Da_read_60  K u1 i0)) ∧ (¬ (r2 = (u1 (i0 + 1) 1)) → (pb_Da_read_67  K u1 )))
set_option maxHeartbeats 1000000 in
theorem pt_Da_read_42 {g : pj_G} {b : Nat} (C : pj_X g c_Da_read 2 R_Da (some .boolean) rm_Da_read) {K : Int32 → pj_M → Prop} (hE : pj_E g b (pj_Ki K))   {u : pj_M} {i0 : Nat}  (t0 : pj_T i0 = 5) (h : pb_Da_read_42  K u i0) : pj_J g (pj_N g b u) 42 [some (.ref (b + i0)), none] [] := by
  unfold pb_Da_read_42 at h
  refine pj_aload_n C d_Da_read_42 (pc' := 43) (i := 0) (x := b + i0) rfl rfl rfl ?_
  refine fg_Datagram_12_Datagram C t0 d_Da_read_43 (pc' := 46) rfl ?_
  refine pj_iconst C d_Da_read_46 (pc' := 47) rfl (v := 2) (by decide) ?_
  refine ck_Datagram_25_Row C (pl_Datagram_row t0) h d_Da_read_47 (pc' := 50) rfl ⟨Nat.le_of_ble_eq_true rfl, Nat.le_of_ble_eq_true rfl⟩ (Nat.le_of_ble_eq_true rfl) (fun r2 u1 h => ?_)
  refine pj_aload_n C d_Da_read_50 (pc' := 51) (i := 0) (x := b + i0) rfl rfl rfl ?_
  refine fg_Datagram_12_Datagram C t0 d_Da_read_51 (pc' := 54) rfl ?_
  refine fg_Datagram_47_Row C (pl_Datagram_row t0) d_Da_read_54 (pc' := 57) rfl ?_
  refine pj_icmp_ne C d_Da_read_57 (pc' := 60) rfl (tgt := 67) (by decide) h (fun h => ?_) (fun h => ?_)
  · exact pj_cut (pj_le_n (pj_le_n pj_le_e)) (pt_Da_read_67 C hE   h)
  · exact pj_cut (pj_le_s (pj_le_n pj_le_e)) (pt_Da_read_60 C hE  t0 h)
def pb_Da_read_0  (K : Int32 → pj_M → Prop) (u : pj_M) (i0 : Nat) (i1 : Nat) : Prop := pw_Ro_copy u (i0 + 1) i1 fun u1 => (pw_Ro_clear u1 (i0 + 3) fun u2 => (pj_put u2 i0 2 0 fun u3 => (pj_put u3 i0 3 ((-1)) fun u4 => (pj_put u4 i0 4 ((-1)) fun u5 => ((((u5 (i0 + 1) 1) < 7) → (pb_Da_read_67  K u5 )) ∧ (¬ ((u5 (i0 + 1) 1) < 7) → (pb_Da_read_42  K u5 i0)))))))
set_option maxHeartbeats 1000000 in
theorem pt_Da_read_0 {g : pj_G} {b : Nat} (C : pj_X g c_Da_read 2 R_Da (some .boolean) rm_Da_read) {K : Int32 → pj_M → Prop} (hE : pj_E g b (pj_Ki K))   {u : pj_M} {i0 : Nat} {i1 : Nat}  (t0 : pj_T i0 = 5) (t1 : pj_R i1) (h : pb_Da_read_0  K u i0 i1) : pj_J g (pj_N g b u) 0 [some (.ref (b + i0)), some (.ref (b + i1))] [] := by
  unfold pb_Da_read_0 at h
  refine pj_aload_n C d_Da_read_0 (pc' := 1) (i := 0) (x := b + i0) rfl rfl rfl ?_
  refine fg_Datagram_12_Datagram C t0 d_Da_read_1 (pc' := 4) rfl ?_
  refine pj_aload_n C d_Da_read_4 (pc' := 5) (i := 1) (x := b + i1) rfl rfl rfl ?_
  refine ck_Datagram_29_Row C (pl_Datagram_row t0) t1 h d_Da_read_5 (pc' := 8) rfl ⟨Nat.le_of_ble_eq_true rfl, Nat.le_of_ble_eq_true rfl⟩ (Nat.le_of_ble_eq_true rfl) (fun u1 h => ?_)
  refine pj_aload_n C d_Da_read_8 (pc' := 9) (i := 0) (x := b + i0) rfl rfl rfl ?_
  refine fg_Datagram_21_Datagram C t0 d_Da_read_9 (pc' := 12) rfl ?_
  refine ck_Datagram_33_Packet C (pl_Datagram_packet t0) h d_Da_read_12 (pc' := 15) rfl ⟨Nat.le_of_ble_eq_true rfl, Nat.le_of_ble_eq_true rfl⟩ (Nat.le_of_ble_eq_true rfl) (fun u2 h => ?_)
  refine pj_aload_n C d_Da_read_15 (pc' := 16) (i := 0) (x := b + i0) rfl rfl rfl ?_
  refine pj_iconst C d_Da_read_16 (pc' := 17) rfl (v := 0) (by decide) ?_
  refine fp_Datagram_36_Datagram C t0 pj_bi0 d_Da_read_17 (pc' := 20) rfl h (fun u3 h => ?_)
  refine pj_aload_n C d_Da_read_20 (pc' := 21) (i := 0) (x := b + i0) rfl rfl rfl ?_
  refine pj_iconst C d_Da_read_21 (pc' := 22) rfl (v := (-1)) (by decide) ?_
  refine fp_Datagram_40_Datagram C t0  d_Da_read_22 (pc' := 25) rfl h (fun u4 h => ?_)
  refine pj_aload_n C d_Da_read_25 (pc' := 26) (i := 0) (x := b + i0) rfl rfl rfl ?_
  refine pj_iconst C d_Da_read_26 (pc' := 27) rfl (v := (-1)) (by decide) ?_
  refine fp_Datagram_44_Datagram C t0  d_Da_read_27 (pc' := 30) rfl h (fun u5 h => ?_)
  refine pj_aload_n C d_Da_read_30 (pc' := 31) (i := 0) (x := b + i0) rfl rfl rfl ?_
  refine fg_Datagram_12_Datagram C t0 d_Da_read_31 (pc' := 34) rfl ?_
  refine fg_Datagram_47_Row C (pl_Datagram_row t0) d_Da_read_34 (pc' := 37) rfl ?_
  refine pj_bipush C d_Da_read_37 (pc' := 39) rfl (v := 7) (by decide) ?_
  refine pj_icmp_lt C d_Da_read_39 (pc' := 42) rfl (tgt := 67) (by decide) h (fun h => ?_) (fun h => ?_)
  · exact pj_cut (pj_le_n (pj_le_n pj_le_e)) (pt_Da_read_67 C hE   h)
  · exact pj_cut (pj_le_s (pj_le_n pj_le_e)) (pt_Da_read_42 C hE  t0 h)
def pw_Da_read (u : pj_M) (i0 : Nat) (i1 : Nat) (K : Int32 → pj_M → Prop) : Prop := pb_Da_read_0  K u i0 i1
theorem pc_Da_read (l : Launch) (D : va_G) (E : Nat → ClassId) {b : Nat} {u : pj_M} {i0 : Nat} {i1 : Nat} {K : Int32 → pj_M → Prop} (t0 : pj_T i0 = 5) (t1 : pj_R i1) (h : pw_Da_read u i0 i1 K) : pj_C l y_Da_read c_Da_read 2 (some .boolean) rm_Da_read D E b [.ref (b + i0), .ref (b + i1)] u (pj_Ki K) := by
  refine pj_met (own := R_Da) (by decide +kernel) rfl (Nat.le_of_ble_eq_true rfl) (fun g hE C => ?_)
  unfold pw_Da_read at h
  show pj_J g (pj_N g b u) 0 [some (.ref (b + i0)), some (.ref (b + i1))] []
  exact pj_cut (pj_le_s (pj_le_s pj_le_e)) (pt_Da_read_0 C hE  t0 t1 h)
/-! Datagram.writePieces(LPortGuard$Packet;)V -/
theorem fg_Datagram_90_Packet {g : pj_G} {b : Nat} {cc : ByteArray} {nL : Nat} {ret : Option FieldType} {rm : Room} {u : pj_M} {pc pc' : Nat} {vs : List (Option Value)} {st : List Value} (C : pj_X g cc nL R_Da ret rm) {i : Nat} (t : pj_T i = 4) (hdg : decode cc pc = .ok (.getfield 90, 3)) (hp : pc + 3 = pc') (kk : pj_J g (pj_N g b u) pc' vs (.int (u i 1) :: st)) : pj_J g (pj_N g b u) pc vs (.ref (b + i) :: st) :=
  pj_get C cl_Packet hin_Packet (k := 1) (Nat.le_of_ble_eq_true rfl) wm_154 (Or.inr wm_149) (pj_lt t (by decide)) (fun E => ko_4 t) rfl hdg hp kk
theorem ck_Datagram_75_Row {g : pj_G} {b : Nat} {cc : ByteArray} {nL : Nat} {ret : Option FieldType} {rm : Room} {u : pj_M} {pc pc' : Nat} {vs : List (Option Value)} {st : List Value} (C : pj_X g cc nL R_Da ret rm) {i0 : Nat} {x1 : Int32} {K : pj_M → Prop} (t : pj_T i0 = 3) (h : pw_Ro_put u i0 x1 K) (hdg : decode cc pc = .ok (.invokevirtual 75, 3)) (hp : pc + 3 = pc') (hR : rm_Ro_put.frames + 1 ≤ rm.frames ∧ 8 + (2 + 11) + rm_Ro_put.locals ≤ rm.locals) (h8 : (st.map fun v => v.category).sum ≤ 8) (kk : ∀ u', K u' → pj_J g (pj_N g b u') pc' vs st) : pj_J g (pj_N g b u) pc vs (.int x1 :: .ref (b + i0) :: st) := by
  have t0 : pj_R i0 := Or.inl t
  exact pj_callV C (As := [.int x1]) (fun l D E => pc_Ro_put l D E t0 h) rfl rfl cl_Row (pj_lt t (by decide)) (fun E => ko_3 t) wm_764 wm_589 wm_590 wm_94 wm_593 (by decide +kernel) (n := 1) rfl hR rfl h8 hdg hp (fun v u' hq => by obtain ⟨rfl, hk⟩ := hq; exact kk u' hk)
theorem ck_Datagram_97_Row {g : pj_G} {b : Nat} {cc : ByteArray} {nL : Nat} {ret : Option FieldType} {rm : Room} {u : pj_M} {pc pc' : Nat} {vs : List (Option Value)} {st : List Value} (C : pj_X g cc nL R_Da ret rm) {i0 : Nat} {i1 : Nat} {x2 : Int32} {x3 : Int32} {K : pj_M → Prop} (t : pj_T i0 = 3) (t1 : pj_R i1) (h : pw_Ro_append u i0 i1 x2 x3 K) (hdg : decode cc pc = .ok (.invokevirtual 97, 3)) (hp : pc + 3 = pc') (hR : rm_Ro_append.frames + 1 ≤ rm.frames ∧ 8 + (5 + 11) + rm_Ro_append.locals ≤ rm.locals) (h8 : (st.map fun v => v.category).sum ≤ 8) (kk : ∀ u', K u' → pj_J g (pj_N g b u') pc' vs st) : pj_J g (pj_N g b u) pc vs (.int x3 :: .int x2 :: .ref (b + i1) :: .ref (b + i0) :: st) := by
  have t0 : pj_R i0 := Or.inl t
  exact pj_callV C (As := [.ref (b + i1), .int x2, .int x3]) (fun l D E => pc_Ro_append l D E t0 t1 h) rfl rfl cl_Row (pj_lt t (by decide)) (fun E => ko_3 t) wm_779 wm_637 wm_638 wm_94 wm_641 (by decide +kernel) (n := 3) rfl hR rfl h8 hdg hp (fun v u' hq => by obtain ⟨rfl, hk⟩ := hq; exact kk u' hk)
def rm_Da_writePieces : Room := { frames := 1, cells := 0, slots := 0, locals := 60 }
def pb_Da_writePieces_57  (K : pj_M → Prop) (u : pj_M)  : Prop := K u
set_option maxHeartbeats 1000000 in
theorem pt_Da_writePieces_57 {g : pj_G} {b : Nat} (C : pj_X g c_Da_writePieces 4 R_Da none rm_Da_writePieces) {K : pj_M → Prop} (hE : pj_E g b (pj_Kv K))   {u : pj_M}    (h : pb_Da_writePieces_57  K u ) : pj_J g (pj_N g b u) 57 [none, none, none, none] [] := by
  unfold pb_Da_writePieces_57 at h
  exact pj_vret C hE d_Da_writePieces_57 ⟨rfl, h⟩
def pb_Da_writePieces_10 (R2 : pj_M → Int32 → Prop) (K : pj_M → Prop) (u : pj_M) (i0 : Nat) (i1 : Nat) (x2 : Int32) : Prop := pj_let (if (u i1 1) - x2 < 8 then (u i1 1) - x2 else 8) fun y1 => (pw_Ro_put u (i0 + 1) 79 fun u2 => (pw_Ro_put u2 (i0 + 1) (y1 + 2) fun u3 => (pw_Ro_append u3 (i0 + 1) i1 x2 y1 fun u4 => (R2 u4 (x2 + 8)))))
set_option maxHeartbeats 1000000 in
theorem pt_Da_writePieces_10 {g : pj_G} {b : Nat} (C : pj_X g c_Da_writePieces 4 R_Da none rm_Da_writePieces) {K : pj_M → Prop} (hE : pj_E g b (pj_Kv K)) {R2 : pj_M → Int32 → Prop}  {u : pj_M} {i0 : Nat} {i1 : Nat} {x2 : Int32} (hR2 : ∀ (u : pj_M) (x2 : Int32), R2 u x2 → pj_J g (pj_N g b u) 2 [some (.ref (b + i0)), some (.ref (b + i1)), some (.int x2), none] []) (t0 : pj_T i0 = 5) (t1 : pj_T i1 = 4) (h : pb_Da_writePieces_10 R2 K u i0 i1 x2) : pj_J g (pj_N g b u) 10 [some (.ref (b + i0)), some (.ref (b + i1)), some (.int x2), none] [] := by
  unfold pb_Da_writePieces_10 at h
  refine pj_bipush C d_Da_writePieces_10 (pc' := 12) rfl (v := 8) (by decide) ?_
  refine pj_aload_n C d_Da_writePieces_12 (pc' := 13) (i := 1) (x := b + i1) rfl rfl rfl ?_
  refine fg_Datagram_90_Packet C t1 d_Da_writePieces_13 (pc' := 16) rfl ?_
  refine pj_iload_n C d_Da_writePieces_16 (pc' := 17) (i := 2) (x := x2) rfl rfl rfl ?_
  refine pj_isub C d_Da_writePieces_17 (pc' := 18) rfl ?_
  refine pj_min C wm_776 wm_777 wm_106 wm_778 ⟨Nat.le_of_ble_eq_true rfl, Nat.le_of_ble_eq_true rfl⟩ d_Da_writePieces_18 (pc' := 21) rfl ?_
  refine pj_name h (fun y1 h => ?_)
  refine pj_istore_n C d_Da_writePieces_21 (pc' := 22) (i := 3) (vs' := [some (.ref (b + i0)), some (.ref (b + i1)), some (.int x2), some (.int y1)]) rfl rfl (Nat.le_of_ble_eq_true rfl) (Nat.le_of_ble_eq_true rfl) rfl rfl ?_
  refine pj_aload_n C d_Da_writePieces_22 (pc' := 23) (i := 0) (x := b + i0) rfl rfl rfl ?_
  refine fg_Datagram_12_Datagram C t0 d_Da_writePieces_23 (pc' := 26) rfl ?_
  refine pj_bipush C d_Da_writePieces_26 (pc' := 28) rfl (v := 79) (by decide) ?_
  refine ck_Datagram_75_Row C (pl_Datagram_row t0) h d_Da_writePieces_28 (pc' := 31) rfl ⟨Nat.le_of_ble_eq_true rfl, Nat.le_of_ble_eq_true rfl⟩ (Nat.le_of_ble_eq_true rfl) (fun u2 h => ?_)
  refine pj_aload_n C d_Da_writePieces_31 (pc' := 32) (i := 0) (x := b + i0) rfl rfl rfl ?_
  refine fg_Datagram_12_Datagram C t0 d_Da_writePieces_32 (pc' := 35) rfl ?_
  refine pj_iload_n C d_Da_writePieces_35 (pc' := 36) (i := 3) (x := y1) rfl rfl rfl ?_
  refine pj_iconst C d_Da_writePieces_36 (pc' := 37) rfl (v := 2) (by decide) ?_
  refine pj_iadd C d_Da_writePieces_37 (pc' := 38) rfl ?_
  refine ck_Datagram_75_Row C (pl_Datagram_row t0) h d_Da_writePieces_38 (pc' := 41) rfl ⟨Nat.le_of_ble_eq_true rfl, Nat.le_of_ble_eq_true rfl⟩ (Nat.le_of_ble_eq_true rfl) (fun u3 h => ?_)
  refine pj_aload_n C d_Da_writePieces_41 (pc' := 42) (i := 0) (x := b + i0) rfl rfl rfl ?_
  refine fg_Datagram_12_Datagram C t0 d_Da_writePieces_42 (pc' := 45) rfl ?_
  refine pj_aload_n C d_Da_writePieces_45 (pc' := 46) (i := 1) (x := b + i1) rfl rfl rfl ?_
  refine pj_iload_n C d_Da_writePieces_46 (pc' := 47) (i := 2) (x := x2) rfl rfl rfl ?_
  refine pj_iload_n C d_Da_writePieces_47 (pc' := 48) (i := 3) (x := y1) rfl rfl rfl ?_
  refine ck_Datagram_97_Row C (pl_Datagram_row t0) (Or.inr t1) h d_Da_writePieces_48 (pc' := 51) rfl ⟨Nat.le_of_ble_eq_true rfl, Nat.le_of_ble_eq_true rfl⟩ (Nat.le_of_ble_eq_true rfl) (fun u4 h => ?_)
  refine pj_iinc C d_Da_writePieces_51 (pc' := 54) (x := x2) (d := 8) (vs' := [some (.ref (b + i0)), some (.ref (b + i1)), some (.int (x2 + 8)), some (.int y1)]) rfl rfl (Nat.le_of_ble_eq_true rfl) rfl (by decide) rfl ?_
  refine pj_goto C d_Da_writePieces_54 (tgt := 2) (by decide) ?_
  exact pj_cut (pj_le_s (pj_le_s (pj_le_s (pj_le_n pj_le_e)))) (hR2 _ _ h)
def pb_Da_writePieces_2b (R2 : pj_M → Int32 → Prop) (K : pj_M → Prop) (u : pj_M) (i0 : Nat) (i1 : Nat) (x2 : Int32) : Prop := (((u i1 1) ≤ x2) → (pb_Da_writePieces_57  K u )) ∧ (¬ ((u i1 1) ≤ x2) → (pb_Da_writePieces_10 R2 K u i0 i1 x2))
set_option maxHeartbeats 1000000 in
theorem pt_Da_writePieces_2b {g : pj_G} {b : Nat} (C : pj_X g c_Da_writePieces 4 R_Da none rm_Da_writePieces) {K : pj_M → Prop} (hE : pj_E g b (pj_Kv K)) {R2 : pj_M → Int32 → Prop}  {u : pj_M} {i0 : Nat} {i1 : Nat} {x2 : Int32} (hR2 : ∀ (u : pj_M) (x2 : Int32), R2 u x2 → pj_J g (pj_N g b u) 2 [some (.ref (b + i0)), some (.ref (b + i1)), some (.int x2), none] []) (t0 : pj_T i0 = 5) (t1 : pj_T i1 = 4) (h : pb_Da_writePieces_2b R2 K u i0 i1 x2) : pj_J g (pj_N g b u) 2 [some (.ref (b + i0)), some (.ref (b + i1)), some (.int x2), none] [] := by
  unfold pb_Da_writePieces_2b at h
  refine pj_iload_n C d_Da_writePieces_2 (pc' := 3) (i := 2) (x := x2) rfl rfl rfl ?_
  refine pj_aload_n C d_Da_writePieces_3 (pc' := 4) (i := 1) (x := b + i1) rfl rfl rfl ?_
  refine fg_Datagram_90_Packet C t1 d_Da_writePieces_4 (pc' := 7) rfl ?_
  refine pj_icmp_ge C d_Da_writePieces_7 (pc' := 10) rfl (tgt := 57) (by decide) h (fun h => ?_) (fun h => ?_)
  · exact pj_cut (pj_le_n (pj_le_n (pj_le_n (pj_le_n pj_le_e)))) (pt_Da_writePieces_57 C hE   h)
  · exact pj_cut (pj_le_s (pj_le_s (pj_le_s (pj_le_n pj_le_e)))) (pt_Da_writePieces_10 C hE hR2 t0 t1 h)
def pb_Da_writePieces_2  (K : pj_M → Prop) (i0 : Nat) (i1 : Nat) : Nat → pj_M → Int32 → Prop
  | 0 => fun _ _ => False
  | n + 1 => fun u x2 => pb_Da_writePieces_2b (pb_Da_writePieces_2  K i0 i1 n) K u i0 i1 x2
theorem pt_Da_writePieces_2 {g : pj_G} {b : Nat} (C : pj_X g c_Da_writePieces 4 R_Da none rm_Da_writePieces) {K : pj_M → Prop} (hE : pj_E g b (pj_Kv K))  {i0 : Nat} {i1 : Nat}  (t0 : pj_T i0 = 5) (t1 : pj_T i1 = 4) : ∀ (n : Nat) (u : pj_M) (x2 : Int32), pb_Da_writePieces_2  K i0 i1 n u x2 → pj_J g (pj_N g b u) 2 [some (.ref (b + i0)), some (.ref (b + i1)), some (.int x2), none] [] := by
  intro n
  induction n with
  | zero => intro u x2 h; exact False.elim h
  | succ n ih =>
    intro u x2 h
    exact (pt_Da_writePieces_2b C hE ih t0 t1 h)
def pb_Da_writePieces_0  (K : pj_M → Prop) (u : pj_M) (i0 : Nat) (i1 : Nat) : Prop := ∃ n, pb_Da_writePieces_2  K i0 i1 n u 0
set_option maxHeartbeats 1000000 in
theorem pt_Da_writePieces_0 {g : pj_G} {b : Nat} (C : pj_X g c_Da_writePieces 4 R_Da none rm_Da_writePieces) {K : pj_M → Prop} (hE : pj_E g b (pj_Kv K))   {u : pj_M} {i0 : Nat} {i1 : Nat}  (t0 : pj_T i0 = 5) (t1 : pj_T i1 = 4) (h : pb_Da_writePieces_0  K u i0 i1) : pj_J g (pj_N g b u) 0 [some (.ref (b + i0)), some (.ref (b + i1)), none, none] [] := by
  unfold pb_Da_writePieces_0 at h
  refine pj_iconst C d_Da_writePieces_0 (pc' := 1) rfl (v := 0) (by decide) ?_
  refine pj_istore_n C d_Da_writePieces_1 (pc' := 2) (i := 2) (vs' := [some (.ref (b + i0)), some (.ref (b + i1)), some (.int 0), none]) rfl rfl (Nat.le_of_ble_eq_true rfl) (Nat.le_of_ble_eq_true rfl) rfl rfl ?_
  obtain ⟨n, h⟩ := h
  exact pj_cut (pj_le_s (pj_le_s (pj_le_s (pj_le_n pj_le_e)))) (pt_Da_writePieces_2 C hE  t0 t1 n _ _ h)
def pw_Da_writePieces (u : pj_M) (i0 : Nat) (i1 : Nat) (K : pj_M → Prop) : Prop := pb_Da_writePieces_0  K u i0 i1
theorem pc_Da_writePieces (l : Launch) (D : va_G) (E : Nat → ClassId) {b : Nat} {u : pj_M} {i0 : Nat} {i1 : Nat} {K : pj_M → Prop} (t0 : pj_T i0 = 5) (t1 : pj_T i1 = 4) (h : pw_Da_writePieces u i0 i1 K) : pj_C l y_Da_writePieces c_Da_writePieces 4 none rm_Da_writePieces D E b [.ref (b + i0), .ref (b + i1)] u (pj_Kv K) := by
  refine pj_met (own := R_Da) (by decide +kernel) rfl (Nat.le_of_ble_eq_true rfl) (fun g hE C => ?_)
  unfold pw_Da_writePieces at h
  show pj_J g (pj_N g b u) 0 [some (.ref (b + i0)), some (.ref (b + i1)), none, none] []
  exact pj_cut (pj_le_s (pj_le_s (pj_le_n (pj_le_n pj_le_e)))) (pt_Da_writePieces_0 C hE  t0 t1 h)
/-! Datagram.write(IIIIILPortGuard$Packet;)V -/
theorem ck_Datagram_74_Row {g : pj_G} {b : Nat} {cc : ByteArray} {nL : Nat} {ret : Option FieldType} {rm : Room} {u : pj_M} {pc pc' : Nat} {vs : List (Option Value)} {st : List Value} (C : pj_X g cc nL R_Da ret rm) {i0 : Nat} {K : pj_M → Prop} (t : pj_T i0 = 3) (h : pw_Ro_clear u i0 K) (hdg : decode cc pc = .ok (.invokevirtual 74, 3)) (hp : pc + 3 = pc') (hR : rm_Ro_clear.frames + 1 ≤ rm.frames ∧ 8 + (1 + 11) + rm_Ro_clear.locals ≤ rm.locals) (h8 : (st.map fun v => v.category).sum ≤ 8) (kk : ∀ u', K u' → pj_J g (pj_N g b u') pc' vs st) : pj_J g (pj_N g b u) pc vs (.ref (b + i0) :: st) := by
  have t0 : pj_R i0 := Or.inl t
  exact pj_callV C (As := []) (fun l D E => pc_Ro_clear l D E t0 h) rfl rfl cl_Row (pj_lt t (by decide)) (fun E => ko_3 t) wm_763 wm_583 wm_584 wm_94 wm_587 (by decide +kernel) (n := 0) rfl hR rfl h8 hdg hp (fun v u' hq => by obtain ⟨rfl, hk⟩ := hq; exact kk u' hk)
theorem ck_Datagram_79_Row {g : pj_G} {b : Nat} {cc : ByteArray} {nL : Nat} {ret : Option FieldType} {rm : Room} {u : pj_M} {pc pc' : Nat} {vs : List (Option Value)} {st : List Value} (C : pj_X g cc nL R_Da ret rm) {i0 : Nat} {x1 : Int32} {K : pj_M → Prop} (t : pj_T i0 = 3) (h : pw_Ro_putInt u i0 x1 K) (hdg : decode cc pc = .ok (.invokevirtual 79, 3)) (hp : pc + 3 = pc') (hR : rm_Ro_putInt.frames + 1 ≤ rm.frames ∧ 8 + (2 + 11) + rm_Ro_putInt.locals ≤ rm.locals) (h8 : (st.map fun v => v.category).sum ≤ 8) (kk : ∀ u', K u' → pj_J g (pj_N g b u') pc' vs st) : pj_J g (pj_N g b u) pc vs (.int x1 :: .ref (b + i0) :: st) := by
  have t0 : pj_R i0 := Or.inl t
  exact pj_callV C (As := [.int x1]) (fun l D E => pc_Ro_putInt l D E t0 h) rfl rfl cl_Row (pj_lt t (by decide)) (fun E => ko_3 t) wm_765 wm_766 wm_767 wm_94 wm_770 (by decide +kernel) (n := 1) rfl hR rfl h8 hdg hp (fun v u' hq => by obtain ⟨rfl, hk⟩ := hq; exact kk u' hk)
theorem ck_Datagram_82_Datagram {g : pj_G} {b : Nat} {cc : ByteArray} {nL : Nat} {ret : Option FieldType} {rm : Room} {u : pj_M} {pc pc' : Nat} {vs : List (Option Value)} {st : List Value} (C : pj_X g cc nL R_Da ret rm) {i0 : Nat} {i1 : Nat} {K : pj_M → Prop} (t0 : pj_T i0 = 5) (t1 : pj_T i1 = 4) (h : pw_Da_writePieces u i0 i1 K) (hdg : decode cc pc = .ok (.invokevirtual 82, 3)) (hp : pc + 3 = pc') (hR : rm_Da_writePieces.frames + 1 ≤ rm.frames ∧ 8 + (4 + 11) + rm_Da_writePieces.locals ≤ rm.locals) (h8 : (st.map fun v => v.category).sum ≤ 8) (kk : ∀ u', K u' → pj_J g (pj_N g b u') pc' vs st) : pj_J g (pj_N g b u) pc vs (.ref (b + i1) :: .ref (b + i0) :: st) :=
  pj_callV C (As := [.ref (b + i1)]) (fun l D E => pc_Da_writePieces l D E t0 t1 h) rfl rfl cl_Datagram (pj_lt t0 (by decide)) (fun E => ko_5 t0) wm_772 wm_774 wm_7 wm_98 wm_775 (by decide +kernel) (n := 1) rfl hR rfl h8 hdg hp (fun v u' hq => by obtain ⟨rfl, hk⟩ := hq; exact kk u' hk)
theorem ck_Datagram_86_Row {g : pj_G} {b : Nat} {cc : ByteArray} {nL : Nat} {ret : Option FieldType} {rm : Room} {u : pj_M} {pc pc' : Nat} {vs : List (Option Value)} {st : List Value} (C : pj_X g cc nL R_Da ret rm) {i0 : Nat} {x1 : Int32} {x2 : Int32} {K : pj_M → Prop} (t : pj_T i0 = 3) (h : pw_Ro_set u i0 x1 x2 K) (hdg : decode cc pc = .ok (.invokevirtual 86, 3)) (hp : pc + 3 = pc') (hR : rm_Ro_set.frames + 1 ≤ rm.frames ∧ 8 + (3 + 11) + rm_Ro_set.locals ≤ rm.locals) (h8 : (st.map fun v => v.category).sum ≤ 8) (kk : ∀ u', K u' → pj_J g (pj_N g b u') pc' vs st) : pj_J g (pj_N g b u) pc vs (.int x2 :: .int x1 :: .ref (b + i0) :: st) := by
  have t0 : pj_R i0 := Or.inl t
  exact pj_callV C (As := [.int x1, .int x2]) (fun l D E => pc_Ro_set l D E t0 h) rfl rfl cl_Row (pj_lt t (by decide)) (fun E => ko_3 t) wm_780 wm_626 wm_1636 wm_94 wm_627 (by decide +kernel) (n := 2) rfl hR rfl h8 hdg hp (fun v u' hq => by obtain ⟨rfl, hk⟩ := hq; exact kk u' hk)
def rm_Da_write : Room := { frames := 2, cells := 0, slots := 0, locals := 83 }
def pb_Da_write_114  (K : pj_M → Prop) (u : pj_M) (i0 : Nat) (i6 : Nat) : Prop := pw_Da_writePieces u i0 i6 fun u1 => (pw_Ro_put u1 (i0 + 1) 80 fun u2 => (pw_Ro_put u2 (i0 + 1) 6 fun u3 => (pj_put u3 i0 4 (u3 (i0 + 1) 1) fun u4 => (pw_Ro_putInt u4 (i0 + 1) 0 fun u5 => (pw_Ro_set u5 (i0 + 1) 2 (u5 (i0 + 1) 1) fun u6 => (K u6))))))
set_option maxHeartbeats 1000000 in
theorem pt_Da_write_114 {g : pj_G} {b : Nat} (C : pj_X g c_Da_write 7 R_Da none rm_Da_write) {K : pj_M → Prop} (hE : pj_E g b (pj_Kv K))   {u : pj_M} {i0 : Nat} {i6 : Nat}  (t0 : pj_T i0 = 5) (t6 : pj_T i6 = 4) (h : pb_Da_write_114  K u i0 i6) : pj_J g (pj_N g b u) 114 [some (.ref (b + i0)), none, none, none, none, none, some (.ref (b + i6))] [] := by
  unfold pb_Da_write_114 at h
  refine pj_aload_n C d_Da_write_114 (pc' := 115) (i := 0) (x := b + i0) rfl rfl rfl ?_
  refine pj_aload C d_Da_write_115 (pc' := 117) (i := 6) (x := b + i6) rfl rfl ?_
  refine ck_Datagram_82_Datagram C t0 t6 h d_Da_write_117 (pc' := 120) rfl ⟨Nat.le_of_ble_eq_true rfl, Nat.le_of_ble_eq_true rfl⟩ (Nat.le_of_ble_eq_true rfl) (fun u1 h => ?_)
  refine pj_aload_n C d_Da_write_120 (pc' := 121) (i := 0) (x := b + i0) rfl rfl rfl ?_
  refine fg_Datagram_12_Datagram C t0 d_Da_write_121 (pc' := 124) rfl ?_
  refine pj_bipush C d_Da_write_124 (pc' := 126) rfl (v := 80) (by decide) ?_
  refine ck_Datagram_75_Row C (pl_Datagram_row t0) h d_Da_write_126 (pc' := 129) rfl ⟨Nat.le_of_ble_eq_true rfl, Nat.le_of_ble_eq_true rfl⟩ (Nat.le_of_ble_eq_true rfl) (fun u2 h => ?_)
  refine pj_aload_n C d_Da_write_129 (pc' := 130) (i := 0) (x := b + i0) rfl rfl rfl ?_
  refine fg_Datagram_12_Datagram C t0 d_Da_write_130 (pc' := 133) rfl ?_
  refine pj_bipush C d_Da_write_133 (pc' := 135) rfl (v := 6) (by decide) ?_
  refine ck_Datagram_75_Row C (pl_Datagram_row t0) h d_Da_write_135 (pc' := 138) rfl ⟨Nat.le_of_ble_eq_true rfl, Nat.le_of_ble_eq_true rfl⟩ (Nat.le_of_ble_eq_true rfl) (fun u3 h => ?_)
  refine pj_aload_n C d_Da_write_138 (pc' := 139) (i := 0) (x := b + i0) rfl rfl rfl ?_
  refine pj_aload_n C d_Da_write_139 (pc' := 140) (i := 0) (x := b + i0) rfl rfl rfl ?_
  refine fg_Datagram_12_Datagram C t0 d_Da_write_140 (pc' := 143) rfl ?_
  refine fg_Datagram_47_Row C (pl_Datagram_row t0) d_Da_write_143 (pc' := 146) rfl ?_
  refine fp_Datagram_44_Datagram C t0  d_Da_write_146 (pc' := 149) rfl h (fun u4 h => ?_)
  refine pj_aload_n C d_Da_write_149 (pc' := 150) (i := 0) (x := b + i0) rfl rfl rfl ?_
  refine fg_Datagram_12_Datagram C t0 d_Da_write_150 (pc' := 153) rfl ?_
  refine pj_iconst C d_Da_write_153 (pc' := 154) rfl (v := 0) (by decide) ?_
  refine ck_Datagram_79_Row C (pl_Datagram_row t0) h d_Da_write_154 (pc' := 157) rfl ⟨Nat.le_of_ble_eq_true rfl, Nat.le_of_ble_eq_true rfl⟩ (Nat.le_of_ble_eq_true rfl) (fun u5 h => ?_)
  refine pj_aload_n C d_Da_write_157 (pc' := 158) (i := 0) (x := b + i0) rfl rfl rfl ?_
  refine fg_Datagram_12_Datagram C t0 d_Da_write_158 (pc' := 161) rfl ?_
  refine pj_iconst C d_Da_write_161 (pc' := 162) rfl (v := 2) (by decide) ?_
  refine pj_aload_n C d_Da_write_162 (pc' := 163) (i := 0) (x := b + i0) rfl rfl rfl ?_
  refine fg_Datagram_12_Datagram C t0 d_Da_write_163 (pc' := 166) rfl ?_
  refine fg_Datagram_47_Row C (pl_Datagram_row t0) d_Da_write_166 (pc' := 169) rfl ?_
  refine ck_Datagram_86_Row C (pl_Datagram_row t0) h d_Da_write_169 (pc' := 172) rfl ⟨Nat.le_of_ble_eq_true rfl, Nat.le_of_ble_eq_true rfl⟩ (Nat.le_of_ble_eq_true rfl) (fun u6 h => ?_)
  exact pj_vret C hE d_Da_write_172 ⟨rfl, h⟩
def pb_Da_write_76  (K : pj_M → Prop) (u : pj_M) (i0 : Nat) (x5 : Int32) (i6 : Nat) : Prop := pw_Ro_put u (i0 + 1) 24 fun u1 => (pw_Ro_put u1 (i0 + 1) 4 fun u2 => (pw_Ro_put u2 (i0 + 1) ((x5.toUInt32 >>> ((8 : Int32).toUInt32 &&& Int32.toUInt32 31)).toInt32) fun u3 => (pw_Ro_put u3 (i0 + 1) x5 fun u4 => (pb_Da_write_114  K u4 i0 i6))))
set_option maxHeartbeats 1000000 in
theorem pt_Da_write_76 {g : pj_G} {b : Nat} (C : pj_X g c_Da_write 7 R_Da none rm_Da_write) {K : pj_M → Prop} (hE : pj_E g b (pj_Kv K))   {u : pj_M} {i0 : Nat} {x5 : Int32} {i6 : Nat}  (t0 : pj_T i0 = 5) (t6 : pj_T i6 = 4) (h : pb_Da_write_76  K u i0 x5 i6) : pj_J g (pj_N g b u) 76 [some (.ref (b + i0)), none, none, none, none, some (.int x5), some (.ref (b + i6))] [] := by
  unfold pb_Da_write_76 at h
  refine pj_aload_n C d_Da_write_76 (pc' := 77) (i := 0) (x := b + i0) rfl rfl rfl ?_
  refine fg_Datagram_12_Datagram C t0 d_Da_write_77 (pc' := 80) rfl ?_
  refine pj_bipush C d_Da_write_80 (pc' := 82) rfl (v := 24) (by decide) ?_
  refine ck_Datagram_75_Row C (pl_Datagram_row t0) h d_Da_write_82 (pc' := 85) rfl ⟨Nat.le_of_ble_eq_true rfl, Nat.le_of_ble_eq_true rfl⟩ (Nat.le_of_ble_eq_true rfl) (fun u1 h => ?_)
  refine pj_aload_n C d_Da_write_85 (pc' := 86) (i := 0) (x := b + i0) rfl rfl rfl ?_
  refine fg_Datagram_12_Datagram C t0 d_Da_write_86 (pc' := 89) rfl ?_
  refine pj_iconst C d_Da_write_89 (pc' := 90) rfl (v := 4) (by decide) ?_
  refine ck_Datagram_75_Row C (pl_Datagram_row t0) h d_Da_write_90 (pc' := 93) rfl ⟨Nat.le_of_ble_eq_true rfl, Nat.le_of_ble_eq_true rfl⟩ (Nat.le_of_ble_eq_true rfl) (fun u2 h => ?_)
  refine pj_aload_n C d_Da_write_93 (pc' := 94) (i := 0) (x := b + i0) rfl rfl rfl ?_
  refine fg_Datagram_12_Datagram C t0 d_Da_write_94 (pc' := 97) rfl ?_
  refine pj_iload C d_Da_write_97 (pc' := 99) (i := 5) (x := x5) rfl rfl ?_
  refine pj_bipush C d_Da_write_99 (pc' := 101) rfl (v := 8) (by decide) ?_
  refine pj_iushr C d_Da_write_101 (pc' := 102) rfl ?_
  refine ck_Datagram_75_Row C (pl_Datagram_row t0) h d_Da_write_102 (pc' := 105) rfl ⟨Nat.le_of_ble_eq_true rfl, Nat.le_of_ble_eq_true rfl⟩ (Nat.le_of_ble_eq_true rfl) (fun u3 h => ?_)
  refine pj_aload_n C d_Da_write_105 (pc' := 106) (i := 0) (x := b + i0) rfl rfl rfl ?_
  refine fg_Datagram_12_Datagram C t0 d_Da_write_106 (pc' := 109) rfl ?_
  refine pj_iload C d_Da_write_109 (pc' := 111) (i := 5) (x := x5) rfl rfl ?_
  refine ck_Datagram_75_Row C (pl_Datagram_row t0) h d_Da_write_111 (pc' := 114) rfl ⟨Nat.le_of_ble_eq_true rfl, Nat.le_of_ble_eq_true rfl⟩ (Nat.le_of_ble_eq_true rfl) (fun u4 h => ?_)
  exact pj_cut (pj_le_s (pj_le_n (pj_le_n (pj_le_n (pj_le_n (pj_le_n (pj_le_s pj_le_e))))))) (pt_Da_write_114 C hE  t0 t6 h)
def pb_Da_write_70  (K : pj_M → Prop) (u : pj_M) (i0 : Nat) (x5 : Int32) (i6 : Nat) : Prop := ((x5 = ((-1))) → (pb_Da_write_114  K u i0 i6)) ∧ (¬ (x5 = ((-1))) → (pb_Da_write_76  K u i0 x5 i6))
set_option maxHeartbeats 1000000 in
theorem pt_Da_write_70 {g : pj_G} {b : Nat} (C : pj_X g c_Da_write 7 R_Da none rm_Da_write) {K : pj_M → Prop} (hE : pj_E g b (pj_Kv K))   {u : pj_M} {i0 : Nat} {x5 : Int32} {i6 : Nat}  (t0 : pj_T i0 = 5) (t6 : pj_T i6 = 4) (h : pb_Da_write_70  K u i0 x5 i6) : pj_J g (pj_N g b u) 70 [some (.ref (b + i0)), none, none, none, none, some (.int x5), some (.ref (b + i6))] [] := by
  unfold pb_Da_write_70 at h
  refine pj_iload C d_Da_write_70 (pc' := 72) (i := 5) (x := x5) rfl rfl ?_
  refine pj_iconst C d_Da_write_72 (pc' := 73) rfl (v := (-1)) (by decide) ?_
  refine pj_icmp_eq C d_Da_write_73 (pc' := 76) rfl (tgt := 114) (by decide) h (fun h => ?_) (fun h => ?_)
  · exact pj_cut (pj_le_s (pj_le_n (pj_le_n (pj_le_n (pj_le_n (pj_le_n (pj_le_s pj_le_e))))))) (pt_Da_write_114 C hE  t0 t6 h)
  · exact pj_cut (pj_le_s (pj_le_n (pj_le_n (pj_le_n (pj_le_n (pj_le_s (pj_le_s pj_le_e))))))) (pt_Da_write_76 C hE  t0 t6 h)
def pb_Da_write_45  (K : pj_M → Prop) (u : pj_M) (i0 : Nat) (x4 : Int32) (x5 : Int32) (i6 : Nat) : Prop := pw_Ro_put u (i0 + 1) 1 fun u1 => (pw_Ro_put u1 (i0 + 1) 3 fun u2 => (pw_Ro_put u2 (i0 + 1) x4 fun u3 => (pb_Da_write_70  K u3 i0 x5 i6)))
set_option maxHeartbeats 1000000 in
theorem pt_Da_write_45 {g : pj_G} {b : Nat} (C : pj_X g c_Da_write 7 R_Da none rm_Da_write) {K : pj_M → Prop} (hE : pj_E g b (pj_Kv K))   {u : pj_M} {i0 : Nat} {x4 : Int32} {x5 : Int32} {i6 : Nat}  (t0 : pj_T i0 = 5) (t6 : pj_T i6 = 4) (h : pb_Da_write_45  K u i0 x4 x5 i6) : pj_J g (pj_N g b u) 45 [some (.ref (b + i0)), none, none, none, some (.int x4), some (.int x5), some (.ref (b + i6))] [] := by
  unfold pb_Da_write_45 at h
  refine pj_aload_n C d_Da_write_45 (pc' := 46) (i := 0) (x := b + i0) rfl rfl rfl ?_
  refine fg_Datagram_12_Datagram C t0 d_Da_write_46 (pc' := 49) rfl ?_
  refine pj_iconst C d_Da_write_49 (pc' := 50) rfl (v := 1) (by decide) ?_
  refine ck_Datagram_75_Row C (pl_Datagram_row t0) h d_Da_write_50 (pc' := 53) rfl ⟨Nat.le_of_ble_eq_true rfl, Nat.le_of_ble_eq_true rfl⟩ (Nat.le_of_ble_eq_true rfl) (fun u1 h => ?_)
  refine pj_aload_n C d_Da_write_53 (pc' := 54) (i := 0) (x := b + i0) rfl rfl rfl ?_
  refine fg_Datagram_12_Datagram C t0 d_Da_write_54 (pc' := 57) rfl ?_
  refine pj_iconst C d_Da_write_57 (pc' := 58) rfl (v := 3) (by decide) ?_
  refine ck_Datagram_75_Row C (pl_Datagram_row t0) h d_Da_write_58 (pc' := 61) rfl ⟨Nat.le_of_ble_eq_true rfl, Nat.le_of_ble_eq_true rfl⟩ (Nat.le_of_ble_eq_true rfl) (fun u2 h => ?_)
  refine pj_aload_n C d_Da_write_61 (pc' := 62) (i := 0) (x := b + i0) rfl rfl rfl ?_
  refine fg_Datagram_12_Datagram C t0 d_Da_write_62 (pc' := 65) rfl ?_
  refine pj_iload C d_Da_write_65 (pc' := 67) (i := 4) (x := x4) rfl rfl ?_
  refine ck_Datagram_75_Row C (pl_Datagram_row t0) h d_Da_write_67 (pc' := 70) rfl ⟨Nat.le_of_ble_eq_true rfl, Nat.le_of_ble_eq_true rfl⟩ (Nat.le_of_ble_eq_true rfl) (fun u3 h => ?_)
  exact pj_cut (pj_le_s (pj_le_n (pj_le_n (pj_le_n (pj_le_n (pj_le_s (pj_le_s pj_le_e))))))) (pt_Da_write_70 C hE  t0 t6 h)
def pb_Da_write_0  (K : pj_M → Prop) (u : pj_M) (i0 : Nat) (x1 : Int32) (x2 : Int32) (x3 : Int32) (x4 : Int32) (x5 : Int32) (i6 : Nat) : Prop := pw_Ro_clear u (i0 + 1) fun u1 => (pw_Ro_put u1 (i0 + 1) x1 fun u2 => (pw_Ro_put u2 (i0 + 1) x2 fun u3 => (pw_Ro_put u3 (i0 + 1) 0 fun u4 => (pw_Ro_putInt u4 (i0 + 1) x3 fun u5 => (((x4 = ((-1))) → (pb_Da_write_70  K u5 i0 x5 i6)) ∧ (¬ (x4 = ((-1))) → (pb_Da_write_45  K u5 i0 x4 x5 i6)))))))
set_option maxHeartbeats 1000000 in
theorem pt_Da_write_0 {g : pj_G} {b : Nat} (C : pj_X g c_Da_write 7 R_Da none rm_Da_write) {K : pj_M → Prop} (hE : pj_E g b (pj_Kv K))   {u : pj_M} {i0 : Nat} {x1 : Int32} {x2 : Int32} {x3 : Int32} {x4 : Int32} {x5 : Int32} {i6 : Nat}  (t0 : pj_T i0 = 5) (t6 : pj_T i6 = 4) (h : pb_Da_write_0  K u i0 x1 x2 x3 x4 x5 i6) : pj_J g (pj_N g b u) 0 [some (.ref (b + i0)), some (.int x1), some (.int x2), some (.int x3), some (.int x4), some (.int x5), some (.ref (b + i6))] [] := by
  unfold pb_Da_write_0 at h
  refine pj_aload_n C d_Da_write_0 (pc' := 1) (i := 0) (x := b + i0) rfl rfl rfl ?_
  refine fg_Datagram_12_Datagram C t0 d_Da_write_1 (pc' := 4) rfl ?_
  refine ck_Datagram_74_Row C (pl_Datagram_row t0) h d_Da_write_4 (pc' := 7) rfl ⟨Nat.le_of_ble_eq_true rfl, Nat.le_of_ble_eq_true rfl⟩ (Nat.le_of_ble_eq_true rfl) (fun u1 h => ?_)
  refine pj_aload_n C d_Da_write_7 (pc' := 8) (i := 0) (x := b + i0) rfl rfl rfl ?_
  refine fg_Datagram_12_Datagram C t0 d_Da_write_8 (pc' := 11) rfl ?_
  refine pj_iload_n C d_Da_write_11 (pc' := 12) (i := 1) (x := x1) rfl rfl rfl ?_
  refine ck_Datagram_75_Row C (pl_Datagram_row t0) h d_Da_write_12 (pc' := 15) rfl ⟨Nat.le_of_ble_eq_true rfl, Nat.le_of_ble_eq_true rfl⟩ (Nat.le_of_ble_eq_true rfl) (fun u2 h => ?_)
  refine pj_aload_n C d_Da_write_15 (pc' := 16) (i := 0) (x := b + i0) rfl rfl rfl ?_
  refine fg_Datagram_12_Datagram C t0 d_Da_write_16 (pc' := 19) rfl ?_
  refine pj_iload_n C d_Da_write_19 (pc' := 20) (i := 2) (x := x2) rfl rfl rfl ?_
  refine ck_Datagram_75_Row C (pl_Datagram_row t0) h d_Da_write_20 (pc' := 23) rfl ⟨Nat.le_of_ble_eq_true rfl, Nat.le_of_ble_eq_true rfl⟩ (Nat.le_of_ble_eq_true rfl) (fun u3 h => ?_)
  refine pj_aload_n C d_Da_write_23 (pc' := 24) (i := 0) (x := b + i0) rfl rfl rfl ?_
  refine fg_Datagram_12_Datagram C t0 d_Da_write_24 (pc' := 27) rfl ?_
  refine pj_iconst C d_Da_write_27 (pc' := 28) rfl (v := 0) (by decide) ?_
  refine ck_Datagram_75_Row C (pl_Datagram_row t0) h d_Da_write_28 (pc' := 31) rfl ⟨Nat.le_of_ble_eq_true rfl, Nat.le_of_ble_eq_true rfl⟩ (Nat.le_of_ble_eq_true rfl) (fun u4 h => ?_)
  refine pj_aload_n C d_Da_write_31 (pc' := 32) (i := 0) (x := b + i0) rfl rfl rfl ?_
  refine fg_Datagram_12_Datagram C t0 d_Da_write_32 (pc' := 35) rfl ?_
  refine pj_iload_n C d_Da_write_35 (pc' := 36) (i := 3) (x := x3) rfl rfl rfl ?_
  refine ck_Datagram_79_Row C (pl_Datagram_row t0) h d_Da_write_36 (pc' := 39) rfl ⟨Nat.le_of_ble_eq_true rfl, Nat.le_of_ble_eq_true rfl⟩ (Nat.le_of_ble_eq_true rfl) (fun u5 h => ?_)
  refine pj_iload C d_Da_write_39 (pc' := 41) (i := 4) (x := x4) rfl rfl ?_
  refine pj_iconst C d_Da_write_41 (pc' := 42) rfl (v := (-1)) (by decide) ?_
  refine pj_icmp_eq C d_Da_write_42 (pc' := 45) rfl (tgt := 70) (by decide) h (fun h => ?_) (fun h => ?_)
  · exact pj_cut (pj_le_s (pj_le_n (pj_le_n (pj_le_n (pj_le_n (pj_le_s (pj_le_s pj_le_e))))))) (pt_Da_write_70 C hE  t0 t6 h)
  · exact pj_cut (pj_le_s (pj_le_n (pj_le_n (pj_le_n (pj_le_s (pj_le_s (pj_le_s pj_le_e))))))) (pt_Da_write_45 C hE  t0 t6 h)
def pw_Da_write (u : pj_M) (i0 : Nat) (x1 : Int32) (x2 : Int32) (x3 : Int32) (x4 : Int32) (x5 : Int32) (i6 : Nat) (K : pj_M → Prop) : Prop := pb_Da_write_0  K u i0 x1 x2 x3 x4 x5 i6
theorem pc_Da_write (l : Launch) (D : va_G) (E : Nat → ClassId) {b : Nat} {u : pj_M} {i0 : Nat} {x1 : Int32} {x2 : Int32} {x3 : Int32} {x4 : Int32} {x5 : Int32} {i6 : Nat} {K : pj_M → Prop} (t0 : pj_T i0 = 5) (t6 : pj_T i6 = 4) (h : pw_Da_write u i0 x1 x2 x3 x4 x5 i6 K) : pj_C l y_Da_write c_Da_write 7 none rm_Da_write D E b [.ref (b + i0), .int x1, .int x2, .int x3, .int x4, .int x5, .ref (b + i6)] u (pj_Kv K) := by
  refine pj_met (own := R_Da) (by decide +kernel) rfl (Nat.le_of_ble_eq_true rfl) (fun g hE C => ?_)
  unfold pw_Da_write at h
  show pj_J g (pj_N g b u) 0 [some (.ref (b + i0)), some (.int x1), some (.int x2), some (.int x3), some (.int x4), some (.int x5), some (.ref (b + i6))] []
  exact pj_cut (pj_le_s (pj_le_s (pj_le_s (pj_le_s (pj_le_s (pj_le_s (pj_le_s pj_le_e))))))) (pt_Da_write_0 C hE  t0 t6 h)
/-! Datagram.sealRequest(I)V -/
theorem ck_Datagram_98 {g : pj_G} {b : Nat} {cc : ByteArray} {nL : Nat} {ret : Option FieldType} {rm : Room} {u : pj_M} {pc pc' : Nat} {vs : List (Option Value)} {st : List Value} (C : pj_X g cc nL R_Da ret rm) {x0 : Int32} {i1 : Nat} {K : Int32 → pj_M → Prop} (t1 : pj_R i1) (h : pw_Di_macOfRow u x0 i1 K) (hdg : decode cc pc = .ok (.invokestatic 98, 3)) (hp : pc + 3 = pc') (hR : rm_Di_macOfRow.frames + 1 ≤ rm.frames ∧ 8 + (3 + 11) + rm_Di_macOfRow.locals ≤ rm.locals) (h8 : (st.map fun v => v.category).sum ≤ 8) (kk : ∀ r u', K r u' → pj_J g (pj_N g b u') pc' vs (.int r :: st)) : pj_J g (pj_N g b u) pc vs (.ref (b + i1) :: .int x0 :: st) :=
  pj_callS C (As := [.int x0, .ref (b + i1)]) (fun l D E => pc_Di_macOfRow l D E t1 h) rfl rfl wm_785 wm_786 wm_105 wm_787 (by decide +kernel) (n := 2) rfl hR rfl h8 hdg hp (fun v u' hq => by obtain ⟨r, rfl, hk⟩ := hq; exact kk r u' hk)
theorem ck_Datagram_104_Row {g : pj_G} {b : Nat} {cc : ByteArray} {nL : Nat} {ret : Option FieldType} {rm : Room} {u : pj_M} {pc pc' : Nat} {vs : List (Option Value)} {st : List Value} (C : pj_X g cc nL R_Da ret rm) {i0 : Nat} {x1 : Int32} {x2 : Int32} {K : pj_M → Prop} (t : pj_T i0 = 3) (h : pw_Ro_setInt u i0 x1 x2 K) (hdg : decode cc pc = .ok (.invokevirtual 104, 3)) (hp : pc + 3 = pc') (hR : rm_Ro_setInt.frames + 1 ≤ rm.frames ∧ 8 + (3 + 11) + rm_Ro_setInt.locals ≤ rm.locals) (h8 : (st.map fun v => v.category).sum ≤ 8) (kk : ∀ u', K u' → pj_J g (pj_N g b u') pc' vs st) : pj_J g (pj_N g b u) pc vs (.int x2 :: .int x1 :: .ref (b + i0) :: st) := by
  have t0 : pj_R i0 := Or.inl t
  exact pj_callV C (As := [.int x1, .int x2]) (fun l D E => pc_Ro_setInt l D E t0 h) rfl rfl cl_Row (pj_lt t (by decide)) (fun E => ko_3 t) wm_794 wm_795 wm_796 wm_94 wm_799 (by decide +kernel) (n := 2) rfl hR rfl h8 hdg hp (fun v u' hq => by obtain ⟨rfl, hk⟩ := hq; exact kk u' hk)
def rm_Da_sealRequest : Room := { frames := 2, cells := 0, slots := 0, locals := 45 }
def pb_Da_sealRequest_0  (K : pj_M → Prop) (u : pj_M) (i0 : Nat) (x1 : Int32) : Prop := pw_Di_macOfRow u x1 (i0 + 1) fun r2 u1 => (pw_Ro_setInt u1 (i0 + 1) (u i0 4) r2 fun u3 => (K u3))
set_option maxHeartbeats 1000000 in
theorem pt_Da_sealRequest_0 {g : pj_G} {b : Nat} (C : pj_X g c_Da_sealRequest 2 R_Da none rm_Da_sealRequest) {K : pj_M → Prop} (hE : pj_E g b (pj_Kv K))   {u : pj_M} {i0 : Nat} {x1 : Int32}  (t0 : pj_T i0 = 5) (h : pb_Da_sealRequest_0  K u i0 x1) : pj_J g (pj_N g b u) 0 [some (.ref (b + i0)), some (.int x1)] [] := by
  unfold pb_Da_sealRequest_0 at h
  refine pj_aload_n C d_Da_sealRequest_0 (pc' := 1) (i := 0) (x := b + i0) rfl rfl rfl ?_
  refine fg_Datagram_12_Datagram C t0 d_Da_sealRequest_1 (pc' := 4) rfl ?_
  refine pj_aload_n C d_Da_sealRequest_4 (pc' := 5) (i := 0) (x := b + i0) rfl rfl rfl ?_
  refine fg_Datagram_44_Datagram C t0 d_Da_sealRequest_5 (pc' := 8) rfl ?_
  refine pj_iload_n C d_Da_sealRequest_8 (pc' := 9) (i := 1) (x := x1) rfl rfl rfl ?_
  refine pj_aload_n C d_Da_sealRequest_9 (pc' := 10) (i := 0) (x := b + i0) rfl rfl rfl ?_
  refine fg_Datagram_12_Datagram C t0 d_Da_sealRequest_10 (pc' := 13) rfl ?_
  refine ck_Datagram_98 C (Or.inl (pl_Datagram_row t0)) h d_Da_sealRequest_13 (pc' := 16) rfl ⟨Nat.le_of_ble_eq_true rfl, Nat.le_of_ble_eq_true rfl⟩ (Nat.le_of_ble_eq_true rfl) (fun r2 u1 h => ?_)
  refine ck_Datagram_104_Row C (pl_Datagram_row t0) h d_Da_sealRequest_16 (pc' := 19) rfl ⟨Nat.le_of_ble_eq_true rfl, Nat.le_of_ble_eq_true rfl⟩ (Nat.le_of_ble_eq_true rfl) (fun u3 h => ?_)
  exact pj_vret C hE d_Da_sealRequest_19 ⟨rfl, h⟩
def pw_Da_sealRequest (u : pj_M) (i0 : Nat) (x1 : Int32) (K : pj_M → Prop) : Prop := pb_Da_sealRequest_0  K u i0 x1
theorem pc_Da_sealRequest (l : Launch) (D : va_G) (E : Nat → ClassId) {b : Nat} {u : pj_M} {i0 : Nat} {x1 : Int32} {K : pj_M → Prop} (t0 : pj_T i0 = 5) (h : pw_Da_sealRequest u i0 x1 K) : pj_C l y_Da_sealRequest c_Da_sealRequest 2 none rm_Da_sealRequest D E b [.ref (b + i0), .int x1] u (pj_Kv K) := by
  refine pj_met (own := R_Da) (by decide +kernel) rfl (Nat.le_of_ble_eq_true rfl) (fun g hE C => ?_)
  unfold pw_Da_sealRequest at h
  show pj_J g (pj_N g b u) 0 [some (.ref (b + i0)), some (.int x1)] []
  exact pj_cut (pj_le_s (pj_le_s pj_le_e)) (pt_Da_sealRequest_0 C hE  t0 h)
/-! Datagram.sealAnswer(I)V -/
theorem ck_Datagram_107_Datagram {g : pj_G} {b : Nat} {cc : ByteArray} {nL : Nat} {ret : Option FieldType} {rm : Room} {u : pj_M} {pc pc' : Nat} {vs : List (Option Value)} {st : List Value} (C : pj_X g cc nL R_Da ret rm) {i0 : Nat} {x1 : Int32} {K : pj_M → Prop} (t0 : pj_T i0 = 5) (h : pw_Da_sealRequest u i0 x1 K) (hdg : decode cc pc = .ok (.invokevirtual 107, 3)) (hp : pc + 3 = pc') (hR : rm_Da_sealRequest.frames + 1 ≤ rm.frames ∧ 8 + (2 + 11) + rm_Da_sealRequest.locals ≤ rm.locals) (h8 : (st.map fun v => v.category).sum ≤ 8) (kk : ∀ u', K u' → pj_J g (pj_N g b u') pc' vs st) : pj_J g (pj_N g b u) pc vs (.int x1 :: .ref (b + i0) :: st) :=
  pj_callV C (As := [.int x1]) (fun l D E => pc_Da_sealRequest l D E t0 h) rfl rfl cl_Datagram (pj_lt t0 (by decide)) (fun E => ko_5 t0) wm_990 wm_782 wm_783 wm_98 wm_784 (by decide +kernel) (n := 1) rfl hR rfl h8 hdg hp (fun v u' hq => by obtain ⟨rfl, hk⟩ := hq; exact kk u' hk)
theorem ck_Datagram_110 {g : pj_G} {b : Nat} {cc : ByteArray} {nL : Nat} {ret : Option FieldType} {rm : Room} {u : pj_M} {pc pc' : Nat} {vs : List (Option Value)} {st : List Value} (C : pj_X g cc nL R_Da ret rm) {i0 : Nat} {x1 : Int32} {K : Int32 → pj_M → Prop} (t0 : pj_R i0) (h : pw_Di_hashOfRow u i0 x1 K) (hdg : decode cc pc = .ok (.invokestatic 110, 3)) (hp : pc + 3 = pc') (hR : rm_Di_hashOfRow.frames + 1 ≤ rm.frames ∧ 8 + (2 + 11) + rm_Di_hashOfRow.locals ≤ rm.locals) (h8 : (st.map fun v => v.category).sum ≤ 8) (kk : ∀ r u', K r u' → pj_J g (pj_N g b u') pc' vs (.int r :: st)) : pj_J g (pj_N g b u) pc vs (.int x1 :: .ref (b + i0) :: st) :=
  pj_callS C (As := [.ref (b + i0), .int x1]) (fun l D E => pc_Di_hashOfRow l D E t0 h) rfl rfl wm_991 wm_992 wm_105 wm_993 (by decide +kernel) (n := 2) rfl hR rfl h8 hdg hp (fun v u' hq => by obtain ⟨r, rfl, hk⟩ := hq; exact kk r u' hk)
def rm_Da_sealAnswer : Room := { frames := 3, cells := 0, slots := 0, locals := 66 }
def pb_Da_sealAnswer_0  (K : pj_M → Prop) (u : pj_M) (i0 : Nat) (x1 : Int32) : Prop := pw_Da_sealRequest u i0 x1 fun u1 => (pw_Di_hashOfRow u1 (i0 + 1) x1 fun r3 u2 => (pw_Ro_setInt u2 (i0 + 1) 3 r3 fun u4 => (K u4)))
set_option maxHeartbeats 1000000 in
theorem pt_Da_sealAnswer_0 {g : pj_G} {b : Nat} (C : pj_X g c_Da_sealAnswer 2 R_Da none rm_Da_sealAnswer) {K : pj_M → Prop} (hE : pj_E g b (pj_Kv K))   {u : pj_M} {i0 : Nat} {x1 : Int32}  (t0 : pj_T i0 = 5) (h : pb_Da_sealAnswer_0  K u i0 x1) : pj_J g (pj_N g b u) 0 [some (.ref (b + i0)), some (.int x1)] [] := by
  unfold pb_Da_sealAnswer_0 at h
  refine pj_aload_n C d_Da_sealAnswer_0 (pc' := 1) (i := 0) (x := b + i0) rfl rfl rfl ?_
  refine pj_iload_n C d_Da_sealAnswer_1 (pc' := 2) (i := 1) (x := x1) rfl rfl rfl ?_
  refine ck_Datagram_107_Datagram C t0 h d_Da_sealAnswer_2 (pc' := 5) rfl ⟨Nat.le_of_ble_eq_true rfl, Nat.le_of_ble_eq_true rfl⟩ (Nat.le_of_ble_eq_true rfl) (fun u1 h => ?_)
  refine pj_aload_n C d_Da_sealAnswer_5 (pc' := 6) (i := 0) (x := b + i0) rfl rfl rfl ?_
  refine fg_Datagram_12_Datagram C t0 d_Da_sealAnswer_6 (pc' := 9) rfl ?_
  refine pj_iconst C d_Da_sealAnswer_9 (pc' := 10) rfl (v := 3) (by decide) ?_
  refine pj_aload_n C d_Da_sealAnswer_10 (pc' := 11) (i := 0) (x := b + i0) rfl rfl rfl ?_
  refine fg_Datagram_12_Datagram C t0 d_Da_sealAnswer_11 (pc' := 14) rfl ?_
  refine pj_iload_n C d_Da_sealAnswer_14 (pc' := 15) (i := 1) (x := x1) rfl rfl rfl ?_
  refine ck_Datagram_110 C (Or.inl (pl_Datagram_row t0)) h d_Da_sealAnswer_15 (pc' := 18) rfl ⟨Nat.le_of_ble_eq_true rfl, Nat.le_of_ble_eq_true rfl⟩ (Nat.le_of_ble_eq_true rfl) (fun r3 u2 h => ?_)
  refine ck_Datagram_104_Row C (pl_Datagram_row t0) h d_Da_sealAnswer_18 (pc' := 21) rfl ⟨Nat.le_of_ble_eq_true rfl, Nat.le_of_ble_eq_true rfl⟩ (Nat.le_of_ble_eq_true rfl) (fun u4 h => ?_)
  exact pj_vret C hE d_Da_sealAnswer_21 ⟨rfl, h⟩
def pw_Da_sealAnswer (u : pj_M) (i0 : Nat) (x1 : Int32) (K : pj_M → Prop) : Prop := pb_Da_sealAnswer_0  K u i0 x1
theorem pc_Da_sealAnswer (l : Launch) (D : va_G) (E : Nat → ClassId) {b : Nat} {u : pj_M} {i0 : Nat} {x1 : Int32} {K : pj_M → Prop} (t0 : pj_T i0 = 5) (h : pw_Da_sealAnswer u i0 x1 K) : pj_C l y_Da_sealAnswer c_Da_sealAnswer 2 none rm_Da_sealAnswer D E b [.ref (b + i0), .int x1] u (pj_Kv K) := by
  refine pj_met (own := R_Da) (by decide +kernel) rfl (Nat.le_of_ble_eq_true rfl) (fun g hE C => ?_)
  unfold pw_Da_sealAnswer at h
  show pj_J g (pj_N g b u) 0 [some (.ref (b + i0)), some (.int x1)] []
  exact pj_cut (pj_le_s (pj_le_s pj_le_e)) (pt_Da_sealAnswer_0 C hE  t0 h)
/-! Datagram.isSealed(II)Z -/
theorem fg_Datagram_60_Datagram {g : pj_G} {b : Nat} {cc : ByteArray} {nL : Nat} {ret : Option FieldType} {rm : Room} {u : pj_M} {pc pc' : Nat} {vs : List (Option Value)} {st : List Value} (C : pj_X g cc nL R_Da ret rm) {i : Nat} (t : pj_T i = 5) (hdg : decode cc pc = .ok (.getfield 60, 3)) (hp : pc + 3 = pc') (kk : pj_J g (pj_N g b u) pc' vs (.int (u i 6) :: st)) : pj_J g (pj_N g b u) pc vs (.ref (b + i) :: st) :=
  pj_get C cl_Datagram hin_Datagram (k := 6) (Nat.le_of_ble_eq_true rfl) wm_280 (Or.inl rfl) (pj_lt t (by decide)) (fun E => ko_5 t) rfl hdg hp kk
def rm_Da_isSealed : Room := { frames := 2, cells := 0, slots := 0, locals := 45 }
def pb_Da_isSealed_41  (K : Int32 → pj_M → Prop) (u : pj_M) (i0 : Nat) (s0 : Int32) : Prop := pw_Ro_setInt u (i0 + 1) (u i0 4) (u i0 6) fun u1 => (pj_bi s0 ∧ K s0 u1)
set_option maxHeartbeats 1000000 in
theorem pt_Da_isSealed_41 {g : pj_G} {b : Nat} (C : pj_X g c_Da_isSealed 4 R_Da (some .boolean) rm_Da_isSealed) {K : Int32 → pj_M → Prop} (hE : pj_E g b (pj_Ki K))   {u : pj_M} {i0 : Nat} {s0 : Int32}  (t0 : pj_T i0 = 5) (h : pb_Da_isSealed_41  K u i0 s0) : pj_J g (pj_N g b u) 41 [some (.ref (b + i0)), none, none, none] [.int s0] := by
  unfold pb_Da_isSealed_41 at h
  refine pj_istore_n C d_Da_isSealed_41 (pc' := 42) (i := 3) (vs' := [some (.ref (b + i0)), none, none, some (.int s0)]) rfl rfl (Nat.le_of_ble_eq_true rfl) (Nat.le_of_ble_eq_true rfl) rfl rfl ?_
  refine pj_aload_n C d_Da_isSealed_42 (pc' := 43) (i := 0) (x := b + i0) rfl rfl rfl ?_
  refine fg_Datagram_12_Datagram C t0 d_Da_isSealed_43 (pc' := 46) rfl ?_
  refine pj_aload_n C d_Da_isSealed_46 (pc' := 47) (i := 0) (x := b + i0) rfl rfl rfl ?_
  refine fg_Datagram_44_Datagram C t0 d_Da_isSealed_47 (pc' := 50) rfl ?_
  refine pj_aload_n C d_Da_isSealed_50 (pc' := 51) (i := 0) (x := b + i0) rfl rfl rfl ?_
  refine fg_Datagram_60_Datagram C t0 d_Da_isSealed_51 (pc' := 54) rfl ?_
  refine ck_Datagram_104_Row C (pl_Datagram_row t0) h d_Da_isSealed_54 (pc' := 57) rfl ⟨Nat.le_of_ble_eq_true rfl, Nat.le_of_ble_eq_true rfl⟩ (Nat.le_of_ble_eq_true rfl) (fun u1 h => ?_)
  refine pj_iload_n C d_Da_isSealed_57 (pc' := 58) (i := 3) (x := s0) rfl rfl rfl ?_
  exact pj_zret C hE d_Da_isSealed_58 h.1 ⟨_, rfl, h.2⟩
def pb_Da_isSealed_40  (K : Int32 → pj_M → Prop) (u : pj_M) (i0 : Nat) : Prop := pb_Da_isSealed_41  K u i0 0
set_option maxHeartbeats 1000000 in
theorem pt_Da_isSealed_40 {g : pj_G} {b : Nat} (C : pj_X g c_Da_isSealed 4 R_Da (some .boolean) rm_Da_isSealed) {K : Int32 → pj_M → Prop} (hE : pj_E g b (pj_Ki K))   {u : pj_M} {i0 : Nat}  (t0 : pj_T i0 = 5) (h : pb_Da_isSealed_40  K u i0) : pj_J g (pj_N g b u) 40 [some (.ref (b + i0)), none, none, none] [] := by
  unfold pb_Da_isSealed_40 at h
  refine pj_iconst C d_Da_isSealed_40 (pc' := 41) rfl (v := 0) (by decide) ?_
  exact pj_cut (pj_le_s (pj_le_n (pj_le_n (pj_le_n pj_le_e)))) (pt_Da_isSealed_41 C hE  t0 h)
def pb_Da_isSealed_36  (K : Int32 → pj_M → Prop) (u : pj_M) (i0 : Nat) : Prop := pb_Da_isSealed_41  K u i0 1
set_option maxHeartbeats 1000000 in
theorem pt_Da_isSealed_36 {g : pj_G} {b : Nat} (C : pj_X g c_Da_isSealed 4 R_Da (some .boolean) rm_Da_isSealed) {K : Int32 → pj_M → Prop} (hE : pj_E g b (pj_Ki K))   {u : pj_M} {i0 : Nat}  (t0 : pj_T i0 = 5) (h : pb_Da_isSealed_36  K u i0) : pj_J g (pj_N g b u) 36 [some (.ref (b + i0)), none, none, none] [] := by
  unfold pb_Da_isSealed_36 at h
  refine pj_iconst C d_Da_isSealed_36 (pc' := 37) rfl (v := 1) (by decide) ?_
  refine pj_goto C d_Da_isSealed_37 (tgt := 41) (by decide) ?_
  exact pj_cut (pj_le_s (pj_le_n (pj_le_n (pj_le_n pj_le_e)))) (pt_Da_isSealed_41 C hE  t0 h)
def pb_Da_isSealed_0  (K : Int32 → pj_M → Prop) (u : pj_M) (i0 : Nat) (x1 : Int32) (x2 : Int32) : Prop := pw_Ro_setInt u (i0 + 1) 3 x2 fun u1 => (pw_Ro_setInt u1 (i0 + 1) (u1 i0 4) 0 fun u2 => (pw_Di_macOfRow u2 x1 (i0 + 1) fun r4 u3 => (((r4 = (u3 i0 6)) → (pb_Da_isSealed_36  K u3 i0)) ∧ (¬ (r4 = (u3 i0 6)) → (pb_Da_isSealed_40  K u3 i0)))))
set_option maxHeartbeats 1000000 in
theorem pt_Da_isSealed_0 {g : pj_G} {b : Nat} (C : pj_X g c_Da_isSealed 4 R_Da (some .boolean) rm_Da_isSealed) {K : Int32 → pj_M → Prop} (hE : pj_E g b (pj_Ki K))   {u : pj_M} {i0 : Nat} {x1 : Int32} {x2 : Int32}  (t0 : pj_T i0 = 5) (h : pb_Da_isSealed_0  K u i0 x1 x2) : pj_J g (pj_N g b u) 0 [some (.ref (b + i0)), some (.int x1), some (.int x2), none] [] := by
  unfold pb_Da_isSealed_0 at h
  refine pj_aload_n C d_Da_isSealed_0 (pc' := 1) (i := 0) (x := b + i0) rfl rfl rfl ?_
  refine fg_Datagram_12_Datagram C t0 d_Da_isSealed_1 (pc' := 4) rfl ?_
  refine pj_iconst C d_Da_isSealed_4 (pc' := 5) rfl (v := 3) (by decide) ?_
  refine pj_iload_n C d_Da_isSealed_5 (pc' := 6) (i := 2) (x := x2) rfl rfl rfl ?_
  refine ck_Datagram_104_Row C (pl_Datagram_row t0) h d_Da_isSealed_6 (pc' := 9) rfl ⟨Nat.le_of_ble_eq_true rfl, Nat.le_of_ble_eq_true rfl⟩ (Nat.le_of_ble_eq_true rfl) (fun u1 h => ?_)
  refine pj_aload_n C d_Da_isSealed_9 (pc' := 10) (i := 0) (x := b + i0) rfl rfl rfl ?_
  refine fg_Datagram_12_Datagram C t0 d_Da_isSealed_10 (pc' := 13) rfl ?_
  refine pj_aload_n C d_Da_isSealed_13 (pc' := 14) (i := 0) (x := b + i0) rfl rfl rfl ?_
  refine fg_Datagram_44_Datagram C t0 d_Da_isSealed_14 (pc' := 17) rfl ?_
  refine pj_iconst C d_Da_isSealed_17 (pc' := 18) rfl (v := 0) (by decide) ?_
  refine ck_Datagram_104_Row C (pl_Datagram_row t0) h d_Da_isSealed_18 (pc' := 21) rfl ⟨Nat.le_of_ble_eq_true rfl, Nat.le_of_ble_eq_true rfl⟩ (Nat.le_of_ble_eq_true rfl) (fun u2 h => ?_)
  refine pj_iload_n C d_Da_isSealed_21 (pc' := 22) (i := 1) (x := x1) rfl rfl rfl ?_
  refine pj_aload_n C d_Da_isSealed_22 (pc' := 23) (i := 0) (x := b + i0) rfl rfl rfl ?_
  refine fg_Datagram_12_Datagram C t0 d_Da_isSealed_23 (pc' := 26) rfl ?_
  refine ck_Datagram_98 C (Or.inl (pl_Datagram_row t0)) h d_Da_isSealed_26 (pc' := 29) rfl ⟨Nat.le_of_ble_eq_true rfl, Nat.le_of_ble_eq_true rfl⟩ (Nat.le_of_ble_eq_true rfl) (fun r4 u3 h => ?_)
  refine pj_aload_n C d_Da_isSealed_29 (pc' := 30) (i := 0) (x := b + i0) rfl rfl rfl ?_
  refine fg_Datagram_60_Datagram C t0 d_Da_isSealed_30 (pc' := 33) rfl ?_
  refine pj_icmp_ne C d_Da_isSealed_33 (pc' := 36) rfl (tgt := 40) (by decide) h (fun h => ?_) (fun h => ?_)
  · exact pj_cut (pj_le_s (pj_le_n (pj_le_n (pj_le_n pj_le_e)))) (pt_Da_isSealed_40 C hE  t0 h)
  · exact pj_cut (pj_le_s (pj_le_n (pj_le_n (pj_le_n pj_le_e)))) (pt_Da_isSealed_36 C hE  t0 h)
def pw_Da_isSealed (u : pj_M) (i0 : Nat) (x1 : Int32) (x2 : Int32) (K : Int32 → pj_M → Prop) : Prop := pb_Da_isSealed_0  K u i0 x1 x2
theorem pc_Da_isSealed (l : Launch) (D : va_G) (E : Nat → ClassId) {b : Nat} {u : pj_M} {i0 : Nat} {x1 : Int32} {x2 : Int32} {K : Int32 → pj_M → Prop} (t0 : pj_T i0 = 5) (h : pw_Da_isSealed u i0 x1 x2 K) : pj_C l y_Da_isSealed c_Da_isSealed 4 (some .boolean) rm_Da_isSealed D E b [.ref (b + i0), .int x1, .int x2] u (pj_Ki K) := by
  refine pj_met (own := R_Da) (by decide +kernel) rfl (Nat.le_of_ble_eq_true rfl) (fun g hE C => ?_)
  unfold pw_Da_isSealed at h
  show pj_J g (pj_N g b u) 0 [some (.ref (b + i0)), some (.int x1), some (.int x2), none] []
  exact pj_cut (pj_le_s (pj_le_s (pj_le_s (pj_le_n pj_le_e)))) (pt_Da_isSealed_0 C hE  t0 h)
/-! Datagram.isAnswerTo(II)Z -/
theorem fg_Datagram_57_Datagram {g : pj_G} {b : Nat} {cc : ByteArray} {nL : Nat} {ret : Option FieldType} {rm : Room} {u : pj_M} {pc pc' : Nat} {vs : List (Option Value)} {st : List Value} (C : pj_X g cc nL R_Da ret rm) {i : Nat} (t : pj_T i = 5) (hdg : decode cc pc = .ok (.getfield 57, 3)) (hp : pc + 3 = pc') (kk : pj_J g (pj_N g b u) pc' vs (.int (u i 5) :: st)) : pj_J g (pj_N g b u) pc vs (.ref (b + i) :: st) :=
  pj_get C cl_Datagram hin_Datagram (k := 5) (Nat.le_of_ble_eq_true rfl) wm_279 (Or.inl rfl) (pj_lt t (by decide)) (fun E => ko_5 t) rfl hdg hp kk
theorem ck_Datagram_114_Datagram {g : pj_G} {b : Nat} {cc : ByteArray} {nL : Nat} {ret : Option FieldType} {rm : Room} {u : pj_M} {pc pc' : Nat} {vs : List (Option Value)} {st : List Value} (C : pj_X g cc nL R_Da ret rm) {i0 : Nat} {x1 : Int32} {x2 : Int32} {K : Int32 → pj_M → Prop} (t0 : pj_T i0 = 5) (h : pw_Da_isSealed u i0 x1 x2 K) (hdg : decode cc pc = .ok (.invokevirtual 114, 3)) (hp : pc + 3 = pc') (hR : rm_Da_isSealed.frames + 1 ≤ rm.frames ∧ 8 + (4 + 11) + rm_Da_isSealed.locals ≤ rm.locals) (h8 : (st.map fun v => v.category).sum ≤ 8) (kk : ∀ r u', K r u' → pj_J g (pj_N g b u') pc' vs (.int r :: st)) : pj_J g (pj_N g b u) pc vs (.int x2 :: .int x1 :: .ref (b + i0) :: st) :=
  pj_callV C (As := [.int x1, .int x2]) (fun l D E => pc_Da_isSealed l D E t0 h) rfl rfl cl_Datagram (pj_lt t0 (by decide)) (fun E => ko_5 t0) wm_1018 wm_900 wm_901 wm_98 wm_902 (by decide +kernel) (n := 2) rfl hR rfl h8 hdg hp (fun v u' hq => by obtain ⟨r, rfl, hk⟩ := hq; exact kk r u' hk)
def rm_Da_isAnswerTo : Room := { frames := 3, cells := 0, slots := 0, locals := 68 }
def pb_Da_isAnswerTo_29  (K : Int32 → pj_M → Prop) (u : pj_M) (s0 : Int32) : Prop := pj_bi s0 ∧ K s0 u
set_option maxHeartbeats 1000000 in
theorem pt_Da_isAnswerTo_29 {g : pj_G} {b : Nat} (C : pj_X g c_Da_isAnswerTo 3 R_Da (some .boolean) rm_Da_isAnswerTo) {K : Int32 → pj_M → Prop} (hE : pj_E g b (pj_Ki K))   {u : pj_M} {s0 : Int32}   (h : pb_Da_isAnswerTo_29  K u s0) : pj_J g (pj_N g b u) 29 [none, none, none] [.int s0] := by
  unfold pb_Da_isAnswerTo_29 at h
  exact pj_zret C hE d_Da_isAnswerTo_29 h.1 ⟨_, rfl, h.2⟩
def pb_Da_isAnswerTo_28  (K : Int32 → pj_M → Prop) (u : pj_M)  : Prop := pb_Da_isAnswerTo_29  K u 0
set_option maxHeartbeats 1000000 in
theorem pt_Da_isAnswerTo_28 {g : pj_G} {b : Nat} (C : pj_X g c_Da_isAnswerTo 3 R_Da (some .boolean) rm_Da_isAnswerTo) {K : Int32 → pj_M → Prop} (hE : pj_E g b (pj_Ki K))   {u : pj_M}    (h : pb_Da_isAnswerTo_28  K u ) : pj_J g (pj_N g b u) 28 [none, none, none] [] := by
  unfold pb_Da_isAnswerTo_28 at h
  refine pj_iconst C d_Da_isAnswerTo_28 (pc' := 29) rfl (v := 0) (by decide) ?_
  exact pj_cut (pj_le_n (pj_le_n (pj_le_n pj_le_e))) (pt_Da_isAnswerTo_29 C hE   h)
def pb_Da_isAnswerTo_24  (K : Int32 → pj_M → Prop) (u : pj_M)  : Prop := pb_Da_isAnswerTo_29  K u 1
set_option maxHeartbeats 1000000 in
theorem pt_Da_isAnswerTo_24 {g : pj_G} {b : Nat} (C : pj_X g c_Da_isAnswerTo 3 R_Da (some .boolean) rm_Da_isAnswerTo) {K : Int32 → pj_M → Prop} (hE : pj_E g b (pj_Ki K))   {u : pj_M}    (h : pb_Da_isAnswerTo_24  K u ) : pj_J g (pj_N g b u) 24 [none, none, none] [] := by
  unfold pb_Da_isAnswerTo_24 at h
  refine pj_iconst C d_Da_isAnswerTo_24 (pc' := 25) rfl (v := 1) (by decide) ?_
  refine pj_goto C d_Da_isAnswerTo_25 (tgt := 29) (by decide) ?_
  exact pj_cut (pj_le_n (pj_le_n (pj_le_n pj_le_e))) (pt_Da_isAnswerTo_29 C hE   h)
def pb_Da_isAnswerTo_9  (K : Int32 → pj_M → Prop) (u : pj_M) (i0 : Nat) (x1 : Int32) : Prop := pw_Di_hashOfRow u (i0 + 1) x1 fun r2 u1 => (((r2 = (u1 i0 5)) → (pb_Da_isAnswerTo_24  K u1 )) ∧ (¬ (r2 = (u1 i0 5)) → (pb_Da_isAnswerTo_28  K u1 )))
set_option maxHeartbeats 1000000 in
theorem pt_Da_isAnswerTo_9 {g : pj_G} {b : Nat} (C : pj_X g c_Da_isAnswerTo 3 R_Da (some .boolean) rm_Da_isAnswerTo) {K : Int32 → pj_M → Prop} (hE : pj_E g b (pj_Ki K))   {u : pj_M} {i0 : Nat} {x1 : Int32}  (t0 : pj_T i0 = 5) (h : pb_Da_isAnswerTo_9  K u i0 x1) : pj_J g (pj_N g b u) 9 [some (.ref (b + i0)), some (.int x1), none] [] := by
  unfold pb_Da_isAnswerTo_9 at h
  refine pj_aload_n C d_Da_isAnswerTo_9 (pc' := 10) (i := 0) (x := b + i0) rfl rfl rfl ?_
  refine fg_Datagram_12_Datagram C t0 d_Da_isAnswerTo_10 (pc' := 13) rfl ?_
  refine pj_iload_n C d_Da_isAnswerTo_13 (pc' := 14) (i := 1) (x := x1) rfl rfl rfl ?_
  refine ck_Datagram_110 C (Or.inl (pl_Datagram_row t0)) h d_Da_isAnswerTo_14 (pc' := 17) rfl ⟨Nat.le_of_ble_eq_true rfl, Nat.le_of_ble_eq_true rfl⟩ (Nat.le_of_ble_eq_true rfl) (fun r2 u1 h => ?_)
  refine pj_aload_n C d_Da_isAnswerTo_17 (pc' := 18) (i := 0) (x := b + i0) rfl rfl rfl ?_
  refine fg_Datagram_57_Datagram C t0 d_Da_isAnswerTo_18 (pc' := 21) rfl ?_
  refine pj_icmp_ne C d_Da_isAnswerTo_21 (pc' := 24) rfl (tgt := 28) (by decide) h (fun h => ?_) (fun h => ?_)
  · exact pj_cut (pj_le_n (pj_le_n (pj_le_n pj_le_e))) (pt_Da_isAnswerTo_28 C hE   h)
  · exact pj_cut (pj_le_n (pj_le_n (pj_le_n pj_le_e))) (pt_Da_isAnswerTo_24 C hE   h)
def pb_Da_isAnswerTo_0  (K : Int32 → pj_M → Prop) (u : pj_M) (i0 : Nat) (x1 : Int32) (x2 : Int32) : Prop := pw_Da_isSealed u i0 x1 x2 fun r2 u1 => (((r2 = 0) → (pb_Da_isAnswerTo_28  K u1 )) ∧ (¬ (r2 = 0) → (pb_Da_isAnswerTo_9  K u1 i0 x1)))
set_option maxHeartbeats 1000000 in
theorem pt_Da_isAnswerTo_0 {g : pj_G} {b : Nat} (C : pj_X g c_Da_isAnswerTo 3 R_Da (some .boolean) rm_Da_isAnswerTo) {K : Int32 → pj_M → Prop} (hE : pj_E g b (pj_Ki K))   {u : pj_M} {i0 : Nat} {x1 : Int32} {x2 : Int32}  (t0 : pj_T i0 = 5) (h : pb_Da_isAnswerTo_0  K u i0 x1 x2) : pj_J g (pj_N g b u) 0 [some (.ref (b + i0)), some (.int x1), some (.int x2)] [] := by
  unfold pb_Da_isAnswerTo_0 at h
  refine pj_aload_n C d_Da_isAnswerTo_0 (pc' := 1) (i := 0) (x := b + i0) rfl rfl rfl ?_
  refine pj_iload_n C d_Da_isAnswerTo_1 (pc' := 2) (i := 1) (x := x1) rfl rfl rfl ?_
  refine pj_iload_n C d_Da_isAnswerTo_2 (pc' := 3) (i := 2) (x := x2) rfl rfl rfl ?_
  refine ck_Datagram_114_Datagram C t0 h d_Da_isAnswerTo_3 (pc' := 6) rfl ⟨Nat.le_of_ble_eq_true rfl, Nat.le_of_ble_eq_true rfl⟩ (Nat.le_of_ble_eq_true rfl) (fun r2 u1 h => ?_)
  refine pj_if_eq C d_Da_isAnswerTo_6 (pc' := 9) rfl (tgt := 28) (by decide) h (fun h => ?_) (fun h => ?_)
  · exact pj_cut (pj_le_n (pj_le_n (pj_le_n pj_le_e))) (pt_Da_isAnswerTo_28 C hE   h)
  · exact pj_cut (pj_le_s (pj_le_s (pj_le_n pj_le_e))) (pt_Da_isAnswerTo_9 C hE  t0 h)
def pw_Da_isAnswerTo (u : pj_M) (i0 : Nat) (x1 : Int32) (x2 : Int32) (K : Int32 → pj_M → Prop) : Prop := pb_Da_isAnswerTo_0  K u i0 x1 x2
theorem pc_Da_isAnswerTo (l : Launch) (D : va_G) (E : Nat → ClassId) {b : Nat} {u : pj_M} {i0 : Nat} {x1 : Int32} {x2 : Int32} {K : Int32 → pj_M → Prop} (t0 : pj_T i0 = 5) (h : pw_Da_isAnswerTo u i0 x1 x2 K) : pj_C l y_Da_isAnswerTo c_Da_isAnswerTo 3 (some .boolean) rm_Da_isAnswerTo D E b [.ref (b + i0), .int x1, .int x2] u (pj_Ki K) := by
  refine pj_met (own := R_Da) (by decide +kernel) rfl (Nat.le_of_ble_eq_true rfl) (fun g hE C => ?_)
  unfold pw_Da_isAnswerTo at h
  show pj_J g (pj_N g b u) 0 [some (.ref (b + i0)), some (.int x1), some (.int x2)] []
  exact pj_cut (pj_le_s (pj_le_s (pj_le_s pj_le_e))) (pt_Da_isAnswerTo_0 C hE  t0 h)
