/-! Switch.sendToHost(LPortGuard$Port;LPortGuard$Packet;)V -/
theorem fg_Switch_42_Switch {g : pj_G} {b : Nat} {cc : ByteArray} {nL : Nat} {ret : Option FieldType} {rm : Room} {u : pj_M} {pc pc' : Nat} {vs : List (Option Value)} {st : List Value} (C : pj_X g cc nL R_Sw ret rm) {i : Nat} (t : pj_T i = 10) (hdg : decode cc pc = .ok (.getfield 42, 3)) (hp : pc + 3 = pc') (kk : pj_J g (pj_N g b u) pc' vs (.ref (b + 4) :: st)) : pj_J g (pj_N g b u) pc vs (.ref (b + i) :: st) :=
  pj_get C cl_Switch hin_Switch (k := 1) (Nat.le_of_ble_eq_true rfl) wm_489 (Or.inl rfl) (pj_lt t (by decide)) (fun E => ko_10 t) rfl hdg hp kk
theorem fg_Switch_98_Port {g : pj_G} {b : Nat} {cc : ByteArray} {nL : Nat} {ret : Option FieldType} {rm : Room} {u : pj_M} {pc pc' : Nat} {vs : List (Option Value)} {st : List Value} (C : pj_X g cc nL R_Sw ret rm) {i : Nat} (t : pj_T i = 9) (hdg : decode cc pc = .ok (.getfield 98, 3)) (hp : pc + 3 = pc') (kk : pj_J g (pj_N g b u) pc' vs (.int (u i 0) :: st)) : pj_J g (pj_N g b u) pc vs (.ref (b + i) :: st) :=
  pj_get C cl_Port hin_Port (k := 0) (Nat.le_of_ble_eq_true rfl) wm_414 (Or.inl rfl) (pj_lt t (by decide)) (fun E => ko_9 t) rfl hdg hp kk
theorem fp_Switch_81_Port {g : pj_G} {b : Nat} {cc : ByteArray} {nL : Nat} {ret : Option FieldType} {rm : Room} {u : pj_M} {pc pc' : Nat} {vs : List (Option Value)} {st : List Value} (C : pj_X g cc nL R_Sw ret rm) {i : Nat} {x : Int32} {P : pj_M → Prop} (t : pj_T i = 9)  (hdg : decode cc pc = .ok (.putfield 81, 3)) (hp : pc + 3 = pc') (h : pj_put u i 17 x P) (kk : ∀ u', P u' → pj_J g (pj_N g b u') pc' vs st) : pj_J g (pj_N g b u) pc vs (.int x :: .ref (b + i) :: st) :=
  pj_putI C cl_Port hin_Port ty_Port tyok_Port nm_Port (k := 17) (Nat.le_of_ble_eq_true rfl) wm_447 (Or.inl rfl) rfl (ty := .int) (by decide +kernel) rfl rfl (pj_lt t (by decide)) (fun E u => ko_9 t) (F := fun f => [.int (f 0), .ref (b + (i + 1)), .ref (b + (i + 3)), .ref (b + (i + 5)), .int (f 4), .int (f 5), .int (f 6), .int (f 7), .int (f 8), .int (f 9), .int (f 10), .int (f 11), .int (f 12), .int (f 13), .int (f 14), .int (f 15), .int (f 16), .int (f 17)]) (fun _ => Nat.le_of_ble_eq_true rfl) (fun _ _ => rfl) hdg hp h kk
theorem ck_Switch_101_Mailbox {g : pj_G} {b : Nat} {cc : ByteArray} {nL : Nat} {ret : Option FieldType} {rm : Room} {u : pj_M} {pc pc' : Nat} {vs : List (Option Value)} {st : List Value} (C : pj_X g cc nL R_Sw ret rm) {x1 : Int32} {x2 : Int32} {i3 : Nat} {K : pj_M → Prop} (t3 : pj_T i3 = 4) (h : pw_Ma_sendPacket u x1 x2 i3 K) (hdg : decode cc pc = .ok (.invokevirtual 101, 3)) (hp : pc + 3 = pc') (hR : rm_Ma_sendPacket.frames + 1 ≤ rm.frames ∧ 8 + (5 + 11) + rm_Ma_sendPacket.locals ≤ rm.locals) (h8 : (st.map fun v => v.category).sum ≤ 8) (kk : ∀ u', K u' → pj_J g (pj_N g b u') pc' vs st) : pj_J g (pj_N g b u) pc vs (.ref (b + i3) :: .int x2 :: .int x1 :: .ref (b + 4) :: st) :=
  pj_callV C (As := [.int x1, .int x2, .ref (b + i3)]) (fun l D E => pc_Ma_sendPacket l D E t3 h) rfl rfl cl_Mailbox (pj_lt tk_4 (by decide)) (fun E => ko_2 tk_4) wm_632 wm_633 wm_634 wm_93 wm_635 (by decide +kernel) (n := 3) rfl hR rfl h8 hdg hp (fun v u' hq => by obtain ⟨rfl, hk⟩ := hq; exact kk u' hk)
theorem ck_Switch_107_Packet {g : pj_G} {b : Nat} {cc : ByteArray} {nL : Nat} {ret : Option FieldType} {rm : Room} {u : pj_M} {pc pc' : Nat} {vs : List (Option Value)} {st : List Value} (C : pj_X g cc nL R_Sw ret rm) {i0 : Nat} {K : Int32 → pj_M → Prop} (t0 : pj_T i0 = 4) (h : pw_Pa_id u i0 K) (hdg : decode cc pc = .ok (.invokevirtual 107, 3)) (hp : pc + 3 = pc') (hR : rm_Pa_id.frames + 1 ≤ rm.frames ∧ 8 + (1 + 11) + rm_Pa_id.locals ≤ rm.locals) (h8 : (st.map fun v => v.category).sum ≤ 8) (kk : ∀ r u', K r u' → pj_J g (pj_N g b u') pc' vs (.int r :: st)) : pj_J g (pj_N g b u) pc vs (.ref (b + i0) :: st) :=
  pj_callV C (As := []) (fun l D E => pc_Pa_id l D E t0 h) rfl rfl cl_Packet (pj_lt t0 (by decide)) (fun E => ko_4 t0) wm_642 wm_643 wm_644 wm_96 wm_645 (by decide +kernel) (n := 0) rfl hR rfl h8 hdg hp (fun v u' hq => by obtain ⟨r, rfl, hk⟩ := hq; exact kk r u' hk)
def rm_Sw_sendToHost : Room := { frames := 2, cells := 0, slots := 0, locals := 48 }
def pb_Sw_sendToHost_0  (K : pj_M → Prop) (u : pj_M) (i1 : Nat) (i2 : Nat) : Prop := pw_Ma_sendPacket u 1 (u i1 0) i2 fun u1 => (pw_Pa_id u1 i2 fun r3 u2 => (pj_put u2 i1 17 ((r3 + 1) &&& 255) fun u4 => (K u4)))
set_option maxHeartbeats 1000000 in
theorem pt_Sw_sendToHost_0 {g : pj_G} {b : Nat} (C : pj_X g c_Sw_sendToHost 3 R_Sw none rm_Sw_sendToHost) {K : pj_M → Prop} (hE : pj_E g b (pj_Kv K))   {u : pj_M} {i1 : Nat} {i2 : Nat}  (t1 : pj_T i1 = 9) (t2 : pj_T i2 = 4) (h : pb_Sw_sendToHost_0  K u i1 i2) : pj_J g (pj_N g b u) 0 [some (.ref (b + 170)), some (.ref (b + i1)), some (.ref (b + i2))] [] := by
  unfold pb_Sw_sendToHost_0 at h
  refine pj_aload_n C d_Sw_sendToHost_0 (pc' := 1) (i := 0) (x := b + 170) rfl rfl rfl ?_
  refine fg_Switch_42_Switch C tk_170 d_Sw_sendToHost_1 (pc' := 4) rfl ?_
  refine pj_iconst C d_Sw_sendToHost_4 (pc' := 5) rfl (v := 1) (by decide) ?_
  refine pj_aload_n C d_Sw_sendToHost_5 (pc' := 6) (i := 1) (x := b + i1) rfl rfl rfl ?_
  refine fg_Switch_98_Port C t1 d_Sw_sendToHost_6 (pc' := 9) rfl ?_
  refine pj_aload_n C d_Sw_sendToHost_9 (pc' := 10) (i := 2) (x := b + i2) rfl rfl rfl ?_
  refine ck_Switch_101_Mailbox C t2 h d_Sw_sendToHost_10 (pc' := 13) rfl ⟨Nat.le_of_ble_eq_true rfl, Nat.le_of_ble_eq_true rfl⟩ (Nat.le_of_ble_eq_true rfl) (fun u1 h => ?_)
  refine pj_aload_n C d_Sw_sendToHost_13 (pc' := 14) (i := 1) (x := b + i1) rfl rfl rfl ?_
  refine pj_aload_n C d_Sw_sendToHost_14 (pc' := 15) (i := 2) (x := b + i2) rfl rfl rfl ?_
  refine ck_Switch_107_Packet C t2 h d_Sw_sendToHost_15 (pc' := 18) rfl ⟨Nat.le_of_ble_eq_true rfl, Nat.le_of_ble_eq_true rfl⟩ (Nat.le_of_ble_eq_true rfl) (fun r3 u2 h => ?_)
  refine pj_iconst C d_Sw_sendToHost_18 (pc' := 19) rfl (v := 1) (by decide) ?_
  refine pj_iadd C d_Sw_sendToHost_19 (pc' := 20) rfl ?_
  refine pj_sipush C d_Sw_sendToHost_20 (pc' := 23) rfl (v := 255) (by decide) ?_
  refine pj_iand C d_Sw_sendToHost_23 (pc' := 24) rfl ?_
  refine fp_Switch_81_Port C t1  d_Sw_sendToHost_24 (pc' := 27) rfl h (fun u4 h => ?_)
  exact pj_vret C hE d_Sw_sendToHost_27 ⟨rfl, h⟩
def pw_Sw_sendToHost (u : pj_M) (i1 : Nat) (i2 : Nat) (K : pj_M → Prop) : Prop := pb_Sw_sendToHost_0  K u i1 i2
theorem pc_Sw_sendToHost (l : Launch) (D : va_G) (E : Nat → ClassId) {b : Nat} {u : pj_M} {i1 : Nat} {i2 : Nat} {K : pj_M → Prop} (t1 : pj_T i1 = 9) (t2 : pj_T i2 = 4) (h : pw_Sw_sendToHost u i1 i2 K) : pj_C l y_Sw_sendToHost c_Sw_sendToHost 3 none rm_Sw_sendToHost D E b [.ref (b + 170), .ref (b + i1), .ref (b + i2)] u (pj_Kv K) := by
  refine pj_met (own := R_Sw) (by decide +kernel) rfl (Nat.le_of_ble_eq_true rfl) (fun g hE C => ?_)
  unfold pw_Sw_sendToHost at h
  show pj_J g (pj_N g b u) 0 [some (.ref (b + 170)), some (.ref (b + i1)), some (.ref (b + i2))] []
  exact pj_cut (pj_le_s (pj_le_s (pj_le_s pj_le_e))) (pt_Sw_sendToHost_0 C hE  t1 t2 h)
/-! Switch.begin(LPortGuard$Port;)V -/
theorem fp_Switch_66_Port {g : pj_G} {b : Nat} {cc : ByteArray} {nL : Nat} {ret : Option FieldType} {rm : Room} {u : pj_M} {pc pc' : Nat} {vs : List (Option Value)} {st : List Value} (C : pj_X g cc nL R_Sw ret rm) {i : Nat} {x : Int32} {P : pj_M → Prop} (t : pj_T i = 9)  (hdg : decode cc pc = .ok (.putfield 66, 3)) (hp : pc + 3 = pc') (h : pj_put u i 5 x P) (kk : ∀ u', P u' → pj_J g (pj_N g b u') pc' vs st) : pj_J g (pj_N g b u) pc vs (.int x :: .ref (b + i) :: st) :=
  pj_putI C cl_Port hin_Port ty_Port tyok_Port nm_Port (k := 5) (Nat.le_of_ble_eq_true rfl) wm_424 (Or.inl rfl) rfl (ty := .int) (by decide +kernel) rfl rfl (pj_lt t (by decide)) (fun E u => ko_9 t) (F := fun f => [.int (f 0), .ref (b + (i + 1)), .ref (b + (i + 3)), .ref (b + (i + 5)), .int (f 4), .int (f 5), .int (f 6), .int (f 7), .int (f 8), .int (f 9), .int (f 10), .int (f 11), .int (f 12), .int (f 13), .int (f 14), .int (f 15), .int (f 16), .int (f 17)]) (fun _ => Nat.le_of_ble_eq_true rfl) (fun _ _ => rfl) hdg hp h kk
theorem fp_Switch_69_Port {g : pj_G} {b : Nat} {cc : ByteArray} {nL : Nat} {ret : Option FieldType} {rm : Room} {u : pj_M} {pc pc' : Nat} {vs : List (Option Value)} {st : List Value} (C : pj_X g cc nL R_Sw ret rm) {i : Nat} {x : Int32} {P : pj_M → Prop} (t : pj_T i = 9)  (hdg : decode cc pc = .ok (.putfield 69, 3)) (hp : pc + 3 = pc') (h : pj_put u i 12 x P) (kk : ∀ u', P u' → pj_J g (pj_N g b u') pc' vs st) : pj_J g (pj_N g b u) pc vs (.int x :: .ref (b + i) :: st) :=
  pj_putI C cl_Port hin_Port ty_Port tyok_Port nm_Port (k := 12) (Nat.le_of_ble_eq_true rfl) wm_437 (Or.inl rfl) rfl (ty := .int) (by decide +kernel) rfl rfl (pj_lt t (by decide)) (fun E u => ko_9 t) (F := fun f => [.int (f 0), .ref (b + (i + 1)), .ref (b + (i + 3)), .ref (b + (i + 5)), .int (f 4), .int (f 5), .int (f 6), .int (f 7), .int (f 8), .int (f 9), .int (f 10), .int (f 11), .int (f 12), .int (f 13), .int (f 14), .int (f 15), .int (f 16), .int (f 17)]) (fun _ => Nat.le_of_ble_eq_true rfl) (fun _ _ => rfl) hdg hp h kk
theorem fp_Switch_75_Port {g : pj_G} {b : Nat} {cc : ByteArray} {nL : Nat} {ret : Option FieldType} {rm : Room} {u : pj_M} {pc pc' : Nat} {vs : List (Option Value)} {st : List Value} (C : pj_X g cc nL R_Sw ret rm) {i : Nat} {x : Int32} {P : pj_M → Prop} (t : pj_T i = 9)  (hdg : decode cc pc = .ok (.putfield 75, 3)) (hp : pc + 3 = pc') (h : pj_put u i 11 x P) (kk : ∀ u', P u' → pj_J g (pj_N g b u') pc' vs st) : pj_J g (pj_N g b u) pc vs (.int x :: .ref (b + i) :: st) :=
  pj_putI C cl_Port hin_Port ty_Port tyok_Port nm_Port (k := 11) (Nat.le_of_ble_eq_true rfl) wm_436 (Or.inl rfl) rfl (ty := .int) (by decide +kernel) rfl rfl (pj_lt t (by decide)) (fun E u => ko_9 t) (F := fun f => [.int (f 0), .ref (b + (i + 1)), .ref (b + (i + 3)), .ref (b + (i + 5)), .int (f 4), .int (f 5), .int (f 6), .int (f 7), .int (f 8), .int (f 9), .int (f 10), .int (f 11), .int (f 12), .int (f 13), .int (f 14), .int (f 15), .int (f 16), .int (f 17)]) (fun _ => Nat.le_of_ble_eq_true rfl) (fun _ _ => rfl) hdg hp h kk
theorem fg_Switch_78_Port {g : pj_G} {b : Nat} {cc : ByteArray} {nL : Nat} {ret : Option FieldType} {rm : Room} {u : pj_M} {pc pc' : Nat} {vs : List (Option Value)} {st : List Value} (C : pj_X g cc nL R_Sw ret rm) {i : Nat} (t : pj_T i = 9) (hdg : decode cc pc = .ok (.getfield 78, 3)) (hp : pc + 3 = pc') (kk : pj_J g (pj_N g b u) pc' vs (.ref (b + (i + 1)) :: st)) : pj_J g (pj_N g b u) pc vs (.ref (b + i) :: st) :=
  pj_get C cl_Port hin_Port (k := 1) (Nat.le_of_ble_eq_true rfl) wm_416 (Or.inl rfl) (pj_lt t (by decide)) (fun E => ko_9 t) rfl hdg hp kk
theorem fg_Switch_81_Port {g : pj_G} {b : Nat} {cc : ByteArray} {nL : Nat} {ret : Option FieldType} {rm : Room} {u : pj_M} {pc pc' : Nat} {vs : List (Option Value)} {st : List Value} (C : pj_X g cc nL R_Sw ret rm) {i : Nat} (t : pj_T i = 9) (hdg : decode cc pc = .ok (.getfield 81, 3)) (hp : pc + 3 = pc') (kk : pj_J g (pj_N g b u) pc' vs (.int (u i 17) :: st)) : pj_J g (pj_N g b u) pc vs (.ref (b + i) :: st) :=
  pj_get C cl_Port hin_Port (k := 17) (Nat.le_of_ble_eq_true rfl) wm_447 (Or.inl rfl) (pj_lt t (by decide)) (fun E => ko_9 t) rfl hdg hp kk
theorem ck_Switch_84_Packet {g : pj_G} {b : Nat} {cc : ByteArray} {nL : Nat} {ret : Option FieldType} {rm : Room} {u : pj_M} {pc pc' : Nat} {vs : List (Option Value)} {st : List Value} (C : pj_X g cc nL R_Sw ret rm) {i0 : Nat} {x1 : Int32} {x2 : Int32} {x3 : Int32} {K : pj_M → Prop} (t0 : pj_T i0 = 4) (h : pw_Pa_open u i0 x1 x2 x3 K) (hdg : decode cc pc = .ok (.invokevirtual 84, 3)) (hp : pc + 3 = pc') (hR : rm_Pa_open.frames + 1 ≤ rm.frames ∧ 8 + (4 + 11) + rm_Pa_open.locals ≤ rm.locals) (h8 : (st.map fun v => v.category).sum ≤ 8) (kk : ∀ u', K u' → pj_J g (pj_N g b u') pc' vs st) : pj_J g (pj_N g b u) pc vs (.int x3 :: .int x2 :: .int x1 :: .ref (b + i0) :: st) :=
  pj_callV C (As := [.int x1, .int x2, .int x3]) (fun l D E => pc_Pa_open l D E t0 h) rfl rfl cl_Packet (pj_lt t0 (by decide)) (fun E => ko_4 t0) wm_606 wm_607 wm_608 wm_96 wm_609 (by decide +kernel) (n := 3) rfl hR rfl h8 hdg hp (fun v u' hq => by obtain ⟨rfl, hk⟩ := hq; exact kk u' hk)
theorem ck_Switch_88_Packet {g : pj_G} {b : Nat} {cc : ByteArray} {nL : Nat} {ret : Option FieldType} {rm : Room} {u : pj_M} {pc pc' : Nat} {vs : List (Option Value)} {st : List Value} (C : pj_X g cc nL R_Sw ret rm) {i0 : Nat} {K : pj_M → Prop} (t0 : pj_T i0 = 4) (h : pw_Pa_setLength u i0 K) (hdg : decode cc pc = .ok (.invokevirtual 88, 3)) (hp : pc + 3 = pc') (hR : rm_Pa_setLength.frames + 1 ≤ rm.frames ∧ 8 + (1 + 11) + rm_Pa_setLength.locals ≤ rm.locals) (h8 : (st.map fun v => v.category).sum ≤ 8) (kk : ∀ u', K u' → pj_J g (pj_N g b u') pc' vs st) : pj_J g (pj_N g b u) pc vs (.ref (b + i0) :: st) :=
  pj_callV C (As := []) (fun l D E => pc_Pa_setLength l D E t0 h) rfl rfl cl_Packet (pj_lt t0 (by decide)) (fun E => ko_4 t0) wm_618 wm_619 wm_620 wm_96 wm_621 (by decide +kernel) (n := 0) rfl hR rfl h8 hdg hp (fun v u' hq => by obtain ⟨rfl, hk⟩ := hq; exact kk u' hk)
theorem ck_Switch_91_Switch {g : pj_G} {b : Nat} {cc : ByteArray} {nL : Nat} {ret : Option FieldType} {rm : Room} {u : pj_M} {pc pc' : Nat} {vs : List (Option Value)} {st : List Value} (C : pj_X g cc nL R_Sw ret rm) {i1 : Nat} {i2 : Nat} {K : pj_M → Prop} (t1 : pj_T i1 = 9) (t2 : pj_T i2 = 4) (h : pw_Sw_sendToHost u i1 i2 K) (hdg : decode cc pc = .ok (.invokevirtual 91, 3)) (hp : pc + 3 = pc') (hR : rm_Sw_sendToHost.frames + 1 ≤ rm.frames ∧ 8 + (3 + 11) + rm_Sw_sendToHost.locals ≤ rm.locals) (h8 : (st.map fun v => v.category).sum ≤ 8) (kk : ∀ u', K u' → pj_J g (pj_N g b u') pc' vs st) : pj_J g (pj_N g b u) pc vs (.ref (b + i2) :: .ref (b + i1) :: .ref (b + 170) :: st) :=
  pj_callV C (As := [.ref (b + i1), .ref (b + i2)]) (fun l D E => pc_Sw_sendToHost l D E t1 t2 h) rfl rfl cl_Switch (pj_lt tk_170 (by decide)) (fun E => ko_10 tk_170) wm_628 wm_630 wm_3 wm_100 wm_631 (by decide +kernel) (n := 2) rfl hR rfl h8 hdg hp (fun v u' hq => by obtain ⟨rfl, hk⟩ := hq; exact kk u' hk)
theorem ck_Switch_95_Port {g : pj_G} {b : Nat} {cc : ByteArray} {nL : Nat} {ret : Option FieldType} {rm : Room} {u : pj_M} {pc pc' : Nat} {vs : List (Option Value)} {st : List Value} (C : pj_X g cc nL R_Sw ret rm) {i0 : Nat} {K : pj_M → Prop} (t0 : pj_T i0 = 9) (h : pw_Po_expectResponse u i0 K) (hdg : decode cc pc = .ok (.invokevirtual 95, 3)) (hp : pc + 3 = pc') (hR : rm_Po_expectResponse.frames + 1 ≤ rm.frames ∧ 8 + (1 + 11) + rm_Po_expectResponse.locals ≤ rm.locals) (h8 : (st.map fun v => v.category).sum ≤ 8) (kk : ∀ u', K u' → pj_J g (pj_N g b u') pc' vs st) : pj_J g (pj_N g b u) pc vs (.ref (b + i0) :: st) :=
  pj_callV C (As := []) (fun l D E => pc_Po_expectResponse l D E t0 h) rfl rfl cl_Port (pj_lt t0 (by decide)) (fun E => ko_9 t0) wm_652 wm_653 wm_654 wm_101 wm_655 (by decide +kernel) (n := 0) rfl hR rfl h8 hdg hp (fun v u' hq => by obtain ⟨rfl, hk⟩ := hq; exact kk u' hk)
def rm_Sw_begin : Room := { frames := 3, cells := 0, slots := 0, locals := 70 }
def pb_Sw_begin_0  (K : pj_M → Prop) (u : pj_M) (i1 : Nat) : Prop := pj_put u i1 5 1 fun u1 => (pj_put u1 i1 12 0 fun u2 => (pj_put u2 i1 11 ((-1)) fun u3 => (pw_Pa_open u3 (i1 + 1) 1 (u3 i1 17) 1 fun u4 => (pw_Pa_setLength u4 (i1 + 1) fun u5 => (pw_Sw_sendToHost u5 i1 (i1 + 1) fun u6 => (pw_Po_expectResponse u6 i1 fun u7 => (K u7)))))))
set_option maxHeartbeats 1000000 in
theorem pt_Sw_begin_0 {g : pj_G} {b : Nat} (C : pj_X g c_Sw_begin 2 R_Sw none rm_Sw_begin) {K : pj_M → Prop} (hE : pj_E g b (pj_Kv K))   {u : pj_M} {i1 : Nat}  (t1 : pj_T i1 = 9) (h : pb_Sw_begin_0  K u i1) : pj_J g (pj_N g b u) 0 [some (.ref (b + 170)), some (.ref (b + i1))] [] := by
  unfold pb_Sw_begin_0 at h
  refine pj_aload_n C d_Sw_begin_0 (pc' := 1) (i := 1) (x := b + i1) rfl rfl rfl ?_
  refine pj_iconst C d_Sw_begin_1 (pc' := 2) rfl (v := 1) (by decide) ?_
  refine fp_Switch_66_Port C t1  d_Sw_begin_2 (pc' := 5) rfl h (fun u1 h => ?_)
  refine pj_aload_n C d_Sw_begin_5 (pc' := 6) (i := 1) (x := b + i1) rfl rfl rfl ?_
  refine pj_iconst C d_Sw_begin_6 (pc' := 7) rfl (v := 0) (by decide) ?_
  refine fp_Switch_69_Port C t1  d_Sw_begin_7 (pc' := 10) rfl h (fun u2 h => ?_)
  refine pj_aload_n C d_Sw_begin_10 (pc' := 11) (i := 1) (x := b + i1) rfl rfl rfl ?_
  refine pj_iconst C d_Sw_begin_11 (pc' := 12) rfl (v := (-1)) (by decide) ?_
  refine fp_Switch_75_Port C t1  d_Sw_begin_12 (pc' := 15) rfl h (fun u3 h => ?_)
  refine pj_aload_n C d_Sw_begin_15 (pc' := 16) (i := 1) (x := b + i1) rfl rfl rfl ?_
  refine fg_Switch_78_Port C t1 d_Sw_begin_16 (pc' := 19) rfl ?_
  refine pj_iconst C d_Sw_begin_19 (pc' := 20) rfl (v := 1) (by decide) ?_
  refine pj_aload_n C d_Sw_begin_20 (pc' := 21) (i := 1) (x := b + i1) rfl rfl rfl ?_
  refine fg_Switch_81_Port C t1 d_Sw_begin_21 (pc' := 24) rfl ?_
  refine pj_iconst C d_Sw_begin_24 (pc' := 25) rfl (v := 1) (by decide) ?_
  refine ck_Switch_84_Packet C (pl_Port_last t1) h d_Sw_begin_25 (pc' := 28) rfl ⟨Nat.le_of_ble_eq_true rfl, Nat.le_of_ble_eq_true rfl⟩ (Nat.le_of_ble_eq_true rfl) (fun u4 h => ?_)
  refine pj_aload_n C d_Sw_begin_28 (pc' := 29) (i := 1) (x := b + i1) rfl rfl rfl ?_
  refine fg_Switch_78_Port C t1 d_Sw_begin_29 (pc' := 32) rfl ?_
  refine ck_Switch_88_Packet C (pl_Port_last t1) h d_Sw_begin_32 (pc' := 35) rfl ⟨Nat.le_of_ble_eq_true rfl, Nat.le_of_ble_eq_true rfl⟩ (Nat.le_of_ble_eq_true rfl) (fun u5 h => ?_)
  refine pj_aload_n C d_Sw_begin_35 (pc' := 36) (i := 0) (x := b + 170) rfl rfl rfl ?_
  refine pj_aload_n C d_Sw_begin_36 (pc' := 37) (i := 1) (x := b + i1) rfl rfl rfl ?_
  refine pj_aload_n C d_Sw_begin_37 (pc' := 38) (i := 1) (x := b + i1) rfl rfl rfl ?_
  refine fg_Switch_78_Port C t1 d_Sw_begin_38 (pc' := 41) rfl ?_
  refine ck_Switch_91_Switch C t1 (pl_Port_last t1) h d_Sw_begin_41 (pc' := 44) rfl ⟨Nat.le_of_ble_eq_true rfl, Nat.le_of_ble_eq_true rfl⟩ (Nat.le_of_ble_eq_true rfl) (fun u6 h => ?_)
  refine pj_aload_n C d_Sw_begin_44 (pc' := 45) (i := 1) (x := b + i1) rfl rfl rfl ?_
  refine ck_Switch_95_Port C t1 h d_Sw_begin_45 (pc' := 48) rfl ⟨Nat.le_of_ble_eq_true rfl, Nat.le_of_ble_eq_true rfl⟩ (Nat.le_of_ble_eq_true rfl) (fun u7 h => ?_)
  exact pj_vret C hE d_Sw_begin_48 ⟨rfl, h⟩
def pw_Sw_begin (u : pj_M) (i1 : Nat) (K : pj_M → Prop) : Prop := pb_Sw_begin_0  K u i1
theorem pc_Sw_begin (l : Launch) (D : va_G) (E : Nat → ClassId) {b : Nat} {u : pj_M} {i1 : Nat} {K : pj_M → Prop} (t1 : pj_T i1 = 9) (h : pw_Sw_begin u i1 K) : pj_C l y_Sw_begin c_Sw_begin 2 none rm_Sw_begin D E b [.ref (b + 170), .ref (b + i1)] u (pj_Kv K) := by
  refine pj_met (own := R_Sw) (by decide +kernel) rfl (Nat.le_of_ble_eq_true rfl) (fun g hE C => ?_)
  unfold pw_Sw_begin at h
  show pj_J g (pj_N g b u) 0 [some (.ref (b + 170)), some (.ref (b + i1))] []
  exact pj_cut (pj_le_s (pj_le_s pj_le_e)) (pt_Sw_begin_0 C hE  t1 h)
/-! Switch.plug(LPortGuard$Port;)V -/
theorem fp_Switch_55_Port {g : pj_G} {b : Nat} {cc : ByteArray} {nL : Nat} {ret : Option FieldType} {rm : Room} {u : pj_M} {pc pc' : Nat} {vs : List (Option Value)} {st : List Value} (C : pj_X g cc nL R_Sw ret rm) {i : Nat} {x : Int32} {P : pj_M → Prop} (t : pj_T i = 9) (hb : pj_bi x) (hdg : decode cc pc = .ok (.putfield 55, 3)) (hp : pc + 3 = pc') (h : pj_put u i 4 x P) (kk : ∀ u', P u' → pj_J g (pj_N g b u') pc' vs st) : pj_J g (pj_N g b u) pc vs (.int x :: .ref (b + i) :: st) :=
  pj_putI C cl_Port hin_Port ty_Port tyok_Port nm_Port (k := 4) (Nat.le_of_ble_eq_true rfl) wm_421 (Or.inl rfl) rfl (ty := .boolean) (by decide +kernel) hb.nar hb.fit (pj_lt t (by decide)) (fun E u => ko_9 t) (F := fun f => [.int (f 0), .ref (b + (i + 1)), .ref (b + (i + 3)), .ref (b + (i + 5)), .int (f 4), .int (f 5), .int (f 6), .int (f 7), .int (f 8), .int (f 9), .int (f 10), .int (f 11), .int (f 12), .int (f 13), .int (f 14), .int (f 15), .int (f 16), .int (f 17)]) (fun _ => Nat.le_of_ble_eq_true rfl) (fun _ _ => rfl) hdg hp h kk
theorem ck_Switch_59_Switch {g : pj_G} {b : Nat} {cc : ByteArray} {nL : Nat} {ret : Option FieldType} {rm : Room} {u : pj_M} {pc pc' : Nat} {vs : List (Option Value)} {st : List Value} (C : pj_X g cc nL R_Sw ret rm) {i1 : Nat} {K : pj_M → Prop} (t1 : pj_T i1 = 9) (h : pw_Sw_begin u i1 K) (hdg : decode cc pc = .ok (.invokevirtual 59, 3)) (hp : pc + 3 = pc') (hR : rm_Sw_begin.frames + 1 ≤ rm.frames ∧ 8 + (2 + 11) + rm_Sw_begin.locals ≤ rm.locals) (h8 : (st.map fun v => v.category).sum ≤ 8) (kk : ∀ u', K u' → pj_J g (pj_N g b u') pc' vs st) : pj_J g (pj_N g b u) pc vs (.ref (b + i1) :: .ref (b + 170) :: st) :=
  pj_callV C (As := [.ref (b + i1)]) (fun l D E => pc_Sw_begin l D E t1 h) rfl rfl cl_Switch (pj_lt tk_170 (by decide)) (fun E => ko_10 tk_170) wm_602 wm_604 wm_2 wm_100 wm_605 (by decide +kernel) (n := 1) rfl hR rfl h8 hdg hp (fun v u' hq => by obtain ⟨rfl, hk⟩ := hq; exact kk u' hk)
def rm_Sw_plug : Room := { frames := 4, cells := 0, slots := 0, locals := 91 }
def pb_Sw_plug_0  (K : pj_M → Prop) (u : pj_M) (i1 : Nat) : Prop := pj_put u i1 4 1 fun u1 => (pw_Sw_begin u1 i1 fun u2 => (K u2))
set_option maxHeartbeats 1000000 in
theorem pt_Sw_plug_0 {g : pj_G} {b : Nat} (C : pj_X g c_Sw_plug 2 R_Sw none rm_Sw_plug) {K : pj_M → Prop} (hE : pj_E g b (pj_Kv K))   {u : pj_M} {i1 : Nat}  (t1 : pj_T i1 = 9) (h : pb_Sw_plug_0  K u i1) : pj_J g (pj_N g b u) 0 [some (.ref (b + 170)), some (.ref (b + i1))] [] := by
  unfold pb_Sw_plug_0 at h
  refine pj_aload_n C d_Sw_plug_0 (pc' := 1) (i := 1) (x := b + i1) rfl rfl rfl ?_
  refine pj_iconst C d_Sw_plug_1 (pc' := 2) rfl (v := 1) (by decide) ?_
  refine fp_Switch_55_Port C t1 pj_bi1 d_Sw_plug_2 (pc' := 5) rfl h (fun u1 h => ?_)
  refine pj_aload_n C d_Sw_plug_5 (pc' := 6) (i := 0) (x := b + 170) rfl rfl rfl ?_
  refine pj_aload_n C d_Sw_plug_6 (pc' := 7) (i := 1) (x := b + i1) rfl rfl rfl ?_
  refine ck_Switch_59_Switch C t1 h d_Sw_plug_7 (pc' := 10) rfl ⟨Nat.le_of_ble_eq_true rfl, Nat.le_of_ble_eq_true rfl⟩ (Nat.le_of_ble_eq_true rfl) (fun u2 h => ?_)
  exact pj_vret C hE d_Sw_plug_10 ⟨rfl, h⟩
def pw_Sw_plug (u : pj_M) (i1 : Nat) (K : pj_M → Prop) : Prop := pb_Sw_plug_0  K u i1
theorem pc_Sw_plug (l : Launch) (D : va_G) (E : Nat → ClassId) {b : Nat} {u : pj_M} {i1 : Nat} {K : pj_M → Prop} (t1 : pj_T i1 = 9) (h : pw_Sw_plug u i1 K) : pj_C l y_Sw_plug c_Sw_plug 2 none rm_Sw_plug D E b [.ref (b + 170), .ref (b + i1)] u (pj_Kv K) := by
  refine pj_met (own := R_Sw) (by decide +kernel) rfl (Nat.le_of_ble_eq_true rfl) (fun g hE C => ?_)
  unfold pw_Sw_plug at h
  show pj_J g (pj_N g b u) 0 [some (.ref (b + 170)), some (.ref (b + i1))] []
  exact pj_cut (pj_le_s (pj_le_s pj_le_e)) (pt_Sw_plug_0 C hE  t1 h)
/-! Switch.close(LPortGuard$Port;)V -/
theorem fp_Switch_111_Port {g : pj_G} {b : Nat} {cc : ByteArray} {nL : Nat} {ret : Option FieldType} {rm : Room} {u : pj_M} {pc pc' : Nat} {vs : List (Option Value)} {st : List Value} (C : pj_X g cc nL R_Sw ret rm) {i : Nat} {x : Int32} {P : pj_M → Prop} (t : pj_T i = 9) (hb : pj_bi x) (hdg : decode cc pc = .ok (.putfield 111, 3)) (hp : pc + 3 = pc') (h : pj_put u i 6 x P) (kk : ∀ u', P u' → pj_J g (pj_N g b u') pc' vs st) : pj_J g (pj_N g b u) pc vs (.int x :: .ref (b + i) :: st) :=
  pj_putI C cl_Port hin_Port ty_Port tyok_Port nm_Port (k := 6) (Nat.le_of_ble_eq_true rfl) wm_426 (Or.inl rfl) rfl (ty := .boolean) (by decide +kernel) hb.nar hb.fit (pj_lt t (by decide)) (fun E u => ko_9 t) (F := fun f => [.int (f 0), .ref (b + (i + 1)), .ref (b + (i + 3)), .ref (b + (i + 5)), .int (f 4), .int (f 5), .int (f 6), .int (f 7), .int (f 8), .int (f 9), .int (f 10), .int (f 11), .int (f 12), .int (f 13), .int (f 14), .int (f 15), .int (f 16), .int (f 17)]) (fun _ => Nat.le_of_ble_eq_true rfl) (fun _ _ => rfl) hdg hp h kk
theorem fg_Switch_17_Switch {g : pj_G} {b : Nat} {cc : ByteArray} {nL : Nat} {ret : Option FieldType} {rm : Room} {u : pj_M} {pc pc' : Nat} {vs : List (Option Value)} {st : List Value} (C : pj_X g cc nL R_Sw ret rm) {i : Nat} (t : pj_T i = 10) (hdg : decode cc pc = .ok (.getfield 17, 3)) (hp : pc + 3 = pc') (kk : pj_J g (pj_N g b u) pc' vs (.ref (b + 172) :: st)) : pj_J g (pj_N g b u) pc vs (.ref (b + i) :: st) :=
  pj_get C cl_Switch hin_Switch (k := 3) (Nat.le_of_ble_eq_true rfl) wm_492 (Or.inl rfl) (pj_lt t (by decide)) (fun E => ko_10 t) rfl hdg hp kk
def rm_Sw_close : Room := { frames := 0, cells := 0, slots := 0, locals := 0 }
def pb_Sw_close_39  (K : pj_M → Prop) (u : pj_M)  : Prop := K u
set_option maxHeartbeats 1000000 in
theorem pt_Sw_close_39 {g : pj_G} {b : Nat} (C : pj_X g c_Sw_close 3 R_Sw none rm_Sw_close) {K : pj_M → Prop} (hE : pj_E g b (pj_Kv K))   {u : pj_M}    (h : pb_Sw_close_39  K u ) : pj_J g (pj_N g b u) 39 [none, none, none] [] := by
  unfold pb_Sw_close_39 at h
  exact pj_vret C hE d_Sw_close_39 ⟨rfl, h⟩
def pb_Sw_close_33 (R7 : pj_M → Int32 → Prop) (K : pj_M → Prop) (u : pj_M) (i1 : Nat) (x2 : Int32) : Prop := R7 u (x2 + 1)
set_option maxHeartbeats 1000000 in
theorem pt_Sw_close_33 {g : pj_G} {b : Nat} (C : pj_X g c_Sw_close 3 R_Sw none rm_Sw_close) {K : pj_M → Prop} (hE : pj_E g b (pj_Kv K)) {R7 : pj_M → Int32 → Prop}  {u : pj_M} {i1 : Nat} {x2 : Int32} (hR7 : ∀ (u : pj_M) (x2 : Int32), R7 u x2 → pj_J g (pj_N g b u) 7 [some (.ref (b + 170)), some (.ref (b + i1)), some (.int x2)] []) (t1 : pj_T i1 = 9) (h : pb_Sw_close_33 R7 K u i1 x2) : pj_J g (pj_N g b u) 33 [some (.ref (b + 170)), some (.ref (b + i1)), some (.int x2)] [] := by
  unfold pb_Sw_close_33 at h
  refine pj_iinc C d_Sw_close_33 (pc' := 36) (x := x2) (d := 1) (vs' := [some (.ref (b + 170)), some (.ref (b + i1)), some (.int (x2 + 1))]) rfl rfl (Nat.le_of_ble_eq_true rfl) rfl (by decide) rfl ?_
  refine pj_goto C d_Sw_close_36 (tgt := 7) (by decide) ?_
  exact pj_cut (pj_le_s (pj_le_s (pj_le_s pj_le_e))) (hR7 _ _ h)
def pb_Sw_close_26 (R7 : pj_M → Int32 → Prop) (K : pj_M → Prop) (u : pj_M) (i1 : Nat) (x2 : Int32) : Prop := vp_in x2 8 ∧ pj_put u 172 x2.toNatClampNeg ((-1)) fun u1 => (pb_Sw_close_33 R7 K u1 i1 x2)
set_option maxHeartbeats 1000000 in
theorem pt_Sw_close_26 {g : pj_G} {b : Nat} (C : pj_X g c_Sw_close 3 R_Sw none rm_Sw_close) {K : pj_M → Prop} (hE : pj_E g b (pj_Kv K)) {R7 : pj_M → Int32 → Prop}  {u : pj_M} {i1 : Nat} {x2 : Int32} (hR7 : ∀ (u : pj_M) (x2 : Int32), R7 u x2 → pj_J g (pj_N g b u) 7 [some (.ref (b + 170)), some (.ref (b + i1)), some (.int x2)] []) (t1 : pj_T i1 = 9) (h : pb_Sw_close_26 R7 K u i1 x2) : pj_J g (pj_N g b u) 26 [some (.ref (b + 170)), some (.ref (b + i1)), some (.int x2)] [] := by
  unfold pb_Sw_close_26 at h
  refine pj_aload_n C d_Sw_close_26 (pc' := 27) (i := 0) (x := b + 170) rfl rfl rfl ?_
  refine fg_Switch_17_Switch C tk_170 d_Sw_close_27 (pc' := 30) rfl ?_
  refine pj_iload_n C d_Sw_close_30 (pc' := 31) (i := 2) (x := x2) rfl rfl rfl ?_
  refine pj_iconst C d_Sw_close_31 (pc' := 32) rfl (v := (-1)) (by decide) ?_
  refine pj_iast C (pj_lt tk_172 (by decide)) (fun E u => ka_20 tk_172) d_Sw_close_32 (pc' := 33) rfl h (fun u1 h => ?_)
  exact pj_cut (pj_le_s (pj_le_s (pj_le_s pj_le_e))) (pt_Sw_close_33 C hE hR7 t1 h)
def pb_Sw_close_13 (R7 : pj_M → Int32 → Prop) (K : pj_M → Prop) (u : pj_M) (i1 : Nat) (x2 : Int32) : Prop := vp_in x2 8 ∧ ((((u 172 x2.toNatClampNeg) = (u i1 0)) → (pb_Sw_close_26 R7 K u i1 x2)) ∧ (¬ ((u 172 x2.toNatClampNeg) = (u i1 0)) → (pb_Sw_close_33 R7 K u i1 x2)))
set_option maxHeartbeats 1000000 in
theorem pt_Sw_close_13 {g : pj_G} {b : Nat} (C : pj_X g c_Sw_close 3 R_Sw none rm_Sw_close) {K : pj_M → Prop} (hE : pj_E g b (pj_Kv K)) {R7 : pj_M → Int32 → Prop}  {u : pj_M} {i1 : Nat} {x2 : Int32} (hR7 : ∀ (u : pj_M) (x2 : Int32), R7 u x2 → pj_J g (pj_N g b u) 7 [some (.ref (b + 170)), some (.ref (b + i1)), some (.int x2)] []) (t1 : pj_T i1 = 9) (h : pb_Sw_close_13 R7 K u i1 x2) : pj_J g (pj_N g b u) 13 [some (.ref (b + 170)), some (.ref (b + i1)), some (.int x2)] [] := by
  unfold pb_Sw_close_13 at h
  refine pj_aload_n C d_Sw_close_13 (pc' := 14) (i := 0) (x := b + 170) rfl rfl rfl ?_
  refine fg_Switch_17_Switch C tk_170 d_Sw_close_14 (pc' := 17) rfl ?_
  refine pj_iload_n C d_Sw_close_17 (pc' := 18) (i := 2) (x := x2) rfl rfl rfl ?_
  refine pj_iald C (pj_lt tk_172 (by decide)) (fun E u => ka_20 tk_172) d_Sw_close_18 (pc' := 19) rfl h (fun h => ?_)
  refine pj_aload_n C d_Sw_close_19 (pc' := 20) (i := 1) (x := b + i1) rfl rfl rfl ?_
  refine fg_Switch_98_Port C t1 d_Sw_close_20 (pc' := 23) rfl ?_
  refine pj_icmp_ne C d_Sw_close_23 (pc' := 26) rfl (tgt := 33) (by decide) h (fun h => ?_) (fun h => ?_)
  · exact pj_cut (pj_le_s (pj_le_s (pj_le_s pj_le_e))) (pt_Sw_close_33 C hE hR7 t1 h)
  · exact pj_cut (pj_le_s (pj_le_s (pj_le_s pj_le_e))) (pt_Sw_close_26 C hE hR7 t1 h)
def pb_Sw_close_7b (R7 : pj_M → Int32 → Prop) (K : pj_M → Prop) (u : pj_M) (i1 : Nat) (x2 : Int32) : Prop := ((8 ≤ x2) → (pb_Sw_close_39  K u )) ∧ (¬ (8 ≤ x2) → (pb_Sw_close_13 R7 K u i1 x2))
set_option maxHeartbeats 1000000 in
theorem pt_Sw_close_7b {g : pj_G} {b : Nat} (C : pj_X g c_Sw_close 3 R_Sw none rm_Sw_close) {K : pj_M → Prop} (hE : pj_E g b (pj_Kv K)) {R7 : pj_M → Int32 → Prop}  {u : pj_M} {i1 : Nat} {x2 : Int32} (hR7 : ∀ (u : pj_M) (x2 : Int32), R7 u x2 → pj_J g (pj_N g b u) 7 [some (.ref (b + 170)), some (.ref (b + i1)), some (.int x2)] []) (t1 : pj_T i1 = 9) (h : pb_Sw_close_7b R7 K u i1 x2) : pj_J g (pj_N g b u) 7 [some (.ref (b + 170)), some (.ref (b + i1)), some (.int x2)] [] := by
  unfold pb_Sw_close_7b at h
  refine pj_iload_n C d_Sw_close_7 (pc' := 8) (i := 2) (x := x2) rfl rfl rfl ?_
  refine pj_bipush C d_Sw_close_8 (pc' := 10) rfl (v := 8) (by decide) ?_
  refine pj_icmp_ge C d_Sw_close_10 (pc' := 13) rfl (tgt := 39) (by decide) h (fun h => ?_) (fun h => ?_)
  · exact pj_cut (pj_le_n (pj_le_n (pj_le_n pj_le_e))) (pt_Sw_close_39 C hE   h)
  · exact pj_cut (pj_le_s (pj_le_s (pj_le_s pj_le_e))) (pt_Sw_close_13 C hE hR7 t1 h)
def pb_Sw_close_7  (K : pj_M → Prop) (i1 : Nat) : Nat → pj_M → Int32 → Prop
  | 0 => fun _ _ => False
  | n + 1 => fun u x2 => pb_Sw_close_7b (pb_Sw_close_7  K i1 n) K u i1 x2
theorem pt_Sw_close_7 {g : pj_G} {b : Nat} (C : pj_X g c_Sw_close 3 R_Sw none rm_Sw_close) {K : pj_M → Prop} (hE : pj_E g b (pj_Kv K))  {i1 : Nat}  (t1 : pj_T i1 = 9) : ∀ (n : Nat) (u : pj_M) (x2 : Int32), pb_Sw_close_7  K i1 n u x2 → pj_J g (pj_N g b u) 7 [some (.ref (b + 170)), some (.ref (b + i1)), some (.int x2)] [] := by
  intro n
  induction n with
  | zero => intro u x2 h; exact False.elim h
  | succ n ih =>
    intro u x2 h
    exact (pt_Sw_close_7b C hE ih t1 h)
def pb_Sw_close_0  (K : pj_M → Prop) (u : pj_M) (i1 : Nat) : Prop := pj_put u i1 6 0 fun u1 => (∃ n, pb_Sw_close_7  K i1 n u1 0)
set_option maxHeartbeats 1000000 in
theorem pt_Sw_close_0 {g : pj_G} {b : Nat} (C : pj_X g c_Sw_close 3 R_Sw none rm_Sw_close) {K : pj_M → Prop} (hE : pj_E g b (pj_Kv K))   {u : pj_M} {i1 : Nat}  (t1 : pj_T i1 = 9) (h : pb_Sw_close_0  K u i1) : pj_J g (pj_N g b u) 0 [some (.ref (b + 170)), some (.ref (b + i1)), none] [] := by
  unfold pb_Sw_close_0 at h
  refine pj_aload_n C d_Sw_close_0 (pc' := 1) (i := 1) (x := b + i1) rfl rfl rfl ?_
  refine pj_iconst C d_Sw_close_1 (pc' := 2) rfl (v := 0) (by decide) ?_
  refine fp_Switch_111_Port C t1 pj_bi0 d_Sw_close_2 (pc' := 5) rfl h (fun u1 h => ?_)
  refine pj_iconst C d_Sw_close_5 (pc' := 6) rfl (v := 0) (by decide) ?_
  refine pj_istore_n C d_Sw_close_6 (pc' := 7) (i := 2) (vs' := [some (.ref (b + 170)), some (.ref (b + i1)), some (.int 0)]) rfl rfl (Nat.le_of_ble_eq_true rfl) (Nat.le_of_ble_eq_true rfl) rfl rfl ?_
  obtain ⟨n, h⟩ := h
  exact pj_cut (pj_le_s (pj_le_s (pj_le_s pj_le_e))) (pt_Sw_close_7 C hE  t1 n _ _ h)
def pw_Sw_close (u : pj_M) (i1 : Nat) (K : pj_M → Prop) : Prop := pb_Sw_close_0  K u i1
theorem pc_Sw_close (l : Launch) (D : va_G) (E : Nat → ClassId) {b : Nat} {u : pj_M} {i1 : Nat} {K : pj_M → Prop} (t1 : pj_T i1 = 9) (h : pw_Sw_close u i1 K) : pj_C l y_Sw_close c_Sw_close 3 none rm_Sw_close D E b [.ref (b + 170), .ref (b + i1)] u (pj_Kv K) := by
  refine pj_met (own := R_Sw) (by decide +kernel) rfl (Nat.le_of_ble_eq_true rfl) (fun g hE C => ?_)
  unfold pw_Sw_close at h
  show pj_J g (pj_N g b u) 0 [some (.ref (b + 170)), some (.ref (b + i1)), none] []
  exact pj_cut (pj_le_s (pj_le_s (pj_le_n pj_le_e))) (pt_Sw_close_0 C hE  t1 h)
/-! Switch.unplug(LPortGuard$Port;)V -/
theorem fp_Switch_72_Port {g : pj_G} {b : Nat} {cc : ByteArray} {nL : Nat} {ret : Option FieldType} {rm : Room} {u : pj_M} {pc pc' : Nat} {vs : List (Option Value)} {st : List Value} (C : pj_X g cc nL R_Sw ret rm) {i : Nat} {x : Int32} {P : pj_M → Prop} (t : pj_T i = 9) (hb : pj_bi x) (hdg : decode cc pc = .ok (.putfield 72, 3)) (hp : pc + 3 = pc') (h : pj_put u i 8 x P) (kk : ∀ u', P u' → pj_J g (pj_N g b u') pc' vs st) : pj_J g (pj_N g b u) pc vs (.int x :: .ref (b + i) :: st) :=
  pj_putI C cl_Port hin_Port ty_Port tyok_Port nm_Port (k := 8) (Nat.le_of_ble_eq_true rfl) wm_430 (Or.inl rfl) rfl (ty := .boolean) (by decide +kernel) hb.nar hb.fit (pj_lt t (by decide)) (fun E u => ko_9 t) (F := fun f => [.int (f 0), .ref (b + (i + 1)), .ref (b + (i + 3)), .ref (b + (i + 5)), .int (f 4), .int (f 5), .int (f 6), .int (f 7), .int (f 8), .int (f 9), .int (f 10), .int (f 11), .int (f 12), .int (f 13), .int (f 14), .int (f 15), .int (f 16), .int (f 17)]) (fun _ => Nat.le_of_ble_eq_true rfl) (fun _ _ => rfl) hdg hp h kk
theorem ck_Switch_63_Switch {g : pj_G} {b : Nat} {cc : ByteArray} {nL : Nat} {ret : Option FieldType} {rm : Room} {u : pj_M} {pc pc' : Nat} {vs : List (Option Value)} {st : List Value} (C : pj_X g cc nL R_Sw ret rm) {i1 : Nat} {K : pj_M → Prop} (t1 : pj_T i1 = 9) (h : pw_Sw_close u i1 K) (hdg : decode cc pc = .ok (.invokevirtual 63, 3)) (hp : pc + 3 = pc') (hR : rm_Sw_close.frames + 1 ≤ rm.frames ∧ 8 + (3 + 11) + rm_Sw_close.locals ≤ rm.locals) (h8 : (st.map fun v => v.category).sum ≤ 8) (kk : ∀ u', K u' → pj_J g (pj_N g b u') pc' vs st) : pj_J g (pj_N g b u) pc vs (.ref (b + i1) :: .ref (b + 170) :: st) :=
  pj_callV C (As := [.ref (b + i1)]) (fun l D E => pc_Sw_close l D E t1 h) rfl rfl cl_Switch (pj_lt tk_170 (by decide)) (fun E => ko_10 tk_170) wm_660 wm_662 wm_4 wm_100 wm_663 (by decide +kernel) (n := 1) rfl hR rfl h8 hdg hp (fun v u' hq => by obtain ⟨rfl, hk⟩ := hq; exact kk u' hk)
def rm_Sw_unplug : Room := { frames := 1, cells := 0, slots := 0, locals := 22 }
def pb_Sw_unplug_0  (K : pj_M → Prop) (u : pj_M) (i1 : Nat) : Prop := pj_put u i1 4 0 fun u1 => (pw_Sw_close u1 i1 fun u2 => (pj_put u2 i1 5 0 fun u3 => (pj_put u3 i1 12 0 fun u4 => (pj_put u4 i1 8 0 fun u5 => (K u5)))))
set_option maxHeartbeats 1000000 in
theorem pt_Sw_unplug_0 {g : pj_G} {b : Nat} (C : pj_X g c_Sw_unplug 2 R_Sw none rm_Sw_unplug) {K : pj_M → Prop} (hE : pj_E g b (pj_Kv K))   {u : pj_M} {i1 : Nat}  (t1 : pj_T i1 = 9) (h : pb_Sw_unplug_0  K u i1) : pj_J g (pj_N g b u) 0 [some (.ref (b + 170)), some (.ref (b + i1))] [] := by
  unfold pb_Sw_unplug_0 at h
  refine pj_aload_n C d_Sw_unplug_0 (pc' := 1) (i := 1) (x := b + i1) rfl rfl rfl ?_
  refine pj_iconst C d_Sw_unplug_1 (pc' := 2) rfl (v := 0) (by decide) ?_
  refine fp_Switch_55_Port C t1 pj_bi0 d_Sw_unplug_2 (pc' := 5) rfl h (fun u1 h => ?_)
  refine pj_aload_n C d_Sw_unplug_5 (pc' := 6) (i := 0) (x := b + 170) rfl rfl rfl ?_
  refine pj_aload_n C d_Sw_unplug_6 (pc' := 7) (i := 1) (x := b + i1) rfl rfl rfl ?_
  refine ck_Switch_63_Switch C t1 h d_Sw_unplug_7 (pc' := 10) rfl ⟨Nat.le_of_ble_eq_true rfl, Nat.le_of_ble_eq_true rfl⟩ (Nat.le_of_ble_eq_true rfl) (fun u2 h => ?_)
  refine pj_aload_n C d_Sw_unplug_10 (pc' := 11) (i := 1) (x := b + i1) rfl rfl rfl ?_
  refine pj_iconst C d_Sw_unplug_11 (pc' := 12) rfl (v := 0) (by decide) ?_
  refine fp_Switch_66_Port C t1  d_Sw_unplug_12 (pc' := 15) rfl h (fun u3 h => ?_)
  refine pj_aload_n C d_Sw_unplug_15 (pc' := 16) (i := 1) (x := b + i1) rfl rfl rfl ?_
  refine pj_iconst C d_Sw_unplug_16 (pc' := 17) rfl (v := 0) (by decide) ?_
  refine fp_Switch_69_Port C t1  d_Sw_unplug_17 (pc' := 20) rfl h (fun u4 h => ?_)
  refine pj_aload_n C d_Sw_unplug_20 (pc' := 21) (i := 1) (x := b + i1) rfl rfl rfl ?_
  refine pj_iconst C d_Sw_unplug_21 (pc' := 22) rfl (v := 0) (by decide) ?_
  refine fp_Switch_72_Port C t1 pj_bi0 d_Sw_unplug_22 (pc' := 25) rfl h (fun u5 h => ?_)
  exact pj_vret C hE d_Sw_unplug_25 ⟨rfl, h⟩
def pw_Sw_unplug (u : pj_M) (i1 : Nat) (K : pj_M → Prop) : Prop := pb_Sw_unplug_0  K u i1
theorem pc_Sw_unplug (l : Launch) (D : va_G) (E : Nat → ClassId) {b : Nat} {u : pj_M} {i1 : Nat} {K : pj_M → Prop} (t1 : pj_T i1 = 9) (h : pw_Sw_unplug u i1 K) : pj_C l y_Sw_unplug c_Sw_unplug 2 none rm_Sw_unplug D E b [.ref (b + 170), .ref (b + i1)] u (pj_Kv K) := by
  refine pj_met (own := R_Sw) (by decide +kernel) rfl (Nat.le_of_ble_eq_true rfl) (fun g hE C => ?_)
  unfold pw_Sw_unplug at h
  show pj_J g (pj_N g b u) 0 [some (.ref (b + 170)), some (.ref (b + i1))] []
  exact pj_cut (pj_le_s (pj_le_s pj_le_e)) (pt_Sw_unplug_0 C hE  t1 h)
/-! Switch.fail(LPortGuard$Port;)V -/
theorem fp_Switch_114_Port {g : pj_G} {b : Nat} {cc : ByteArray} {nL : Nat} {ret : Option FieldType} {rm : Room} {u : pj_M} {pc pc' : Nat} {vs : List (Option Value)} {st : List Value} (C : pj_X g cc nL R_Sw ret rm) {i : Nat} {x : Int32} {P : pj_M → Prop} (t : pj_T i = 9)  (hdg : decode cc pc = .ok (.putfield 114, 3)) (hp : pc + 3 = pc') (h : pj_put u i 7 x P) (kk : ∀ u', P u' → pj_J g (pj_N g b u') pc' vs st) : pj_J g (pj_N g b u) pc vs (.int x :: .ref (b + i) :: st) :=
  pj_putI C cl_Port hin_Port ty_Port tyok_Port nm_Port (k := 7) (Nat.le_of_ble_eq_true rfl) wm_428 (Or.inl rfl) rfl (ty := .int) (by decide +kernel) rfl rfl (pj_lt t (by decide)) (fun E u => ko_9 t) (F := fun f => [.int (f 0), .ref (b + (i + 1)), .ref (b + (i + 3)), .ref (b + (i + 5)), .int (f 4), .int (f 5), .int (f 6), .int (f 7), .int (f 8), .int (f 9), .int (f 10), .int (f 11), .int (f 12), .int (f 13), .int (f 14), .int (f 15), .int (f 16), .int (f 17)]) (fun _ => Nat.le_of_ble_eq_true rfl) (fun _ _ => rfl) hdg hp h kk
def rm_Sw_fail : Room := { frames := 1, cells := 0, slots := 0, locals := 22 }
def pb_Sw_fail_0  (K : pj_M → Prop) (u : pj_M) (i1 : Nat) : Prop := pw_Sw_close u i1 fun u1 => (pj_put u1 i1 5 4 fun u2 => (pj_put u2 i1 12 0 fun u3 => (pj_put u3 i1 8 0 fun u4 => (pj_put u4 i1 7 0 fun u5 => (K u5)))))
set_option maxHeartbeats 1000000 in
theorem pt_Sw_fail_0 {g : pj_G} {b : Nat} (C : pj_X g c_Sw_fail 2 R_Sw none rm_Sw_fail) {K : pj_M → Prop} (hE : pj_E g b (pj_Kv K))   {u : pj_M} {i1 : Nat}  (t1 : pj_T i1 = 9) (h : pb_Sw_fail_0  K u i1) : pj_J g (pj_N g b u) 0 [some (.ref (b + 170)), some (.ref (b + i1))] [] := by
  unfold pb_Sw_fail_0 at h
  refine pj_aload_n C d_Sw_fail_0 (pc' := 1) (i := 0) (x := b + 170) rfl rfl rfl ?_
  refine pj_aload_n C d_Sw_fail_1 (pc' := 2) (i := 1) (x := b + i1) rfl rfl rfl ?_
  refine ck_Switch_63_Switch C t1 h d_Sw_fail_2 (pc' := 5) rfl ⟨Nat.le_of_ble_eq_true rfl, Nat.le_of_ble_eq_true rfl⟩ (Nat.le_of_ble_eq_true rfl) (fun u1 h => ?_)
  refine pj_aload_n C d_Sw_fail_5 (pc' := 6) (i := 1) (x := b + i1) rfl rfl rfl ?_
  refine pj_iconst C d_Sw_fail_6 (pc' := 7) rfl (v := 4) (by decide) ?_
  refine fp_Switch_66_Port C t1  d_Sw_fail_7 (pc' := 10) rfl h (fun u2 h => ?_)
  refine pj_aload_n C d_Sw_fail_10 (pc' := 11) (i := 1) (x := b + i1) rfl rfl rfl ?_
  refine pj_iconst C d_Sw_fail_11 (pc' := 12) rfl (v := 0) (by decide) ?_
  refine fp_Switch_69_Port C t1  d_Sw_fail_12 (pc' := 15) rfl h (fun u3 h => ?_)
  refine pj_aload_n C d_Sw_fail_15 (pc' := 16) (i := 1) (x := b + i1) rfl rfl rfl ?_
  refine pj_iconst C d_Sw_fail_16 (pc' := 17) rfl (v := 0) (by decide) ?_
  refine fp_Switch_72_Port C t1 pj_bi0 d_Sw_fail_17 (pc' := 20) rfl h (fun u4 h => ?_)
  refine pj_aload_n C d_Sw_fail_20 (pc' := 21) (i := 1) (x := b + i1) rfl rfl rfl ?_
  refine pj_iconst C d_Sw_fail_21 (pc' := 22) rfl (v := 0) (by decide) ?_
  refine fp_Switch_114_Port C t1  d_Sw_fail_22 (pc' := 25) rfl h (fun u5 h => ?_)
  exact pj_vret C hE d_Sw_fail_25 ⟨rfl, h⟩
def pw_Sw_fail (u : pj_M) (i1 : Nat) (K : pj_M → Prop) : Prop := pb_Sw_fail_0  K u i1
theorem pc_Sw_fail (l : Launch) (D : va_G) (E : Nat → ClassId) {b : Nat} {u : pj_M} {i1 : Nat} {K : pj_M → Prop} (t1 : pj_T i1 = 9) (h : pw_Sw_fail u i1 K) : pj_C l y_Sw_fail c_Sw_fail 2 none rm_Sw_fail D E b [.ref (b + 170), .ref (b + i1)] u (pj_Kv K) := by
  refine pj_met (own := R_Sw) (by decide +kernel) rfl (Nat.le_of_ble_eq_true rfl) (fun g hE C => ?_)
  unfold pw_Sw_fail at h
  show pj_J g (pj_N g b u) 0 [some (.ref (b + 170)), some (.ref (b + i1))] []
  exact pj_cut (pj_le_s (pj_le_s pj_le_e)) (pt_Sw_fail_0 C hE  t1 h)
/-! Switch.ask(LPortGuard$Port;I)V -/
theorem fg_Switch_35_Switch {g : pj_G} {b : Nat} {cc : ByteArray} {nL : Nat} {ret : Option FieldType} {rm : Room} {u : pj_M} {pc pc' : Nat} {vs : List (Option Value)} {st : List Value} (C : pj_X g cc nL R_Sw ret rm) {i : Nat} (t : pj_T i = 10) (hdg : decode cc pc = .ok (.getfield 35, 3)) (hp : pc + 3 = pc') (kk : pj_J g (pj_N g b u) pc' vs (.ref (b + 180) :: st)) : pj_J g (pj_N g b u) pc vs (.ref (b + i) :: st) :=
  pj_get C cl_Switch hin_Switch (k := 6) (Nat.le_of_ble_eq_true rfl) wm_496 (Or.inl rfl) (pj_lt t (by decide)) (fun E => ko_10 t) rfl hdg hp kk
theorem fg_Switch_117_Switch {g : pj_G} {b : Nat} {cc : ByteArray} {nL : Nat} {ret : Option FieldType} {rm : Room} {u : pj_M} {pc pc' : Nat} {vs : List (Option Value)} {st : List Value} (C : pj_X g cc nL R_Sw ret rm) {i : Nat} (t : pj_T i = 10) (hdg : decode cc pc = .ok (.getfield 117, 3)) (hp : pc + 3 = pc') (kk : pj_J g (pj_N g b u) pc' vs (.int (u i 7) :: st)) : pj_J g (pj_N g b u) pc vs (.ref (b + i) :: st) :=
  pj_get C cl_Switch hin_Switch (k := 7) (Nat.le_of_ble_eq_true rfl) wm_497 (Or.inl rfl) (pj_lt t (by decide)) (fun E => ko_10 t) rfl hdg hp kk
theorem fg_Switch_38_Switch {g : pj_G} {b : Nat} {cc : ByteArray} {nL : Nat} {ret : Option FieldType} {rm : Room} {u : pj_M} {pc pc' : Nat} {vs : List (Option Value)} {st : List Value} (C : pj_X g cc nL R_Sw ret rm) {i : Nat} (t : pj_T i = 10) (hdg : decode cc pc = .ok (.getfield 38, 3)) (hp : pc + 3 = pc') (kk : pj_J g (pj_N g b u) pc' vs (.int (u i 0) :: st)) : pj_J g (pj_N g b u) pc vs (.ref (b + i) :: st) :=
  pj_get C cl_Switch hin_Switch (k := 0) (Nat.le_of_ble_eq_true rfl) wm_488 (Or.inl rfl) (pj_lt t (by decide)) (fun E => ko_10 t) rfl hdg hp kk
theorem fg_Switch_126_Port {g : pj_G} {b : Nat} {cc : ByteArray} {nL : Nat} {ret : Option FieldType} {rm : Room} {u : pj_M} {pc pc' : Nat} {vs : List (Option Value)} {st : List Value} (C : pj_X g cc nL R_Sw ret rm) {i : Nat} (t : pj_T i = 9) (hdg : decode cc pc = .ok (.getfield 126, 3)) (hp : pc + 3 = pc') (kk : pj_J g (pj_N g b u) pc' vs (.int (u i 10) :: st)) : pj_J g (pj_N g b u) pc vs (.ref (b + i) :: st) :=
  pj_get C cl_Port hin_Port (k := 10) (Nat.le_of_ble_eq_true rfl) wm_434 (Or.inl rfl) (pj_lt t (by decide)) (fun E => ko_9 t) rfl hdg hp kk
theorem fg_Switch_75_Port {g : pj_G} {b : Nat} {cc : ByteArray} {nL : Nat} {ret : Option FieldType} {rm : Room} {u : pj_M} {pc pc' : Nat} {vs : List (Option Value)} {st : List Value} (C : pj_X g cc nL R_Sw ret rm) {i : Nat} (t : pj_T i = 9) (hdg : decode cc pc = .ok (.getfield 75, 3)) (hp : pc + 3 = pc') (kk : pj_J g (pj_N g b u) pc' vs (.int (u i 11) :: st)) : pj_J g (pj_N g b u) pc vs (.ref (b + i) :: st) :=
  pj_get C cl_Port hin_Port (k := 11) (Nat.le_of_ble_eq_true rfl) wm_436 (Or.inl rfl) (pj_lt t (by decide)) (fun E => ko_9 t) rfl hdg hp kk
theorem fg_Switch_129_Port {g : pj_G} {b : Nat} {cc : ByteArray} {nL : Nat} {ret : Option FieldType} {rm : Room} {u : pj_M} {pc pc' : Nat} {vs : List (Option Value)} {st : List Value} (C : pj_X g cc nL R_Sw ret rm) {i : Nat} (t : pj_T i = 9) (hdg : decode cc pc = .ok (.getfield 129, 3)) (hp : pc + 3 = pc') (kk : pj_J g (pj_N g b u) pc' vs (.ref (b + (i + 3)) :: st)) : pj_J g (pj_N g b u) pc vs (.ref (b + i) :: st) :=
  pj_get C cl_Port hin_Port (k := 2) (Nat.le_of_ble_eq_true rfl) wm_418 (Or.inl rfl) (pj_lt t (by decide)) (fun E => ko_9 t) rfl hdg hp kk
theorem fp_Switch_117_Switch {g : pj_G} {b : Nat} {cc : ByteArray} {nL : Nat} {ret : Option FieldType} {rm : Room} {u : pj_M} {pc pc' : Nat} {vs : List (Option Value)} {st : List Value} (C : pj_X g cc nL R_Sw ret rm) {i : Nat} {x : Int32} {P : pj_M → Prop} (t : pj_T i = 10)  (hdg : decode cc pc = .ok (.putfield 117, 3)) (hp : pc + 3 = pc') (h : pj_put u i 7 x P) (kk : ∀ u', P u' → pj_J g (pj_N g b u') pc' vs st) : pj_J g (pj_N g b u) pc vs (.int x :: .ref (b + i) :: st) :=
  pj_putI C cl_Switch hin_Switch ty_Switch tyok_Switch nm_Switch (k := 7) (Nat.le_of_ble_eq_true rfl) wm_497 (Or.inl rfl) rfl (ty := .int) (by decide +kernel) rfl rfl (pj_lt t (by decide)) (fun E u => ko_10 t) (F := fun f => [.int (f 0), .ref (b + 4), .ref (b + 171), .ref (b + 172), .ref (b + 173), .ref (b + 175), .ref (b + 180), .int (f 7), .int (f 8), .int (f 9)]) (fun _ => Nat.le_of_ble_eq_true rfl) (fun _ _ => rfl) hdg hp h kk
theorem fg_Switch_139_Port {g : pj_G} {b : Nat} {cc : ByteArray} {nL : Nat} {ret : Option FieldType} {rm : Room} {u : pj_M} {pc pc' : Nat} {vs : List (Option Value)} {st : List Value} (C : pj_X g cc nL R_Sw ret rm) {i : Nat} (t : pj_T i = 9) (hdg : decode cc pc = .ok (.getfield 139, 3)) (hp : pc + 3 = pc') (kk : pj_J g (pj_N g b u) pc' vs (.ref (b + (i + 5)) :: st)) : pj_J g (pj_N g b u) pc vs (.ref (b + i) :: st) :=
  pj_get C cl_Port hin_Port (k := 3) (Nat.le_of_ble_eq_true rfl) wm_420 (Or.inl rfl) (pj_lt t (by decide)) (fun E => ko_9 t) rfl hdg hp kk
theorem fg_Switch_143_Datagram {g : pj_G} {b : Nat} {cc : ByteArray} {nL : Nat} {ret : Option FieldType} {rm : Room} {u : pj_M} {pc pc' : Nat} {vs : List (Option Value)} {st : List Value} (C : pj_X g cc nL R_Sw ret rm) {i : Nat} (t : pj_T i = 5) (hdg : decode cc pc = .ok (.getfield 143, 3)) (hp : pc + 3 = pc') (kk : pj_J g (pj_N g b u) pc' vs (.ref (b + (i + 1)) :: st)) : pj_J g (pj_N g b u) pc vs (.ref (b + i) :: st) :=
  pj_get C cl_Datagram hin_Datagram (k := 0) (Nat.le_of_ble_eq_true rfl) wm_268 (Or.inl rfl) (pj_lt t (by decide)) (fun E => ko_5 t) rfl hdg hp kk
theorem fp_Switch_152_Port {g : pj_G} {b : Nat} {cc : ByteArray} {nL : Nat} {ret : Option FieldType} {rm : Room} {u : pj_M} {pc pc' : Nat} {vs : List (Option Value)} {st : List Value} (C : pj_X g cc nL R_Sw ret rm) {i : Nat} {x : Int32} {P : pj_M → Prop} (t : pj_T i = 9)  (hdg : decode cc pc = .ok (.putfield 152, 3)) (hp : pc + 3 = pc') (h : pj_put u i 13 x P) (kk : ∀ u', P u' → pj_J g (pj_N g b u') pc' vs st) : pj_J g (pj_N g b u) pc vs (.int x :: .ref (b + i) :: st) :=
  pj_putI C cl_Port hin_Port ty_Port tyok_Port nm_Port (k := 13) (Nat.le_of_ble_eq_true rfl) wm_440 (Or.inl rfl) rfl (ty := .int) (by decide +kernel) rfl rfl (pj_lt t (by decide)) (fun E u => ko_9 t) (F := fun f => [.int (f 0), .ref (b + (i + 1)), .ref (b + (i + 3)), .ref (b + (i + 5)), .int (f 4), .int (f 5), .int (f 6), .int (f 7), .int (f 8), .int (f 9), .int (f 10), .int (f 11), .int (f 12), .int (f 13), .int (f 14), .int (f 15), .int (f 16), .int (f 17)]) (fun _ => Nat.le_of_ble_eq_true rfl) (fun _ _ => rfl) hdg hp h kk
theorem ck_Switch_120 {g : pj_G} {b : Nat} {cc : ByteArray} {nL : Nat} {ret : Option FieldType} {rm : Room} {u : pj_M} {pc pc' : Nat} {vs : List (Option Value)} {st : List Value} (C : pj_X g cc nL R_Sw ret rm) {x0 : Int32} {x1 : Int32} {K : Int32 → pj_M → Prop}  (h : pw_Di_hashOfInts u x0 x1 K) (hdg : decode cc pc = .ok (.invokestatic 120, 3)) (hp : pc + 3 = pc') (hR : rm_Di_hashOfInts.frames + 1 ≤ rm.frames ∧ 8 + (2 + 11) + rm_Di_hashOfInts.locals ≤ rm.locals) (h8 : (st.map fun v => v.category).sum ≤ 8) (kk : ∀ r u', K r u' → pj_J g (pj_N g b u') pc' vs (.int r :: st)) : pj_J g (pj_N g b u) pc vs (.int x1 :: .int x0 :: st) :=
  pj_callS C (As := [.int x0, .int x1]) (fun l D E => pc_Di_hashOfInts l D E  h) rfl rfl wm_748 wm_749 wm_105 wm_750 (by decide +kernel) (n := 2) rfl hR rfl h8 hdg hp (fun v u' hq => by obtain ⟨r, rfl, hk⟩ := hq; exact kk r u' hk)
theorem ck_Switch_132_Datagram {g : pj_G} {b : Nat} {cc : ByteArray} {nL : Nat} {ret : Option FieldType} {rm : Room} {u : pj_M} {pc pc' : Nat} {vs : List (Option Value)} {st : List Value} (C : pj_X g cc nL R_Sw ret rm) {i0 : Nat} {x1 : Int32} {x2 : Int32} {x3 : Int32} {x4 : Int32} {x5 : Int32} {i6 : Nat} {K : pj_M → Prop} (t0 : pj_T i0 = 5) (t6 : pj_T i6 = 4) (h : pw_Da_write u i0 x1 x2 x3 x4 x5 i6 K) (hdg : decode cc pc = .ok (.invokevirtual 132, 3)) (hp : pc + 3 = pc') (hR : rm_Da_write.frames + 1 ≤ rm.frames ∧ 8 + (7 + 11) + rm_Da_write.locals ≤ rm.locals) (h8 : (st.map fun v => v.category).sum ≤ 8) (kk : ∀ u', K u' → pj_J g (pj_N g b u') pc' vs st) : pj_J g (pj_N g b u) pc vs (.ref (b + i6) :: .int x5 :: .int x4 :: .int x3 :: .int x2 :: .int x1 :: .ref (b + i0) :: st) :=
  pj_callV C (As := [.int x1, .int x2, .int x3, .int x4, .int x5, .ref (b + i6)]) (fun l D E => pc_Da_write l D E t0 t6 h) rfl rfl cl_Datagram (pj_lt t0 (by decide)) (fun E => ko_5 t0) wm_759 wm_760 wm_761 wm_98 wm_762 (by decide +kernel) (n := 6) rfl hR rfl h8 hdg hp (fun v u' hq => by obtain ⟨rfl, hk⟩ := hq; exact kk u' hk)
theorem ck_Switch_136_Datagram {g : pj_G} {b : Nat} {cc : ByteArray} {nL : Nat} {ret : Option FieldType} {rm : Room} {u : pj_M} {pc pc' : Nat} {vs : List (Option Value)} {st : List Value} (C : pj_X g cc nL R_Sw ret rm) {i0 : Nat} {x1 : Int32} {K : pj_M → Prop} (t0 : pj_T i0 = 5) (h : pw_Da_sealRequest u i0 x1 K) (hdg : decode cc pc = .ok (.invokevirtual 136, 3)) (hp : pc + 3 = pc') (hR : rm_Da_sealRequest.frames + 1 ≤ rm.frames ∧ 8 + (2 + 11) + rm_Da_sealRequest.locals ≤ rm.locals) (h8 : (st.map fun v => v.category).sum ≤ 8) (kk : ∀ u', K u' → pj_J g (pj_N g b u') pc' vs st) : pj_J g (pj_N g b u) pc vs (.int x1 :: .ref (b + i0) :: st) :=
  pj_callV C (As := [.int x1]) (fun l D E => pc_Da_sealRequest l D E t0 h) rfl rfl cl_Datagram (pj_lt t0 (by decide)) (fun E => ko_5 t0) wm_781 wm_782 wm_783 wm_98 wm_784 (by decide +kernel) (n := 1) rfl hR rfl h8 hdg hp (fun v u' hq => by obtain ⟨rfl, hk⟩ := hq; exact kk u' hk)
theorem ck_Switch_146_Row {g : pj_G} {b : Nat} {cc : ByteArray} {nL : Nat} {ret : Option FieldType} {rm : Room} {u : pj_M} {pc pc' : Nat} {vs : List (Option Value)} {st : List Value} (C : pj_X g cc nL R_Sw ret rm) {i0 : Nat} {i1 : Nat} {K : pj_M → Prop} (t : pj_T i0 = 3) (t1 : pj_R i1) (h : pw_Ro_copy u i0 i1 K) (hdg : decode cc pc = .ok (.invokevirtual 146, 3)) (hp : pc + 3 = pc') (hR : rm_Ro_copy.frames + 1 ≤ rm.frames ∧ 8 + (2 + 11) + rm_Ro_copy.locals ≤ rm.locals) (h8 : (st.map fun v => v.category).sum ≤ 8) (kk : ∀ u', K u' → pj_J g (pj_N g b u') pc' vs st) : pj_J g (pj_N g b u) pc vs (.ref (b + i1) :: .ref (b + i0) :: st) := by
  have t0 : pj_R i0 := Or.inl t
  exact pj_callV C (As := [.ref (b + i1)]) (fun l D E => pc_Ro_copy l D E t0 t1 h) rfl rfl cl_Row (pj_lt t (by decide)) (fun E => ko_3 t) wm_801 wm_684 wm_685 wm_94 wm_688 (by decide +kernel) (n := 1) rfl hR rfl h8 hdg hp (fun v u' hq => by obtain ⟨rfl, hk⟩ := hq; exact kk u' hk)
theorem ck_Switch_155_Mailbox {g : pj_G} {b : Nat} {cc : ByteArray} {nL : Nat} {ret : Option FieldType} {rm : Room} {u : pj_M} {pc pc' : Nat} {vs : List (Option Value)} {st : List Value} (C : pj_X g cc nL R_Sw ret rm) {x1 : Int32} {x2 : Int32} {i3 : Nat} {K : pj_M → Prop} (t3 : pj_R i3) (h : pw_Ma_send u x1 x2 i3 K) (hdg : decode cc pc = .ok (.invokevirtual 155, 3)) (hp : pc + 3 = pc') (hR : rm_Ma_send.frames + 1 ≤ rm.frames ∧ 8 + (4 + 11) + rm_Ma_send.locals ≤ rm.locals) (h8 : (st.map fun v => v.category).sum ≤ 8) (kk : ∀ u', K u' → pj_J g (pj_N g b u') pc' vs st) : pj_J g (pj_N g b u) pc vs (.ref (b + i3) :: .int x2 :: .int x1 :: .ref (b + 4) :: st) :=
  pj_callV C (As := [.int x1, .int x2, .ref (b + i3)]) (fun l D E => pc_Ma_send l D E t3 h) rfl rfl cl_Mailbox (pj_lt tk_4 (by decide)) (fun E => ko_2 tk_4) wm_802 wm_693 wm_694 wm_93 wm_695 (by decide +kernel) (n := 3) rfl hR rfl h8 hdg hp (fun v u' hq => by obtain ⟨rfl, hk⟩ := hq; exact kk u' hk)
def rm_Sw_ask : Room := { frames := 3, cells := 0, slots := 0, locals := 109 }
def pb_Sw_ask_0  (K : pj_M → Prop) (u : pj_M) (i1 : Nat) (x2 : Int32) : Prop := pw_Di_hashOfInts u (u 170 0) (u 170 7) fun r2 u1 => (pw_Da_write u1 180 1 ((u 170 7) &&& 255) r2 (u1 i1 10) (u1 i1 11) (i1 + 3) fun u3 => (pw_Da_sealRequest u3 180 (u3 170 0) fun u4 => (pj_put u4 170 7 ((u4 170 7) + 1) fun u5 => (pw_Ro_copy u5 (i1 + 5) (180 + 1) fun u6 => (pj_put u6 i1 13 x2 fun u7 => (pj_put u7 i1 12 1 fun u8 => (pj_put u8 i1 7 0 fun u9 => (pw_Ma_send u9 2 x2 (i1 + 5) fun u10 => (K u10)))))))))
set_option maxHeartbeats 1000000 in
theorem pt_Sw_ask_0 {g : pj_G} {b : Nat} (C : pj_X g c_Sw_ask 3 R_Sw none rm_Sw_ask) {K : pj_M → Prop} (hE : pj_E g b (pj_Kv K))   {u : pj_M} {i1 : Nat} {x2 : Int32}  (t1 : pj_T i1 = 9) (h : pb_Sw_ask_0  K u i1 x2) : pj_J g (pj_N g b u) 0 [some (.ref (b + 170)), some (.ref (b + i1)), some (.int x2)] [] := by
  unfold pb_Sw_ask_0 at h
  refine pj_aload_n C d_Sw_ask_0 (pc' := 1) (i := 0) (x := b + 170) rfl rfl rfl ?_
  refine fg_Switch_35_Switch C tk_170 d_Sw_ask_1 (pc' := 4) rfl ?_
  refine pj_iconst C d_Sw_ask_4 (pc' := 5) rfl (v := 1) (by decide) ?_
  refine pj_aload_n C d_Sw_ask_5 (pc' := 6) (i := 0) (x := b + 170) rfl rfl rfl ?_
  refine fg_Switch_117_Switch C tk_170 d_Sw_ask_6 (pc' := 9) rfl ?_
  refine pj_sipush C d_Sw_ask_9 (pc' := 12) rfl (v := 255) (by decide) ?_
  refine pj_iand C d_Sw_ask_12 (pc' := 13) rfl ?_
  refine pj_aload_n C d_Sw_ask_13 (pc' := 14) (i := 0) (x := b + 170) rfl rfl rfl ?_
  refine fg_Switch_38_Switch C tk_170 d_Sw_ask_14 (pc' := 17) rfl ?_
  refine pj_aload_n C d_Sw_ask_17 (pc' := 18) (i := 0) (x := b + 170) rfl rfl rfl ?_
  refine fg_Switch_117_Switch C tk_170 d_Sw_ask_18 (pc' := 21) rfl ?_
  refine ck_Switch_120 C  h d_Sw_ask_21 (pc' := 24) rfl ⟨Nat.le_of_ble_eq_true rfl, Nat.le_of_ble_eq_true rfl⟩ (Nat.le_of_ble_eq_true rfl) (fun r2 u1 h => ?_)
  refine pj_aload_n C d_Sw_ask_24 (pc' := 25) (i := 1) (x := b + i1) rfl rfl rfl ?_
  refine fg_Switch_126_Port C t1 d_Sw_ask_25 (pc' := 28) rfl ?_
  refine pj_aload_n C d_Sw_ask_28 (pc' := 29) (i := 1) (x := b + i1) rfl rfl rfl ?_
  refine fg_Switch_75_Port C t1 d_Sw_ask_29 (pc' := 32) rfl ?_
  refine pj_aload_n C d_Sw_ask_32 (pc' := 33) (i := 1) (x := b + i1) rfl rfl rfl ?_
  refine fg_Switch_129_Port C t1 d_Sw_ask_33 (pc' := 36) rfl ?_
  refine ck_Switch_132_Datagram C tk_180 (pl_Port_asked t1) h d_Sw_ask_36 (pc' := 39) rfl ⟨Nat.le_of_ble_eq_true rfl, Nat.le_of_ble_eq_true rfl⟩ (Nat.le_of_ble_eq_true rfl) (fun u3 h => ?_)
  refine pj_aload_n C d_Sw_ask_39 (pc' := 40) (i := 0) (x := b + 170) rfl rfl rfl ?_
  refine fg_Switch_35_Switch C tk_170 d_Sw_ask_40 (pc' := 43) rfl ?_
  refine pj_aload_n C d_Sw_ask_43 (pc' := 44) (i := 0) (x := b + 170) rfl rfl rfl ?_
  refine fg_Switch_38_Switch C tk_170 d_Sw_ask_44 (pc' := 47) rfl ?_
  refine ck_Switch_136_Datagram C tk_180 h d_Sw_ask_47 (pc' := 50) rfl ⟨Nat.le_of_ble_eq_true rfl, Nat.le_of_ble_eq_true rfl⟩ (Nat.le_of_ble_eq_true rfl) (fun u4 h => ?_)
  refine pj_aload_n C d_Sw_ask_50 (pc' := 51) (i := 0) (x := b + 170) rfl rfl rfl ?_
  refine pj_dup C d_Sw_ask_51 (pc' := 52) rfl rfl ?_
  refine fg_Switch_117_Switch C tk_170 d_Sw_ask_52 (pc' := 55) rfl ?_
  refine pj_iconst C d_Sw_ask_55 (pc' := 56) rfl (v := 1) (by decide) ?_
  refine pj_iadd C d_Sw_ask_56 (pc' := 57) rfl ?_
  refine fp_Switch_117_Switch C tk_170  d_Sw_ask_57 (pc' := 60) rfl h (fun u5 h => ?_)
  refine pj_aload_n C d_Sw_ask_60 (pc' := 61) (i := 1) (x := b + i1) rfl rfl rfl ?_
  refine fg_Switch_139_Port C t1 d_Sw_ask_61 (pc' := 64) rfl ?_
  refine pj_aload_n C d_Sw_ask_64 (pc' := 65) (i := 0) (x := b + 170) rfl rfl rfl ?_
  refine fg_Switch_35_Switch C tk_170 d_Sw_ask_65 (pc' := 68) rfl ?_
  refine fg_Switch_143_Datagram C tk_180 d_Sw_ask_68 (pc' := 71) rfl ?_
  refine ck_Switch_146_Row C (pl_Port_query t1) (Or.inl (pl_Datagram_row tk_180)) h d_Sw_ask_71 (pc' := 74) rfl ⟨Nat.le_of_ble_eq_true rfl, Nat.le_of_ble_eq_true rfl⟩ (Nat.le_of_ble_eq_true rfl) (fun u6 h => ?_)
  refine pj_aload_n C d_Sw_ask_74 (pc' := 75) (i := 1) (x := b + i1) rfl rfl rfl ?_
  refine pj_iload_n C d_Sw_ask_75 (pc' := 76) (i := 2) (x := x2) rfl rfl rfl ?_
  refine fp_Switch_152_Port C t1  d_Sw_ask_76 (pc' := 79) rfl h (fun u7 h => ?_)
  refine pj_aload_n C d_Sw_ask_79 (pc' := 80) (i := 1) (x := b + i1) rfl rfl rfl ?_
  refine pj_iconst C d_Sw_ask_80 (pc' := 81) rfl (v := 1) (by decide) ?_
  refine fp_Switch_69_Port C t1  d_Sw_ask_81 (pc' := 84) rfl h (fun u8 h => ?_)
  refine pj_aload_n C d_Sw_ask_84 (pc' := 85) (i := 1) (x := b + i1) rfl rfl rfl ?_
  refine pj_iconst C d_Sw_ask_85 (pc' := 86) rfl (v := 0) (by decide) ?_
  refine fp_Switch_114_Port C t1  d_Sw_ask_86 (pc' := 89) rfl h (fun u9 h => ?_)
  refine pj_aload_n C d_Sw_ask_89 (pc' := 90) (i := 0) (x := b + 170) rfl rfl rfl ?_
  refine fg_Switch_42_Switch C tk_170 d_Sw_ask_90 (pc' := 93) rfl ?_
  refine pj_iconst C d_Sw_ask_93 (pc' := 94) rfl (v := 2) (by decide) ?_
  refine pj_iload_n C d_Sw_ask_94 (pc' := 95) (i := 2) (x := x2) rfl rfl rfl ?_
  refine pj_aload_n C d_Sw_ask_95 (pc' := 96) (i := 1) (x := b + i1) rfl rfl rfl ?_
  refine fg_Switch_139_Port C t1 d_Sw_ask_96 (pc' := 99) rfl ?_
  refine ck_Switch_155_Mailbox C (Or.inl (pl_Port_query t1)) h d_Sw_ask_99 (pc' := 102) rfl ⟨Nat.le_of_ble_eq_true rfl, Nat.le_of_ble_eq_true rfl⟩ (Nat.le_of_ble_eq_true rfl) (fun u10 h => ?_)
  exact pj_vret C hE d_Sw_ask_102 ⟨rfl, h⟩
def pw_Sw_ask (u : pj_M) (i1 : Nat) (x2 : Int32) (K : pj_M → Prop) : Prop := pb_Sw_ask_0  K u i1 x2
theorem pc_Sw_ask (l : Launch) (D : va_G) (E : Nat → ClassId) {b : Nat} {u : pj_M} {i1 : Nat} {x2 : Int32} {K : pj_M → Prop} (t1 : pj_T i1 = 9) (h : pw_Sw_ask u i1 x2 K) : pj_C l y_Sw_ask c_Sw_ask 3 none rm_Sw_ask D E b [.ref (b + 170), .ref (b + i1), .int x2] u (pj_Kv K) := by
  refine pj_met (own := R_Sw) (by decide +kernel) rfl (Nat.le_of_ble_eq_true rfl) (fun g hE C => ?_)
  unfold pw_Sw_ask at h
  show pj_J g (pj_N g b u) 0 [some (.ref (b + 170)), some (.ref (b + i1)), some (.int x2)] []
  exact pj_cut (pj_le_s (pj_le_s (pj_le_s pj_le_e))) (pt_Sw_ask_0 C hE  t1 h)
/-! Switch.takePacket(LPortGuard$Port;)V -/
theorem fg_Switch_24_Switch {g : pj_G} {b : Nat} {cc : ByteArray} {nL : Nat} {ret : Option FieldType} {rm : Room} {u : pj_M} {pc pc' : Nat} {vs : List (Option Value)} {st : List Value} (C : pj_X g cc nL R_Sw ret rm) {i : Nat} (t : pj_T i = 10) (hdg : decode cc pc = .ok (.getfield 24, 3)) (hp : pc + 3 = pc') (kk : pj_J g (pj_N g b u) pc' vs (.ref (b + 173) :: st)) : pj_J g (pj_N g b u) pc vs (.ref (b + i) :: st) :=
  pj_get C cl_Switch hin_Switch (k := 4) (Nat.le_of_ble_eq_true rfl) wm_494 (Or.inl rfl) (pj_lt t (by decide)) (fun E => ko_10 t) rfl hdg hp kk
theorem fg_Switch_72_Port {g : pj_G} {b : Nat} {cc : ByteArray} {nL : Nat} {ret : Option FieldType} {rm : Room} {u : pj_M} {pc pc' : Nat} {vs : List (Option Value)} {st : List Value} (C : pj_X g cc nL R_Sw ret rm) {i : Nat} (t : pj_T i = 9) (hdg : decode cc pc = .ok (.getfield 72, 3)) (hp : pc + 3 = pc') (kk : pj_J g (pj_N g b u) pc' vs (.int (u i 8) :: st)) : pj_J g (pj_N g b u) pc vs (.ref (b + i) :: st) :=
  pj_get C cl_Port hin_Port (k := 8) (Nat.le_of_ble_eq_true rfl) wm_430 (Or.inl rfl) (pj_lt t (by decide)) (fun E => ko_9 t) rfl hdg hp kk
theorem fg_Switch_66_Port {g : pj_G} {b : Nat} {cc : ByteArray} {nL : Nat} {ret : Option FieldType} {rm : Room} {u : pj_M} {pc pc' : Nat} {vs : List (Option Value)} {st : List Value} (C : pj_X g cc nL R_Sw ret rm) {i : Nat} (t : pj_T i = 9) (hdg : decode cc pc = .ok (.getfield 66, 3)) (hp : pc + 3 = pc') (kk : pj_J g (pj_N g b u) pc' vs (.int (u i 5) :: st)) : pj_J g (pj_N g b u) pc vs (.ref (b + i) :: st) :=
  pj_get C cl_Port hin_Port (k := 5) (Nat.le_of_ble_eq_true rfl) wm_424 (Or.inl rfl) (pj_lt t (by decide)) (fun E => ko_9 t) rfl hdg hp kk
theorem fp_Switch_126_Port {g : pj_G} {b : Nat} {cc : ByteArray} {nL : Nat} {ret : Option FieldType} {rm : Room} {u : pj_M} {pc pc' : Nat} {vs : List (Option Value)} {st : List Value} (C : pj_X g cc nL R_Sw ret rm) {i : Nat} {x : Int32} {P : pj_M → Prop} (t : pj_T i = 9)  (hdg : decode cc pc = .ok (.putfield 126, 3)) (hp : pc + 3 = pc') (h : pj_put u i 10 x P) (kk : ∀ u', P u' → pj_J g (pj_N g b u') pc' vs st) : pj_J g (pj_N g b u) pc vs (.int x :: .ref (b + i) :: st) :=
  pj_putI C cl_Port hin_Port ty_Port tyok_Port nm_Port (k := 10) (Nat.le_of_ble_eq_true rfl) wm_434 (Or.inl rfl) rfl (ty := .int) (by decide +kernel) rfl rfl (pj_lt t (by decide)) (fun E u => ko_9 t) (F := fun f => [.int (f 0), .ref (b + (i + 1)), .ref (b + (i + 3)), .ref (b + (i + 5)), .int (f 4), .int (f 5), .int (f 6), .int (f 7), .int (f 8), .int (f 9), .int (f 10), .int (f 11), .int (f 12), .int (f 13), .int (f 14), .int (f 15), .int (f 16), .int (f 17)]) (fun _ => Nat.le_of_ble_eq_true rfl) (fun _ _ => rfl) hdg hp h kk
theorem fp_Switch_182_Port {g : pj_G} {b : Nat} {cc : ByteArray} {nL : Nat} {ret : Option FieldType} {rm : Room} {u : pj_M} {pc pc' : Nat} {vs : List (Option Value)} {st : List Value} (C : pj_X g cc nL R_Sw ret rm) {i : Nat} {x : Int32} {P : pj_M → Prop} (t : pj_T i = 9) (hb : pj_bi x) (hdg : decode cc pc = .ok (.putfield 182, 3)) (hp : pc + 3 = pc') (h : pj_put u i 14 x P) (kk : ∀ u', P u' → pj_J g (pj_N g b u') pc' vs st) : pj_J g (pj_N g b u) pc vs (.int x :: .ref (b + i) :: st) :=
  pj_putI C cl_Port hin_Port ty_Port tyok_Port nm_Port (k := 14) (Nat.le_of_ble_eq_true rfl) wm_441 (Or.inl rfl) rfl (ty := .boolean) (by decide +kernel) hb.nar hb.fit (pj_lt t (by decide)) (fun E u => ko_9 t) (F := fun f => [.int (f 0), .ref (b + (i + 1)), .ref (b + (i + 3)), .ref (b + (i + 5)), .int (f 4), .int (f 5), .int (f 6), .int (f 7), .int (f 8), .int (f 9), .int (f 10), .int (f 11), .int (f 12), .int (f 13), .int (f 14), .int (f 15), .int (f 16), .int (f 17)]) (fun _ => Nat.le_of_ble_eq_true rfl) (fun _ _ => rfl) hdg hp h kk
theorem fg_Switch_185_Switch {g : pj_G} {b : Nat} {cc : ByteArray} {nL : Nat} {ret : Option FieldType} {rm : Room} {u : pj_M} {pc pc' : Nat} {vs : List (Option Value)} {st : List Value} (C : pj_X g cc nL R_Sw ret rm) {i : Nat} (t : pj_T i = 10) (hdg : decode cc pc = .ok (.getfield 185, 3)) (hp : pc + 3 = pc') (kk : pj_J g (pj_N g b u) pc' vs (.int (u i 8) :: st)) : pj_J g (pj_N g b u) pc vs (.ref (b + i) :: st) :=
  pj_get C cl_Switch hin_Switch (k := 8) (Nat.le_of_ble_eq_true rfl) wm_498 (Or.inl rfl) (pj_lt t (by decide)) (fun E => ko_10 t) rfl hdg hp kk
theorem ck_Switch_169_Packet {g : pj_G} {b : Nat} {cc : ByteArray} {nL : Nat} {ret : Option FieldType} {rm : Room} {u : pj_M} {pc pc' : Nat} {vs : List (Option Value)} {st : List Value} (C : pj_X g cc nL R_Sw ret rm) {i0 : Nat} {K : Int32 → pj_M → Prop} (t0 : pj_T i0 = 4) (h : pw_Pa_code u i0 K) (hdg : decode cc pc = .ok (.invokevirtual 169, 3)) (hp : pc + 3 = pc') (hR : rm_Pa_code.frames + 1 ≤ rm.frames ∧ 8 + (1 + 11) + rm_Pa_code.locals ≤ rm.locals) (h8 : (st.map fun v => v.category).sum ≤ 8) (kk : ∀ r u', K r u' → pj_J g (pj_N g b u') pc' vs (.int r :: st)) : pj_J g (pj_N g b u) pc vs (.ref (b + i0) :: st) :=
  pj_callV C (As := []) (fun l D E => pc_Pa_code l D E t0 h) rfl rfl cl_Packet (pj_lt t0 (by decide)) (fun E => ko_4 t0) wm_727 wm_720 wm_721 wm_96 wm_722 (by decide +kernel) (n := 0) rfl hR rfl h8 hdg hp (fun v u' hq => by obtain ⟨r, rfl, hk⟩ := hq; exact kk r u' hk)
theorem ck_Switch_172_Packet {g : pj_G} {b : Nat} {cc : ByteArray} {nL : Nat} {ret : Option FieldType} {rm : Room} {u : pj_M} {pc pc' : Nat} {vs : List (Option Value)} {st : List Value} (C : pj_X g cc nL R_Sw ret rm) {i0 : Nat} {K : Int32 → pj_M → Prop} (t0 : pj_T i0 = 4) (h : pw_Pa_type u i0 K) (hdg : decode cc pc = .ok (.invokevirtual 172, 3)) (hp : pc + 3 = pc') (hR : rm_Pa_type.frames + 1 ≤ rm.frames ∧ 8 + (1 + 11) + rm_Pa_type.locals ≤ rm.locals) (h8 : (st.map fun v => v.category).sum ≤ 8) (kk : ∀ r u', K r u' → pj_J g (pj_N g b u') pc' vs (.int r :: st)) : pj_J g (pj_N g b u) pc vs (.ref (b + i0) :: st) :=
  pj_callV C (As := []) (fun l D E => pc_Pa_type l D E t0 h) rfl rfl cl_Packet (pj_lt t0 (by decide)) (fun E => ko_4 t0) wm_728 wm_729 wm_730 wm_96 wm_731 (by decide +kernel) (n := 0) rfl hR rfl h8 hdg hp (fun v u' hq => by obtain ⟨r, rfl, hk⟩ := hq; exact kk r u' hk)
theorem ck_Switch_175_Packet {g : pj_G} {b : Nat} {cc : ByteArray} {nL : Nat} {ret : Option FieldType} {rm : Room} {u : pj_M} {pc pc' : Nat} {vs : List (Option Value)} {st : List Value} (C : pj_X g cc nL R_Sw ret rm) {i0 : Nat} {K : Int32 → pj_M → Prop} (t0 : pj_T i0 = 4) (h : pw_Pa_dataSize u i0 K) (hdg : decode cc pc = .ok (.invokevirtual 175, 3)) (hp : pc + 3 = pc') (hR : rm_Pa_dataSize.frames + 1 ≤ rm.frames ∧ 8 + (1 + 11) + rm_Pa_dataSize.locals ≤ rm.locals) (h8 : (st.map fun v => v.category).sum ≤ 8) (kk : ∀ r u', K r u' → pj_J g (pj_N g b u') pc' vs (.int r :: st)) : pj_J g (pj_N g b u) pc vs (.ref (b + i0) :: st) :=
  pj_callV C (As := []) (fun l D E => pc_Pa_dataSize l D E t0 h) rfl rfl cl_Packet (pj_lt t0 (by decide)) (fun E => ko_4 t0) wm_732 wm_733 wm_734 wm_96 wm_735 (by decide +kernel) (n := 0) rfl hR rfl h8 hdg hp (fun v u' hq => by obtain ⟨r, rfl, hk⟩ := hq; exact kk r u' hk)
theorem ck_Switch_178_Packet {g : pj_G} {b : Nat} {cc : ByteArray} {nL : Nat} {ret : Option FieldType} {rm : Room} {u : pj_M} {pc pc' : Nat} {vs : List (Option Value)} {st : List Value} (C : pj_X g cc nL R_Sw ret rm) {i0 : Nat} {K : Int32 → pj_M → Prop} (t0 : pj_T i0 = 4) (h : pw_Pa_firstData u i0 K) (hdg : decode cc pc = .ok (.invokevirtual 178, 3)) (hp : pc + 3 = pc') (hR : rm_Pa_firstData.frames + 1 ≤ rm.frames ∧ 8 + (1 + 11) + rm_Pa_firstData.locals ≤ rm.locals) (h8 : (st.map fun v => v.category).sum ≤ 8) (kk : ∀ r u', K r u' → pj_J g (pj_N g b u') pc' vs (.int r :: st)) : pj_J g (pj_N g b u) pc vs (.ref (b + i0) :: st) :=
  pj_callV C (As := []) (fun l D E => pc_Pa_firstData l D E t0 h) rfl rfl cl_Packet (pj_lt t0 (by decide)) (fun E => ko_4 t0) wm_736 wm_737 wm_738 wm_96 wm_739 (by decide +kernel) (n := 0) rfl hR rfl h8 hdg hp (fun v u' hq => by obtain ⟨r, rfl, hk⟩ := hq; exact kk r u' hk)
theorem ck_Switch_181_Packet {g : pj_G} {b : Nat} {cc : ByteArray} {nL : Nat} {ret : Option FieldType} {rm : Room} {u : pj_M} {pc pc' : Nat} {vs : List (Option Value)} {st : List Value} (C : pj_X g cc nL R_Sw ret rm) {i0 : Nat} {i1 : Nat} {K : pj_M → Prop} (t : pj_T i0 = 4) (t1 : pj_R i1) (h : pw_Ro_copy u i0 i1 K) (hdg : decode cc pc = .ok (.invokevirtual 181, 3)) (hp : pc + 3 = pc') (hR : rm_Ro_copy.frames + 1 ≤ rm.frames ∧ 8 + (2 + 11) + rm_Ro_copy.locals ≤ rm.locals) (h8 : (st.map fun v => v.category).sum ≤ 8) (kk : ∀ u', K u' → pj_J g (pj_N g b u') pc' vs st) : pj_J g (pj_N g b u) pc vs (.ref (b + i1) :: .ref (b + i0) :: st) := by
  have t0 : pj_R i0 := Or.inr t
  exact pj_callU C (x := ⟨"PortGuard$Packet", "copy", "(LPortGuard$Row;)V"⟩) (owner := "PortGuard$Row") (As := [.ref (b + i1)]) (fun l D E => pc_Ro_copy l D E t0 t1 h) rfl rfl cl_Packet (pj_lt t (by decide)) (fun E => ko_4 t) rfl wm_740 wm_684 wm_743 wm_94 wm_688 wm_741 (by decide +kernel) (n := 1) rfl hR rfl h8 hdg hp (fun v u' hq => by obtain ⟨rfl, hk⟩ := hq; exact kk u' hk)
theorem ck_Switch_188_Switch {g : pj_G} {b : Nat} {cc : ByteArray} {nL : Nat} {ret : Option FieldType} {rm : Room} {u : pj_M} {pc pc' : Nat} {vs : List (Option Value)} {st : List Value} (C : pj_X g cc nL R_Sw ret rm) {i1 : Nat} {x2 : Int32} {K : pj_M → Prop} (t1 : pj_T i1 = 9) (h : pw_Sw_ask u i1 x2 K) (hdg : decode cc pc = .ok (.invokevirtual 188, 3)) (hp : pc + 3 = pc') (hR : rm_Sw_ask.frames + 1 ≤ rm.frames ∧ 8 + (3 + 11) + rm_Sw_ask.locals ≤ rm.locals) (h8 : (st.map fun v => v.category).sum ≤ 8) (kk : ∀ u', K u' → pj_J g (pj_N g b u') pc' vs st) : pj_J g (pj_N g b u) pc vs (.int x2 :: .ref (b + i1) :: .ref (b + 170) :: st) :=
  pj_callV C (As := [.ref (b + i1), .int x2]) (fun l D E => pc_Sw_ask l D E t1 h) rfl rfl cl_Switch (pj_lt tk_170 (by decide)) (fun E => ko_10 tk_170) wm_744 wm_746 wm_6 wm_100 wm_747 (by decide +kernel) (n := 2) rfl hR rfl h8 hdg hp (fun v u' hq => by obtain ⟨rfl, hk⟩ := hq; exact kk u' hk)
def rm_Sw_takePacket : Room := { frames := 4, cells := 0, slots := 0, locals := 131 }
def pb_Sw_takePacket_35  (K : pj_M → Prop) (u : pj_M)  : Prop := K u
set_option maxHeartbeats 1000000 in
theorem pt_Sw_takePacket_35 {g : pj_G} {b : Nat} (C : pj_X g c_Sw_takePacket 2 R_Sw none rm_Sw_takePacket) {K : pj_M → Prop} (hE : pj_E g b (pj_Kv K))   {u : pj_M}    (h : pb_Sw_takePacket_35  K u ) : pj_J g (pj_N g b u) 35 [none, none] [] := by
  unfold pb_Sw_takePacket_35 at h
  exact pj_vret C hE d_Sw_takePacket_35 ⟨rfl, h⟩
def pb_Sw_takePacket_83  (K : pj_M → Prop) (u : pj_M) (i1 : Nat) : Prop := pj_put u i1 8 0 fun u1 => (pw_Ro_copy u1 (i1 + 3) 173 fun u2 => (pj_put u2 i1 14 0 fun u3 => (pw_Sw_ask u3 i1 (u3 170 8) fun u4 => (K u4))))
set_option maxHeartbeats 1000000 in
theorem pt_Sw_takePacket_83 {g : pj_G} {b : Nat} (C : pj_X g c_Sw_takePacket 2 R_Sw none rm_Sw_takePacket) {K : pj_M → Prop} (hE : pj_E g b (pj_Kv K))   {u : pj_M} {i1 : Nat}  (t1 : pj_T i1 = 9) (h : pb_Sw_takePacket_83  K u i1) : pj_J g (pj_N g b u) 83 [some (.ref (b + 170)), some (.ref (b + i1))] [] := by
  unfold pb_Sw_takePacket_83 at h
  refine pj_aload_n C d_Sw_takePacket_83 (pc' := 84) (i := 1) (x := b + i1) rfl rfl rfl ?_
  refine pj_iconst C d_Sw_takePacket_84 (pc' := 85) rfl (v := 0) (by decide) ?_
  refine fp_Switch_72_Port C t1 pj_bi0 d_Sw_takePacket_85 (pc' := 88) rfl h (fun u1 h => ?_)
  refine pj_aload_n C d_Sw_takePacket_88 (pc' := 89) (i := 1) (x := b + i1) rfl rfl rfl ?_
  refine fg_Switch_129_Port C t1 d_Sw_takePacket_89 (pc' := 92) rfl ?_
  refine pj_aload_n C d_Sw_takePacket_92 (pc' := 93) (i := 0) (x := b + 170) rfl rfl rfl ?_
  refine fg_Switch_24_Switch C tk_170 d_Sw_takePacket_93 (pc' := 96) rfl ?_
  refine ck_Switch_181_Packet C (pl_Port_asked t1) (Or.inr tk_173) h d_Sw_takePacket_96 (pc' := 99) rfl ⟨Nat.le_of_ble_eq_true rfl, Nat.le_of_ble_eq_true rfl⟩ (Nat.le_of_ble_eq_true rfl) (fun u2 h => ?_)
  refine pj_aload_n C d_Sw_takePacket_99 (pc' := 100) (i := 1) (x := b + i1) rfl rfl rfl ?_
  refine pj_iconst C d_Sw_takePacket_100 (pc' := 101) rfl (v := 0) (by decide) ?_
  refine fp_Switch_182_Port C t1 pj_bi0 d_Sw_takePacket_101 (pc' := 104) rfl h (fun u3 h => ?_)
  refine pj_aload_n C d_Sw_takePacket_104 (pc' := 105) (i := 0) (x := b + 170) rfl rfl rfl ?_
  refine pj_aload_n C d_Sw_takePacket_105 (pc' := 106) (i := 1) (x := b + i1) rfl rfl rfl ?_
  refine pj_aload_n C d_Sw_takePacket_106 (pc' := 107) (i := 0) (x := b + 170) rfl rfl rfl ?_
  refine fg_Switch_185_Switch C tk_170 d_Sw_takePacket_107 (pc' := 110) rfl ?_
  refine ck_Switch_188_Switch C t1 h d_Sw_takePacket_110 (pc' := 113) rfl ⟨Nat.le_of_ble_eq_true rfl, Nat.le_of_ble_eq_true rfl⟩ (Nat.le_of_ble_eq_true rfl) (fun u4 h => ?_)
  exact pj_vret C hE d_Sw_takePacket_113 ⟨rfl, h⟩
def pb_Sw_takePacket_66  (K : pj_M → Prop) (u : pj_M)  : Prop := K u
set_option maxHeartbeats 1000000 in
theorem pt_Sw_takePacket_66 {g : pj_G} {b : Nat} (C : pj_X g c_Sw_takePacket 2 R_Sw none rm_Sw_takePacket) {K : pj_M → Prop} (hE : pj_E g b (pj_Kv K))   {u : pj_M}    (h : pb_Sw_takePacket_66  K u ) : pj_J g (pj_N g b u) 66 [none, none] [] := by
  unfold pb_Sw_takePacket_66 at h
  exact pj_vret C hE d_Sw_takePacket_66 ⟨rfl, h⟩
def pb_Sw_takePacket_67  (K : pj_M → Prop) (u : pj_M) (i1 : Nat) : Prop := pw_Pa_firstData u 173 fun r2 u1 => (pj_put u1 i1 10 r2 fun u3 => (pj_put u3 i1 5 2 fun u4 => (pb_Sw_takePacket_83  K u4 i1)))
set_option maxHeartbeats 1000000 in
theorem pt_Sw_takePacket_67 {g : pj_G} {b : Nat} (C : pj_X g c_Sw_takePacket 2 R_Sw none rm_Sw_takePacket) {K : pj_M → Prop} (hE : pj_E g b (pj_Kv K))   {u : pj_M} {i1 : Nat}  (t1 : pj_T i1 = 9) (h : pb_Sw_takePacket_67  K u i1) : pj_J g (pj_N g b u) 67 [some (.ref (b + 170)), some (.ref (b + i1))] [] := by
  unfold pb_Sw_takePacket_67 at h
  refine pj_aload_n C d_Sw_takePacket_67 (pc' := 68) (i := 1) (x := b + i1) rfl rfl rfl ?_
  refine pj_aload_n C d_Sw_takePacket_68 (pc' := 69) (i := 0) (x := b + 170) rfl rfl rfl ?_
  refine fg_Switch_24_Switch C tk_170 d_Sw_takePacket_69 (pc' := 72) rfl ?_
  refine ck_Switch_178_Packet C tk_173 h d_Sw_takePacket_72 (pc' := 75) rfl ⟨Nat.le_of_ble_eq_true rfl, Nat.le_of_ble_eq_true rfl⟩ (Nat.le_of_ble_eq_true rfl) (fun r2 u1 h => ?_)
  refine fp_Switch_126_Port C t1  d_Sw_takePacket_75 (pc' := 78) rfl h (fun u3 h => ?_)
  refine pj_aload_n C d_Sw_takePacket_78 (pc' := 79) (i := 1) (x := b + i1) rfl rfl rfl ?_
  refine pj_iconst C d_Sw_takePacket_79 (pc' := 80) rfl (v := 2) (by decide) ?_
  refine fp_Switch_66_Port C t1  d_Sw_takePacket_80 (pc' := 83) rfl h (fun u4 h => ?_)
  exact pj_cut (pj_le_s (pj_le_s pj_le_e)) (pt_Sw_takePacket_83 C hE  t1 h)
def pb_Sw_takePacket_55  (K : pj_M → Prop) (u : pj_M) (i1 : Nat) : Prop := pw_Pa_dataSize u 173 fun r2 u1 => (((r2 = 1) → (pb_Sw_takePacket_67  K u1 i1)) ∧ (¬ (r2 = 1) → (pb_Sw_takePacket_66  K u1 )))
set_option maxHeartbeats 1000000 in
theorem pt_Sw_takePacket_55 {g : pj_G} {b : Nat} (C : pj_X g c_Sw_takePacket 2 R_Sw none rm_Sw_takePacket) {K : pj_M → Prop} (hE : pj_E g b (pj_Kv K))   {u : pj_M} {i1 : Nat}  (t1 : pj_T i1 = 9) (h : pb_Sw_takePacket_55  K u i1) : pj_J g (pj_N g b u) 55 [some (.ref (b + 170)), some (.ref (b + i1))] [] := by
  unfold pb_Sw_takePacket_55 at h
  refine pj_aload_n C d_Sw_takePacket_55 (pc' := 56) (i := 0) (x := b + 170) rfl rfl rfl ?_
  refine fg_Switch_24_Switch C tk_170 d_Sw_takePacket_56 (pc' := 59) rfl ?_
  refine ck_Switch_175_Packet C tk_173 h d_Sw_takePacket_59 (pc' := 62) rfl ⟨Nat.le_of_ble_eq_true rfl, Nat.le_of_ble_eq_true rfl⟩ (Nat.le_of_ble_eq_true rfl) (fun r2 u1 h => ?_)
  refine pj_iconst C d_Sw_takePacket_62 (pc' := 63) rfl (v := 1) (by decide) ?_
  refine pj_icmp_eq C d_Sw_takePacket_63 (pc' := 66) rfl (tgt := 67) (by decide) h (fun h => ?_) (fun h => ?_)
  · exact pj_cut (pj_le_s (pj_le_s pj_le_e)) (pt_Sw_takePacket_67 C hE  t1 h)
  · exact pj_cut (pj_le_n (pj_le_n pj_le_e)) (pt_Sw_takePacket_66 C hE   h)
def pb_Sw_takePacket_44  (K : pj_M → Prop) (u : pj_M) (i1 : Nat) : Prop := pw_Pa_type u 173 fun r2 u1 => (((r2 = 1) → (pb_Sw_takePacket_55  K u1 i1)) ∧ (¬ (r2 = 1) → (pb_Sw_takePacket_66  K u1 )))
set_option maxHeartbeats 1000000 in
theorem pt_Sw_takePacket_44 {g : pj_G} {b : Nat} (C : pj_X g c_Sw_takePacket 2 R_Sw none rm_Sw_takePacket) {K : pj_M → Prop} (hE : pj_E g b (pj_Kv K))   {u : pj_M} {i1 : Nat}  (t1 : pj_T i1 = 9) (h : pb_Sw_takePacket_44  K u i1) : pj_J g (pj_N g b u) 44 [some (.ref (b + 170)), some (.ref (b + i1))] [] := by
  unfold pb_Sw_takePacket_44 at h
  refine pj_aload_n C d_Sw_takePacket_44 (pc' := 45) (i := 0) (x := b + 170) rfl rfl rfl ?_
  refine fg_Switch_24_Switch C tk_170 d_Sw_takePacket_45 (pc' := 48) rfl ?_
  refine ck_Switch_172_Packet C tk_173 h d_Sw_takePacket_48 (pc' := 51) rfl ⟨Nat.le_of_ble_eq_true rfl, Nat.le_of_ble_eq_true rfl⟩ (Nat.le_of_ble_eq_true rfl) (fun r2 u1 h => ?_)
  refine pj_iconst C d_Sw_takePacket_51 (pc' := 52) rfl (v := 1) (by decide) ?_
  refine pj_icmp_ne C d_Sw_takePacket_52 (pc' := 55) rfl (tgt := 66) (by decide) h (fun h => ?_) (fun h => ?_)
  · exact pj_cut (pj_le_n (pj_le_n pj_le_e)) (pt_Sw_takePacket_66 C hE   h)
  · exact pj_cut (pj_le_s (pj_le_s pj_le_e)) (pt_Sw_takePacket_55 C hE  t1 h)
def pb_Sw_takePacket_36  (K : pj_M → Prop) (u : pj_M) (i1 : Nat) : Prop := (((u i1 5) = 1) → (pb_Sw_takePacket_44  K u i1)) ∧ (¬ ((u i1 5) = 1) → (pb_Sw_takePacket_83  K u i1))
set_option maxHeartbeats 1000000 in
theorem pt_Sw_takePacket_36 {g : pj_G} {b : Nat} (C : pj_X g c_Sw_takePacket 2 R_Sw none rm_Sw_takePacket) {K : pj_M → Prop} (hE : pj_E g b (pj_Kv K))   {u : pj_M} {i1 : Nat}  (t1 : pj_T i1 = 9) (h : pb_Sw_takePacket_36  K u i1) : pj_J g (pj_N g b u) 36 [some (.ref (b + 170)), some (.ref (b + i1))] [] := by
  unfold pb_Sw_takePacket_36 at h
  refine pj_aload_n C d_Sw_takePacket_36 (pc' := 37) (i := 1) (x := b + i1) rfl rfl rfl ?_
  refine fg_Switch_66_Port C t1 d_Sw_takePacket_37 (pc' := 40) rfl ?_
  refine pj_iconst C d_Sw_takePacket_40 (pc' := 41) rfl (v := 1) (by decide) ?_
  refine pj_icmp_ne C d_Sw_takePacket_41 (pc' := 44) rfl (tgt := 83) (by decide) h (fun h => ?_) (fun h => ?_)
  · exact pj_cut (pj_le_s (pj_le_s pj_le_e)) (pt_Sw_takePacket_83 C hE  t1 h)
  · exact pj_cut (pj_le_s (pj_le_s pj_le_e)) (pt_Sw_takePacket_44 C hE  t1 h)
def pb_Sw_takePacket_18  (K : pj_M → Prop) (u : pj_M) (i1 : Nat) : Prop := pw_Pa_id u 173 fun r2 u1 => (pw_Pa_id u1 (i1 + 1) fun r4 u3 => (((r2 = r4) → (pb_Sw_takePacket_36  K u3 i1)) ∧ (¬ (r2 = r4) → (pb_Sw_takePacket_35  K u3 ))))
set_option maxHeartbeats 1000000 in
theorem pt_Sw_takePacket_18 {g : pj_G} {b : Nat} (C : pj_X g c_Sw_takePacket 2 R_Sw none rm_Sw_takePacket) {K : pj_M → Prop} (hE : pj_E g b (pj_Kv K))   {u : pj_M} {i1 : Nat}  (t1 : pj_T i1 = 9) (h : pb_Sw_takePacket_18  K u i1) : pj_J g (pj_N g b u) 18 [some (.ref (b + 170)), some (.ref (b + i1))] [] := by
  unfold pb_Sw_takePacket_18 at h
  refine pj_aload_n C d_Sw_takePacket_18 (pc' := 19) (i := 0) (x := b + 170) rfl rfl rfl ?_
  refine fg_Switch_24_Switch C tk_170 d_Sw_takePacket_19 (pc' := 22) rfl ?_
  refine ck_Switch_107_Packet C tk_173 h d_Sw_takePacket_22 (pc' := 25) rfl ⟨Nat.le_of_ble_eq_true rfl, Nat.le_of_ble_eq_true rfl⟩ (Nat.le_of_ble_eq_true rfl) (fun r2 u1 h => ?_)
  refine pj_aload_n C d_Sw_takePacket_25 (pc' := 26) (i := 1) (x := b + i1) rfl rfl rfl ?_
  refine fg_Switch_78_Port C t1 d_Sw_takePacket_26 (pc' := 29) rfl ?_
  refine ck_Switch_107_Packet C (pl_Port_last t1) h d_Sw_takePacket_29 (pc' := 32) rfl ⟨Nat.le_of_ble_eq_true rfl, Nat.le_of_ble_eq_true rfl⟩ (Nat.le_of_ble_eq_true rfl) (fun r4 u3 h => ?_)
  refine pj_icmp_eq C d_Sw_takePacket_32 (pc' := 35) rfl (tgt := 36) (by decide) h (fun h => ?_) (fun h => ?_)
  · exact pj_cut (pj_le_s (pj_le_s pj_le_e)) (pt_Sw_takePacket_36 C hE  t1 h)
  · exact pj_cut (pj_le_n (pj_le_n pj_le_e)) (pt_Sw_takePacket_35 C hE   h)
def pb_Sw_takePacket_11  (K : pj_M → Prop) (u : pj_M) (i1 : Nat) : Prop := (((u i1 8) = 0) → (pb_Sw_takePacket_35  K u )) ∧ (¬ ((u i1 8) = 0) → (pb_Sw_takePacket_18  K u i1))
set_option maxHeartbeats 1000000 in
theorem pt_Sw_takePacket_11 {g : pj_G} {b : Nat} (C : pj_X g c_Sw_takePacket 2 R_Sw none rm_Sw_takePacket) {K : pj_M → Prop} (hE : pj_E g b (pj_Kv K))   {u : pj_M} {i1 : Nat}  (t1 : pj_T i1 = 9) (h : pb_Sw_takePacket_11  K u i1) : pj_J g (pj_N g b u) 11 [some (.ref (b + 170)), some (.ref (b + i1))] [] := by
  unfold pb_Sw_takePacket_11 at h
  refine pj_aload_n C d_Sw_takePacket_11 (pc' := 12) (i := 1) (x := b + i1) rfl rfl rfl ?_
  refine fg_Switch_72_Port C t1 d_Sw_takePacket_12 (pc' := 15) rfl ?_
  refine pj_if_eq C d_Sw_takePacket_15 (pc' := 18) rfl (tgt := 35) (by decide) h (fun h => ?_) (fun h => ?_)
  · exact pj_cut (pj_le_n (pj_le_n pj_le_e)) (pt_Sw_takePacket_35 C hE   h)
  · exact pj_cut (pj_le_s (pj_le_s pj_le_e)) (pt_Sw_takePacket_18 C hE  t1 h)
def pb_Sw_takePacket_0  (K : pj_M → Prop) (u : pj_M) (i1 : Nat) : Prop := pw_Pa_code u 173 fun r2 u1 => (((r2 = 2) → (pb_Sw_takePacket_11  K u1 i1)) ∧ (¬ (r2 = 2) → (pb_Sw_takePacket_35  K u1 )))
set_option maxHeartbeats 1000000 in
theorem pt_Sw_takePacket_0 {g : pj_G} {b : Nat} (C : pj_X g c_Sw_takePacket 2 R_Sw none rm_Sw_takePacket) {K : pj_M → Prop} (hE : pj_E g b (pj_Kv K))   {u : pj_M} {i1 : Nat}  (t1 : pj_T i1 = 9) (h : pb_Sw_takePacket_0  K u i1) : pj_J g (pj_N g b u) 0 [some (.ref (b + 170)), some (.ref (b + i1))] [] := by
  unfold pb_Sw_takePacket_0 at h
  refine pj_aload_n C d_Sw_takePacket_0 (pc' := 1) (i := 0) (x := b + 170) rfl rfl rfl ?_
  refine fg_Switch_24_Switch C tk_170 d_Sw_takePacket_1 (pc' := 4) rfl ?_
  refine ck_Switch_169_Packet C tk_173 h d_Sw_takePacket_4 (pc' := 7) rfl ⟨Nat.le_of_ble_eq_true rfl, Nat.le_of_ble_eq_true rfl⟩ (Nat.le_of_ble_eq_true rfl) (fun r2 u1 h => ?_)
  refine pj_iconst C d_Sw_takePacket_7 (pc' := 8) rfl (v := 2) (by decide) ?_
  refine pj_icmp_ne C d_Sw_takePacket_8 (pc' := 11) rfl (tgt := 35) (by decide) h (fun h => ?_) (fun h => ?_)
  · exact pj_cut (pj_le_n (pj_le_n pj_le_e)) (pt_Sw_takePacket_35 C hE   h)
  · exact pj_cut (pj_le_s (pj_le_s pj_le_e)) (pt_Sw_takePacket_11 C hE  t1 h)
def pw_Sw_takePacket (u : pj_M) (i1 : Nat) (K : pj_M → Prop) : Prop := pb_Sw_takePacket_0  K u i1
theorem pc_Sw_takePacket (l : Launch) (D : va_G) (E : Nat → ClassId) {b : Nat} {u : pj_M} {i1 : Nat} {K : pj_M → Prop} (t1 : pj_T i1 = 9) (h : pw_Sw_takePacket u i1 K) : pj_C l y_Sw_takePacket c_Sw_takePacket 2 none rm_Sw_takePacket D E b [.ref (b + 170), .ref (b + i1)] u (pj_Kv K) := by
  refine pj_met (own := R_Sw) (by decide +kernel) rfl (Nat.le_of_ble_eq_true rfl) (fun g hE C => ?_)
  unfold pw_Sw_takePacket at h
  show pj_J g (pj_N g b u) 0 [some (.ref (b + 170)), some (.ref (b + i1))] []
  exact pj_cut (pj_le_s (pj_le_s pj_le_e)) (pt_Sw_takePacket_0 C hE  t1 h)
/-! Switch.takeFrame(LPortGuard$Port;LPortGuard$Row;)V -/
theorem fg_Switch_55_Port {g : pj_G} {b : Nat} {cc : ByteArray} {nL : Nat} {ret : Option FieldType} {rm : Room} {u : pj_M} {pc pc' : Nat} {vs : List (Option Value)} {st : List Value} (C : pj_X g cc nL R_Sw ret rm) {i : Nat} (t : pj_T i = 9) (hdg : decode cc pc = .ok (.getfield 55, 3)) (hp : pc + 3 = pc') (kk : pj_J g (pj_N g b u) pc' vs (.int (u i 4) :: st)) : pj_J g (pj_N g b u) pc vs (.ref (b + i) :: st) :=
  pj_get C cl_Port hin_Port (k := 4) (Nat.le_of_ble_eq_true rfl) wm_421 (Or.inl rfl) (pj_lt t (by decide)) (fun E => ko_9 t) rfl hdg hp kk
theorem fg_Switch_166_Switch {g : pj_G} {b : Nat} {cc : ByteArray} {nL : Nat} {ret : Option FieldType} {rm : Room} {u : pj_M} {pc pc' : Nat} {vs : List (Option Value)} {st : List Value} (C : pj_X g cc nL R_Sw ret rm) {i : Nat} (t : pj_T i = 10) (hdg : decode cc pc = .ok (.getfield 166, 3)) (hp : pc + 3 = pc') (kk : pj_J g (pj_N g b u) pc' vs (.int (u i 9) :: st)) : pj_J g (pj_N g b u) pc vs (.ref (b + i) :: st) :=
  pj_get C cl_Switch hin_Switch (k := 9) (Nat.le_of_ble_eq_true rfl) wm_500 (Or.inl rfl) (pj_lt t (by decide)) (fun E => ko_10 t) rfl hdg hp kk
theorem fp_Switch_166_Switch {g : pj_G} {b : Nat} {cc : ByteArray} {nL : Nat} {ret : Option FieldType} {rm : Room} {u : pj_M} {pc pc' : Nat} {vs : List (Option Value)} {st : List Value} (C : pj_X g cc nL R_Sw ret rm) {i : Nat} {x : Int32} {P : pj_M → Prop} (t : pj_T i = 10)  (hdg : decode cc pc = .ok (.putfield 166, 3)) (hp : pc + 3 = pc') (h : pj_put u i 9 x P) (kk : ∀ u', P u' → pj_J g (pj_N g b u') pc' vs st) : pj_J g (pj_N g b u) pc vs (.int x :: .ref (b + i) :: st) :=
  pj_putI C cl_Switch hin_Switch ty_Switch tyok_Switch nm_Switch (k := 9) (Nat.le_of_ble_eq_true rfl) wm_500 (Or.inl rfl) rfl (ty := .int) (by decide +kernel) rfl rfl (pj_lt t (by decide)) (fun E u => ko_10 t) (F := fun f => [.int (f 0), .ref (b + 4), .ref (b + 171), .ref (b + 172), .ref (b + 173), .ref (b + 175), .ref (b + 180), .int (f 7), .int (f 8), .int (f 9)]) (fun _ => Nat.le_of_ble_eq_true rfl) (fun _ _ => rfl) hdg hp h kk
theorem ck_Switch_159_Packet {g : pj_G} {b : Nat} {cc : ByteArray} {nL : Nat} {ret : Option FieldType} {rm : Room} {u : pj_M} {pc pc' : Nat} {vs : List (Option Value)} {st : List Value} (C : pj_X g cc nL R_Sw ret rm) {i0 : Nat} {i1 : Nat} {K : Int32 → pj_M → Prop} (t0 : pj_T i0 = 4) (t1 : pj_R i1) (h : pw_Pa_readFrame u i0 i1 K) (hdg : decode cc pc = .ok (.invokevirtual 159, 3)) (hp : pc + 3 = pc') (hR : rm_Pa_readFrame.frames + 1 ≤ rm.frames ∧ 8 + (2 + 11) + rm_Pa_readFrame.locals ≤ rm.locals) (h8 : (st.map fun v => v.category).sum ≤ 8) (kk : ∀ r u', K r u' → pj_J g (pj_N g b u') pc' vs (.int r :: st)) : pj_J g (pj_N g b u) pc vs (.ref (b + i1) :: .ref (b + i0) :: st) :=
  pj_callV C (As := [.ref (b + i1)]) (fun l D E => pc_Pa_readFrame l D E t0 t1 h) rfl rfl cl_Packet (pj_lt t0 (by decide)) (fun E => ko_4 t0) wm_706 wm_707 wm_708 wm_96 wm_709 (by decide +kernel) (n := 1) rfl hR rfl h8 hdg hp (fun v u' hq => by obtain ⟨r, rfl, hk⟩ := hq; exact kk r u' hk)
theorem ck_Switch_163_Switch {g : pj_G} {b : Nat} {cc : ByteArray} {nL : Nat} {ret : Option FieldType} {rm : Room} {u : pj_M} {pc pc' : Nat} {vs : List (Option Value)} {st : List Value} (C : pj_X g cc nL R_Sw ret rm) {i1 : Nat} {K : pj_M → Prop} (t1 : pj_T i1 = 9) (h : pw_Sw_takePacket u i1 K) (hdg : decode cc pc = .ok (.invokevirtual 163, 3)) (hp : pc + 3 = pc') (hR : rm_Sw_takePacket.frames + 1 ≤ rm.frames ∧ 8 + (2 + 11) + rm_Sw_takePacket.locals ≤ rm.locals) (h8 : (st.map fun v => v.category).sum ≤ 8) (kk : ∀ u', K u' → pj_J g (pj_N g b u') pc' vs st) : pj_J g (pj_N g b u) pc vs (.ref (b + i1) :: .ref (b + 170) :: st) :=
  pj_callV C (As := [.ref (b + i1)]) (fun l D E => pc_Sw_takePacket l D E t1 h) rfl rfl cl_Switch (pj_lt tk_170 (by decide)) (fun E => ko_10 tk_170) wm_723 wm_725 wm_5 wm_100 wm_726 (by decide +kernel) (n := 1) rfl hR rfl h8 hdg hp (fun v u' hq => by obtain ⟨rfl, hk⟩ := hq; exact kk u' hk)
def rm_Sw_takeFrame : Room := { frames := 5, cells := 0, slots := 0, locals := 152 }
def pb_Sw_takeFrame_15  (K : pj_M → Prop) (u : pj_M)  : Prop := K u
set_option maxHeartbeats 1000000 in
theorem pt_Sw_takeFrame_15 {g : pj_G} {b : Nat} (C : pj_X g c_Sw_takeFrame 3 R_Sw none rm_Sw_takeFrame) {K : pj_M → Prop} (hE : pj_E g b (pj_Kv K))   {u : pj_M}    (h : pb_Sw_takeFrame_15  K u ) : pj_J g (pj_N g b u) 15 [none, none, none] [] := by
  unfold pb_Sw_takeFrame_15 at h
  exact pj_vret C hE d_Sw_takeFrame_15 ⟨rfl, h⟩
def pb_Sw_takeFrame_91  (K : pj_M → Prop) (u : pj_M)  : Prop := K u
set_option maxHeartbeats 1000000 in
theorem pt_Sw_takeFrame_91 {g : pj_G} {b : Nat} (C : pj_X g c_Sw_takeFrame 3 R_Sw none rm_Sw_takeFrame) {K : pj_M → Prop} (hE : pj_E g b (pj_Kv K))   {u : pj_M}    (h : pb_Sw_takeFrame_91  K u ) : pj_J g (pj_N g b u) 91 [none, none, none] [] := by
  unfold pb_Sw_takeFrame_91 at h
  exact pj_vret C hE d_Sw_takeFrame_91 ⟨rfl, h⟩
def pb_Sw_takeFrame_73  (K : pj_M → Prop) (u : pj_M) (i1 : Nat) : Prop := pw_Sw_takePacket u i1 fun u1 => (pb_Sw_takeFrame_91  K u1 )
set_option maxHeartbeats 1000000 in
theorem pt_Sw_takeFrame_73 {g : pj_G} {b : Nat} (C : pj_X g c_Sw_takeFrame 3 R_Sw none rm_Sw_takeFrame) {K : pj_M → Prop} (hE : pj_E g b (pj_Kv K))   {u : pj_M} {i1 : Nat}  (t1 : pj_T i1 = 9) (h : pb_Sw_takeFrame_73  K u i1) : pj_J g (pj_N g b u) 73 [some (.ref (b + 170)), some (.ref (b + i1)), none] [] := by
  unfold pb_Sw_takeFrame_73 at h
  refine pj_aload_n C d_Sw_takeFrame_73 (pc' := 74) (i := 0) (x := b + 170) rfl rfl rfl ?_
  refine pj_aload_n C d_Sw_takeFrame_74 (pc' := 75) (i := 1) (x := b + i1) rfl rfl rfl ?_
  refine ck_Switch_163_Switch C t1 h d_Sw_takeFrame_75 (pc' := 78) rfl ⟨Nat.le_of_ble_eq_true rfl, Nat.le_of_ble_eq_true rfl⟩ (Nat.le_of_ble_eq_true rfl) (fun u1 h => ?_)
  refine pj_goto C d_Sw_takeFrame_78 (tgt := 91) (by decide) ?_
  exact pj_cut (pj_le_n (pj_le_n (pj_le_n pj_le_e))) (pt_Sw_takeFrame_91 C hE   h)
def pb_Sw_takeFrame_52  (K : pj_M → Prop) (u : pj_M) (i1 : Nat) : Prop := pw_Sw_begin u i1 fun u1 => (pb_Sw_takeFrame_91  K u1 )
set_option maxHeartbeats 1000000 in
theorem pt_Sw_takeFrame_52 {g : pj_G} {b : Nat} (C : pj_X g c_Sw_takeFrame 3 R_Sw none rm_Sw_takeFrame) {K : pj_M → Prop} (hE : pj_E g b (pj_Kv K))   {u : pj_M} {i1 : Nat}  (t1 : pj_T i1 = 9) (h : pb_Sw_takeFrame_52  K u i1) : pj_J g (pj_N g b u) 52 [some (.ref (b + 170)), some (.ref (b + i1)), none] [] := by
  unfold pb_Sw_takeFrame_52 at h
  refine pj_aload_n C d_Sw_takeFrame_52 (pc' := 53) (i := 0) (x := b + 170) rfl rfl rfl ?_
  refine pj_aload_n C d_Sw_takeFrame_53 (pc' := 54) (i := 1) (x := b + i1) rfl rfl rfl ?_
  refine ck_Switch_59_Switch C t1 h d_Sw_takeFrame_54 (pc' := 57) rfl ⟨Nat.le_of_ble_eq_true rfl, Nat.le_of_ble_eq_true rfl⟩ (Nat.le_of_ble_eq_true rfl) (fun u1 h => ?_)
  refine pj_goto C d_Sw_takeFrame_57 (tgt := 91) (by decide) ?_
  exact pj_cut (pj_le_n (pj_le_n (pj_le_n pj_le_e))) (pt_Sw_takeFrame_91 C hE   h)
def pb_Sw_takeFrame_60  (K : pj_M → Prop) (u : pj_M) (i1 : Nat) : Prop := pw_Sw_close u i1 fun u1 => (pw_Sw_begin u1 i1 fun u2 => (pb_Sw_takeFrame_91  K u2 ))
set_option maxHeartbeats 1000000 in
theorem pt_Sw_takeFrame_60 {g : pj_G} {b : Nat} (C : pj_X g c_Sw_takeFrame 3 R_Sw none rm_Sw_takeFrame) {K : pj_M → Prop} (hE : pj_E g b (pj_Kv K))   {u : pj_M} {i1 : Nat}  (t1 : pj_T i1 = 9) (h : pb_Sw_takeFrame_60  K u i1) : pj_J g (pj_N g b u) 60 [some (.ref (b + 170)), some (.ref (b + i1)), none] [] := by
  unfold pb_Sw_takeFrame_60 at h
  refine pj_aload_n C d_Sw_takeFrame_60 (pc' := 61) (i := 0) (x := b + 170) rfl rfl rfl ?_
  refine pj_aload_n C d_Sw_takeFrame_61 (pc' := 62) (i := 1) (x := b + i1) rfl rfl rfl ?_
  refine ck_Switch_63_Switch C t1 h d_Sw_takeFrame_62 (pc' := 65) rfl ⟨Nat.le_of_ble_eq_true rfl, Nat.le_of_ble_eq_true rfl⟩ (Nat.le_of_ble_eq_true rfl) (fun u1 h => ?_)
  refine pj_aload_n C d_Sw_takeFrame_65 (pc' := 66) (i := 0) (x := b + 170) rfl rfl rfl ?_
  refine pj_aload_n C d_Sw_takeFrame_66 (pc' := 67) (i := 1) (x := b + i1) rfl rfl rfl ?_
  refine ck_Switch_59_Switch C t1 h d_Sw_takeFrame_67 (pc' := 70) rfl ⟨Nat.le_of_ble_eq_true rfl, Nat.le_of_ble_eq_true rfl⟩ (Nat.le_of_ble_eq_true rfl) (fun u2 h => ?_)
  refine pj_goto C d_Sw_takeFrame_70 (tgt := 91) (by decide) ?_
  exact pj_cut (pj_le_n (pj_le_n (pj_le_n pj_le_e))) (pt_Sw_takeFrame_91 C hE   h)
def pb_Sw_takeFrame_81  (K : pj_M → Prop) (u : pj_M)  : Prop := pj_put u 170 9 ((u 170 9) + 1) fun u1 => (pb_Sw_takeFrame_91  K u1 )
set_option maxHeartbeats 1000000 in
theorem pt_Sw_takeFrame_81 {g : pj_G} {b : Nat} (C : pj_X g c_Sw_takeFrame 3 R_Sw none rm_Sw_takeFrame) {K : pj_M → Prop} (hE : pj_E g b (pj_Kv K))   {u : pj_M}    (h : pb_Sw_takeFrame_81  K u ) : pj_J g (pj_N g b u) 81 [some (.ref (b + 170)), none, none] [] := by
  unfold pb_Sw_takeFrame_81 at h
  refine pj_aload_n C d_Sw_takeFrame_81 (pc' := 82) (i := 0) (x := b + 170) rfl rfl rfl ?_
  refine pj_dup C d_Sw_takeFrame_82 (pc' := 83) rfl rfl ?_
  refine fg_Switch_166_Switch C tk_170 d_Sw_takeFrame_83 (pc' := 86) rfl ?_
  refine pj_iconst C d_Sw_takeFrame_86 (pc' := 87) rfl (v := 1) (by decide) ?_
  refine pj_iadd C d_Sw_takeFrame_87 (pc' := 88) rfl ?_
  refine fp_Switch_166_Switch C tk_170  d_Sw_takeFrame_88 (pc' := 91) rfl h (fun u1 h => ?_)
  exact pj_cut (pj_le_n (pj_le_n (pj_le_n pj_le_e))) (pt_Sw_takeFrame_91 C hE   h)
def pb_Sw_takeFrame_16  (K : pj_M → Prop) (u : pj_M) (i1 : Nat) (i2 : Nat) : Prop := pw_Pa_readFrame u 173 i2 fun r2 u1 => (((r2 = 0) → (pb_Sw_takeFrame_73  K u1 i1)) ∧ (¬ (r2 = 0) → ((r2 = 1) → (pb_Sw_takeFrame_52  K u1 i1)) ∧ (¬ (r2 = 1) → ((r2 = 2) → (pb_Sw_takeFrame_60  K u1 i1)) ∧ (¬ (r2 = 2) → (pb_Sw_takeFrame_81  K u1 )))))
set_option maxHeartbeats 1000000 in
theorem pt_Sw_takeFrame_16 {g : pj_G} {b : Nat} (C : pj_X g c_Sw_takeFrame 3 R_Sw none rm_Sw_takeFrame) {K : pj_M → Prop} (hE : pj_E g b (pj_Kv K))   {u : pj_M} {i1 : Nat} {i2 : Nat}  (t1 : pj_T i1 = 9) (t2 : pj_R i2) (h : pb_Sw_takeFrame_16  K u i1 i2) : pj_J g (pj_N g b u) 16 [some (.ref (b + 170)), some (.ref (b + i1)), some (.ref (b + i2))] [] := by
  unfold pb_Sw_takeFrame_16 at h
  refine pj_aload_n C d_Sw_takeFrame_16 (pc' := 17) (i := 0) (x := b + 170) rfl rfl rfl ?_
  refine fg_Switch_24_Switch C tk_170 d_Sw_takeFrame_17 (pc' := 20) rfl ?_
  refine pj_aload_n C d_Sw_takeFrame_20 (pc' := 21) (i := 2) (x := b + i2) rfl rfl rfl ?_
  refine ck_Switch_159_Packet C tk_173 t2 h d_Sw_takeFrame_21 (pc' := 24) rfl ⟨Nat.le_of_ble_eq_true rfl, Nat.le_of_ble_eq_true rfl⟩ (Nat.le_of_ble_eq_true rfl) (fun r2 u1 h => ?_)
  by_cases e0 : r2 = 0
  · have h := h.1 e0
    refine pj_tsIn C d_Sw_takeFrame_24 (kv := 0) (by rw [e0]; decide) (by decide) (by decide) (tgt := 73) rfl (by decide) ?_
    exact pj_cut (pj_le_s (pj_le_s (pj_le_n pj_le_e))) (pt_Sw_takeFrame_73 C hE  t1 h)
  have h := h.2 e0
  by_cases e1 : r2 = 1
  · have h := h.1 e1
    refine pj_tsIn C d_Sw_takeFrame_24 (kv := 1) (by rw [e1]; decide) (by decide) (by decide) (tgt := 52) rfl (by decide) ?_
    exact pj_cut (pj_le_s (pj_le_s (pj_le_n pj_le_e))) (pt_Sw_takeFrame_52 C hE  t1 h)
  have h := h.2 e1
  by_cases e2 : r2 = 2
  · have h := h.1 e2
    refine pj_tsIn C d_Sw_takeFrame_24 (kv := 2) (by rw [e2]; decide) (by decide) (by decide) (tgt := 60) rfl (by decide) ?_
    exact pj_cut (pj_le_s (pj_le_s (pj_le_n pj_le_e))) (pt_Sw_takeFrame_60 C hE  t1 h)
  have h := h.2 e2
  have z0 := lv_neT (a := 0) e0 (by decide)
  have z1 := lv_neT (a := 1) e1 (by decide)
  have z2 := lv_neT (a := 2) e2 (by decide)
  refine pj_tsOut C d_Sw_takeFrame_24 (by omega) (tgt := 81) (by decide) ?_
  exact pj_cut (pj_le_s (pj_le_n (pj_le_n pj_le_e))) (pt_Sw_takeFrame_81 C hE   h)
def pb_Sw_takeFrame_7  (K : pj_M → Prop) (u : pj_M) (i1 : Nat) (i2 : Nat) : Prop := (((u i1 5) = 4) → (pb_Sw_takeFrame_15  K u )) ∧ (¬ ((u i1 5) = 4) → (pb_Sw_takeFrame_16  K u i1 i2))
set_option maxHeartbeats 1000000 in
theorem pt_Sw_takeFrame_7 {g : pj_G} {b : Nat} (C : pj_X g c_Sw_takeFrame 3 R_Sw none rm_Sw_takeFrame) {K : pj_M → Prop} (hE : pj_E g b (pj_Kv K))   {u : pj_M} {i1 : Nat} {i2 : Nat}  (t1 : pj_T i1 = 9) (t2 : pj_R i2) (h : pb_Sw_takeFrame_7  K u i1 i2) : pj_J g (pj_N g b u) 7 [some (.ref (b + 170)), some (.ref (b + i1)), some (.ref (b + i2))] [] := by
  unfold pb_Sw_takeFrame_7 at h
  refine pj_aload_n C d_Sw_takeFrame_7 (pc' := 8) (i := 1) (x := b + i1) rfl rfl rfl ?_
  refine fg_Switch_66_Port C t1 d_Sw_takeFrame_8 (pc' := 11) rfl ?_
  refine pj_iconst C d_Sw_takeFrame_11 (pc' := 12) rfl (v := 4) (by decide) ?_
  refine pj_icmp_ne C d_Sw_takeFrame_12 (pc' := 15) rfl (tgt := 16) (by decide) h (fun h => ?_) (fun h => ?_)
  · exact pj_cut (pj_le_s (pj_le_s (pj_le_s pj_le_e))) (pt_Sw_takeFrame_16 C hE  t1 t2 h)
  · exact pj_cut (pj_le_n (pj_le_n (pj_le_n pj_le_e))) (pt_Sw_takeFrame_15 C hE   h)
def pb_Sw_takeFrame_0  (K : pj_M → Prop) (u : pj_M) (i1 : Nat) (i2 : Nat) : Prop := (((u i1 4) = 0) → (pb_Sw_takeFrame_15  K u )) ∧ (¬ ((u i1 4) = 0) → (pb_Sw_takeFrame_7  K u i1 i2))
set_option maxHeartbeats 1000000 in
theorem pt_Sw_takeFrame_0 {g : pj_G} {b : Nat} (C : pj_X g c_Sw_takeFrame 3 R_Sw none rm_Sw_takeFrame) {K : pj_M → Prop} (hE : pj_E g b (pj_Kv K))   {u : pj_M} {i1 : Nat} {i2 : Nat}  (t1 : pj_T i1 = 9) (t2 : pj_R i2) (h : pb_Sw_takeFrame_0  K u i1 i2) : pj_J g (pj_N g b u) 0 [some (.ref (b + 170)), some (.ref (b + i1)), some (.ref (b + i2))] [] := by
  unfold pb_Sw_takeFrame_0 at h
  refine pj_aload_n C d_Sw_takeFrame_0 (pc' := 1) (i := 1) (x := b + i1) rfl rfl rfl ?_
  refine fg_Switch_55_Port C t1 d_Sw_takeFrame_1 (pc' := 4) rfl ?_
  refine pj_if_eq C d_Sw_takeFrame_4 (pc' := 7) rfl (tgt := 15) (by decide) h (fun h => ?_) (fun h => ?_)
  · exact pj_cut (pj_le_n (pj_le_n (pj_le_n pj_le_e))) (pt_Sw_takeFrame_15 C hE   h)
  · exact pj_cut (pj_le_s (pj_le_s (pj_le_s pj_le_e))) (pt_Sw_takeFrame_7 C hE  t1 t2 h)
def pw_Sw_takeFrame (u : pj_M) (i1 : Nat) (i2 : Nat) (K : pj_M → Prop) : Prop := pb_Sw_takeFrame_0  K u i1 i2
theorem pc_Sw_takeFrame (l : Launch) (D : va_G) (E : Nat → ClassId) {b : Nat} {u : pj_M} {i1 : Nat} {i2 : Nat} {K : pj_M → Prop} (t1 : pj_T i1 = 9) (t2 : pj_R i2) (h : pw_Sw_takeFrame u i1 i2 K) : pj_C l y_Sw_takeFrame c_Sw_takeFrame 3 none rm_Sw_takeFrame D E b [.ref (b + 170), .ref (b + i1), .ref (b + i2)] u (pj_Kv K) := by
  refine pj_met (own := R_Sw) (by decide +kernel) rfl (Nat.le_of_ble_eq_true rfl) (fun g hE C => ?_)
  unfold pw_Sw_takeFrame at h
  show pj_J g (pj_N g b u) 0 [some (.ref (b + 170)), some (.ref (b + i1)), some (.ref (b + i2))] []
  exact pj_cut (pj_le_s (pj_le_s (pj_le_s pj_le_e))) (pt_Sw_takeFrame_0 C hE  t1 t2 h)
/-! Switch.portAwaiting(II)LPortGuard$Port; -/
theorem fg_Switch_11_Switch {g : pj_G} {b : Nat} {cc : ByteArray} {nL : Nat} {ret : Option FieldType} {rm : Room} {u : pj_M} {pc pc' : Nat} {vs : List (Option Value)} {st : List Value} (C : pj_X g cc nL R_Sw ret rm) {i : Nat} (t : pj_T i = 10) (hdg : decode cc pc = .ok (.getfield 11, 3)) (hp : pc + 3 = pc') (kk : pj_J g (pj_N g b u) pc' vs (.ref (b + 171) :: st)) : pj_J g (pj_N g b u) pc vs (.ref (b + i) :: st) :=
  pj_get C cl_Switch hin_Switch (k := 2) (Nat.le_of_ble_eq_true rfl) wm_490 (Or.inl rfl) (pj_lt t (by decide)) (fun E => ko_10 t) rfl hdg hp kk
theorem fg_Switch_69_Port {g : pj_G} {b : Nat} {cc : ByteArray} {nL : Nat} {ret : Option FieldType} {rm : Room} {u : pj_M} {pc pc' : Nat} {vs : List (Option Value)} {st : List Value} (C : pj_X g cc nL R_Sw ret rm) {i : Nat} (t : pj_T i = 9) (hdg : decode cc pc = .ok (.getfield 69, 3)) (hp : pc + 3 = pc') (kk : pj_J g (pj_N g b u) pc' vs (.int (u i 12) :: st)) : pj_J g (pj_N g b u) pc vs (.ref (b + i) :: st) :=
  pj_get C cl_Port hin_Port (k := 12) (Nat.le_of_ble_eq_true rfl) wm_437 (Or.inl rfl) (pj_lt t (by decide)) (fun E => ko_9 t) rfl hdg hp kk
theorem fg_Switch_152_Port {g : pj_G} {b : Nat} {cc : ByteArray} {nL : Nat} {ret : Option FieldType} {rm : Room} {u : pj_M} {pc pc' : Nat} {vs : List (Option Value)} {st : List Value} (C : pj_X g cc nL R_Sw ret rm) {i : Nat} (t : pj_T i = 9) (hdg : decode cc pc = .ok (.getfield 152, 3)) (hp : pc + 3 = pc') (kk : pj_J g (pj_N g b u) pc' vs (.int (u i 13) :: st)) : pj_J g (pj_N g b u) pc vs (.ref (b + i) :: st) :=
  pj_get C cl_Port hin_Port (k := 13) (Nat.le_of_ble_eq_true rfl) wm_440 (Or.inl rfl) (pj_lt t (by decide)) (fun E => ko_9 t) rfl hdg hp kk
theorem ck_Switch_222_Row {g : pj_G} {b : Nat} {cc : ByteArray} {nL : Nat} {ret : Option FieldType} {rm : Room} {u : pj_M} {pc pc' : Nat} {vs : List (Option Value)} {st : List Value} (C : pj_X g cc nL R_Sw ret rm) {i0 : Nat} {x1 : Int32} {K : Int32 → pj_M → Prop} (t : pj_T i0 = 3) (h : pw_Ro_at u i0 x1 K) (hdg : decode cc pc = .ok (.invokevirtual 222, 3)) (hp : pc + 3 = pc') (hR : rm_Ro_at.frames + 1 ≤ rm.frames ∧ 8 + (2 + 11) + rm_Ro_at.locals ≤ rm.locals) (h8 : (st.map fun v => v.category).sum ≤ 8) (kk : ∀ r u', K r u' → pj_J g (pj_N g b u') pc' vs (.int r :: st)) : pj_J g (pj_N g b u) pc vs (.int x1 :: .ref (b + i0) :: st) := by
  have t0 : pj_R i0 := Or.inl t
  exact pj_callV C (As := [.int x1]) (fun l D E => pc_Ro_at l D E t0 h) rfl rfl cl_Row (pj_lt t (by decide)) (fun E => ko_3 t) wm_1007 wm_650 wm_1633 wm_94 wm_651 (by decide +kernel) (n := 1) rfl hR rfl h8 hdg hp (fun v u' hq => by obtain ⟨r, rfl, hk⟩ := hq; exact kk r u' hk)
def rm_Sw_portAwaiting : Room := { frames := 1, cells := 0, slots := 0, locals := 21 }
def pb_Sw_portAwaiting_54  (K : Option Nat → pj_M → Prop) (u : pj_M)  : Prop := K none u
set_option maxHeartbeats 1000000 in
theorem pt_Sw_portAwaiting_54 {g : pj_G} {b : Nat} (C : pj_X g c_Sw_portAwaiting 5 R_Sw (some (.object "PortGuard$Port")) rm_Sw_portAwaiting) {K : Option Nat → pj_M → Prop} (hE : pj_E g b (pj_Ko b K))   {u : pj_M}    (h : pb_Sw_portAwaiting_54  K u ) : pj_J g (pj_N g b u) 54 [none, none, none, none, none] [] := by
  unfold pb_Sw_portAwaiting_54 at h
  refine pj_null C d_Sw_portAwaiting_54 (pc' := 55) rfl ?_
  exact pj_aret C hE d_Sw_portAwaiting_55 (Or.inl ⟨_, rfl⟩) (Or.inl rfl) ⟨none, rfl, h⟩
def pb_Sw_portAwaiting_48 (R2 : pj_M → Int32 → Prop) (K : Option Nat → pj_M → Prop) (u : pj_M) (x1 : Int32) (x2 : Int32) (x3 : Int32) : Prop := R2 u (x3 + 1)
set_option maxHeartbeats 1000000 in
theorem pt_Sw_portAwaiting_48 {g : pj_G} {b : Nat} (C : pj_X g c_Sw_portAwaiting 5 R_Sw (some (.object "PortGuard$Port")) rm_Sw_portAwaiting) {K : Option Nat → pj_M → Prop} (hE : pj_E g b (pj_Ko b K)) {R2 : pj_M → Int32 → Prop}  {u : pj_M} {x1 : Int32} {x2 : Int32} {x3 : Int32} (hR2 : ∀ (u : pj_M) (x3 : Int32), R2 u x3 → pj_J g (pj_N g b u) 2 [some (.ref (b + 170)), some (.int x1), some (.int x2), some (.int x3), none] [])  (h : pb_Sw_portAwaiting_48 R2 K u x1 x2 x3) : pj_J g (pj_N g b u) 48 [some (.ref (b + 170)), some (.int x1), some (.int x2), some (.int x3), none] [] := by
  unfold pb_Sw_portAwaiting_48 at h
  refine pj_iinc C d_Sw_portAwaiting_48 (pc' := 51) (x := x3) (d := 1) (vs' := [some (.ref (b + 170)), some (.int x1), some (.int x2), some (.int (x3 + 1)), none]) rfl rfl (Nat.le_of_ble_eq_true rfl) rfl (by decide) rfl ?_
  refine pj_goto C d_Sw_portAwaiting_51 (tgt := 2) (by decide) ?_
  exact pj_cut (pj_le_s (pj_le_s (pj_le_s (pj_le_s (pj_le_n pj_le_e))))) (hR2 _ _ h)
def pb_Sw_portAwaiting_45  (K : Option Nat → pj_M → Prop) (u : pj_M) (i4 : Nat) : Prop := K (some i4) u
set_option maxHeartbeats 1000000 in
theorem pt_Sw_portAwaiting_45 {g : pj_G} {b : Nat} (C : pj_X g c_Sw_portAwaiting 5 R_Sw (some (.object "PortGuard$Port")) rm_Sw_portAwaiting) {K : Option Nat → pj_M → Prop} (hE : pj_E g b (pj_Ko b K))   {u : pj_M} {i4 : Nat}  (t4 : pj_T i4 = 9) (h : pb_Sw_portAwaiting_45  K u i4) : pj_J g (pj_N g b u) 45 [none, none, none, none, some (.ref (b + i4))] [] := by
  unfold pb_Sw_portAwaiting_45 at h
  refine pj_aload C d_Sw_portAwaiting_45 (pc' := 47) (i := 4) (x := b + i4) rfl rfl ?_
  exact pj_aret C hE d_Sw_portAwaiting_47 (Or.inl ⟨_, rfl⟩) (Or.inr ⟨_, rfl⟩) ⟨some i4, rfl, h⟩
def pb_Sw_portAwaiting_32 (R2 : pj_M → Int32 → Prop) (K : Option Nat → pj_M → Prop) (u : pj_M) (x1 : Int32) (x2 : Int32) (x3 : Int32) (i4 : Nat) : Prop := pw_Ro_at u (i4 + 5) 1 fun r2 u1 => (((r2 = x2) → (pb_Sw_portAwaiting_45  K u1 i4)) ∧ (¬ (r2 = x2) → (pb_Sw_portAwaiting_48 R2 K u1 x1 x2 x3)))
set_option maxHeartbeats 1000000 in
theorem pt_Sw_portAwaiting_32 {g : pj_G} {b : Nat} (C : pj_X g c_Sw_portAwaiting 5 R_Sw (some (.object "PortGuard$Port")) rm_Sw_portAwaiting) {K : Option Nat → pj_M → Prop} (hE : pj_E g b (pj_Ko b K)) {R2 : pj_M → Int32 → Prop}  {u : pj_M} {x1 : Int32} {x2 : Int32} {x3 : Int32} {i4 : Nat} (hR2 : ∀ (u : pj_M) (x3 : Int32), R2 u x3 → pj_J g (pj_N g b u) 2 [some (.ref (b + 170)), some (.int x1), some (.int x2), some (.int x3), none] []) (t4 : pj_T i4 = 9) (h : pb_Sw_portAwaiting_32 R2 K u x1 x2 x3 i4) : pj_J g (pj_N g b u) 32 [some (.ref (b + 170)), some (.int x1), some (.int x2), some (.int x3), some (.ref (b + i4))] [] := by
  unfold pb_Sw_portAwaiting_32 at h
  refine pj_aload C d_Sw_portAwaiting_32 (pc' := 34) (i := 4) (x := b + i4) rfl rfl ?_
  refine fg_Switch_139_Port C t4 d_Sw_portAwaiting_34 (pc' := 37) rfl ?_
  refine pj_iconst C d_Sw_portAwaiting_37 (pc' := 38) rfl (v := 1) (by decide) ?_
  refine ck_Switch_222_Row C (pl_Port_query t4) h d_Sw_portAwaiting_38 (pc' := 41) rfl ⟨Nat.le_of_ble_eq_true rfl, Nat.le_of_ble_eq_true rfl⟩ (Nat.le_of_ble_eq_true rfl) (fun r2 u1 h => ?_)
  refine pj_iload_n C d_Sw_portAwaiting_41 (pc' := 42) (i := 2) (x := x2) rfl rfl rfl ?_
  refine pj_icmp_ne C d_Sw_portAwaiting_42 (pc' := 45) rfl (tgt := 48) (by decide) h (fun h => ?_) (fun h => ?_)
  · exact pj_cut (pj_le_s (pj_le_s (pj_le_s (pj_le_s (pj_le_n pj_le_e))))) (pt_Sw_portAwaiting_48 C hE hR2  h)
  · exact pj_cut (pj_le_n (pj_le_n (pj_le_n (pj_le_n (pj_le_s pj_le_e))))) (pt_Sw_portAwaiting_45 C hE  t4 h)
def pb_Sw_portAwaiting_23 (R2 : pj_M → Int32 → Prop) (K : Option Nat → pj_M → Prop) (u : pj_M) (x1 : Int32) (x2 : Int32) (x3 : Int32) (i4 : Nat) : Prop := (((u i4 13) = x1) → (pb_Sw_portAwaiting_32 R2 K u x1 x2 x3 i4)) ∧ (¬ ((u i4 13) = x1) → (pb_Sw_portAwaiting_48 R2 K u x1 x2 x3))
set_option maxHeartbeats 1000000 in
theorem pt_Sw_portAwaiting_23 {g : pj_G} {b : Nat} (C : pj_X g c_Sw_portAwaiting 5 R_Sw (some (.object "PortGuard$Port")) rm_Sw_portAwaiting) {K : Option Nat → pj_M → Prop} (hE : pj_E g b (pj_Ko b K)) {R2 : pj_M → Int32 → Prop}  {u : pj_M} {x1 : Int32} {x2 : Int32} {x3 : Int32} {i4 : Nat} (hR2 : ∀ (u : pj_M) (x3 : Int32), R2 u x3 → pj_J g (pj_N g b u) 2 [some (.ref (b + 170)), some (.int x1), some (.int x2), some (.int x3), none] []) (t4 : pj_T i4 = 9) (h : pb_Sw_portAwaiting_23 R2 K u x1 x2 x3 i4) : pj_J g (pj_N g b u) 23 [some (.ref (b + 170)), some (.int x1), some (.int x2), some (.int x3), some (.ref (b + i4))] [] := by
  unfold pb_Sw_portAwaiting_23 at h
  refine pj_aload C d_Sw_portAwaiting_23 (pc' := 25) (i := 4) (x := b + i4) rfl rfl ?_
  refine fg_Switch_152_Port C t4 d_Sw_portAwaiting_25 (pc' := 28) rfl ?_
  refine pj_iload_n C d_Sw_portAwaiting_28 (pc' := 29) (i := 1) (x := x1) rfl rfl rfl ?_
  refine pj_icmp_ne C d_Sw_portAwaiting_29 (pc' := 32) rfl (tgt := 48) (by decide) h (fun h => ?_) (fun h => ?_)
  · exact pj_cut (pj_le_s (pj_le_s (pj_le_s (pj_le_s (pj_le_n pj_le_e))))) (pt_Sw_portAwaiting_48 C hE hR2  h)
  · exact pj_cut (pj_le_s (pj_le_s (pj_le_s (pj_le_s (pj_le_s pj_le_e))))) (pt_Sw_portAwaiting_32 C hE hR2 t4 h)
def pb_Sw_portAwaiting_7 (R2 : pj_M → Int32 → Prop) (K : Option Nat → pj_M → Prop) (u : pj_M) (x1 : Int32) (x2 : Int32) (x3 : Int32) : Prop := vp_in x3 4 ∧ ((((u (185 + 7 * x3.toNatClampNeg) 12) ≤ 0) → (pb_Sw_portAwaiting_48 R2 K u x1 x2 x3)) ∧ (¬ ((u (185 + 7 * x3.toNatClampNeg) 12) ≤ 0) → (pb_Sw_portAwaiting_23 R2 K u x1 x2 x3 (185 + 7 * x3.toNatClampNeg))))
set_option maxHeartbeats 1000000 in
theorem pt_Sw_portAwaiting_7 {g : pj_G} {b : Nat} (C : pj_X g c_Sw_portAwaiting 5 R_Sw (some (.object "PortGuard$Port")) rm_Sw_portAwaiting) {K : Option Nat → pj_M → Prop} (hE : pj_E g b (pj_Ko b K)) {R2 : pj_M → Int32 → Prop}  {u : pj_M} {x1 : Int32} {x2 : Int32} {x3 : Int32} (hR2 : ∀ (u : pj_M) (x3 : Int32), R2 u x3 → pj_J g (pj_N g b u) 2 [some (.ref (b + 170)), some (.int x1), some (.int x2), some (.int x3), none] [])  (h : pb_Sw_portAwaiting_7 R2 K u x1 x2 x3) : pj_J g (pj_N g b u) 7 [some (.ref (b + 170)), some (.int x1), some (.int x2), some (.int x3), none] [] := by
  unfold pb_Sw_portAwaiting_7 at h
  refine pj_aload_n C d_Sw_portAwaiting_7 (pc' := 8) (i := 0) (x := b + 170) rfl rfl rfl ?_
  refine fg_Switch_11_Switch C tk_170 d_Sw_portAwaiting_8 (pc' := 11) rfl ?_
  refine pj_iload_n C d_Sw_portAwaiting_11 (pc' := 12) (i := 3) (x := x3) rfl rfl rfl ?_
  obtain ⟨hv1, h⟩ := h
  refine pj_aldS C (pj_lt tk_171 (by decide)) (fun E u => ka_29 tk_171) (fun E => rfl) d_Sw_portAwaiting_12 (pc' := 13) rfl ⟨hv1, h⟩ (fun h => ?_)
  refine pj_astore C d_Sw_portAwaiting_13 (pc' := 15) (i := 4) (vs' := [some (.ref (b + 170)), some (.int x1), some (.int x2), some (.int x3), some (.ref (b + (185 + 7 * x3.toNatClampNeg)))]) rfl (Nat.le_of_ble_eq_true rfl) (Nat.le_of_ble_eq_true rfl) rfl rfl ?_
  refine pj_aload C d_Sw_portAwaiting_15 (pc' := 17) (i := 4) (x := b + (185 + 7 * x3.toNatClampNeg)) rfl rfl ?_
  refine fg_Switch_69_Port C (pe_29 tk_171 hv1) d_Sw_portAwaiting_17 (pc' := 20) rfl ?_
  refine pj_if_le C d_Sw_portAwaiting_20 (pc' := 23) rfl (tgt := 48) (by decide) h (fun h => ?_) (fun h => ?_)
  · exact pj_cut (pj_le_s (pj_le_s (pj_le_s (pj_le_s (pj_le_n pj_le_e))))) (pt_Sw_portAwaiting_48 C hE hR2  h)
  · exact pj_cut (pj_le_s (pj_le_s (pj_le_s (pj_le_s (pj_le_s pj_le_e))))) (pt_Sw_portAwaiting_23 C hE hR2 (pe_29 tk_171 hv1) h)
def pb_Sw_portAwaiting_2b (R2 : pj_M → Int32 → Prop) (K : Option Nat → pj_M → Prop) (u : pj_M) (x1 : Int32) (x2 : Int32) (x3 : Int32) : Prop := ((4 ≤ x3) → (pb_Sw_portAwaiting_54  K u )) ∧ (¬ (4 ≤ x3) → (pb_Sw_portAwaiting_7 R2 K u x1 x2 x3))
set_option maxHeartbeats 1000000 in
theorem pt_Sw_portAwaiting_2b {g : pj_G} {b : Nat} (C : pj_X g c_Sw_portAwaiting 5 R_Sw (some (.object "PortGuard$Port")) rm_Sw_portAwaiting) {K : Option Nat → pj_M → Prop} (hE : pj_E g b (pj_Ko b K)) {R2 : pj_M → Int32 → Prop}  {u : pj_M} {x1 : Int32} {x2 : Int32} {x3 : Int32} (hR2 : ∀ (u : pj_M) (x3 : Int32), R2 u x3 → pj_J g (pj_N g b u) 2 [some (.ref (b + 170)), some (.int x1), some (.int x2), some (.int x3), none] [])  (h : pb_Sw_portAwaiting_2b R2 K u x1 x2 x3) : pj_J g (pj_N g b u) 2 [some (.ref (b + 170)), some (.int x1), some (.int x2), some (.int x3), none] [] := by
  unfold pb_Sw_portAwaiting_2b at h
  refine pj_iload_n C d_Sw_portAwaiting_2 (pc' := 3) (i := 3) (x := x3) rfl rfl rfl ?_
  refine pj_iconst C d_Sw_portAwaiting_3 (pc' := 4) rfl (v := 4) (by decide) ?_
  refine pj_icmp_ge C d_Sw_portAwaiting_4 (pc' := 7) rfl (tgt := 54) (by decide) h (fun h => ?_) (fun h => ?_)
  · exact pj_cut (pj_le_n (pj_le_n (pj_le_n (pj_le_n (pj_le_n pj_le_e))))) (pt_Sw_portAwaiting_54 C hE   h)
  · exact pj_cut (pj_le_s (pj_le_s (pj_le_s (pj_le_s (pj_le_n pj_le_e))))) (pt_Sw_portAwaiting_7 C hE hR2  h)
def pb_Sw_portAwaiting_2  (K : Option Nat → pj_M → Prop) (x1 : Int32) (x2 : Int32) : Nat → pj_M → Int32 → Prop
  | 0 => fun _ _ => False
  | n + 1 => fun u x3 => pb_Sw_portAwaiting_2b (pb_Sw_portAwaiting_2  K x1 x2 n) K u x1 x2 x3
theorem pt_Sw_portAwaiting_2 {g : pj_G} {b : Nat} (C : pj_X g c_Sw_portAwaiting 5 R_Sw (some (.object "PortGuard$Port")) rm_Sw_portAwaiting) {K : Option Nat → pj_M → Prop} (hE : pj_E g b (pj_Ko b K))  {x1 : Int32} {x2 : Int32}   : ∀ (n : Nat) (u : pj_M) (x3 : Int32), pb_Sw_portAwaiting_2  K x1 x2 n u x3 → pj_J g (pj_N g b u) 2 [some (.ref (b + 170)), some (.int x1), some (.int x2), some (.int x3), none] [] := by
  intro n
  induction n with
  | zero => intro u x3 h; exact False.elim h
  | succ n ih =>
    intro u x3 h
    exact (pt_Sw_portAwaiting_2b C hE ih  h)
def pb_Sw_portAwaiting_0  (K : Option Nat → pj_M → Prop) (u : pj_M) (x1 : Int32) (x2 : Int32) : Prop := ∃ n, pb_Sw_portAwaiting_2  K x1 x2 n u 0
set_option maxHeartbeats 1000000 in
theorem pt_Sw_portAwaiting_0 {g : pj_G} {b : Nat} (C : pj_X g c_Sw_portAwaiting 5 R_Sw (some (.object "PortGuard$Port")) rm_Sw_portAwaiting) {K : Option Nat → pj_M → Prop} (hE : pj_E g b (pj_Ko b K))   {u : pj_M} {x1 : Int32} {x2 : Int32}   (h : pb_Sw_portAwaiting_0  K u x1 x2) : pj_J g (pj_N g b u) 0 [some (.ref (b + 170)), some (.int x1), some (.int x2), none, none] [] := by
  unfold pb_Sw_portAwaiting_0 at h
  refine pj_iconst C d_Sw_portAwaiting_0 (pc' := 1) rfl (v := 0) (by decide) ?_
  refine pj_istore_n C d_Sw_portAwaiting_1 (pc' := 2) (i := 3) (vs' := [some (.ref (b + 170)), some (.int x1), some (.int x2), some (.int 0), none]) rfl rfl (Nat.le_of_ble_eq_true rfl) (Nat.le_of_ble_eq_true rfl) rfl rfl ?_
  obtain ⟨n, h⟩ := h
  exact pj_cut (pj_le_s (pj_le_s (pj_le_s (pj_le_s (pj_le_n pj_le_e))))) (pt_Sw_portAwaiting_2 C hE   n _ _ h)
def pw_Sw_portAwaiting (u : pj_M) (x1 : Int32) (x2 : Int32) (K : Option Nat → pj_M → Prop) : Prop := pb_Sw_portAwaiting_0  K u x1 x2
theorem pc_Sw_portAwaiting (l : Launch) (D : va_G) (E : Nat → ClassId) {b : Nat} {u : pj_M} {x1 : Int32} {x2 : Int32} {K : Option Nat → pj_M → Prop}  (h : pw_Sw_portAwaiting u x1 x2 K) : pj_C l y_Sw_portAwaiting c_Sw_portAwaiting 5 (some (.object "PortGuard$Port")) rm_Sw_portAwaiting D E b [.ref (b + 170), .int x1, .int x2] u (pj_Ko b K) := by
  refine pj_met (own := R_Sw) (by decide +kernel) rfl (Nat.le_of_ble_eq_true rfl) (fun g hE C => ?_)
  unfold pw_Sw_portAwaiting at h
  show pj_J g (pj_N g b u) 0 [some (.ref (b + 170)), some (.int x1), some (.int x2), none, none] []
  exact pj_cut (pj_le_s (pj_le_s (pj_le_s (pj_le_n (pj_le_n pj_le_e))))) (pt_Sw_portAwaiting_0 C hE   h)
/-! Switch.fits()Z -/
theorem fg_Switch_31_Switch {g : pj_G} {b : Nat} {cc : ByteArray} {nL : Nat} {ret : Option FieldType} {rm : Room} {u : pj_M} {pc pc' : Nat} {vs : List (Option Value)} {st : List Value} (C : pj_X g cc nL R_Sw ret rm) {i : Nat} (t : pj_T i = 10) (hdg : decode cc pc = .ok (.getfield 31, 3)) (hp : pc + 3 = pc') (kk : pj_J g (pj_N g b u) pc' vs (.ref (b + 175) :: st)) : pj_J g (pj_N g b u) pc vs (.ref (b + i) :: st) :=
  pj_get C cl_Switch hin_Switch (k := 5) (Nat.le_of_ble_eq_true rfl) wm_495 (Or.inl rfl) (pj_lt t (by decide)) (fun E => ko_10 t) rfl hdg hp kk
theorem fg_Switch_215_Datagram {g : pj_G} {b : Nat} {cc : ByteArray} {nL : Nat} {ret : Option FieldType} {rm : Room} {u : pj_M} {pc pc' : Nat} {vs : List (Option Value)} {st : List Value} (C : pj_X g cc nL R_Sw ret rm) {i : Nat} (t : pj_T i = 5) (hdg : decode cc pc = .ok (.getfield 215, 3)) (hp : pc + 3 = pc') (kk : pj_J g (pj_N g b u) pc' vs (.ref (b + (i + 3)) :: st)) : pj_J g (pj_N g b u) pc vs (.ref (b + i) :: st) :=
  pj_get C cl_Datagram hin_Datagram (k := 1) (Nat.le_of_ble_eq_true rfl) wm_271 (Or.inl rfl) (pj_lt t (by decide)) (fun E => ko_5 t) rfl hdg hp kk
theorem ck_Switch_213_Datagram {g : pj_G} {b : Nat} {cc : ByteArray} {nL : Nat} {ret : Option FieldType} {rm : Room} {u : pj_M} {pc pc' : Nat} {vs : List (Option Value)} {st : List Value} (C : pj_X g cc nL R_Sw ret rm) {i0 : Nat} {K : Int32 → pj_M → Prop} (t0 : pj_T i0 = 5) (h : pw_Da_code u i0 K) (hdg : decode cc pc = .ok (.invokevirtual 213, 3)) (hp : pc + 3 = pc') (hR : rm_Da_code.frames + 1 ≤ rm.frames ∧ 8 + (1 + 11) + rm_Da_code.locals ≤ rm.locals) (h8 : (st.map fun v => v.category).sum ≤ 8) (kk : ∀ r u', K r u' → pj_J g (pj_N g b u') pc' vs (.int r :: st)) : pj_J g (pj_N g b u) pc vs (.ref (b + i0) :: st) :=
  pj_callV C (As := []) (fun l D E => pc_Da_code l D E t0 h) rfl rfl cl_Datagram (pj_lt t0 (by decide)) (fun E => ko_5 t0) wm_1012 wm_896 wm_897 wm_98 wm_898 (by decide +kernel) (n := 0) rfl hR rfl h8 hdg hp (fun v u' hq => by obtain ⟨r, rfl, hk⟩ := hq; exact kk r u' hk)
def rm_Sw_fits : Room := { frames := 2, cells := 0, slots := 0, locals := 41 }
def pb_Sw_fits_73  (K : Int32 → pj_M → Prop) (u : pj_M) (s0 : Int32) : Prop := pj_bi s0 ∧ K s0 u
set_option maxHeartbeats 1000000 in
theorem pt_Sw_fits_73 {g : pj_G} {b : Nat} (C : pj_X g c_Sw_fits 2 R_Sw (some .boolean) rm_Sw_fits) {K : Int32 → pj_M → Prop} (hE : pj_E g b (pj_Ki K))   {u : pj_M} {s0 : Int32}   (h : pb_Sw_fits_73  K u s0) : pj_J g (pj_N g b u) 73 [none, none] [.int s0] := by
  unfold pb_Sw_fits_73 at h
  exact pj_zret C hE d_Sw_fits_73 h.1 ⟨_, rfl, h.2⟩
def pb_Sw_fits_72  (K : Int32 → pj_M → Prop) (u : pj_M)  : Prop := pb_Sw_fits_73  K u 0
set_option maxHeartbeats 1000000 in
theorem pt_Sw_fits_72 {g : pj_G} {b : Nat} (C : pj_X g c_Sw_fits 2 R_Sw (some .boolean) rm_Sw_fits) {K : Int32 → pj_M → Prop} (hE : pj_E g b (pj_Ki K))   {u : pj_M}    (h : pb_Sw_fits_72  K u ) : pj_J g (pj_N g b u) 72 [none, none] [] := by
  unfold pb_Sw_fits_72 at h
  refine pj_iconst C d_Sw_fits_72 (pc' := 73) rfl (v := 0) (by decide) ?_
  exact pj_cut (pj_le_n (pj_le_n pj_le_e)) (pt_Sw_fits_73 C hE   h)
def pb_Sw_fits_68  (K : Int32 → pj_M → Prop) (u : pj_M)  : Prop := pb_Sw_fits_73  K u 1
set_option maxHeartbeats 1000000 in
theorem pt_Sw_fits_68 {g : pj_G} {b : Nat} (C : pj_X g c_Sw_fits 2 R_Sw (some .boolean) rm_Sw_fits) {K : Int32 → pj_M → Prop} (hE : pj_E g b (pj_Ki K))   {u : pj_M}    (h : pb_Sw_fits_68  K u ) : pj_J g (pj_N g b u) 68 [none, none] [] := by
  unfold pb_Sw_fits_68 at h
  refine pj_iconst C d_Sw_fits_68 (pc' := 69) rfl (v := 1) (by decide) ?_
  refine pj_goto C d_Sw_fits_69 (tgt := 73) (by decide) ?_
  exact pj_cut (pj_le_n (pj_le_n pj_le_e)) (pt_Sw_fits_73 C hE   h)
def pb_Sw_fits_63  (K : Int32 → pj_M → Prop) (u : pj_M) (x1 : Int32) : Prop := ((x1 = 3) → (pb_Sw_fits_68  K u )) ∧ (¬ (x1 = 3) → (pb_Sw_fits_72  K u ))
set_option maxHeartbeats 1000000 in
theorem pt_Sw_fits_63 {g : pj_G} {b : Nat} (C : pj_X g c_Sw_fits 2 R_Sw (some .boolean) rm_Sw_fits) {K : Int32 → pj_M → Prop} (hE : pj_E g b (pj_Ki K))   {u : pj_M} {x1 : Int32}   (h : pb_Sw_fits_63  K u x1) : pj_J g (pj_N g b u) 63 [none, some (.int x1)] [] := by
  unfold pb_Sw_fits_63 at h
  refine pj_iload_n C d_Sw_fits_63 (pc' := 64) (i := 1) (x := x1) rfl rfl rfl ?_
  refine pj_iconst C d_Sw_fits_64 (pc' := 65) rfl (v := 3) (by decide) ?_
  refine pj_icmp_ne C d_Sw_fits_65 (pc' := 68) rfl (tgt := 72) (by decide) h (fun h => ?_) (fun h => ?_)
  · exact pj_cut (pj_le_n (pj_le_n pj_le_e)) (pt_Sw_fits_72 C hE   h)
  · exact pj_cut (pj_le_n (pj_le_n pj_le_e)) (pt_Sw_fits_68 C hE   h)
def pb_Sw_fits_84  (K : Int32 → pj_M → Prop) (u : pj_M) (s0 : Int32) : Prop := pj_bi s0 ∧ K s0 u
set_option maxHeartbeats 1000000 in
theorem pt_Sw_fits_84 {g : pj_G} {b : Nat} (C : pj_X g c_Sw_fits 2 R_Sw (some .boolean) rm_Sw_fits) {K : Int32 → pj_M → Prop} (hE : pj_E g b (pj_Ki K))   {u : pj_M} {s0 : Int32}   (h : pb_Sw_fits_84  K u s0) : pj_J g (pj_N g b u) 84 [none, none] [.int s0] := by
  unfold pb_Sw_fits_84 at h
  exact pj_zret C hE d_Sw_fits_84 h.1 ⟨_, rfl, h.2⟩
def pb_Sw_fits_83  (K : Int32 → pj_M → Prop) (u : pj_M)  : Prop := pb_Sw_fits_84  K u 0
set_option maxHeartbeats 1000000 in
theorem pt_Sw_fits_83 {g : pj_G} {b : Nat} (C : pj_X g c_Sw_fits 2 R_Sw (some .boolean) rm_Sw_fits) {K : Int32 → pj_M → Prop} (hE : pj_E g b (pj_Ki K))   {u : pj_M}    (h : pb_Sw_fits_83  K u ) : pj_J g (pj_N g b u) 83 [none, none] [] := by
  unfold pb_Sw_fits_83 at h
  refine pj_iconst C d_Sw_fits_83 (pc' := 84) rfl (v := 0) (by decide) ?_
  exact pj_cut (pj_le_n (pj_le_n pj_le_e)) (pt_Sw_fits_84 C hE   h)
def pb_Sw_fits_79  (K : Int32 → pj_M → Prop) (u : pj_M)  : Prop := pb_Sw_fits_84  K u 1
set_option maxHeartbeats 1000000 in
theorem pt_Sw_fits_79 {g : pj_G} {b : Nat} (C : pj_X g c_Sw_fits 2 R_Sw (some .boolean) rm_Sw_fits) {K : Int32 → pj_M → Prop} (hE : pj_E g b (pj_Ki K))   {u : pj_M}    (h : pb_Sw_fits_79  K u ) : pj_J g (pj_N g b u) 79 [none, none] [] := by
  unfold pb_Sw_fits_79 at h
  refine pj_iconst C d_Sw_fits_79 (pc' := 80) rfl (v := 1) (by decide) ?_
  refine pj_goto C d_Sw_fits_80 (tgt := 84) (by decide) ?_
  exact pj_cut (pj_le_n (pj_le_n pj_le_e)) (pt_Sw_fits_84 C hE   h)
def pb_Sw_fits_74  (K : Int32 → pj_M → Prop) (u : pj_M) (x1 : Int32) : Prop := ((x1 = 4) → (pb_Sw_fits_79  K u )) ∧ (¬ (x1 = 4) → (pb_Sw_fits_83  K u ))
set_option maxHeartbeats 1000000 in
theorem pt_Sw_fits_74 {g : pj_G} {b : Nat} (C : pj_X g c_Sw_fits 2 R_Sw (some .boolean) rm_Sw_fits) {K : Int32 → pj_M → Prop} (hE : pj_E g b (pj_Ki K))   {u : pj_M} {x1 : Int32}   (h : pb_Sw_fits_74  K u x1) : pj_J g (pj_N g b u) 74 [none, some (.int x1)] [] := by
  unfold pb_Sw_fits_74 at h
  refine pj_iload_n C d_Sw_fits_74 (pc' := 75) (i := 1) (x := x1) rfl rfl rfl ?_
  refine pj_iconst C d_Sw_fits_75 (pc' := 76) rfl (v := 4) (by decide) ?_
  refine pj_icmp_ne C d_Sw_fits_76 (pc' := 79) rfl (tgt := 83) (by decide) h (fun h => ?_) (fun h => ?_)
  · exact pj_cut (pj_le_n (pj_le_n pj_le_e)) (pt_Sw_fits_83 C hE   h)
  · exact pj_cut (pj_le_n (pj_le_n pj_le_e)) (pt_Sw_fits_79 C hE   h)
def pb_Sw_fits_62  (K : Int32 → pj_M → Prop) (u : pj_M) (s0 : Int32) : Prop := pj_bi s0 ∧ K s0 u
set_option maxHeartbeats 1000000 in
theorem pt_Sw_fits_62 {g : pj_G} {b : Nat} (C : pj_X g c_Sw_fits 2 R_Sw (some .boolean) rm_Sw_fits) {K : Int32 → pj_M → Prop} (hE : pj_E g b (pj_Ki K))   {u : pj_M} {s0 : Int32}   (h : pb_Sw_fits_62  K u s0) : pj_J g (pj_N g b u) 62 [none, none] [.int s0] := by
  unfold pb_Sw_fits_62 at h
  exact pj_zret C hE d_Sw_fits_62 h.1 ⟨_, rfl, h.2⟩
def pb_Sw_fits_61  (K : Int32 → pj_M → Prop) (u : pj_M)  : Prop := pb_Sw_fits_62  K u 0
set_option maxHeartbeats 1000000 in
theorem pt_Sw_fits_61 {g : pj_G} {b : Nat} (C : pj_X g c_Sw_fits 2 R_Sw (some .boolean) rm_Sw_fits) {K : Int32 → pj_M → Prop} (hE : pj_E g b (pj_Ki K))   {u : pj_M}    (h : pb_Sw_fits_61  K u ) : pj_J g (pj_N g b u) 61 [none, none] [] := by
  unfold pb_Sw_fits_61 at h
  refine pj_iconst C d_Sw_fits_61 (pc' := 62) rfl (v := 0) (by decide) ?_
  exact pj_cut (pj_le_n (pj_le_n pj_le_e)) (pt_Sw_fits_62 C hE   h)
def pb_Sw_fits_57  (K : Int32 → pj_M → Prop) (u : pj_M)  : Prop := pb_Sw_fits_62  K u 1
set_option maxHeartbeats 1000000 in
theorem pt_Sw_fits_57 {g : pj_G} {b : Nat} (C : pj_X g c_Sw_fits 2 R_Sw (some .boolean) rm_Sw_fits) {K : Int32 → pj_M → Prop} (hE : pj_E g b (pj_Ki K))   {u : pj_M}    (h : pb_Sw_fits_57  K u ) : pj_J g (pj_N g b u) 57 [none, none] [] := by
  unfold pb_Sw_fits_57 at h
  refine pj_iconst C d_Sw_fits_57 (pc' := 58) rfl (v := 1) (by decide) ?_
  refine pj_goto C d_Sw_fits_58 (tgt := 62) (by decide) ?_
  exact pj_cut (pj_le_n (pj_le_n pj_le_e)) (pt_Sw_fits_62 C hE   h)
def pb_Sw_fits_52  (K : Int32 → pj_M → Prop) (u : pj_M) (x1 : Int32) : Prop := ((x1 = 1) → (pb_Sw_fits_57  K u )) ∧ (¬ (x1 = 1) → (pb_Sw_fits_61  K u ))
set_option maxHeartbeats 1000000 in
theorem pt_Sw_fits_52 {g : pj_G} {b : Nat} (C : pj_X g c_Sw_fits 2 R_Sw (some .boolean) rm_Sw_fits) {K : Int32 → pj_M → Prop} (hE : pj_E g b (pj_Ki K))   {u : pj_M} {x1 : Int32}   (h : pb_Sw_fits_52  K u x1) : pj_J g (pj_N g b u) 52 [none, some (.int x1)] [] := by
  unfold pb_Sw_fits_52 at h
  refine pj_iload_n C d_Sw_fits_52 (pc' := 53) (i := 1) (x := x1) rfl rfl rfl ?_
  refine pj_iconst C d_Sw_fits_53 (pc' := 54) rfl (v := 1) (by decide) ?_
  refine pj_icmp_ne C d_Sw_fits_54 (pc' := 57) rfl (tgt := 61) (by decide) h (fun h => ?_) (fun h => ?_)
  · exact pj_cut (pj_le_n (pj_le_n pj_le_e)) (pt_Sw_fits_61 C hE   h)
  · exact pj_cut (pj_le_n (pj_le_n pj_le_e)) (pt_Sw_fits_57 C hE   h)
def pb_Sw_fits_85  (K : Int32 → pj_M → Prop) (u : pj_M)  : Prop := K 0 u
set_option maxHeartbeats 1000000 in
theorem pt_Sw_fits_85 {g : pj_G} {b : Nat} (C : pj_X g c_Sw_fits 2 R_Sw (some .boolean) rm_Sw_fits) {K : Int32 → pj_M → Prop} (hE : pj_E g b (pj_Ki K))   {u : pj_M}    (h : pb_Sw_fits_85  K u ) : pj_J g (pj_N g b u) 85 [none, none] [] := by
  unfold pb_Sw_fits_85 at h
  refine pj_iconst C d_Sw_fits_85 (pc' := 86) rfl (v := 0) (by decide) ?_
  exact pj_zret C hE d_Sw_fits_86 pj_bi0 ⟨_, rfl, h⟩
def pb_Sw_fits_0  (K : Int32 → pj_M → Prop) (u : pj_M)  : Prop := pw_Pa_code u (175 + 3) fun r2 u1 => (pw_Da_code u1 175 fun r4 u3 => (((r4 = 2) → (pb_Sw_fits_63  K u3 r2)) ∧ (¬ (r4 = 2) → ((r4 = 3) → (pb_Sw_fits_74  K u3 r2)) ∧ (¬ (r4 = 3) → ((r4 = 11) → (pb_Sw_fits_52  K u3 r2)) ∧ (¬ (r4 = 11) → (pb_Sw_fits_85  K u3 ))))))
set_option maxHeartbeats 1000000 in
theorem pt_Sw_fits_0 {g : pj_G} {b : Nat} (C : pj_X g c_Sw_fits 2 R_Sw (some .boolean) rm_Sw_fits) {K : Int32 → pj_M → Prop} (hE : pj_E g b (pj_Ki K))   {u : pj_M}    (h : pb_Sw_fits_0  K u ) : pj_J g (pj_N g b u) 0 [some (.ref (b + 170)), none] [] := by
  unfold pb_Sw_fits_0 at h
  refine pj_aload_n C d_Sw_fits_0 (pc' := 1) (i := 0) (x := b + 170) rfl rfl rfl ?_
  refine fg_Switch_31_Switch C tk_170 d_Sw_fits_1 (pc' := 4) rfl ?_
  refine fg_Switch_215_Datagram C tk_175 d_Sw_fits_4 (pc' := 7) rfl ?_
  refine ck_Switch_169_Packet C (pl_Datagram_packet tk_175) h d_Sw_fits_7 (pc' := 10) rfl ⟨Nat.le_of_ble_eq_true rfl, Nat.le_of_ble_eq_true rfl⟩ (Nat.le_of_ble_eq_true rfl) (fun r2 u1 h => ?_)
  refine pj_istore_n C d_Sw_fits_10 (pc' := 11) (i := 1) (vs' := [some (.ref (b + 170)), some (.int r2)]) rfl rfl (Nat.le_of_ble_eq_true rfl) (Nat.le_of_ble_eq_true rfl) rfl rfl ?_
  refine pj_aload_n C d_Sw_fits_11 (pc' := 12) (i := 0) (x := b + 170) rfl rfl rfl ?_
  refine fg_Switch_31_Switch C tk_170 d_Sw_fits_12 (pc' := 15) rfl ?_
  refine ck_Switch_213_Datagram C tk_175 h d_Sw_fits_15 (pc' := 18) rfl ⟨Nat.le_of_ble_eq_true rfl, Nat.le_of_ble_eq_true rfl⟩ (Nat.le_of_ble_eq_true rfl) (fun r4 u3 h => ?_)
  by_cases e0 : r4 = 2
  · have h := h.1 e0
    refine pj_lk C d_Sw_fits_18 (by decide) (tgt := 63) (off := 45) (by rw [e0]; decide) (by decide) ?_
    exact pj_cut (pj_le_n (pj_le_s pj_le_e)) (pt_Sw_fits_63 C hE   h)
  have h := h.2 e0
  by_cases e1 : r4 = 3
  · have h := h.1 e1
    refine pj_lk C d_Sw_fits_18 (by decide) (tgt := 74) (off := 56) (by rw [e1]; decide) (by decide) ?_
    exact pj_cut (pj_le_n (pj_le_s pj_le_e)) (pt_Sw_fits_74 C hE   h)
  have h := h.2 e1
  by_cases e2 : r4 = 11
  · have h := h.1 e2
    refine pj_lk C d_Sw_fits_18 (by decide) (tgt := 52) (off := 34) (by rw [e2]; decide) (by decide) ?_
    exact pj_cut (pj_le_n (pj_le_s pj_le_e)) (pt_Sw_fits_52 C hE   h)
  have h := h.2 e2
  have z0 := lv_neT (a := 2) e0 (by decide)
  have z1 := lv_neT (a := 3) e1 (by decide)
  have z2 := lv_neT (a := 11) e2 (by decide)
  refine pj_lk C d_Sw_fits_18 (by decide) (tgt := 85) (off := 67) (by rw [lv_osw e0 (by decide), lv_osw e1 (by decide), lv_osw e2 (by decide)]; rfl) (by decide) ?_
  exact pj_cut (pj_le_n (pj_le_n pj_le_e)) (pt_Sw_fits_85 C hE   h)
def pw_Sw_fits (u : pj_M)  (K : Int32 → pj_M → Prop) : Prop := pb_Sw_fits_0  K u 
theorem pc_Sw_fits (l : Launch) (D : va_G) (E : Nat → ClassId) {b : Nat} {u : pj_M}  {K : Int32 → pj_M → Prop}  (h : pw_Sw_fits u  K) : pj_C l y_Sw_fits c_Sw_fits 2 (some .boolean) rm_Sw_fits D E b [.ref (b + 170)] u (pj_Ki K) := by
  refine pj_met (own := R_Sw) (by decide +kernel) rfl (Nat.le_of_ble_eq_true rfl) (fun g hE C => ?_)
  unfold pw_Sw_fits at h
  show pj_J g (pj_N g b u) 0 [some (.ref (b + 170)), none] []
  exact pj_cut (pj_le_s (pj_le_n pj_le_e)) (pt_Sw_fits_0 C hE   h)
/-! Switch, method 14: a host is let through (LPortGuard$Port;)V -/
theorem fg_Switch_111_Port {g : pj_G} {b : Nat} {cc : ByteArray} {nL : Nat} {ret : Option FieldType} {rm : Room} {u : pj_M} {pc pc' : Nat} {vs : List (Option Value)} {st : List Value} (C : pj_X g cc nL R_Sw ret rm) {i : Nat} (t : pj_T i = 9) (hdg : decode cc pc = .ok (.getfield 111, 3)) (hp : pc + 3 = pc') (kk : pj_J g (pj_N g b u) pc' vs (.int (u i 6) :: st)) : pj_J g (pj_N g b u) pc vs (.ref (b + i) :: st) :=
  pj_get C cl_Port hin_Port (k := 6) (Nat.le_of_ble_eq_true rfl) wm_426 (Or.inl rfl) (pj_lt t (by decide)) (fun E => ko_9 t) rfl hdg hp kk
theorem fg_Switch_225_Port {g : pj_G} {b : Nat} {cc : ByteArray} {nL : Nat} {ret : Option FieldType} {rm : Room} {u : pj_M} {pc pc' : Nat} {vs : List (Option Value)} {st : List Value} (C : pj_X g cc nL R_Sw ret rm) {i : Nat} (t : pj_T i = 9) (hdg : decode cc pc = .ok (.getfield 225, 3)) (hp : pc + 3 = pc') (kk : pj_J g (pj_N g b u) pc' vs (.int (u i 15) :: st)) : pj_J g (pj_N g b u) pc vs (.ref (b + i) :: st) :=
  pj_get C cl_Port hin_Port (k := 15) (Nat.le_of_ble_eq_true rfl) wm_443 (Or.inl rfl) (pj_lt t (by decide)) (fun E => ko_9 t) rfl hdg hp kk
theorem fp_Switch_225_Port {g : pj_G} {b : Nat} {cc : ByteArray} {nL : Nat} {ret : Option FieldType} {rm : Room} {u : pj_M} {pc pc' : Nat} {vs : List (Option Value)} {st : List Value} (C : pj_X g cc nL R_Sw ret rm) {i : Nat} {x : Int32} {P : pj_M → Prop} (t : pj_T i = 9)  (hdg : decode cc pc = .ok (.putfield 225, 3)) (hp : pc + 3 = pc') (h : pj_put u i 15 x P) (kk : ∀ u', P u' → pj_J g (pj_N g b u') pc' vs st) : pj_J g (pj_N g b u) pc vs (.int x :: .ref (b + i) :: st) :=
  pj_putI C cl_Port hin_Port ty_Port tyok_Port nm_Port (k := 15) (Nat.le_of_ble_eq_true rfl) wm_443 (Or.inl rfl) rfl (ty := .int) (by decide +kernel) rfl rfl (pj_lt t (by decide)) (fun E u => ko_9 t) (F := fun f => [.int (f 0), .ref (b + (i + 1)), .ref (b + (i + 3)), .ref (b + (i + 5)), .int (f 4), .int (f 5), .int (f 6), .int (f 7), .int (f 8), .int (f 9), .int (f 10), .int (f 11), .int (f 12), .int (f 13), .int (f 14), .int (f 15), .int (f 16), .int (f 17)]) (fun _ => Nat.le_of_ble_eq_true rfl) (fun _ _ => rfl) hdg hp h kk
theorem fp_Switch_228_Port {g : pj_G} {b : Nat} {cc : ByteArray} {nL : Nat} {ret : Option FieldType} {rm : Room} {u : pj_M} {pc pc' : Nat} {vs : List (Option Value)} {st : List Value} (C : pj_X g cc nL R_Sw ret rm) {i : Nat} {x : Int32} {P : pj_M → Prop} (t : pj_T i = 9)  (hdg : decode cc pc = .ok (.putfield 228, 3)) (hp : pc + 3 = pc') (h : pj_put u i 16 x P) (kk : ∀ u', P u' → pj_J g (pj_N g b u') pc' vs st) : pj_J g (pj_N g b u) pc vs (.int x :: .ref (b + i) :: st) :=
  pj_putI C cl_Port hin_Port ty_Port tyok_Port nm_Port (k := 16) (Nat.le_of_ble_eq_true rfl) wm_445 (Or.inl rfl) rfl (ty := .int) (by decide +kernel) rfl rfl (pj_lt t (by decide)) (fun E u => ko_9 t) (F := fun f => [.int (f 0), .ref (b + (i + 1)), .ref (b + (i + 3)), .ref (b + (i + 5)), .int (f 4), .int (f 5), .int (f 6), .int (f 7), .int (f 8), .int (f 9), .int (f 10), .int (f 11), .int (f 12), .int (f 13), .int (f 14), .int (f 15), .int (f 16), .int (f 17)]) (fun _ => Nat.le_of_ble_eq_true rfl) (fun _ _ => rfl) hdg hp h kk
def rm_Sw_admit : Room := { frames := 0, cells := 0, slots := 0, locals := 0 }
def pb_Sw_admit_37  (K : pj_M → Prop) (u : pj_M)  : Prop := K u
set_option maxHeartbeats 1000000 in
theorem pt_Sw_admit_37 {g : pj_G} {b : Nat} (C : pj_X g c_Sw_admit 2 R_Sw none rm_Sw_admit) {K : pj_M → Prop} (hE : pj_E g b (pj_Kv K))   {u : pj_M}    (h : pb_Sw_admit_37  K u ) : pj_J g (pj_N g b u) 37 [none, none] [] := by
  unfold pb_Sw_admit_37 at h
  exact pj_vret C hE d_Sw_admit_37 ⟨rfl, h⟩
def pb_Sw_admit_17  (K : pj_M → Prop) (u : pj_M) (i1 : Nat) : Prop := pj_put u i1 6 1 fun u1 => (pj_put u1 i1 15 ((u1 i1 15) + 1) fun u2 => (pj_put u2 i1 16 0 fun u3 => (pb_Sw_admit_37  K u3 )))
set_option maxHeartbeats 1000000 in
theorem pt_Sw_admit_17 {g : pj_G} {b : Nat} (C : pj_X g c_Sw_admit 2 R_Sw none rm_Sw_admit) {K : pj_M → Prop} (hE : pj_E g b (pj_Kv K))   {u : pj_M} {i1 : Nat}  (t1 : pj_T i1 = 9) (h : pb_Sw_admit_17  K u i1) : pj_J g (pj_N g b u) 17 [none, some (.ref (b + i1))] [] := by
  unfold pb_Sw_admit_17 at h
  refine pj_aload_n C d_Sw_admit_17 (pc' := 18) (i := 1) (x := b + i1) rfl rfl rfl ?_
  refine pj_iconst C d_Sw_admit_18 (pc' := 19) rfl (v := 1) (by decide) ?_
  refine fp_Switch_111_Port C t1 pj_bi1 d_Sw_admit_19 (pc' := 22) rfl h (fun u1 h => ?_)
  refine pj_aload_n C d_Sw_admit_22 (pc' := 23) (i := 1) (x := b + i1) rfl rfl rfl ?_
  refine pj_dup C d_Sw_admit_23 (pc' := 24) rfl rfl ?_
  refine fg_Switch_225_Port C t1 d_Sw_admit_24 (pc' := 27) rfl ?_
  refine pj_iconst C d_Sw_admit_27 (pc' := 28) rfl (v := 1) (by decide) ?_
  refine pj_iadd C d_Sw_admit_28 (pc' := 29) rfl ?_
  refine fp_Switch_225_Port C t1  d_Sw_admit_29 (pc' := 32) rfl h (fun u2 h => ?_)
  refine pj_aload_n C d_Sw_admit_32 (pc' := 33) (i := 1) (x := b + i1) rfl rfl rfl ?_
  refine pj_iconst C d_Sw_admit_33 (pc' := 34) rfl (v := 0) (by decide) ?_
  refine fp_Switch_228_Port C t1  d_Sw_admit_34 (pc' := 37) rfl h (fun u3 h => ?_)
  exact pj_cut (pj_le_n (pj_le_n pj_le_e)) (pt_Sw_admit_37 C hE   h)
def pb_Sw_admit_0  (K : pj_M → Prop) (u : pj_M) (i1 : Nat) : Prop := pj_put u i1 5 3 fun u1 => (pj_put u1 i1 7 0 fun u2 => ((((u2 i1 6) = 0) → (pb_Sw_admit_17  K u2 i1)) ∧ (¬ ((u2 i1 6) = 0) → (pb_Sw_admit_37  K u2 ))))
set_option maxHeartbeats 1000000 in
theorem pt_Sw_admit_0 {g : pj_G} {b : Nat} (C : pj_X g c_Sw_admit 2 R_Sw none rm_Sw_admit) {K : pj_M → Prop} (hE : pj_E g b (pj_Kv K))   {u : pj_M} {i1 : Nat}  (t1 : pj_T i1 = 9) (h : pb_Sw_admit_0  K u i1) : pj_J g (pj_N g b u) 0 [none, some (.ref (b + i1))] [] := by
  unfold pb_Sw_admit_0 at h
  refine pj_aload_n C d_Sw_admit_0 (pc' := 1) (i := 1) (x := b + i1) rfl rfl rfl ?_
  refine pj_iconst C d_Sw_admit_1 (pc' := 2) rfl (v := 3) (by decide) ?_
  refine fp_Switch_66_Port C t1  d_Sw_admit_2 (pc' := 5) rfl h (fun u1 h => ?_)
  refine pj_aload_n C d_Sw_admit_5 (pc' := 6) (i := 1) (x := b + i1) rfl rfl rfl ?_
  refine pj_iconst C d_Sw_admit_6 (pc' := 7) rfl (v := 0) (by decide) ?_
  refine fp_Switch_114_Port C t1  d_Sw_admit_7 (pc' := 10) rfl h (fun u2 h => ?_)
  refine pj_aload_n C d_Sw_admit_10 (pc' := 11) (i := 1) (x := b + i1) rfl rfl rfl ?_
  refine fg_Switch_111_Port C t1 d_Sw_admit_11 (pc' := 14) rfl ?_
  refine pj_if_ne C d_Sw_admit_14 (pc' := 17) rfl (tgt := 37) (by decide) h (fun h => ?_) (fun h => ?_)
  · exact pj_cut (pj_le_n (pj_le_n pj_le_e)) (pt_Sw_admit_37 C hE   h)
  · exact pj_cut (pj_le_n (pj_le_s pj_le_e)) (pt_Sw_admit_17 C hE  t1 h)
def pw_Sw_admit (u : pj_M) (i1 : Nat) (K : pj_M → Prop) : Prop := pb_Sw_admit_0  K u i1
theorem pc_Sw_admit (l : Launch) (D : va_G) (E : Nat → ClassId) {b : Nat} {u : pj_M} {i1 : Nat} {K : pj_M → Prop} (t1 : pj_T i1 = 9) (h : pw_Sw_admit u i1 K) : pj_C l y_Sw_admit c_Sw_admit 2 none rm_Sw_admit D E b [.ref (b + 170), .ref (b + i1)] u (pj_Kv K) := by
  refine pj_met (own := R_Sw) (by decide +kernel) rfl (Nat.le_of_ble_eq_true rfl) (fun g hE C => ?_)
  unfold pw_Sw_admit at h
  show pj_J g (pj_N g b u) 0 [some (.ref (b + 170)), some (.ref (b + i1))] []
  exact pj_cut (pj_le_n (pj_le_s pj_le_e)) (pt_Sw_admit_0 C hE  t1 h)
/-! Switch.takeAnswer(ILPortGuard$Row;)V -/
theorem fp_Switch_185_Switch {g : pj_G} {b : Nat} {cc : ByteArray} {nL : Nat} {ret : Option FieldType} {rm : Room} {u : pj_M} {pc pc' : Nat} {vs : List (Option Value)} {st : List Value} (C : pj_X g cc nL R_Sw ret rm) {i : Nat} {x : Int32} {P : pj_M → Prop} (t : pj_T i = 10)  (hdg : decode cc pc = .ok (.putfield 185, 3)) (hp : pc + 3 = pc') (h : pj_put u i 8 x P) (kk : ∀ u', P u' → pj_J g (pj_N g b u') pc' vs st) : pj_J g (pj_N g b u) pc vs (.int x :: .ref (b + i) :: st) :=
  pj_putI C cl_Switch hin_Switch ty_Switch tyok_Switch nm_Switch (k := 8) (Nat.le_of_ble_eq_true rfl) wm_498 (Or.inl rfl) rfl (ty := .int) (by decide +kernel) rfl rfl (pj_lt t (by decide)) (fun E u => ko_10 t) (F := fun f => [.int (f 0), .ref (b + 4), .ref (b + 171), .ref (b + 172), .ref (b + 173), .ref (b + 175), .ref (b + 180), .int (f 7), .int (f 8), .int (f 9)]) (fun _ => Nat.le_of_ble_eq_true rfl) (fun _ _ => rfl) hdg hp h kk
theorem fg_Switch_214_Datagram {g : pj_G} {b : Nat} {cc : ByteArray} {nL : Nat} {ret : Option FieldType} {rm : Room} {u : pj_M} {pc pc' : Nat} {vs : List (Option Value)} {st : List Value} (C : pj_X g cc nL R_Sw ret rm) {i : Nat} (t : pj_T i = 5) (hdg : decode cc pc = .ok (.getfield 214, 3)) (hp : pc + 3 = pc') (kk : pj_J g (pj_N g b u) pc' vs (.int (u i 3) :: st)) : pj_J g (pj_N g b u) pc vs (.ref (b + i) :: st) :=
  pj_get C cl_Datagram hin_Datagram (k := 3) (Nat.le_of_ble_eq_true rfl) wm_276 (Or.inl rfl) (pj_lt t (by decide)) (fun E => ko_5 t) rfl hdg hp kk
theorem ck_Switch_192_Datagram {g : pj_G} {b : Nat} {cc : ByteArray} {nL : Nat} {ret : Option FieldType} {rm : Room} {u : pj_M} {pc pc' : Nat} {vs : List (Option Value)} {st : List Value} (C : pj_X g cc nL R_Sw ret rm) {i0 : Nat} {i1 : Nat} {K : Int32 → pj_M → Prop} (t0 : pj_T i0 = 5) (t1 : pj_R i1) (h : pw_Da_read u i0 i1 K) (hdg : decode cc pc = .ok (.invokevirtual 192, 3)) (hp : pc + 3 = pc') (hR : rm_Da_read.frames + 1 ≤ rm.frames ∧ 8 + (2 + 11) + rm_Da_read.locals ≤ rm.locals) (h8 : (st.map fun v => v.category).sum ≤ 8) (kk : ∀ r u', K r u' → pj_J g (pj_N g b u') pc' vs (.int r :: st)) : pj_J g (pj_N g b u) pc vs (.ref (b + i1) :: .ref (b + i0) :: st) :=
  pj_callV C (As := [.ref (b + i1)]) (fun l D E => pc_Da_read l D E t0 t1 h) rfl rfl cl_Datagram (pj_lt t0 (by decide)) (fun E => ko_5 t0) wm_1001 wm_878 wm_879 wm_98 wm_880 (by decide +kernel) (n := 1) rfl hR rfl h8 hdg hp (fun v u' hq => by obtain ⟨r, rfl, hk⟩ := hq; exact kk r u' hk)
theorem ck_Switch_196_Datagram {g : pj_G} {b : Nat} {cc : ByteArray} {nL : Nat} {ret : Option FieldType} {rm : Room} {u : pj_M} {pc pc' : Nat} {vs : List (Option Value)} {st : List Value} (C : pj_X g cc nL R_Sw ret rm) {i0 : Nat} {K : Int32 → pj_M → Prop} (t0 : pj_T i0 = 5) (h : pw_Da_id u i0 K) (hdg : decode cc pc = .ok (.invokevirtual 196, 3)) (hp : pc + 3 = pc') (hR : rm_Da_id.frames + 1 ≤ rm.frames ∧ 8 + (1 + 11) + rm_Da_id.locals ≤ rm.locals) (h8 : (st.map fun v => v.category).sum ≤ 8) (kk : ∀ r u', K r u' → pj_J g (pj_N g b u') pc' vs (.int r :: st)) : pj_J g (pj_N g b u) pc vs (.ref (b + i0) :: st) :=
  pj_callV C (As := []) (fun l D E => pc_Da_id l D E t0 h) rfl rfl cl_Datagram (pj_lt t0 (by decide)) (fun E => ko_5 t0) wm_1002 wm_908 wm_909 wm_98 wm_910 (by decide +kernel) (n := 0) rfl hR rfl h8 hdg hp (fun v u' hq => by obtain ⟨r, rfl, hk⟩ := hq; exact kk r u' hk)
theorem ck_Switch_197_Switch {g : pj_G} {b : Nat} {cc : ByteArray} {nL : Nat} {ret : Option FieldType} {rm : Room} {u : pj_M} {pc pc' : Nat} {vs : List (Option Value)} {st : List Value} (C : pj_X g cc nL R_Sw ret rm) {x1 : Int32} {x2 : Int32} {K : Option Nat → pj_M → Prop}  (h : pw_Sw_portAwaiting u x1 x2 K) (hdg : decode cc pc = .ok (.invokevirtual 197, 3)) (hp : pc + 3 = pc') (hR : rm_Sw_portAwaiting.frames + 1 ≤ rm.frames ∧ 8 + (5 + 11) + rm_Sw_portAwaiting.locals ≤ rm.locals) (h8 : (st.map fun v => v.category).sum ≤ 8) (kk : ∀ o u', K o u' → pj_J g (pj_N g b u') pc' vs (va_rf (o.map (b + ·)) :: st)) : pj_J g (pj_N g b u) pc vs (.int x2 :: .int x1 :: .ref (b + 170) :: st) :=
  pj_callV C (As := [.int x1, .int x2]) (fun l D E => pc_Sw_portAwaiting l D E  h) rfl rfl cl_Switch (pj_lt tk_170 (by decide)) (fun E => ko_10 tk_170) wm_1003 wm_1005 wm_32 wm_100 wm_1006 (by decide +kernel) (n := 2) rfl hR rfl h8 hdg hp (fun v u' hq => by obtain ⟨r, rfl, hk⟩ := hq; exact kk r u' hk)
theorem ck_Switch_201_Switch {g : pj_G} {b : Nat} {cc : ByteArray} {nL : Nat} {ret : Option FieldType} {rm : Room} {u : pj_M} {pc pc' : Nat} {vs : List (Option Value)} {st : List Value} (C : pj_X g cc nL R_Sw ret rm)  {K : Int32 → pj_M → Prop}  (h : pw_Sw_fits u  K) (hdg : decode cc pc = .ok (.invokevirtual 201, 3)) (hp : pc + 3 = pc') (hR : rm_Sw_fits.frames + 1 ≤ rm.frames ∧ 8 + (2 + 11) + rm_Sw_fits.locals ≤ rm.locals) (h8 : (st.map fun v => v.category).sum ≤ 8) (kk : ∀ r u', K r u' → pj_J g (pj_N g b u') pc' vs (.int r :: st)) : pj_J g (pj_N g b u) pc vs (.ref (b + 170) :: st) :=
  pj_callV C (As := []) (fun l D E => pc_Sw_fits l D E  h) rfl rfl cl_Switch (pj_lt tk_170 (by decide)) (fun E => ko_10 tk_170) wm_1008 wm_1010 wm_33 wm_100 wm_1011 (by decide +kernel) (n := 0) rfl hR rfl h8 hdg hp (fun v u' hq => by obtain ⟨r, rfl, hk⟩ := hq; exact kk r u' hk)
theorem ck_Switch_205_Row {g : pj_G} {b : Nat} {cc : ByteArray} {nL : Nat} {ret : Option FieldType} {rm : Room} {u : pj_M} {pc pc' : Nat} {vs : List (Option Value)} {st : List Value} (C : pj_X g cc nL R_Sw ret rm) {i0 : Nat} {x1 : Int32} {K : Int32 → pj_M → Prop} (t : pj_T i0 = 3) (h : pw_Ro_intAt u i0 x1 K) (hdg : decode cc pc = .ok (.invokevirtual 205, 3)) (hp : pc + 3 = pc') (hR : rm_Ro_intAt.frames + 1 ≤ rm.frames ∧ 8 + (4 + 11) + rm_Ro_intAt.locals ≤ rm.locals) (h8 : (st.map fun v => v.category).sum ≤ 8) (kk : ∀ r u', K r u' → pj_J g (pj_N g b u') pc' vs (.int r :: st)) : pj_J g (pj_N g b u) pc vs (.int x1 :: .ref (b + i0) :: st) := by
  have t0 : pj_R i0 := Or.inl t
  exact pj_callV C (As := [.int x1]) (fun l D E => pc_Ro_intAt l D E t0 h) rfl rfl cl_Row (pj_lt t (by decide)) (fun E => ko_3 t) wm_1013 wm_839 wm_1639 wm_94 wm_840 (by decide +kernel) (n := 1) rfl hR rfl h8 hdg hp (fun v u' hq => by obtain ⟨r, rfl, hk⟩ := hq; exact kk r u' hk)
theorem ck_Switch_209_Datagram {g : pj_G} {b : Nat} {cc : ByteArray} {nL : Nat} {ret : Option FieldType} {rm : Room} {u : pj_M} {pc pc' : Nat} {vs : List (Option Value)} {st : List Value} (C : pj_X g cc nL R_Sw ret rm) {i0 : Nat} {x1 : Int32} {x2 : Int32} {K : Int32 → pj_M → Prop} (t0 : pj_T i0 = 5) (h : pw_Da_isAnswerTo u i0 x1 x2 K) (hdg : decode cc pc = .ok (.invokevirtual 209, 3)) (hp : pc + 3 = pc') (hR : rm_Da_isAnswerTo.frames + 1 ≤ rm.frames ∧ 8 + (3 + 11) + rm_Da_isAnswerTo.locals ≤ rm.locals) (h8 : (st.map fun v => v.category).sum ≤ 8) (kk : ∀ r u', K r u' → pj_J g (pj_N g b u') pc' vs (.int r :: st)) : pj_J g (pj_N g b u) pc vs (.int x2 :: .int x1 :: .ref (b + i0) :: st) :=
  pj_callV C (As := [.int x1, .int x2]) (fun l D E => pc_Da_isAnswerTo l D E t0 h) rfl rfl cl_Datagram (pj_lt t0 (by decide)) (fun E => ko_5 t0) wm_1014 wm_1015 wm_1016 wm_98 wm_1017 (by decide +kernel) (n := 2) rfl hR rfl h8 hdg hp (fun v u' hq => by obtain ⟨r, rfl, hk⟩ := hq; exact kk r u' hk)
theorem ck_Switch_216_Switch {g : pj_G} {b : Nat} {cc : ByteArray} {nL : Nat} {ret : Option FieldType} {rm : Room} {u : pj_M} {pc pc' : Nat} {vs : List (Option Value)} {st : List Value} (C : pj_X g cc nL R_Sw ret rm) {i1 : Nat} {K : pj_M → Prop} (t1 : pj_T i1 = 9) (h : pw_Sw_admit u i1 K) (hdg : decode cc pc = .ok (.invokevirtual 216, 3)) (hp : pc + 3 = pc') (hR : rm_Sw_admit.frames + 1 ≤ rm.frames ∧ 8 + (2 + 11) + rm_Sw_admit.locals ≤ rm.locals) (h8 : (st.map fun v => v.category).sum ≤ 8) (kk : ∀ u', K u' → pj_J g (pj_N g b u') pc' vs st) : pj_J g (pj_N g b u) pc vs (.ref (b + i1) :: .ref (b + 170) :: st) :=
  pj_callV C (As := [.ref (b + i1)]) (fun l D E => pc_Sw_admit l D E t1 h) rfl rfl cl_Switch (pj_lt tk_170 (by decide)) (fun E => ko_10 tk_170) wm_1019 wm_1021 wm_34 wm_100 wm_1022 (by decide +kernel) (n := 1) rfl hR rfl h8 hdg hp (fun v u' hq => by obtain ⟨rfl, hk⟩ := hq; exact kk u' hk)
theorem ck_Switch_219_Switch {g : pj_G} {b : Nat} {cc : ByteArray} {nL : Nat} {ret : Option FieldType} {rm : Room} {u : pj_M} {pc pc' : Nat} {vs : List (Option Value)} {st : List Value} (C : pj_X g cc nL R_Sw ret rm) {i1 : Nat} {K : pj_M → Prop} (t1 : pj_T i1 = 9) (h : pw_Sw_fail u i1 K) (hdg : decode cc pc = .ok (.invokevirtual 219, 3)) (hp : pc + 3 = pc') (hR : rm_Sw_fail.frames + 1 ≤ rm.frames ∧ 8 + (2 + 11) + rm_Sw_fail.locals ≤ rm.locals) (h8 : (st.map fun v => v.category).sum ≤ 8) (kk : ∀ u', K u' → pj_J g (pj_N g b u') pc' vs st) : pj_J g (pj_N g b u) pc vs (.ref (b + i1) :: .ref (b + 170) :: st) :=
  pj_callV C (As := [.ref (b + i1)]) (fun l D E => pc_Sw_fail l D E t1 h) rfl rfl cl_Switch (pj_lt tk_170 (by decide)) (fun E => ko_10 tk_170) wm_1023 wm_1025 wm_35 wm_100 wm_1026 (by decide +kernel) (n := 1) rfl hR rfl h8 hdg hp (fun v u' hq => by obtain ⟨rfl, hk⟩ := hq; exact kk u' hk)
def rm_Sw_takeAnswer : Room := { frames := 4, cells := 0, slots := 0, locals := 102 }
def pb_Sw_takeAnswer_61  (K : pj_M → Prop) (u : pj_M)  : Prop := pj_put u 170 9 ((u 170 9) + 1) fun u1 => (K u1)
set_option maxHeartbeats 1000000 in
theorem pt_Sw_takeAnswer_61 {g : pj_G} {b : Nat} (C : pj_X g c_Sw_takeAnswer 4 R_Sw none rm_Sw_takeAnswer) {K : pj_M → Prop} (hE : pj_E g b (pj_Kv K))   {u : pj_M}    (h : pb_Sw_takeAnswer_61  K u ) : pj_J g (pj_N g b u) 61 [some (.ref (b + 170)), none, none, none] [] := by
  unfold pb_Sw_takeAnswer_61 at h
  refine pj_aload_n C d_Sw_takeAnswer_61 (pc' := 62) (i := 0) (x := b + 170) rfl rfl rfl ?_
  refine pj_dup C d_Sw_takeAnswer_62 (pc' := 63) rfl rfl ?_
  refine fg_Switch_166_Switch C tk_170 d_Sw_takeAnswer_63 (pc' := 66) rfl ?_
  refine pj_iconst C d_Sw_takeAnswer_66 (pc' := 67) rfl (v := 1) (by decide) ?_
  refine pj_iadd C d_Sw_takeAnswer_67 (pc' := 68) rfl ?_
  refine fp_Switch_166_Switch C tk_170  d_Sw_takeAnswer_68 (pc' := 71) rfl h (fun u1 h => ?_)
  exact pj_vret C hE d_Sw_takeAnswer_71 ⟨rfl, h⟩
def pb_Sw_takeAnswer_169  (K : pj_M → Prop) (u : pj_M)  : Prop := K u
set_option maxHeartbeats 1000000 in
theorem pt_Sw_takeAnswer_169 {g : pj_G} {b : Nat} (C : pj_X g c_Sw_takeAnswer 4 R_Sw none rm_Sw_takeAnswer) {K : pj_M → Prop} (hE : pj_E g b (pj_Kv K))   {u : pj_M}    (h : pb_Sw_takeAnswer_169  K u ) : pj_J g (pj_N g b u) 169 [none, none, none, none] [] := by
  unfold pb_Sw_takeAnswer_169 at h
  exact pj_vret C hE d_Sw_takeAnswer_169 ⟨rfl, h⟩
def pb_Sw_takeAnswer_164  (K : pj_M → Prop) (u : pj_M) (i3 : Nat) : Prop := pw_Sw_fail u i3 fun u1 => (pb_Sw_takeAnswer_169  K u1 )
set_option maxHeartbeats 1000000 in
theorem pt_Sw_takeAnswer_164 {g : pj_G} {b : Nat} (C : pj_X g c_Sw_takeAnswer 4 R_Sw none rm_Sw_takeAnswer) {K : pj_M → Prop} (hE : pj_E g b (pj_Kv K))   {u : pj_M} {i3 : Nat}  (t3 : pj_T i3 = 9) (h : pb_Sw_takeAnswer_164  K u i3) : pj_J g (pj_N g b u) 164 [some (.ref (b + 170)), none, none, some (.ref (b + i3))] [] := by
  unfold pb_Sw_takeAnswer_164 at h
  refine pj_aload_n C d_Sw_takeAnswer_164 (pc' := 165) (i := 0) (x := b + 170) rfl rfl rfl ?_
  refine pj_aload_n C d_Sw_takeAnswer_165 (pc' := 166) (i := 3) (x := b + i3) rfl rfl rfl ?_
  refine ck_Switch_219_Switch C t3 h d_Sw_takeAnswer_166 (pc' := 169) rfl ⟨Nat.le_of_ble_eq_true rfl, Nat.le_of_ble_eq_true rfl⟩ (Nat.le_of_ble_eq_true rfl) (fun u1 h => ?_)
  exact pj_cut (pj_le_n (pj_le_n (pj_le_n (pj_le_n pj_le_e)))) (pt_Sw_takeAnswer_169 C hE   h)
def pb_Sw_takeAnswer_156  (K : pj_M → Prop) (u : pj_M) (i3 : Nat) : Prop := pw_Sw_admit u i3 fun u1 => (pb_Sw_takeAnswer_169  K u1 )
set_option maxHeartbeats 1000000 in
theorem pt_Sw_takeAnswer_156 {g : pj_G} {b : Nat} (C : pj_X g c_Sw_takeAnswer 4 R_Sw none rm_Sw_takeAnswer) {K : pj_M → Prop} (hE : pj_E g b (pj_Kv K))   {u : pj_M} {i3 : Nat}  (t3 : pj_T i3 = 9) (h : pb_Sw_takeAnswer_156  K u i3) : pj_J g (pj_N g b u) 156 [some (.ref (b + 170)), none, none, some (.ref (b + i3))] [] := by
  unfold pb_Sw_takeAnswer_156 at h
  refine pj_aload_n C d_Sw_takeAnswer_156 (pc' := 157) (i := 0) (x := b + 170) rfl rfl rfl ?_
  refine pj_aload_n C d_Sw_takeAnswer_157 (pc' := 158) (i := 3) (x := b + i3) rfl rfl rfl ?_
  refine ck_Switch_216_Switch C t3 h d_Sw_takeAnswer_158 (pc' := 161) rfl ⟨Nat.le_of_ble_eq_true rfl, Nat.le_of_ble_eq_true rfl⟩ (Nat.le_of_ble_eq_true rfl) (fun u1 h => ?_)
  refine pj_goto C d_Sw_takeAnswer_161 (tgt := 169) (by decide) ?_
  exact pj_cut (pj_le_n (pj_le_n (pj_le_n (pj_le_n pj_le_e)))) (pt_Sw_takeAnswer_169 C hE   h)
def pb_Sw_takeAnswer_133  (K : pj_M → Prop) (u : pj_M) (i3 : Nat) : Prop := pw_Sw_sendToHost u i3 (175 + 3) fun u1 => (pw_Da_code u1 175 fun r3 u2 => (((r3 = 2) → (pb_Sw_takeAnswer_156  K u2 i3)) ∧ (¬ (r3 = 2) → (pb_Sw_takeAnswer_164  K u2 i3))))
set_option maxHeartbeats 1000000 in
theorem pt_Sw_takeAnswer_133 {g : pj_G} {b : Nat} (C : pj_X g c_Sw_takeAnswer 4 R_Sw none rm_Sw_takeAnswer) {K : pj_M → Prop} (hE : pj_E g b (pj_Kv K))   {u : pj_M} {i3 : Nat}  (t3 : pj_T i3 = 9) (h : pb_Sw_takeAnswer_133  K u i3) : pj_J g (pj_N g b u) 133 [some (.ref (b + 170)), none, none, some (.ref (b + i3))] [] := by
  unfold pb_Sw_takeAnswer_133 at h
  refine pj_aload_n C d_Sw_takeAnswer_133 (pc' := 134) (i := 0) (x := b + 170) rfl rfl rfl ?_
  refine pj_aload_n C d_Sw_takeAnswer_134 (pc' := 135) (i := 3) (x := b + i3) rfl rfl rfl ?_
  refine pj_aload_n C d_Sw_takeAnswer_135 (pc' := 136) (i := 0) (x := b + 170) rfl rfl rfl ?_
  refine fg_Switch_31_Switch C tk_170 d_Sw_takeAnswer_136 (pc' := 139) rfl ?_
  refine fg_Switch_215_Datagram C tk_175 d_Sw_takeAnswer_139 (pc' := 142) rfl ?_
  refine ck_Switch_91_Switch C t3 (pl_Datagram_packet tk_175) h d_Sw_takeAnswer_142 (pc' := 145) rfl ⟨Nat.le_of_ble_eq_true rfl, Nat.le_of_ble_eq_true rfl⟩ (Nat.le_of_ble_eq_true rfl) (fun u1 h => ?_)
  refine pj_aload_n C d_Sw_takeAnswer_145 (pc' := 146) (i := 0) (x := b + 170) rfl rfl rfl ?_
  refine fg_Switch_31_Switch C tk_170 d_Sw_takeAnswer_146 (pc' := 149) rfl ?_
  refine ck_Switch_213_Datagram C tk_175 h d_Sw_takeAnswer_149 (pc' := 152) rfl ⟨Nat.le_of_ble_eq_true rfl, Nat.le_of_ble_eq_true rfl⟩ (Nat.le_of_ble_eq_true rfl) (fun r3 u2 h => ?_)
  refine pj_iconst C d_Sw_takeAnswer_152 (pc' := 153) rfl (v := 2) (by decide) ?_
  refine pj_icmp_ne C d_Sw_takeAnswer_153 (pc' := 156) rfl (tgt := 164) (by decide) h (fun h => ?_) (fun h => ?_)
  · exact pj_cut (pj_le_s (pj_le_n (pj_le_n (pj_le_s pj_le_e)))) (pt_Sw_takeAnswer_164 C hE  t3 h)
  · exact pj_cut (pj_le_s (pj_le_n (pj_le_n (pj_le_s pj_le_e)))) (pt_Sw_takeAnswer_156 C hE  t3 h)
def pb_Sw_takeAnswer_94  (K : pj_M → Prop) (u : pj_M) (i3 : Nat) : Prop := pj_put u i3 11 (u 175 3) fun u1 => (pw_Ro_copy u1 (i3 + 1) (175 + 3) fun u2 => (pw_Sw_sendToHost u2 i3 (i3 + 1) fun u3 => (pw_Po_expectResponse u3 i3 fun u4 => (K u4))))
set_option maxHeartbeats 1000000 in
theorem pt_Sw_takeAnswer_94 {g : pj_G} {b : Nat} (C : pj_X g c_Sw_takeAnswer 4 R_Sw none rm_Sw_takeAnswer) {K : pj_M → Prop} (hE : pj_E g b (pj_Kv K))   {u : pj_M} {i3 : Nat}  (t3 : pj_T i3 = 9) (h : pb_Sw_takeAnswer_94  K u i3) : pj_J g (pj_N g b u) 94 [some (.ref (b + 170)), none, none, some (.ref (b + i3))] [] := by
  unfold pb_Sw_takeAnswer_94 at h
  refine pj_aload_n C d_Sw_takeAnswer_94 (pc' := 95) (i := 3) (x := b + i3) rfl rfl rfl ?_
  refine pj_aload_n C d_Sw_takeAnswer_95 (pc' := 96) (i := 0) (x := b + 170) rfl rfl rfl ?_
  refine fg_Switch_31_Switch C tk_170 d_Sw_takeAnswer_96 (pc' := 99) rfl ?_
  refine fg_Switch_214_Datagram C tk_175 d_Sw_takeAnswer_99 (pc' := 102) rfl ?_
  refine fp_Switch_75_Port C t3  d_Sw_takeAnswer_102 (pc' := 105) rfl h (fun u1 h => ?_)
  refine pj_aload_n C d_Sw_takeAnswer_105 (pc' := 106) (i := 3) (x := b + i3) rfl rfl rfl ?_
  refine fg_Switch_78_Port C t3 d_Sw_takeAnswer_106 (pc' := 109) rfl ?_
  refine pj_aload_n C d_Sw_takeAnswer_109 (pc' := 110) (i := 0) (x := b + 170) rfl rfl rfl ?_
  refine fg_Switch_31_Switch C tk_170 d_Sw_takeAnswer_110 (pc' := 113) rfl ?_
  refine fg_Switch_215_Datagram C tk_175 d_Sw_takeAnswer_113 (pc' := 116) rfl ?_
  refine ck_Switch_181_Packet C (pl_Port_last t3) (Or.inr (pl_Datagram_packet tk_175)) h d_Sw_takeAnswer_116 (pc' := 119) rfl ⟨Nat.le_of_ble_eq_true rfl, Nat.le_of_ble_eq_true rfl⟩ (Nat.le_of_ble_eq_true rfl) (fun u2 h => ?_)
  refine pj_aload_n C d_Sw_takeAnswer_119 (pc' := 120) (i := 0) (x := b + 170) rfl rfl rfl ?_
  refine pj_aload_n C d_Sw_takeAnswer_120 (pc' := 121) (i := 3) (x := b + i3) rfl rfl rfl ?_
  refine pj_aload_n C d_Sw_takeAnswer_121 (pc' := 122) (i := 3) (x := b + i3) rfl rfl rfl ?_
  refine fg_Switch_78_Port C t3 d_Sw_takeAnswer_122 (pc' := 125) rfl ?_
  refine ck_Switch_91_Switch C t3 (pl_Port_last t3) h d_Sw_takeAnswer_125 (pc' := 128) rfl ⟨Nat.le_of_ble_eq_true rfl, Nat.le_of_ble_eq_true rfl⟩ (Nat.le_of_ble_eq_true rfl) (fun u3 h => ?_)
  refine pj_aload_n C d_Sw_takeAnswer_128 (pc' := 129) (i := 3) (x := b + i3) rfl rfl rfl ?_
  refine ck_Switch_95_Port C t3 h d_Sw_takeAnswer_129 (pc' := 132) rfl ⟨Nat.le_of_ble_eq_true rfl, Nat.le_of_ble_eq_true rfl⟩ (Nat.le_of_ble_eq_true rfl) (fun u4 h => ?_)
  exact pj_vret C hE d_Sw_takeAnswer_132 ⟨rfl, h⟩
def pb_Sw_takeAnswer_72  (K : pj_M → Prop) (u : pj_M) (x1 : Int32) (i3 : Nat) : Prop := pj_put u i3 12 0 fun u1 => (pj_put u1 170 8 x1 fun u2 => (pw_Da_code u2 175 fun r4 u3 => (((r4 = 11) → (pb_Sw_takeAnswer_94  K u3 i3)) ∧ (¬ (r4 = 11) → (pb_Sw_takeAnswer_133  K u3 i3)))))
set_option maxHeartbeats 1000000 in
theorem pt_Sw_takeAnswer_72 {g : pj_G} {b : Nat} (C : pj_X g c_Sw_takeAnswer 4 R_Sw none rm_Sw_takeAnswer) {K : pj_M → Prop} (hE : pj_E g b (pj_Kv K))   {u : pj_M} {x1 : Int32} {i3 : Nat}  (t3 : pj_T i3 = 9) (h : pb_Sw_takeAnswer_72  K u x1 i3) : pj_J g (pj_N g b u) 72 [some (.ref (b + 170)), some (.int x1), none, some (.ref (b + i3))] [] := by
  unfold pb_Sw_takeAnswer_72 at h
  refine pj_aload_n C d_Sw_takeAnswer_72 (pc' := 73) (i := 3) (x := b + i3) rfl rfl rfl ?_
  refine pj_iconst C d_Sw_takeAnswer_73 (pc' := 74) rfl (v := 0) (by decide) ?_
  refine fp_Switch_69_Port C t3  d_Sw_takeAnswer_74 (pc' := 77) rfl h (fun u1 h => ?_)
  refine pj_aload_n C d_Sw_takeAnswer_77 (pc' := 78) (i := 0) (x := b + 170) rfl rfl rfl ?_
  refine pj_iload_n C d_Sw_takeAnswer_78 (pc' := 79) (i := 1) (x := x1) rfl rfl rfl ?_
  refine fp_Switch_185_Switch C tk_170  d_Sw_takeAnswer_79 (pc' := 82) rfl h (fun u2 h => ?_)
  refine pj_aload_n C d_Sw_takeAnswer_82 (pc' := 83) (i := 0) (x := b + 170) rfl rfl rfl ?_
  refine fg_Switch_31_Switch C tk_170 d_Sw_takeAnswer_83 (pc' := 86) rfl ?_
  refine ck_Switch_213_Datagram C tk_175 h d_Sw_takeAnswer_86 (pc' := 89) rfl ⟨Nat.le_of_ble_eq_true rfl, Nat.le_of_ble_eq_true rfl⟩ (Nat.le_of_ble_eq_true rfl) (fun r4 u3 h => ?_)
  refine pj_bipush C d_Sw_takeAnswer_89 (pc' := 91) rfl (v := 11) (by decide) ?_
  refine pj_icmp_ne C d_Sw_takeAnswer_91 (pc' := 94) rfl (tgt := 133) (by decide) h (fun h => ?_) (fun h => ?_)
  · exact pj_cut (pj_le_s (pj_le_n (pj_le_n (pj_le_s pj_le_e)))) (pt_Sw_takeAnswer_133 C hE  t3 h)
  · exact pj_cut (pj_le_s (pj_le_n (pj_le_n (pj_le_s pj_le_e)))) (pt_Sw_takeAnswer_94 C hE  t3 h)
def pb_Sw_takeAnswer_39  (K : pj_M → Prop) (u : pj_M) (x1 : Int32) (i3 : Nat) : Prop := pw_Ro_intAt u (i3 + 5) 3 fun r2 u1 => (pw_Da_isAnswerTo u1 175 (u 170 0) r2 fun r4 u3 => (((r4 = 0) → (pb_Sw_takeAnswer_61  K u3 )) ∧ (¬ (r4 = 0) → (pb_Sw_takeAnswer_72  K u3 x1 i3))))
set_option maxHeartbeats 1000000 in
theorem pt_Sw_takeAnswer_39 {g : pj_G} {b : Nat} (C : pj_X g c_Sw_takeAnswer 4 R_Sw none rm_Sw_takeAnswer) {K : pj_M → Prop} (hE : pj_E g b (pj_Kv K))   {u : pj_M} {x1 : Int32} {i3 : Nat}  (t3 : pj_T i3 = 9) (h : pb_Sw_takeAnswer_39  K u x1 i3) : pj_J g (pj_N g b u) 39 [some (.ref (b + 170)), some (.int x1), none, some (.ref (b + i3))] [] := by
  unfold pb_Sw_takeAnswer_39 at h
  refine pj_aload_n C d_Sw_takeAnswer_39 (pc' := 40) (i := 0) (x := b + 170) rfl rfl rfl ?_
  refine fg_Switch_31_Switch C tk_170 d_Sw_takeAnswer_40 (pc' := 43) rfl ?_
  refine pj_aload_n C d_Sw_takeAnswer_43 (pc' := 44) (i := 0) (x := b + 170) rfl rfl rfl ?_
  refine fg_Switch_38_Switch C tk_170 d_Sw_takeAnswer_44 (pc' := 47) rfl ?_
  refine pj_aload_n C d_Sw_takeAnswer_47 (pc' := 48) (i := 3) (x := b + i3) rfl rfl rfl ?_
  refine fg_Switch_139_Port C t3 d_Sw_takeAnswer_48 (pc' := 51) rfl ?_
  refine pj_iconst C d_Sw_takeAnswer_51 (pc' := 52) rfl (v := 3) (by decide) ?_
  refine ck_Switch_205_Row C (pl_Port_query t3) h d_Sw_takeAnswer_52 (pc' := 55) rfl ⟨Nat.le_of_ble_eq_true rfl, Nat.le_of_ble_eq_true rfl⟩ (Nat.le_of_ble_eq_true rfl) (fun r2 u1 h => ?_)
  refine ck_Switch_209_Datagram C tk_175 h d_Sw_takeAnswer_55 (pc' := 58) rfl ⟨Nat.le_of_ble_eq_true rfl, Nat.le_of_ble_eq_true rfl⟩ (Nat.le_of_ble_eq_true rfl) (fun r4 u3 h => ?_)
  refine pj_if_ne C d_Sw_takeAnswer_58 (pc' := 61) rfl (tgt := 72) (by decide) h (fun h => ?_) (fun h => ?_)
  · exact pj_cut (pj_le_s (pj_le_s (pj_le_n (pj_le_s pj_le_e)))) (pt_Sw_takeAnswer_72 C hE  t3 h)
  · exact pj_cut (pj_le_s (pj_le_n (pj_le_n (pj_le_n pj_le_e)))) (pt_Sw_takeAnswer_61 C hE   h)
def pb_Sw_takeAnswer_32  (K : pj_M → Prop) (u : pj_M) (x1 : Int32) (i3 : Nat) : Prop := pw_Sw_fits u  fun r2 u1 => (((r2 = 0) → (pb_Sw_takeAnswer_61  K u1 )) ∧ (¬ (r2 = 0) → (pb_Sw_takeAnswer_39  K u1 x1 i3)))
set_option maxHeartbeats 1000000 in
theorem pt_Sw_takeAnswer_32 {g : pj_G} {b : Nat} (C : pj_X g c_Sw_takeAnswer 4 R_Sw none rm_Sw_takeAnswer) {K : pj_M → Prop} (hE : pj_E g b (pj_Kv K))   {u : pj_M} {x1 : Int32} {i3 : Nat}  (t3 : pj_T i3 = 9) (h : pb_Sw_takeAnswer_32  K u x1 i3) : pj_J g (pj_N g b u) 32 [some (.ref (b + 170)), some (.int x1), none, some (.ref (b + i3))] [] := by
  unfold pb_Sw_takeAnswer_32 at h
  refine pj_aload_n C d_Sw_takeAnswer_32 (pc' := 33) (i := 0) (x := b + 170) rfl rfl rfl ?_
  refine ck_Switch_201_Switch C  h d_Sw_takeAnswer_33 (pc' := 36) rfl ⟨Nat.le_of_ble_eq_true rfl, Nat.le_of_ble_eq_true rfl⟩ (Nat.le_of_ble_eq_true rfl) (fun r2 u1 h => ?_)
  refine pj_if_eq C d_Sw_takeAnswer_36 (pc' := 39) rfl (tgt := 61) (by decide) h (fun h => ?_) (fun h => ?_)
  · exact pj_cut (pj_le_s (pj_le_n (pj_le_n (pj_le_n pj_le_e)))) (pt_Sw_takeAnswer_61 C hE   h)
  · exact pj_cut (pj_le_s (pj_le_s (pj_le_n (pj_le_s pj_le_e)))) (pt_Sw_takeAnswer_39 C hE  t3 h)
def pb_Sw_takeAnswer_27  (K : pj_M → Prop) (u : pj_M) (x1 : Int32) (os0 : Option Nat) : Prop := (os0 = none → (pb_Sw_takeAnswer_61  K u )) ∧ (∀ i101, os0 = some i101 → pj_T i101 = 9 ∧ (pb_Sw_takeAnswer_32  K u x1 i101))
set_option maxHeartbeats 1000000 in
theorem pt_Sw_takeAnswer_27 {g : pj_G} {b : Nat} (C : pj_X g c_Sw_takeAnswer 4 R_Sw none rm_Sw_takeAnswer) {K : pj_M → Prop} (hE : pj_E g b (pj_Kv K))   {u : pj_M} {x1 : Int32} {os0 : Option Nat}   (h : pb_Sw_takeAnswer_27  K u x1 os0) : pj_J g (pj_N g b u) 27 [some (.ref (b + 170)), some (.int x1), none, none] [va_rf (os0.map (b + ·))] := by
  unfold pb_Sw_takeAnswer_27 at h
  refine pj_astore_nO C d_Sw_takeAnswer_27 (pc' := 28) (i := 3) (vs' := [some (.ref (b + 170)), some (.int x1), none, some (va_rf (os0.map (b + ·)))]) rfl rfl (Nat.le_of_ble_eq_true rfl) (Nat.le_of_ble_eq_true rfl) rfl rfl ?_
  refine pj_aload_nO C d_Sw_takeAnswer_28 (pc' := 29) (i := 3) (o := os0) rfl rfl rfl ?_
  rcases os0 with _ | i101
  · have h := h.1 rfl
    refine pj_ifnullN C d_Sw_takeAnswer_29 (tgt := 61) (by decide) ?_
    exact pj_cut (pj_le_s (pj_le_n (pj_le_n (pj_le_n pj_le_e)))) (pt_Sw_takeAnswer_61 C hE   h)
  · obtain ⟨ti101, h⟩ := h.2 i101 rfl
    refine pj_ifnull C d_Sw_takeAnswer_29 (pc' := 32) rfl ?_
    exact pj_cut (pj_le_s (pj_le_s (pj_le_n (pj_le_s pj_le_e)))) (pt_Sw_takeAnswer_32 C hE  ti101 h)
def pb_Sw_takeAnswer_26  (K : pj_M → Prop) (u : pj_M) (x1 : Int32) : Prop := pb_Sw_takeAnswer_27  K u x1 none
set_option maxHeartbeats 1000000 in
theorem pt_Sw_takeAnswer_26 {g : pj_G} {b : Nat} (C : pj_X g c_Sw_takeAnswer 4 R_Sw none rm_Sw_takeAnswer) {K : pj_M → Prop} (hE : pj_E g b (pj_Kv K))   {u : pj_M} {x1 : Int32}   (h : pb_Sw_takeAnswer_26  K u x1) : pj_J g (pj_N g b u) 26 [some (.ref (b + 170)), some (.int x1), none, none] [] := by
  unfold pb_Sw_takeAnswer_26 at h
  refine pj_null C d_Sw_takeAnswer_26 (pc' := 27) rfl ?_
  exact pj_cut (pj_le_s (pj_le_s (pj_le_n (pj_le_n pj_le_e)))) (pt_Sw_takeAnswer_27 C hE   h)
def pb_Sw_takeAnswer_11  (K : pj_M → Prop) (u : pj_M) (x1 : Int32) : Prop := pw_Da_id u 175 fun r2 u1 => (pw_Sw_portAwaiting u1 x1 r2 fun o104 u3 => (pb_Sw_takeAnswer_27  K u3 x1 o104))
set_option maxHeartbeats 1000000 in
theorem pt_Sw_takeAnswer_11 {g : pj_G} {b : Nat} (C : pj_X g c_Sw_takeAnswer 4 R_Sw none rm_Sw_takeAnswer) {K : pj_M → Prop} (hE : pj_E g b (pj_Kv K))   {u : pj_M} {x1 : Int32}   (h : pb_Sw_takeAnswer_11  K u x1) : pj_J g (pj_N g b u) 11 [some (.ref (b + 170)), some (.int x1), none, none] [] := by
  unfold pb_Sw_takeAnswer_11 at h
  refine pj_aload_n C d_Sw_takeAnswer_11 (pc' := 12) (i := 0) (x := b + 170) rfl rfl rfl ?_
  refine pj_iload_n C d_Sw_takeAnswer_12 (pc' := 13) (i := 1) (x := x1) rfl rfl rfl ?_
  refine pj_aload_n C d_Sw_takeAnswer_13 (pc' := 14) (i := 0) (x := b + 170) rfl rfl rfl ?_
  refine fg_Switch_31_Switch C tk_170 d_Sw_takeAnswer_14 (pc' := 17) rfl ?_
  refine ck_Switch_196_Datagram C tk_175 h d_Sw_takeAnswer_17 (pc' := 20) rfl ⟨Nat.le_of_ble_eq_true rfl, Nat.le_of_ble_eq_true rfl⟩ (Nat.le_of_ble_eq_true rfl) (fun r2 u1 h => ?_)
  refine ck_Switch_197_Switch C  h d_Sw_takeAnswer_20 (pc' := 23) rfl ⟨Nat.le_of_ble_eq_true rfl, Nat.le_of_ble_eq_true rfl⟩ (Nat.le_of_ble_eq_true rfl) (fun o104 u3 h => ?_)
  refine pj_goto C d_Sw_takeAnswer_23 (tgt := 27) (by decide) ?_
  exact pj_cut (pj_le_s (pj_le_s (pj_le_n (pj_le_n pj_le_e)))) (pt_Sw_takeAnswer_27 C hE   h)
def pb_Sw_takeAnswer_0  (K : pj_M → Prop) (u : pj_M) (x1 : Int32) (i2 : Nat) : Prop := pw_Da_read u 175 i2 fun r2 u1 => (((r2 = 0) → (pb_Sw_takeAnswer_26  K u1 x1)) ∧ (¬ (r2 = 0) → (pb_Sw_takeAnswer_11  K u1 x1)))
set_option maxHeartbeats 1000000 in
theorem pt_Sw_takeAnswer_0 {g : pj_G} {b : Nat} (C : pj_X g c_Sw_takeAnswer 4 R_Sw none rm_Sw_takeAnswer) {K : pj_M → Prop} (hE : pj_E g b (pj_Kv K))   {u : pj_M} {x1 : Int32} {i2 : Nat}  (t2 : pj_R i2) (h : pb_Sw_takeAnswer_0  K u x1 i2) : pj_J g (pj_N g b u) 0 [some (.ref (b + 170)), some (.int x1), some (.ref (b + i2)), none] [] := by
  unfold pb_Sw_takeAnswer_0 at h
  refine pj_aload_n C d_Sw_takeAnswer_0 (pc' := 1) (i := 0) (x := b + 170) rfl rfl rfl ?_
  refine fg_Switch_31_Switch C tk_170 d_Sw_takeAnswer_1 (pc' := 4) rfl ?_
  refine pj_aload_n C d_Sw_takeAnswer_4 (pc' := 5) (i := 2) (x := b + i2) rfl rfl rfl ?_
  refine ck_Switch_192_Datagram C tk_175 t2 h d_Sw_takeAnswer_5 (pc' := 8) rfl ⟨Nat.le_of_ble_eq_true rfl, Nat.le_of_ble_eq_true rfl⟩ (Nat.le_of_ble_eq_true rfl) (fun r2 u1 h => ?_)
  refine pj_if_eq C d_Sw_takeAnswer_8 (pc' := 11) rfl (tgt := 26) (by decide) h (fun h => ?_) (fun h => ?_)
  · exact pj_cut (pj_le_s (pj_le_s (pj_le_n (pj_le_n pj_le_e)))) (pt_Sw_takeAnswer_26 C hE   h)
  · exact pj_cut (pj_le_s (pj_le_s (pj_le_n (pj_le_n pj_le_e)))) (pt_Sw_takeAnswer_11 C hE   h)
def pw_Sw_takeAnswer (u : pj_M) (x1 : Int32) (i2 : Nat) (K : pj_M → Prop) : Prop := pb_Sw_takeAnswer_0  K u x1 i2
theorem pc_Sw_takeAnswer (l : Launch) (D : va_G) (E : Nat → ClassId) {b : Nat} {u : pj_M} {x1 : Int32} {i2 : Nat} {K : pj_M → Prop} (t2 : pj_R i2) (h : pw_Sw_takeAnswer u x1 i2 K) : pj_C l y_Sw_takeAnswer c_Sw_takeAnswer 4 none rm_Sw_takeAnswer D E b [.ref (b + 170), .int x1, .ref (b + i2)] u (pj_Kv K) := by
  refine pj_met (own := R_Sw) (by decide +kernel) rfl (Nat.le_of_ble_eq_true rfl) (fun g hE C => ?_)
  unfold pw_Sw_takeAnswer at h
  show pj_J g (pj_N g b u) 0 [some (.ref (b + 170)), some (.int x1), some (.ref (b + i2)), none] []
  exact pj_cut (pj_le_s (pj_le_s (pj_le_s (pj_le_n pj_le_e)))) (pt_Sw_takeAnswer_0 C hE  t2 h)
/-! Switch.resend(LPortGuard$Port;)V -/
theorem fg_Switch_237_Port {g : pj_G} {b : Nat} {cc : ByteArray} {nL : Nat} {ret : Option FieldType} {rm : Room} {u : pj_M} {pc pc' : Nat} {vs : List (Option Value)} {st : List Value} (C : pj_X g cc nL R_Sw ret rm) {i : Nat} (t : pj_T i = 9) (hdg : decode cc pc = .ok (.getfield 237, 3)) (hp : pc + 3 = pc') (kk : pj_J g (pj_N g b u) pc' vs (.int (u i 9) :: st)) : pj_J g (pj_N g b u) pc vs (.ref (b + i) :: st) :=
  pj_get C cl_Port hin_Port (k := 9) (Nat.le_of_ble_eq_true rfl) wm_432 (Or.inl rfl) (pj_lt t (by decide)) (fun E => ko_9 t) rfl hdg hp kk
theorem fp_Switch_237_Port {g : pj_G} {b : Nat} {cc : ByteArray} {nL : Nat} {ret : Option FieldType} {rm : Room} {u : pj_M} {pc pc' : Nat} {vs : List (Option Value)} {st : List Value} (C : pj_X g cc nL R_Sw ret rm) {i : Nat} {x : Int32} {P : pj_M → Prop} (t : pj_T i = 9)  (hdg : decode cc pc = .ok (.putfield 237, 3)) (hp : pc + 3 = pc') (h : pj_put u i 9 x P) (kk : ∀ u', P u' → pj_J g (pj_N g b u') pc' vs st) : pj_J g (pj_N g b u) pc vs (.int x :: .ref (b + i) :: st) :=
  pj_putI C cl_Port hin_Port ty_Port tyok_Port nm_Port (k := 9) (Nat.le_of_ble_eq_true rfl) wm_432 (Or.inl rfl) rfl (ty := .int) (by decide +kernel) rfl rfl (pj_lt t (by decide)) (fun E u => ko_9 t) (F := fun f => [.int (f 0), .ref (b + (i + 1)), .ref (b + (i + 3)), .ref (b + (i + 5)), .int (f 4), .int (f 5), .int (f 6), .int (f 7), .int (f 8), .int (f 9), .int (f 10), .int (f 11), .int (f 12), .int (f 13), .int (f 14), .int (f 15), .int (f 16), .int (f 17)]) (fun _ => Nat.le_of_ble_eq_true rfl) (fun _ _ => rfl) hdg hp h kk
def rm_Sw_resend : Room := { frames := 4, cells := 0, slots := 0, locals := 91 }
def pb_Sw_resend_46  (K : pj_M → Prop) (u : pj_M) (i1 : Nat) : Prop := pw_Sw_begin u i1 fun u1 => (K u1)
set_option maxHeartbeats 1000000 in
theorem pt_Sw_resend_46 {g : pj_G} {b : Nat} (C : pj_X g c_Sw_resend 2 R_Sw none rm_Sw_resend) {K : pj_M → Prop} (hE : pj_E g b (pj_Kv K))   {u : pj_M} {i1 : Nat}  (t1 : pj_T i1 = 9) (h : pb_Sw_resend_46  K u i1) : pj_J g (pj_N g b u) 46 [some (.ref (b + 170)), some (.ref (b + i1))] [] := by
  unfold pb_Sw_resend_46 at h
  refine pj_aload_n C d_Sw_resend_46 (pc' := 47) (i := 0) (x := b + 170) rfl rfl rfl ?_
  refine pj_aload_n C d_Sw_resend_47 (pc' := 48) (i := 1) (x := b + i1) rfl rfl rfl ?_
  refine ck_Switch_59_Switch C t1 h d_Sw_resend_48 (pc' := 51) rfl ⟨Nat.le_of_ble_eq_true rfl, Nat.le_of_ble_eq_true rfl⟩ (Nat.le_of_ble_eq_true rfl) (fun u1 h => ?_)
  exact pj_vret C hE d_Sw_resend_51 ⟨rfl, h⟩
def pb_Sw_resend_41  (K : pj_M → Prop) (u : pj_M) (i1 : Nat) : Prop := pw_Sw_close u i1 fun u1 => (pb_Sw_resend_46  K u1 i1)
set_option maxHeartbeats 1000000 in
theorem pt_Sw_resend_41 {g : pj_G} {b : Nat} (C : pj_X g c_Sw_resend 2 R_Sw none rm_Sw_resend) {K : pj_M → Prop} (hE : pj_E g b (pj_Kv K))   {u : pj_M} {i1 : Nat}  (t1 : pj_T i1 = 9) (h : pb_Sw_resend_41  K u i1) : pj_J g (pj_N g b u) 41 [some (.ref (b + 170)), some (.ref (b + i1))] [] := by
  unfold pb_Sw_resend_41 at h
  refine pj_aload_n C d_Sw_resend_41 (pc' := 42) (i := 0) (x := b + 170) rfl rfl rfl ?_
  refine pj_aload_n C d_Sw_resend_42 (pc' := 43) (i := 1) (x := b + i1) rfl rfl rfl ?_
  refine ck_Switch_63_Switch C t1 h d_Sw_resend_43 (pc' := 46) rfl ⟨Nat.le_of_ble_eq_true rfl, Nat.le_of_ble_eq_true rfl⟩ (Nat.le_of_ble_eq_true rfl) (fun u1 h => ?_)
  exact pj_cut (pj_le_s (pj_le_s pj_le_e)) (pt_Sw_resend_46 C hE  t1 h)
def pb_Sw_resend_33  (K : pj_M → Prop) (u : pj_M) (i1 : Nat) : Prop := (((u i1 5) = 2) → (pb_Sw_resend_41  K u i1)) ∧ (¬ ((u i1 5) = 2) → (pb_Sw_resend_46  K u i1))
set_option maxHeartbeats 1000000 in
theorem pt_Sw_resend_33 {g : pj_G} {b : Nat} (C : pj_X g c_Sw_resend 2 R_Sw none rm_Sw_resend) {K : pj_M → Prop} (hE : pj_E g b (pj_Kv K))   {u : pj_M} {i1 : Nat}  (t1 : pj_T i1 = 9) (h : pb_Sw_resend_33  K u i1) : pj_J g (pj_N g b u) 33 [some (.ref (b + 170)), some (.ref (b + i1))] [] := by
  unfold pb_Sw_resend_33 at h
  refine pj_aload_n C d_Sw_resend_33 (pc' := 34) (i := 1) (x := b + i1) rfl rfl rfl ?_
  refine fg_Switch_66_Port C t1 d_Sw_resend_34 (pc' := 37) rfl ?_
  refine pj_iconst C d_Sw_resend_37 (pc' := 38) rfl (v := 2) (by decide) ?_
  refine pj_icmp_ne C d_Sw_resend_38 (pc' := 41) rfl (tgt := 46) (by decide) h (fun h => ?_) (fun h => ?_)
  · exact pj_cut (pj_le_s (pj_le_s pj_le_e)) (pt_Sw_resend_46 C hE  t1 h)
  · exact pj_cut (pj_le_s (pj_le_s pj_le_e)) (pt_Sw_resend_41 C hE  t1 h)
def pb_Sw_resend_8  (K : pj_M → Prop) (u : pj_M) (i1 : Nat) : Prop := pw_Sw_sendToHost u i1 (i1 + 1) fun u1 => (pj_put u1 i1 7 0 fun u2 => (pj_put u2 i1 9 ((u2 i1 9) + 1) fun u3 => (K u3)))
set_option maxHeartbeats 1000000 in
theorem pt_Sw_resend_8 {g : pj_G} {b : Nat} (C : pj_X g c_Sw_resend 2 R_Sw none rm_Sw_resend) {K : pj_M → Prop} (hE : pj_E g b (pj_Kv K))   {u : pj_M} {i1 : Nat}  (t1 : pj_T i1 = 9) (h : pb_Sw_resend_8  K u i1) : pj_J g (pj_N g b u) 8 [some (.ref (b + 170)), some (.ref (b + i1))] [] := by
  unfold pb_Sw_resend_8 at h
  refine pj_aload_n C d_Sw_resend_8 (pc' := 9) (i := 0) (x := b + 170) rfl rfl rfl ?_
  refine pj_aload_n C d_Sw_resend_9 (pc' := 10) (i := 1) (x := b + i1) rfl rfl rfl ?_
  refine pj_aload_n C d_Sw_resend_10 (pc' := 11) (i := 1) (x := b + i1) rfl rfl rfl ?_
  refine fg_Switch_78_Port C t1 d_Sw_resend_11 (pc' := 14) rfl ?_
  refine ck_Switch_91_Switch C t1 (pl_Port_last t1) h d_Sw_resend_14 (pc' := 17) rfl ⟨Nat.le_of_ble_eq_true rfl, Nat.le_of_ble_eq_true rfl⟩ (Nat.le_of_ble_eq_true rfl) (fun u1 h => ?_)
  refine pj_aload_n C d_Sw_resend_17 (pc' := 18) (i := 1) (x := b + i1) rfl rfl rfl ?_
  refine pj_iconst C d_Sw_resend_18 (pc' := 19) rfl (v := 0) (by decide) ?_
  refine fp_Switch_114_Port C t1  d_Sw_resend_19 (pc' := 22) rfl h (fun u2 h => ?_)
  refine pj_aload_n C d_Sw_resend_22 (pc' := 23) (i := 1) (x := b + i1) rfl rfl rfl ?_
  refine pj_dup C d_Sw_resend_23 (pc' := 24) rfl rfl ?_
  refine fg_Switch_237_Port C t1 d_Sw_resend_24 (pc' := 27) rfl ?_
  refine pj_iconst C d_Sw_resend_27 (pc' := 28) rfl (v := 1) (by decide) ?_
  refine pj_iadd C d_Sw_resend_28 (pc' := 29) rfl ?_
  refine fp_Switch_237_Port C t1  d_Sw_resend_29 (pc' := 32) rfl h (fun u3 h => ?_)
  exact pj_vret C hE d_Sw_resend_32 ⟨rfl, h⟩
def pb_Sw_resend_0  (K : pj_M → Prop) (u : pj_M) (i1 : Nat) : Prop := ((2 ≤ (u i1 9)) → (pb_Sw_resend_33  K u i1)) ∧ (¬ (2 ≤ (u i1 9)) → (pb_Sw_resend_8  K u i1))
set_option maxHeartbeats 1000000 in
theorem pt_Sw_resend_0 {g : pj_G} {b : Nat} (C : pj_X g c_Sw_resend 2 R_Sw none rm_Sw_resend) {K : pj_M → Prop} (hE : pj_E g b (pj_Kv K))   {u : pj_M} {i1 : Nat}  (t1 : pj_T i1 = 9) (h : pb_Sw_resend_0  K u i1) : pj_J g (pj_N g b u) 0 [some (.ref (b + 170)), some (.ref (b + i1))] [] := by
  unfold pb_Sw_resend_0 at h
  refine pj_aload_n C d_Sw_resend_0 (pc' := 1) (i := 1) (x := b + i1) rfl rfl rfl ?_
  refine fg_Switch_237_Port C t1 d_Sw_resend_1 (pc' := 4) rfl ?_
  refine pj_iconst C d_Sw_resend_4 (pc' := 5) rfl (v := 2) (by decide) ?_
  refine pj_icmp_ge C d_Sw_resend_5 (pc' := 8) rfl (tgt := 33) (by decide) h (fun h => ?_) (fun h => ?_)
  · exact pj_cut (pj_le_s (pj_le_s pj_le_e)) (pt_Sw_resend_33 C hE  t1 h)
  · exact pj_cut (pj_le_s (pj_le_s pj_le_e)) (pt_Sw_resend_8 C hE  t1 h)
def pw_Sw_resend (u : pj_M) (i1 : Nat) (K : pj_M → Prop) : Prop := pb_Sw_resend_0  K u i1
theorem pc_Sw_resend (l : Launch) (D : va_G) (E : Nat → ClassId) {b : Nat} {u : pj_M} {i1 : Nat} {K : pj_M → Prop} (t1 : pj_T i1 = 9) (h : pw_Sw_resend u i1 K) : pj_C l y_Sw_resend c_Sw_resend 2 none rm_Sw_resend D E b [.ref (b + 170), .ref (b + i1)] u (pj_Kv K) := by
  refine pj_met (own := R_Sw) (by decide +kernel) rfl (Nat.le_of_ble_eq_true rfl) (fun g hE C => ?_)
  unfold pw_Sw_resend at h
  show pj_J g (pj_N g b u) 0 [some (.ref (b + 170)), some (.ref (b + i1))] []
  exact pj_cut (pj_le_s (pj_le_s pj_le_e)) (pt_Sw_resend_0 C hE  t1 h)
/-! Switch.retry(LPortGuard$Port;)V -/
theorem fg_Switch_182_Port {g : pj_G} {b : Nat} {cc : ByteArray} {nL : Nat} {ret : Option FieldType} {rm : Room} {u : pj_M} {pc pc' : Nat} {vs : List (Option Value)} {st : List Value} (C : pj_X g cc nL R_Sw ret rm) {i : Nat} (t : pj_T i = 9) (hdg : decode cc pc = .ok (.getfield 182, 3)) (hp : pc + 3 = pc') (kk : pj_J g (pj_N g b u) pc' vs (.int (u i 14) :: st)) : pj_J g (pj_N g b u) pc vs (.ref (b + i) :: st) :=
  pj_get C cl_Port hin_Port (k := 14) (Nat.le_of_ble_eq_true rfl) wm_441 (Or.inl rfl) (pj_lt t (by decide)) (fun E => ko_9 t) rfl hdg hp kk
theorem ck_Switch_240_Packet {g : pj_G} {b : Nat} {cc : ByteArray} {nL : Nat} {ret : Option FieldType} {rm : Room} {u : pj_M} {pc pc' : Nat} {vs : List (Option Value)} {st : List Value} (C : pj_X g cc nL R_Sw ret rm) {i0 : Nat} {x1 : Int32} {x2 : Int32} {K : pj_M → Prop} (t0 : pj_T i0 = 4) (h : pw_Pa_make u i0 x1 x2 K) (hdg : decode cc pc = .ok (.invokevirtual 240, 3)) (hp : pc + 3 = pc') (hR : rm_Pa_make.frames + 1 ≤ rm.frames ∧ 8 + (3 + 11) + rm_Pa_make.locals ≤ rm.locals) (h8 : (st.map fun v => v.category).sum ≤ 8) (kk : ∀ u', K u' → pj_J g (pj_N g b u') pc' vs st) : pj_J g (pj_N g b u) pc vs (.int x2 :: .int x1 :: .ref (b + i0) :: st) :=
  pj_callV C (As := [.int x1, .int x2]) (fun l D E => pc_Pa_make l D E t0 h) rfl rfl cl_Packet (pj_lt t0 (by decide)) (fun E => ko_4 t0) wm_1062 wm_969 wm_970 wm_96 wm_971 (by decide +kernel) (n := 2) rfl hR rfl h8 hdg hp (fun v u' hq => by obtain ⟨rfl, hk⟩ := hq; exact kk u' hk)
def rm_Sw_retry : Room := { frames := 4, cells := 0, slots := 0, locals := 131 }
def pb_Sw_retry_92  (K : pj_M → Prop) (u : pj_M)  : Prop := K u
set_option maxHeartbeats 1000000 in
theorem pt_Sw_retry_92 {g : pj_G} {b : Nat} (C : pj_X g c_Sw_retry 2 R_Sw none rm_Sw_retry) {K : pj_M → Prop} (hE : pj_E g b (pj_Kv K))   {u : pj_M}    (h : pb_Sw_retry_92  K u ) : pj_J g (pj_N g b u) 92 [none, none] [] := by
  unfold pb_Sw_retry_92 at h
  exact pj_vret C hE d_Sw_retry_92 ⟨rfl, h⟩
def pb_Sw_retry_63  (K : pj_M → Prop) (u : pj_M) (i1 : Nat) : Prop := pw_Pa_id u (i1 + 1) fun r2 u1 => (pw_Pa_make u1 173 4 r2 fun u3 => (pw_Sw_sendToHost u3 i1 173 fun u4 => (pw_Sw_fail u4 i1 fun u5 => (pb_Sw_retry_92  K u5 ))))
set_option maxHeartbeats 1000000 in
theorem pt_Sw_retry_63 {g : pj_G} {b : Nat} (C : pj_X g c_Sw_retry 2 R_Sw none rm_Sw_retry) {K : pj_M → Prop} (hE : pj_E g b (pj_Kv K))   {u : pj_M} {i1 : Nat}  (t1 : pj_T i1 = 9) (h : pb_Sw_retry_63  K u i1) : pj_J g (pj_N g b u) 63 [some (.ref (b + 170)), some (.ref (b + i1))] [] := by
  unfold pb_Sw_retry_63 at h
  refine pj_aload_n C d_Sw_retry_63 (pc' := 64) (i := 0) (x := b + 170) rfl rfl rfl ?_
  refine fg_Switch_24_Switch C tk_170 d_Sw_retry_64 (pc' := 67) rfl ?_
  refine pj_iconst C d_Sw_retry_67 (pc' := 68) rfl (v := 4) (by decide) ?_
  refine pj_aload_n C d_Sw_retry_68 (pc' := 69) (i := 1) (x := b + i1) rfl rfl rfl ?_
  refine fg_Switch_78_Port C t1 d_Sw_retry_69 (pc' := 72) rfl ?_
  refine ck_Switch_107_Packet C (pl_Port_last t1) h d_Sw_retry_72 (pc' := 75) rfl ⟨Nat.le_of_ble_eq_true rfl, Nat.le_of_ble_eq_true rfl⟩ (Nat.le_of_ble_eq_true rfl) (fun r2 u1 h => ?_)
  refine ck_Switch_240_Packet C tk_173 h d_Sw_retry_75 (pc' := 78) rfl ⟨Nat.le_of_ble_eq_true rfl, Nat.le_of_ble_eq_true rfl⟩ (Nat.le_of_ble_eq_true rfl) (fun u3 h => ?_)
  refine pj_aload_n C d_Sw_retry_78 (pc' := 79) (i := 0) (x := b + 170) rfl rfl rfl ?_
  refine pj_aload_n C d_Sw_retry_79 (pc' := 80) (i := 1) (x := b + i1) rfl rfl rfl ?_
  refine pj_aload_n C d_Sw_retry_80 (pc' := 81) (i := 0) (x := b + 170) rfl rfl rfl ?_
  refine fg_Switch_24_Switch C tk_170 d_Sw_retry_81 (pc' := 84) rfl ?_
  refine ck_Switch_91_Switch C t1 tk_173 h d_Sw_retry_84 (pc' := 87) rfl ⟨Nat.le_of_ble_eq_true rfl, Nat.le_of_ble_eq_true rfl⟩ (Nat.le_of_ble_eq_true rfl) (fun u4 h => ?_)
  refine pj_aload_n C d_Sw_retry_87 (pc' := 88) (i := 0) (x := b + 170) rfl rfl rfl ?_
  refine pj_aload_n C d_Sw_retry_88 (pc' := 89) (i := 1) (x := b + i1) rfl rfl rfl ?_
  refine ck_Switch_219_Switch C t1 h d_Sw_retry_89 (pc' := 92) rfl ⟨Nat.le_of_ble_eq_true rfl, Nat.le_of_ble_eq_true rfl⟩ (Nat.le_of_ble_eq_true rfl) (fun u5 h => ?_)
  exact pj_cut (pj_le_n (pj_le_n pj_le_e)) (pt_Sw_retry_92 C hE   h)
def pb_Sw_retry_44  (K : pj_M → Prop) (u : pj_M) (i1 : Nat) : Prop := pj_put u i1 14 1 fun u1 => (pw_Sw_ask u1 i1 (1 - (u1 i1 13)) fun u2 => (pb_Sw_retry_92  K u2 ))
set_option maxHeartbeats 1000000 in
theorem pt_Sw_retry_44 {g : pj_G} {b : Nat} (C : pj_X g c_Sw_retry 2 R_Sw none rm_Sw_retry) {K : pj_M → Prop} (hE : pj_E g b (pj_Kv K))   {u : pj_M} {i1 : Nat}  (t1 : pj_T i1 = 9) (h : pb_Sw_retry_44  K u i1) : pj_J g (pj_N g b u) 44 [some (.ref (b + 170)), some (.ref (b + i1))] [] := by
  unfold pb_Sw_retry_44 at h
  refine pj_aload_n C d_Sw_retry_44 (pc' := 45) (i := 1) (x := b + i1) rfl rfl rfl ?_
  refine pj_iconst C d_Sw_retry_45 (pc' := 46) rfl (v := 1) (by decide) ?_
  refine fp_Switch_182_Port C t1 pj_bi1 d_Sw_retry_46 (pc' := 49) rfl h (fun u1 h => ?_)
  refine pj_aload_n C d_Sw_retry_49 (pc' := 50) (i := 0) (x := b + 170) rfl rfl rfl ?_
  refine pj_aload_n C d_Sw_retry_50 (pc' := 51) (i := 1) (x := b + i1) rfl rfl rfl ?_
  refine pj_iconst C d_Sw_retry_51 (pc' := 52) rfl (v := 1) (by decide) ?_
  refine pj_aload_n C d_Sw_retry_52 (pc' := 53) (i := 1) (x := b + i1) rfl rfl rfl ?_
  refine fg_Switch_152_Port C t1 d_Sw_retry_53 (pc' := 56) rfl ?_
  refine pj_isub C d_Sw_retry_56 (pc' := 57) rfl ?_
  refine ck_Switch_188_Switch C t1 h d_Sw_retry_57 (pc' := 60) rfl ⟨Nat.le_of_ble_eq_true rfl, Nat.le_of_ble_eq_true rfl⟩ (Nat.le_of_ble_eq_true rfl) (fun u2 h => ?_)
  refine pj_goto C d_Sw_retry_60 (tgt := 92) (by decide) ?_
  exact pj_cut (pj_le_n (pj_le_n pj_le_e)) (pt_Sw_retry_92 C hE   h)
def pb_Sw_retry_37  (K : pj_M → Prop) (u : pj_M) (i1 : Nat) : Prop := (((u i1 14) = 0) → (pb_Sw_retry_44  K u i1)) ∧ (¬ ((u i1 14) = 0) → (pb_Sw_retry_63  K u i1))
set_option maxHeartbeats 1000000 in
theorem pt_Sw_retry_37 {g : pj_G} {b : Nat} (C : pj_X g c_Sw_retry 2 R_Sw none rm_Sw_retry) {K : pj_M → Prop} (hE : pj_E g b (pj_Kv K))   {u : pj_M} {i1 : Nat}  (t1 : pj_T i1 = 9) (h : pb_Sw_retry_37  K u i1) : pj_J g (pj_N g b u) 37 [some (.ref (b + 170)), some (.ref (b + i1))] [] := by
  unfold pb_Sw_retry_37 at h
  refine pj_aload_n C d_Sw_retry_37 (pc' := 38) (i := 1) (x := b + i1) rfl rfl rfl ?_
  refine fg_Switch_182_Port C t1 d_Sw_retry_38 (pc' := 41) rfl ?_
  refine pj_if_ne C d_Sw_retry_41 (pc' := 44) rfl (tgt := 63) (by decide) h (fun h => ?_) (fun h => ?_)
  · exact pj_cut (pj_le_s (pj_le_s pj_le_e)) (pt_Sw_retry_63 C hE  t1 h)
  · exact pj_cut (pj_le_s (pj_le_s pj_le_e)) (pt_Sw_retry_44 C hE  t1 h)
def pb_Sw_retry_8  (K : pj_M → Prop) (u : pj_M) (i1 : Nat) : Prop := pw_Ma_send u 2 (u i1 13) (i1 + 5) fun u1 => (pj_put u1 i1 12 2 fun u2 => (pj_put u2 i1 7 0 fun u3 => (pb_Sw_retry_92  K u3 )))
set_option maxHeartbeats 1000000 in
theorem pt_Sw_retry_8 {g : pj_G} {b : Nat} (C : pj_X g c_Sw_retry 2 R_Sw none rm_Sw_retry) {K : pj_M → Prop} (hE : pj_E g b (pj_Kv K))   {u : pj_M} {i1 : Nat}  (t1 : pj_T i1 = 9) (h : pb_Sw_retry_8  K u i1) : pj_J g (pj_N g b u) 8 [some (.ref (b + 170)), some (.ref (b + i1))] [] := by
  unfold pb_Sw_retry_8 at h
  refine pj_aload_n C d_Sw_retry_8 (pc' := 9) (i := 0) (x := b + 170) rfl rfl rfl ?_
  refine fg_Switch_42_Switch C tk_170 d_Sw_retry_9 (pc' := 12) rfl ?_
  refine pj_iconst C d_Sw_retry_12 (pc' := 13) rfl (v := 2) (by decide) ?_
  refine pj_aload_n C d_Sw_retry_13 (pc' := 14) (i := 1) (x := b + i1) rfl rfl rfl ?_
  refine fg_Switch_152_Port C t1 d_Sw_retry_14 (pc' := 17) rfl ?_
  refine pj_aload_n C d_Sw_retry_17 (pc' := 18) (i := 1) (x := b + i1) rfl rfl rfl ?_
  refine fg_Switch_139_Port C t1 d_Sw_retry_18 (pc' := 21) rfl ?_
  refine ck_Switch_155_Mailbox C (Or.inl (pl_Port_query t1)) h d_Sw_retry_21 (pc' := 24) rfl ⟨Nat.le_of_ble_eq_true rfl, Nat.le_of_ble_eq_true rfl⟩ (Nat.le_of_ble_eq_true rfl) (fun u1 h => ?_)
  refine pj_aload_n C d_Sw_retry_24 (pc' := 25) (i := 1) (x := b + i1) rfl rfl rfl ?_
  refine pj_iconst C d_Sw_retry_25 (pc' := 26) rfl (v := 2) (by decide) ?_
  refine fp_Switch_69_Port C t1  d_Sw_retry_26 (pc' := 29) rfl h (fun u2 h => ?_)
  refine pj_aload_n C d_Sw_retry_29 (pc' := 30) (i := 1) (x := b + i1) rfl rfl rfl ?_
  refine pj_iconst C d_Sw_retry_30 (pc' := 31) rfl (v := 0) (by decide) ?_
  refine fp_Switch_114_Port C t1  d_Sw_retry_31 (pc' := 34) rfl h (fun u3 h => ?_)
  refine pj_goto C d_Sw_retry_34 (tgt := 92) (by decide) ?_
  exact pj_cut (pj_le_n (pj_le_n pj_le_e)) (pt_Sw_retry_92 C hE   h)
def pb_Sw_retry_0  (K : pj_M → Prop) (u : pj_M) (i1 : Nat) : Prop := (((u i1 12) = 1) → (pb_Sw_retry_8  K u i1)) ∧ (¬ ((u i1 12) = 1) → (pb_Sw_retry_37  K u i1))
set_option maxHeartbeats 1000000 in
theorem pt_Sw_retry_0 {g : pj_G} {b : Nat} (C : pj_X g c_Sw_retry 2 R_Sw none rm_Sw_retry) {K : pj_M → Prop} (hE : pj_E g b (pj_Kv K))   {u : pj_M} {i1 : Nat}  (t1 : pj_T i1 = 9) (h : pb_Sw_retry_0  K u i1) : pj_J g (pj_N g b u) 0 [some (.ref (b + 170)), some (.ref (b + i1))] [] := by
  unfold pb_Sw_retry_0 at h
  refine pj_aload_n C d_Sw_retry_0 (pc' := 1) (i := 1) (x := b + i1) rfl rfl rfl ?_
  refine fg_Switch_69_Port C t1 d_Sw_retry_1 (pc' := 4) rfl ?_
  refine pj_iconst C d_Sw_retry_4 (pc' := 5) rfl (v := 1) (by decide) ?_
  refine pj_icmp_ne C d_Sw_retry_5 (pc' := 8) rfl (tgt := 37) (by decide) h (fun h => ?_) (fun h => ?_)
  · exact pj_cut (pj_le_s (pj_le_s pj_le_e)) (pt_Sw_retry_37 C hE  t1 h)
  · exact pj_cut (pj_le_s (pj_le_s pj_le_e)) (pt_Sw_retry_8 C hE  t1 h)
def pw_Sw_retry (u : pj_M) (i1 : Nat) (K : pj_M → Prop) : Prop := pb_Sw_retry_0  K u i1
theorem pc_Sw_retry (l : Launch) (D : va_G) (E : Nat → ClassId) {b : Nat} {u : pj_M} {i1 : Nat} {K : pj_M → Prop} (t1 : pj_T i1 = 9) (h : pw_Sw_retry u i1 K) : pj_C l y_Sw_retry c_Sw_retry 2 none rm_Sw_retry D E b [.ref (b + 170), .ref (b + i1)] u (pj_Kv K) := by
  refine pj_met (own := R_Sw) (by decide +kernel) rfl (Nat.le_of_ble_eq_true rfl) (fun g hE C => ?_)
  unfold pw_Sw_retry at h
  show pj_J g (pj_N g b u) 0 [some (.ref (b + 170)), some (.ref (b + i1))] []
  exact pj_cut (pj_le_s (pj_le_s pj_le_e)) (pt_Sw_retry_0 C hE  t1 h)
/-! Switch.pulse(LPortGuard$Port;)V -/
theorem fg_Switch_114_Port {g : pj_G} {b : Nat} {cc : ByteArray} {nL : Nat} {ret : Option FieldType} {rm : Room} {u : pj_M} {pc pc' : Nat} {vs : List (Option Value)} {st : List Value} (C : pj_X g cc nL R_Sw ret rm) {i : Nat} (t : pj_T i = 9) (hdg : decode cc pc = .ok (.getfield 114, 3)) (hp : pc + 3 = pc') (kk : pj_J g (pj_N g b u) pc' vs (.int (u i 7) :: st)) : pj_J g (pj_N g b u) pc vs (.ref (b + i) :: st) :=
  pj_get C cl_Port hin_Port (k := 7) (Nat.le_of_ble_eq_true rfl) wm_428 (Or.inl rfl) (pj_lt t (by decide)) (fun E => ko_9 t) rfl hdg hp kk
theorem ck_Switch_231_Switch {g : pj_G} {b : Nat} {cc : ByteArray} {nL : Nat} {ret : Option FieldType} {rm : Room} {u : pj_M} {pc pc' : Nat} {vs : List (Option Value)} {st : List Value} (C : pj_X g cc nL R_Sw ret rm) {i1 : Nat} {K : pj_M → Prop} (t1 : pj_T i1 = 9) (h : pw_Sw_resend u i1 K) (hdg : decode cc pc = .ok (.invokevirtual 231, 3)) (hp : pc + 3 = pc') (hR : rm_Sw_resend.frames + 1 ≤ rm.frames ∧ 8 + (2 + 11) + rm_Sw_resend.locals ≤ rm.locals) (h8 : (st.map fun v => v.category).sum ≤ 8) (kk : ∀ u', K u' → pj_J g (pj_N g b u') pc' vs st) : pj_J g (pj_N g b u) pc vs (.ref (b + i1) :: .ref (b + 170) :: st) :=
  pj_callV C (As := [.ref (b + i1)]) (fun l D E => pc_Sw_resend l D E t1 h) rfl rfl cl_Switch (pj_lt tk_170 (by decide)) (fun E => ko_10 tk_170) wm_1054 wm_1056 wm_36 wm_100 wm_1057 (by decide +kernel) (n := 1) rfl hR rfl h8 hdg hp (fun v u' hq => by obtain ⟨rfl, hk⟩ := hq; exact kk u' hk)
theorem ck_Switch_234_Switch {g : pj_G} {b : Nat} {cc : ByteArray} {nL : Nat} {ret : Option FieldType} {rm : Room} {u : pj_M} {pc pc' : Nat} {vs : List (Option Value)} {st : List Value} (C : pj_X g cc nL R_Sw ret rm) {i1 : Nat} {K : pj_M → Prop} (t1 : pj_T i1 = 9) (h : pw_Sw_retry u i1 K) (hdg : decode cc pc = .ok (.invokevirtual 234, 3)) (hp : pc + 3 = pc') (hR : rm_Sw_retry.frames + 1 ≤ rm.frames ∧ 8 + (2 + 11) + rm_Sw_retry.locals ≤ rm.locals) (h8 : (st.map fun v => v.category).sum ≤ 8) (kk : ∀ u', K u' → pj_J g (pj_N g b u') pc' vs st) : pj_J g (pj_N g b u) pc vs (.ref (b + i1) :: .ref (b + 170) :: st) :=
  pj_callV C (As := [.ref (b + i1)]) (fun l D E => pc_Sw_retry l D E t1 h) rfl rfl cl_Switch (pj_lt tk_170 (by decide)) (fun E => ko_10 tk_170) wm_1058 wm_1060 wm_37 wm_100 wm_1061 (by decide +kernel) (n := 1) rfl hR rfl h8 hdg hp (fun v u' hq => by obtain ⟨rfl, hk⟩ := hq; exact kk u' hk)
def rm_Sw_pulse : Room := { frames := 5, cells := 0, slots := 0, locals := 152 }
def pb_Sw_pulse_111  (K : pj_M → Prop) (u : pj_M)  : Prop := K u
set_option maxHeartbeats 1000000 in
theorem pt_Sw_pulse_111 {g : pj_G} {b : Nat} (C : pj_X g c_Sw_pulse 2 R_Sw none rm_Sw_pulse) {K : pj_M → Prop} (hE : pj_E g b (pj_Kv K))   {u : pj_M}    (h : pb_Sw_pulse_111  K u ) : pj_J g (pj_N g b u) 111 [none, none] [] := by
  unfold pb_Sw_pulse_111 at h
  exact pj_vret C hE d_Sw_pulse_111 ⟨rfl, h⟩
def pb_Sw_pulse_106  (K : pj_M → Prop) (u : pj_M) (i1 : Nat) : Prop := pw_Sw_begin u i1 fun u1 => (pb_Sw_pulse_111  K u1 )
set_option maxHeartbeats 1000000 in
theorem pt_Sw_pulse_106 {g : pj_G} {b : Nat} (C : pj_X g c_Sw_pulse 2 R_Sw none rm_Sw_pulse) {K : pj_M → Prop} (hE : pj_E g b (pj_Kv K))   {u : pj_M} {i1 : Nat}  (t1 : pj_T i1 = 9) (h : pb_Sw_pulse_106  K u i1) : pj_J g (pj_N g b u) 106 [some (.ref (b + 170)), some (.ref (b + i1))] [] := by
  unfold pb_Sw_pulse_106 at h
  refine pj_aload_n C d_Sw_pulse_106 (pc' := 107) (i := 0) (x := b + 170) rfl rfl rfl ?_
  refine pj_aload_n C d_Sw_pulse_107 (pc' := 108) (i := 1) (x := b + i1) rfl rfl rfl ?_
  refine ck_Switch_59_Switch C t1 h d_Sw_pulse_108 (pc' := 111) rfl ⟨Nat.le_of_ble_eq_true rfl, Nat.le_of_ble_eq_true rfl⟩ (Nat.le_of_ble_eq_true rfl) (fun u1 h => ?_)
  exact pj_cut (pj_le_n (pj_le_n pj_le_e)) (pt_Sw_pulse_111 C hE   h)
def pb_Sw_pulse_97  (K : pj_M → Prop) (u : pj_M) (i1 : Nat) : Prop := (((u i1 7) = 6) → (pb_Sw_pulse_106  K u i1)) ∧ (¬ ((u i1 7) = 6) → (pb_Sw_pulse_111  K u ))
set_option maxHeartbeats 1000000 in
theorem pt_Sw_pulse_97 {g : pj_G} {b : Nat} (C : pj_X g c_Sw_pulse 2 R_Sw none rm_Sw_pulse) {K : pj_M → Prop} (hE : pj_E g b (pj_Kv K))   {u : pj_M} {i1 : Nat}  (t1 : pj_T i1 = 9) (h : pb_Sw_pulse_97  K u i1) : pj_J g (pj_N g b u) 97 [some (.ref (b + 170)), some (.ref (b + i1))] [] := by
  unfold pb_Sw_pulse_97 at h
  refine pj_aload_n C d_Sw_pulse_97 (pc' := 98) (i := 1) (x := b + i1) rfl rfl rfl ?_
  refine fg_Switch_114_Port C t1 d_Sw_pulse_98 (pc' := 101) rfl ?_
  refine pj_bipush C d_Sw_pulse_101 (pc' := 103) rfl (v := 6) (by decide) ?_
  refine pj_icmp_ne C d_Sw_pulse_103 (pc' := 106) rfl (tgt := 111) (by decide) h (fun h => ?_) (fun h => ?_)
  · exact pj_cut (pj_le_n (pj_le_n pj_le_e)) (pt_Sw_pulse_111 C hE   h)
  · exact pj_cut (pj_le_s (pj_le_s pj_le_e)) (pt_Sw_pulse_106 C hE  t1 h)
def pb_Sw_pulse_89  (K : pj_M → Prop) (u : pj_M) (i1 : Nat) : Prop := (((u i1 5) = 4) → (pb_Sw_pulse_97  K u i1)) ∧ (¬ ((u i1 5) = 4) → (pb_Sw_pulse_111  K u ))
set_option maxHeartbeats 1000000 in
theorem pt_Sw_pulse_89 {g : pj_G} {b : Nat} (C : pj_X g c_Sw_pulse 2 R_Sw none rm_Sw_pulse) {K : pj_M → Prop} (hE : pj_E g b (pj_Kv K))   {u : pj_M} {i1 : Nat}  (t1 : pj_T i1 = 9) (h : pb_Sw_pulse_89  K u i1) : pj_J g (pj_N g b u) 89 [some (.ref (b + 170)), some (.ref (b + i1))] [] := by
  unfold pb_Sw_pulse_89 at h
  refine pj_aload_n C d_Sw_pulse_89 (pc' := 90) (i := 1) (x := b + i1) rfl rfl rfl ?_
  refine fg_Switch_66_Port C t1 d_Sw_pulse_90 (pc' := 93) rfl ?_
  refine pj_iconst C d_Sw_pulse_93 (pc' := 94) rfl (v := 4) (by decide) ?_
  refine pj_icmp_ne C d_Sw_pulse_94 (pc' := 97) rfl (tgt := 111) (by decide) h (fun h => ?_) (fun h => ?_)
  · exact pj_cut (pj_le_n (pj_le_n pj_le_e)) (pt_Sw_pulse_111 C hE   h)
  · exact pj_cut (pj_le_s (pj_le_s pj_le_e)) (pt_Sw_pulse_97 C hE  t1 h)
def pb_Sw_pulse_81  (K : pj_M → Prop) (u : pj_M) (i1 : Nat) : Prop := pw_Sw_begin u i1 fun u1 => (pb_Sw_pulse_111  K u1 )
set_option maxHeartbeats 1000000 in
theorem pt_Sw_pulse_81 {g : pj_G} {b : Nat} (C : pj_X g c_Sw_pulse 2 R_Sw none rm_Sw_pulse) {K : pj_M → Prop} (hE : pj_E g b (pj_Kv K))   {u : pj_M} {i1 : Nat}  (t1 : pj_T i1 = 9) (h : pb_Sw_pulse_81  K u i1) : pj_J g (pj_N g b u) 81 [some (.ref (b + 170)), some (.ref (b + i1))] [] := by
  unfold pb_Sw_pulse_81 at h
  refine pj_aload_n C d_Sw_pulse_81 (pc' := 82) (i := 0) (x := b + 170) rfl rfl rfl ?_
  refine pj_aload_n C d_Sw_pulse_82 (pc' := 83) (i := 1) (x := b + i1) rfl rfl rfl ?_
  refine ck_Switch_59_Switch C t1 h d_Sw_pulse_83 (pc' := 86) rfl ⟨Nat.le_of_ble_eq_true rfl, Nat.le_of_ble_eq_true rfl⟩ (Nat.le_of_ble_eq_true rfl) (fun u1 h => ?_)
  refine pj_goto C d_Sw_pulse_86 (tgt := 111) (by decide) ?_
  exact pj_cut (pj_le_n (pj_le_n pj_le_e)) (pt_Sw_pulse_111 C hE   h)
def pb_Sw_pulse_72  (K : pj_M → Prop) (u : pj_M) (i1 : Nat) : Prop := (((u i1 7) = 30) → (pb_Sw_pulse_81  K u i1)) ∧ (¬ ((u i1 7) = 30) → (pb_Sw_pulse_89  K u i1))
set_option maxHeartbeats 1000000 in
theorem pt_Sw_pulse_72 {g : pj_G} {b : Nat} (C : pj_X g c_Sw_pulse 2 R_Sw none rm_Sw_pulse) {K : pj_M → Prop} (hE : pj_E g b (pj_Kv K))   {u : pj_M} {i1 : Nat}  (t1 : pj_T i1 = 9) (h : pb_Sw_pulse_72  K u i1) : pj_J g (pj_N g b u) 72 [some (.ref (b + 170)), some (.ref (b + i1))] [] := by
  unfold pb_Sw_pulse_72 at h
  refine pj_aload_n C d_Sw_pulse_72 (pc' := 73) (i := 1) (x := b + i1) rfl rfl rfl ?_
  refine fg_Switch_114_Port C t1 d_Sw_pulse_73 (pc' := 76) rfl ?_
  refine pj_bipush C d_Sw_pulse_76 (pc' := 78) rfl (v := 30) (by decide) ?_
  refine pj_icmp_ne C d_Sw_pulse_78 (pc' := 81) rfl (tgt := 89) (by decide) h (fun h => ?_) (fun h => ?_)
  · exact pj_cut (pj_le_s (pj_le_s pj_le_e)) (pt_Sw_pulse_89 C hE  t1 h)
  · exact pj_cut (pj_le_s (pj_le_s pj_le_e)) (pt_Sw_pulse_81 C hE  t1 h)
def pb_Sw_pulse_64  (K : pj_M → Prop) (u : pj_M) (i1 : Nat) : Prop := (((u i1 5) = 3) → (pb_Sw_pulse_72  K u i1)) ∧ (¬ ((u i1 5) = 3) → (pb_Sw_pulse_89  K u i1))
set_option maxHeartbeats 1000000 in
theorem pt_Sw_pulse_64 {g : pj_G} {b : Nat} (C : pj_X g c_Sw_pulse 2 R_Sw none rm_Sw_pulse) {K : pj_M → Prop} (hE : pj_E g b (pj_Kv K))   {u : pj_M} {i1 : Nat}  (t1 : pj_T i1 = 9) (h : pb_Sw_pulse_64  K u i1) : pj_J g (pj_N g b u) 64 [some (.ref (b + 170)), some (.ref (b + i1))] [] := by
  unfold pb_Sw_pulse_64 at h
  refine pj_aload_n C d_Sw_pulse_64 (pc' := 65) (i := 1) (x := b + i1) rfl rfl rfl ?_
  refine fg_Switch_66_Port C t1 d_Sw_pulse_65 (pc' := 68) rfl ?_
  refine pj_iconst C d_Sw_pulse_68 (pc' := 69) rfl (v := 3) (by decide) ?_
  refine pj_icmp_ne C d_Sw_pulse_69 (pc' := 72) rfl (tgt := 89) (by decide) h (fun h => ?_) (fun h => ?_)
  · exact pj_cut (pj_le_s (pj_le_s pj_le_e)) (pt_Sw_pulse_89 C hE  t1 h)
  · exact pj_cut (pj_le_s (pj_le_s pj_le_e)) (pt_Sw_pulse_72 C hE  t1 h)
def pb_Sw_pulse_56  (K : pj_M → Prop) (u : pj_M) (i1 : Nat) : Prop := pw_Sw_retry u i1 fun u1 => (pb_Sw_pulse_111  K u1 )
set_option maxHeartbeats 1000000 in
theorem pt_Sw_pulse_56 {g : pj_G} {b : Nat} (C : pj_X g c_Sw_pulse 2 R_Sw none rm_Sw_pulse) {K : pj_M → Prop} (hE : pj_E g b (pj_Kv K))   {u : pj_M} {i1 : Nat}  (t1 : pj_T i1 = 9) (h : pb_Sw_pulse_56  K u i1) : pj_J g (pj_N g b u) 56 [some (.ref (b + 170)), some (.ref (b + i1))] [] := by
  unfold pb_Sw_pulse_56 at h
  refine pj_aload_n C d_Sw_pulse_56 (pc' := 57) (i := 0) (x := b + 170) rfl rfl rfl ?_
  refine pj_aload_n C d_Sw_pulse_57 (pc' := 58) (i := 1) (x := b + i1) rfl rfl rfl ?_
  refine ck_Switch_234_Switch C t1 h d_Sw_pulse_58 (pc' := 61) rfl ⟨Nat.le_of_ble_eq_true rfl, Nat.le_of_ble_eq_true rfl⟩ (Nat.le_of_ble_eq_true rfl) (fun u1 h => ?_)
  refine pj_goto C d_Sw_pulse_61 (tgt := 111) (by decide) ?_
  exact pj_cut (pj_le_n (pj_le_n pj_le_e)) (pt_Sw_pulse_111 C hE   h)
def pb_Sw_pulse_48  (K : pj_M → Prop) (u : pj_M) (i1 : Nat) : Prop := (((u i1 7) = 4) → (pb_Sw_pulse_56  K u i1)) ∧ (¬ ((u i1 7) = 4) → (pb_Sw_pulse_111  K u ))
set_option maxHeartbeats 1000000 in
theorem pt_Sw_pulse_48 {g : pj_G} {b : Nat} (C : pj_X g c_Sw_pulse 2 R_Sw none rm_Sw_pulse) {K : pj_M → Prop} (hE : pj_E g b (pj_Kv K))   {u : pj_M} {i1 : Nat}  (t1 : pj_T i1 = 9) (h : pb_Sw_pulse_48  K u i1) : pj_J g (pj_N g b u) 48 [some (.ref (b + 170)), some (.ref (b + i1))] [] := by
  unfold pb_Sw_pulse_48 at h
  refine pj_aload_n C d_Sw_pulse_48 (pc' := 49) (i := 1) (x := b + i1) rfl rfl rfl ?_
  refine fg_Switch_114_Port C t1 d_Sw_pulse_49 (pc' := 52) rfl ?_
  refine pj_iconst C d_Sw_pulse_52 (pc' := 53) rfl (v := 4) (by decide) ?_
  refine pj_icmp_ne C d_Sw_pulse_53 (pc' := 56) rfl (tgt := 111) (by decide) h (fun h => ?_) (fun h => ?_)
  · exact pj_cut (pj_le_n (pj_le_n pj_le_e)) (pt_Sw_pulse_111 C hE   h)
  · exact pj_cut (pj_le_s (pj_le_s pj_le_e)) (pt_Sw_pulse_56 C hE  t1 h)
def pb_Sw_pulse_41  (K : pj_M → Prop) (u : pj_M) (i1 : Nat) : Prop := (((u i1 12) ≤ 0) → (pb_Sw_pulse_64  K u i1)) ∧ (¬ ((u i1 12) ≤ 0) → (pb_Sw_pulse_48  K u i1))
set_option maxHeartbeats 1000000 in
theorem pt_Sw_pulse_41 {g : pj_G} {b : Nat} (C : pj_X g c_Sw_pulse 2 R_Sw none rm_Sw_pulse) {K : pj_M → Prop} (hE : pj_E g b (pj_Kv K))   {u : pj_M} {i1 : Nat}  (t1 : pj_T i1 = 9) (h : pb_Sw_pulse_41  K u i1) : pj_J g (pj_N g b u) 41 [some (.ref (b + 170)), some (.ref (b + i1))] [] := by
  unfold pb_Sw_pulse_41 at h
  refine pj_aload_n C d_Sw_pulse_41 (pc' := 42) (i := 1) (x := b + i1) rfl rfl rfl ?_
  refine fg_Switch_69_Port C t1 d_Sw_pulse_42 (pc' := 45) rfl ?_
  refine pj_if_le C d_Sw_pulse_45 (pc' := 48) rfl (tgt := 64) (by decide) h (fun h => ?_) (fun h => ?_)
  · exact pj_cut (pj_le_s (pj_le_s pj_le_e)) (pt_Sw_pulse_64 C hE  t1 h)
  · exact pj_cut (pj_le_s (pj_le_s pj_le_e)) (pt_Sw_pulse_48 C hE  t1 h)
def pb_Sw_pulse_33  (K : pj_M → Prop) (u : pj_M) (i1 : Nat) : Prop := pw_Sw_resend u i1 fun u1 => (pb_Sw_pulse_111  K u1 )
set_option maxHeartbeats 1000000 in
theorem pt_Sw_pulse_33 {g : pj_G} {b : Nat} (C : pj_X g c_Sw_pulse 2 R_Sw none rm_Sw_pulse) {K : pj_M → Prop} (hE : pj_E g b (pj_Kv K))   {u : pj_M} {i1 : Nat}  (t1 : pj_T i1 = 9) (h : pb_Sw_pulse_33  K u i1) : pj_J g (pj_N g b u) 33 [some (.ref (b + 170)), some (.ref (b + i1))] [] := by
  unfold pb_Sw_pulse_33 at h
  refine pj_aload_n C d_Sw_pulse_33 (pc' := 34) (i := 0) (x := b + 170) rfl rfl rfl ?_
  refine pj_aload_n C d_Sw_pulse_34 (pc' := 35) (i := 1) (x := b + i1) rfl rfl rfl ?_
  refine ck_Switch_231_Switch C t1 h d_Sw_pulse_35 (pc' := 38) rfl ⟨Nat.le_of_ble_eq_true rfl, Nat.le_of_ble_eq_true rfl⟩ (Nat.le_of_ble_eq_true rfl) (fun u1 h => ?_)
  refine pj_goto C d_Sw_pulse_38 (tgt := 111) (by decide) ?_
  exact pj_cut (pj_le_n (pj_le_n pj_le_e)) (pt_Sw_pulse_111 C hE   h)
def pb_Sw_pulse_25  (K : pj_M → Prop) (u : pj_M) (i1 : Nat) : Prop := (((u i1 7) = 5) → (pb_Sw_pulse_33  K u i1)) ∧ (¬ ((u i1 7) = 5) → (pb_Sw_pulse_111  K u ))
set_option maxHeartbeats 1000000 in
theorem pt_Sw_pulse_25 {g : pj_G} {b : Nat} (C : pj_X g c_Sw_pulse 2 R_Sw none rm_Sw_pulse) {K : pj_M → Prop} (hE : pj_E g b (pj_Kv K))   {u : pj_M} {i1 : Nat}  (t1 : pj_T i1 = 9) (h : pb_Sw_pulse_25  K u i1) : pj_J g (pj_N g b u) 25 [some (.ref (b + 170)), some (.ref (b + i1))] [] := by
  unfold pb_Sw_pulse_25 at h
  refine pj_aload_n C d_Sw_pulse_25 (pc' := 26) (i := 1) (x := b + i1) rfl rfl rfl ?_
  refine fg_Switch_114_Port C t1 d_Sw_pulse_26 (pc' := 29) rfl ?_
  refine pj_iconst C d_Sw_pulse_29 (pc' := 30) rfl (v := 5) (by decide) ?_
  refine pj_icmp_ne C d_Sw_pulse_30 (pc' := 33) rfl (tgt := 111) (by decide) h (fun h => ?_) (fun h => ?_)
  · exact pj_cut (pj_le_n (pj_le_n pj_le_e)) (pt_Sw_pulse_111 C hE   h)
  · exact pj_cut (pj_le_s (pj_le_s pj_le_e)) (pt_Sw_pulse_33 C hE  t1 h)
def pb_Sw_pulse_8  (K : pj_M → Prop) (u : pj_M) (i1 : Nat) : Prop := pj_put u i1 7 ((u i1 7) + 1) fun u1 => ((((u1 i1 8) = 0) → (pb_Sw_pulse_41  K u1 i1)) ∧ (¬ ((u1 i1 8) = 0) → (pb_Sw_pulse_25  K u1 i1)))
set_option maxHeartbeats 1000000 in
theorem pt_Sw_pulse_8 {g : pj_G} {b : Nat} (C : pj_X g c_Sw_pulse 2 R_Sw none rm_Sw_pulse) {K : pj_M → Prop} (hE : pj_E g b (pj_Kv K))   {u : pj_M} {i1 : Nat}  (t1 : pj_T i1 = 9) (h : pb_Sw_pulse_8  K u i1) : pj_J g (pj_N g b u) 8 [some (.ref (b + 170)), some (.ref (b + i1))] [] := by
  unfold pb_Sw_pulse_8 at h
  refine pj_aload_n C d_Sw_pulse_8 (pc' := 9) (i := 1) (x := b + i1) rfl rfl rfl ?_
  refine pj_dup C d_Sw_pulse_9 (pc' := 10) rfl rfl ?_
  refine fg_Switch_114_Port C t1 d_Sw_pulse_10 (pc' := 13) rfl ?_
  refine pj_iconst C d_Sw_pulse_13 (pc' := 14) rfl (v := 1) (by decide) ?_
  refine pj_iadd C d_Sw_pulse_14 (pc' := 15) rfl ?_
  refine fp_Switch_114_Port C t1  d_Sw_pulse_15 (pc' := 18) rfl h (fun u1 h => ?_)
  refine pj_aload_n C d_Sw_pulse_18 (pc' := 19) (i := 1) (x := b + i1) rfl rfl rfl ?_
  refine fg_Switch_72_Port C t1 d_Sw_pulse_19 (pc' := 22) rfl ?_
  refine pj_if_eq C d_Sw_pulse_22 (pc' := 25) rfl (tgt := 41) (by decide) h (fun h => ?_) (fun h => ?_)
  · exact pj_cut (pj_le_s (pj_le_s pj_le_e)) (pt_Sw_pulse_41 C hE  t1 h)
  · exact pj_cut (pj_le_s (pj_le_s pj_le_e)) (pt_Sw_pulse_25 C hE  t1 h)
def pb_Sw_pulse_7  (K : pj_M → Prop) (u : pj_M)  : Prop := K u
set_option maxHeartbeats 1000000 in
theorem pt_Sw_pulse_7 {g : pj_G} {b : Nat} (C : pj_X g c_Sw_pulse 2 R_Sw none rm_Sw_pulse) {K : pj_M → Prop} (hE : pj_E g b (pj_Kv K))   {u : pj_M}    (h : pb_Sw_pulse_7  K u ) : pj_J g (pj_N g b u) 7 [none, none] [] := by
  unfold pb_Sw_pulse_7 at h
  exact pj_vret C hE d_Sw_pulse_7 ⟨rfl, h⟩
def pb_Sw_pulse_0  (K : pj_M → Prop) (u : pj_M) (i1 : Nat) : Prop := (((u i1 4) = 0) → (pb_Sw_pulse_7  K u )) ∧ (¬ ((u i1 4) = 0) → (pb_Sw_pulse_8  K u i1))
set_option maxHeartbeats 1000000 in
theorem pt_Sw_pulse_0 {g : pj_G} {b : Nat} (C : pj_X g c_Sw_pulse 2 R_Sw none rm_Sw_pulse) {K : pj_M → Prop} (hE : pj_E g b (pj_Kv K))   {u : pj_M} {i1 : Nat}  (t1 : pj_T i1 = 9) (h : pb_Sw_pulse_0  K u i1) : pj_J g (pj_N g b u) 0 [some (.ref (b + 170)), some (.ref (b + i1))] [] := by
  unfold pb_Sw_pulse_0 at h
  refine pj_aload_n C d_Sw_pulse_0 (pc' := 1) (i := 1) (x := b + i1) rfl rfl rfl ?_
  refine fg_Switch_55_Port C t1 d_Sw_pulse_1 (pc' := 4) rfl ?_
  refine pj_if_ne C d_Sw_pulse_4 (pc' := 7) rfl (tgt := 8) (by decide) h (fun h => ?_) (fun h => ?_)
  · exact pj_cut (pj_le_s (pj_le_s pj_le_e)) (pt_Sw_pulse_8 C hE  t1 h)
  · exact pj_cut (pj_le_n (pj_le_n pj_le_e)) (pt_Sw_pulse_7 C hE   h)
def pw_Sw_pulse (u : pj_M) (i1 : Nat) (K : pj_M → Prop) : Prop := pb_Sw_pulse_0  K u i1
theorem pc_Sw_pulse (l : Launch) (D : va_G) (E : Nat → ClassId) {b : Nat} {u : pj_M} {i1 : Nat} {K : pj_M → Prop} (t1 : pj_T i1 = 9) (h : pw_Sw_pulse u i1 K) : pj_C l y_Sw_pulse c_Sw_pulse 2 none rm_Sw_pulse D E b [.ref (b + 170), .ref (b + i1)] u (pj_Kv K) := by
  refine pj_met (own := R_Sw) (by decide +kernel) rfl (Nat.le_of_ble_eq_true rfl) (fun g hE C => ?_)
  unfold pw_Sw_pulse at h
  show pj_J g (pj_N g b u) 0 [some (.ref (b + 170)), some (.ref (b + i1))] []
  exact pj_cut (pj_le_s (pj_le_s pj_le_e)) (pt_Sw_pulse_0 C hE  t1 h)
/-! Switch.carry(LPortGuard$Port;II)I -/
theorem fg_Switch_228_Port {g : pj_G} {b : Nat} {cc : ByteArray} {nL : Nat} {ret : Option FieldType} {rm : Room} {u : pj_M} {pc pc' : Nat} {vs : List (Option Value)} {st : List Value} (C : pj_X g cc nL R_Sw ret rm) {i : Nat} (t : pj_T i = 9) (hdg : decode cc pc = .ok (.getfield 228, 3)) (hp : pc + 3 = pc') (kk : pj_J g (pj_N g b u) pc' vs (.int (u i 16) :: st)) : pj_J g (pj_N g b u) pc vs (.ref (b + i) :: st) :=
  pj_get C cl_Port hin_Port (k := 16) (Nat.le_of_ble_eq_true rfl) wm_445 (Or.inl rfl) (pj_lt t (by decide)) (fun E => ko_9 t) rfl hdg hp kk
def rm_Sw_carry : Room := { frames := 0, cells := 0, slots := 0, locals := 0 }
def pb_Sw_carry_121  (K : Int32 → pj_M → Prop) (u : pj_M) (x5 : Int32) : Prop := K x5 u
set_option maxHeartbeats 1000000 in
theorem pt_Sw_carry_121 {g : pj_G} {b : Nat} (C : pj_X g c_Sw_carry 8 R_Sw (some .int) rm_Sw_carry) {K : Int32 → pj_M → Prop} (hE : pj_E g b (pj_Ki K))   {u : pj_M} {x5 : Int32}   (h : pb_Sw_carry_121  K u x5) : pj_J g (pj_N g b u) 121 [none, none, none, none, none, some (.int x5), none, none] [] := by
  unfold pb_Sw_carry_121 at h
  refine pj_iload C d_Sw_carry_121 (pc' := 123) (i := 5) (x := x5) rfl rfl ?_
  exact pj_iret C hE d_Sw_carry_123 ⟨_, rfl, h⟩
def pb_Sw_carry_115 (R53 : pj_M → Int32 → Int32 → Prop) (K : Int32 → pj_M → Prop) (u : pj_M) (i1 : Nat) (x4 : Int32) (x5 : Int32) (x6 : Int32) : Prop := R53 u x5 (x6 + 1)
set_option maxHeartbeats 1000000 in
theorem pt_Sw_carry_115 {g : pj_G} {b : Nat} (C : pj_X g c_Sw_carry 8 R_Sw (some .int) rm_Sw_carry) {K : Int32 → pj_M → Prop} (hE : pj_E g b (pj_Ki K)) {R53 : pj_M → Int32 → Int32 → Prop}  {u : pj_M} {i1 : Nat} {x4 : Int32} {x5 : Int32} {x6 : Int32} (hR53 : ∀ (u : pj_M) (x5 : Int32) (x6 : Int32), R53 u x5 x6 → pj_J g (pj_N g b u) 53 [some (.ref (b + 170)), some (.ref (b + i1)), none, none, some (.int x4), some (.int x5), some (.int x6), none] []) (t1 : pj_T i1 = 9) (h : pb_Sw_carry_115 R53 K u i1 x4 x5 x6) : pj_J g (pj_N g b u) 115 [some (.ref (b + 170)), some (.ref (b + i1)), none, none, some (.int x4), some (.int x5), some (.int x6), none] [] := by
  unfold pb_Sw_carry_115 at h
  refine pj_iinc C d_Sw_carry_115 (pc' := 118) (x := x6) (d := 1) (vs' := [some (.ref (b + 170)), some (.ref (b + i1)), none, none, some (.int x4), some (.int x5), some (.int (x6 + 1)), none]) rfl rfl (Nat.le_of_ble_eq_true rfl) rfl (by decide) rfl ?_
  refine pj_goto C d_Sw_carry_118 (tgt := 53) (by decide) ?_
  exact pj_cut (pj_le_s (pj_le_s (pj_le_n (pj_le_n (pj_le_s (pj_le_s (pj_le_s (pj_le_n pj_le_e)))))))) (hR53 _ _ _ h)
def pb_Sw_carry_106 (R53 : pj_M → Int32 → Int32 → Prop) (K : Int32 → pj_M → Prop) (u : pj_M) (i1 : Nat) (x4 : Int32) (x5 : Int32) (x6 : Int32) : Prop := pj_let (x5 ||| (1 <<< (x6 &&& 31))) fun y1 => (pb_Sw_carry_115 R53 K u i1 x4 y1 x6)
set_option maxHeartbeats 1000000 in
theorem pt_Sw_carry_106 {g : pj_G} {b : Nat} (C : pj_X g c_Sw_carry 8 R_Sw (some .int) rm_Sw_carry) {K : Int32 → pj_M → Prop} (hE : pj_E g b (pj_Ki K)) {R53 : pj_M → Int32 → Int32 → Prop}  {u : pj_M} {i1 : Nat} {x4 : Int32} {x5 : Int32} {x6 : Int32} (hR53 : ∀ (u : pj_M) (x5 : Int32) (x6 : Int32), R53 u x5 x6 → pj_J g (pj_N g b u) 53 [some (.ref (b + 170)), some (.ref (b + i1)), none, none, some (.int x4), some (.int x5), some (.int x6), none] []) (t1 : pj_T i1 = 9) (h : pb_Sw_carry_106 R53 K u i1 x4 x5 x6) : pj_J g (pj_N g b u) 106 [some (.ref (b + 170)), some (.ref (b + i1)), none, none, some (.int x4), some (.int x5), some (.int x6), none] [] := by
  unfold pb_Sw_carry_106 at h
  refine pj_iload C d_Sw_carry_106 (pc' := 108) (i := 5) (x := x5) rfl rfl ?_
  refine pj_iconst C d_Sw_carry_108 (pc' := 109) rfl (v := 1) (by decide) ?_
  refine pj_iload C d_Sw_carry_109 (pc' := 111) (i := 6) (x := x6) rfl rfl ?_
  refine pj_ishl C d_Sw_carry_111 (pc' := 112) rfl ?_
  refine pj_ior C d_Sw_carry_112 (pc' := 113) rfl ?_
  refine pj_name h (fun y1 h => ?_)
  refine pj_istore C d_Sw_carry_113 (pc' := 115) (i := 5) (vs' := [some (.ref (b + 170)), some (.ref (b + i1)), none, none, some (.int x4), some (.int y1), some (.int x6), none]) rfl (Nat.le_of_ble_eq_true rfl) (Nat.le_of_ble_eq_true rfl) rfl rfl ?_
  exact pj_cut (pj_le_s (pj_le_s (pj_le_n (pj_le_n (pj_le_s (pj_le_s (pj_le_s (pj_le_n pj_le_e)))))))) (pt_Sw_carry_115 C hE hR53 t1 h)
def pb_Sw_carry_93 (R53 : pj_M → Int32 → Int32 → Prop) (K : Int32 → pj_M → Prop) (u : pj_M) (i1 : Nat) (x4 : Int32) (x5 : Int32) (x6 : Int32) : Prop := vp_in x6 4 ∧ ((((u (185 + 7 * x6.toNatClampNeg) 6) = 0) → (pb_Sw_carry_115 R53 K u i1 x4 x5 x6)) ∧ (¬ ((u (185 + 7 * x6.toNatClampNeg) 6) = 0) → (pb_Sw_carry_106 R53 K u i1 x4 x5 x6)))
set_option maxHeartbeats 1000000 in
theorem pt_Sw_carry_93 {g : pj_G} {b : Nat} (C : pj_X g c_Sw_carry 8 R_Sw (some .int) rm_Sw_carry) {K : Int32 → pj_M → Prop} (hE : pj_E g b (pj_Ki K)) {R53 : pj_M → Int32 → Int32 → Prop}  {u : pj_M} {i1 : Nat} {x4 : Int32} {x5 : Int32} {x6 : Int32} (hR53 : ∀ (u : pj_M) (x5 : Int32) (x6 : Int32), R53 u x5 x6 → pj_J g (pj_N g b u) 53 [some (.ref (b + 170)), some (.ref (b + i1)), none, none, some (.int x4), some (.int x5), some (.int x6), none] []) (t1 : pj_T i1 = 9) (h : pb_Sw_carry_93 R53 K u i1 x4 x5 x6) : pj_J g (pj_N g b u) 93 [some (.ref (b + 170)), some (.ref (b + i1)), none, none, some (.int x4), some (.int x5), some (.int x6), none] [] := by
  unfold pb_Sw_carry_93 at h
  refine pj_aload_n C d_Sw_carry_93 (pc' := 94) (i := 0) (x := b + 170) rfl rfl rfl ?_
  refine fg_Switch_11_Switch C tk_170 d_Sw_carry_94 (pc' := 97) rfl ?_
  refine pj_iload C d_Sw_carry_97 (pc' := 99) (i := 6) (x := x6) rfl rfl ?_
  obtain ⟨hv1, h⟩ := h
  refine pj_aldS C (pj_lt tk_171 (by decide)) (fun E u => ka_29 tk_171) (fun E => rfl) d_Sw_carry_99 (pc' := 100) rfl ⟨hv1, h⟩ (fun h => ?_)
  refine fg_Switch_111_Port C (pe_29 tk_171 hv1) d_Sw_carry_100 (pc' := 103) rfl ?_
  refine pj_if_eq C d_Sw_carry_103 (pc' := 106) rfl (tgt := 115) (by decide) h (fun h => ?_) (fun h => ?_)
  · exact pj_cut (pj_le_s (pj_le_s (pj_le_n (pj_le_n (pj_le_s (pj_le_s (pj_le_s (pj_le_n pj_le_e)))))))) (pt_Sw_carry_115 C hE hR53 t1 h)
  · exact pj_cut (pj_le_s (pj_le_s (pj_le_n (pj_le_n (pj_le_s (pj_le_s (pj_le_s (pj_le_n pj_le_e)))))))) (pt_Sw_carry_106 C hE hR53 t1 h)
def pb_Sw_carry_84 (R53 : pj_M → Int32 → Int32 → Prop) (K : Int32 → pj_M → Prop) (u : pj_M) (i1 : Nat) (x4 : Int32) (x5 : Int32) (x6 : Int32) : Prop := ((x6 = (u i1 0)) → (pb_Sw_carry_115 R53 K u i1 x4 x5 x6)) ∧ (¬ (x6 = (u i1 0)) → (pb_Sw_carry_93 R53 K u i1 x4 x5 x6))
set_option maxHeartbeats 1000000 in
theorem pt_Sw_carry_84 {g : pj_G} {b : Nat} (C : pj_X g c_Sw_carry 8 R_Sw (some .int) rm_Sw_carry) {K : Int32 → pj_M → Prop} (hE : pj_E g b (pj_Ki K)) {R53 : pj_M → Int32 → Int32 → Prop}  {u : pj_M} {i1 : Nat} {x4 : Int32} {x5 : Int32} {x6 : Int32} (hR53 : ∀ (u : pj_M) (x5 : Int32) (x6 : Int32), R53 u x5 x6 → pj_J g (pj_N g b u) 53 [some (.ref (b + 170)), some (.ref (b + i1)), none, none, some (.int x4), some (.int x5), some (.int x6), none] []) (t1 : pj_T i1 = 9) (h : pb_Sw_carry_84 R53 K u i1 x4 x5 x6) : pj_J g (pj_N g b u) 84 [some (.ref (b + 170)), some (.ref (b + i1)), none, none, some (.int x4), some (.int x5), some (.int x6), none] [] := by
  unfold pb_Sw_carry_84 at h
  refine pj_iload C d_Sw_carry_84 (pc' := 86) (i := 6) (x := x6) rfl rfl ?_
  refine pj_aload_n C d_Sw_carry_86 (pc' := 87) (i := 1) (x := b + i1) rfl rfl rfl ?_
  refine fg_Switch_98_Port C t1 d_Sw_carry_87 (pc' := 90) rfl ?_
  refine pj_icmp_eq C d_Sw_carry_90 (pc' := 93) rfl (tgt := 115) (by decide) h (fun h => ?_) (fun h => ?_)
  · exact pj_cut (pj_le_s (pj_le_s (pj_le_n (pj_le_n (pj_le_s (pj_le_s (pj_le_s (pj_le_n pj_le_e)))))))) (pt_Sw_carry_115 C hE hR53 t1 h)
  · exact pj_cut (pj_le_s (pj_le_s (pj_le_n (pj_le_n (pj_le_s (pj_le_s (pj_le_s (pj_le_n pj_le_e)))))))) (pt_Sw_carry_93 C hE hR53 t1 h)
def pb_Sw_carry_77 (R53 : pj_M → Int32 → Int32 → Prop) (K : Int32 → pj_M → Prop) (u : pj_M) (i1 : Nat) (x4 : Int32) (x5 : Int32) (x6 : Int32) (s0 : Int32) : Prop := ((s0 = 0) → (pb_Sw_carry_115 R53 K u i1 x4 x5 x6)) ∧ (¬ (s0 = 0) → (pb_Sw_carry_84 R53 K u i1 x4 x5 x6))
set_option maxHeartbeats 1000000 in
theorem pt_Sw_carry_77 {g : pj_G} {b : Nat} (C : pj_X g c_Sw_carry 8 R_Sw (some .int) rm_Sw_carry) {K : Int32 → pj_M → Prop} (hE : pj_E g b (pj_Ki K)) {R53 : pj_M → Int32 → Int32 → Prop}  {u : pj_M} {i1 : Nat} {x4 : Int32} {x5 : Int32} {x6 : Int32} {s0 : Int32} (hR53 : ∀ (u : pj_M) (x5 : Int32) (x6 : Int32), R53 u x5 x6 → pj_J g (pj_N g b u) 53 [some (.ref (b + 170)), some (.ref (b + i1)), none, none, some (.int x4), some (.int x5), some (.int x6), none] []) (t1 : pj_T i1 = 9) (h : pb_Sw_carry_77 R53 K u i1 x4 x5 x6 s0) : pj_J g (pj_N g b u) 77 [some (.ref (b + 170)), some (.ref (b + i1)), none, none, some (.int x4), some (.int x5), some (.int x6), none] [.int s0] := by
  unfold pb_Sw_carry_77 at h
  refine pj_istore C d_Sw_carry_77 (pc' := 79) (i := 7) (vs' := [some (.ref (b + 170)), some (.ref (b + i1)), none, none, some (.int x4), some (.int x5), some (.int x6), some (.int s0)]) rfl (Nat.le_of_ble_eq_true rfl) (Nat.le_of_ble_eq_true rfl) rfl rfl ?_
  refine pj_iload C d_Sw_carry_79 (pc' := 81) (i := 7) (x := s0) rfl rfl ?_
  refine pj_if_eq C d_Sw_carry_81 (pc' := 84) rfl (tgt := 115) (by decide) h (fun h => ?_) (fun h => ?_)
  · exact pj_cut (pj_le_s (pj_le_s (pj_le_n (pj_le_n (pj_le_s (pj_le_s (pj_le_s (pj_le_n pj_le_e)))))))) (pt_Sw_carry_115 C hE hR53 t1 h)
  · exact pj_cut (pj_le_s (pj_le_s (pj_le_n (pj_le_n (pj_le_s (pj_le_s (pj_le_s (pj_le_n pj_le_e)))))))) (pt_Sw_carry_84 C hE hR53 t1 h)
def pb_Sw_carry_72 (R53 : pj_M → Int32 → Int32 → Prop) (K : Int32 → pj_M → Prop) (u : pj_M) (i1 : Nat) (x4 : Int32) (x5 : Int32) (x6 : Int32) : Prop := pb_Sw_carry_77 R53 K u i1 x4 x5 x6 1
set_option maxHeartbeats 1000000 in
theorem pt_Sw_carry_72 {g : pj_G} {b : Nat} (C : pj_X g c_Sw_carry 8 R_Sw (some .int) rm_Sw_carry) {K : Int32 → pj_M → Prop} (hE : pj_E g b (pj_Ki K)) {R53 : pj_M → Int32 → Int32 → Prop}  {u : pj_M} {i1 : Nat} {x4 : Int32} {x5 : Int32} {x6 : Int32} (hR53 : ∀ (u : pj_M) (x5 : Int32) (x6 : Int32), R53 u x5 x6 → pj_J g (pj_N g b u) 53 [some (.ref (b + 170)), some (.ref (b + i1)), none, none, some (.int x4), some (.int x5), some (.int x6), none] []) (t1 : pj_T i1 = 9) (h : pb_Sw_carry_72 R53 K u i1 x4 x5 x6) : pj_J g (pj_N g b u) 72 [some (.ref (b + 170)), some (.ref (b + i1)), none, none, some (.int x4), some (.int x5), some (.int x6), none] [] := by
  unfold pb_Sw_carry_72 at h
  refine pj_iconst C d_Sw_carry_72 (pc' := 73) rfl (v := 1) (by decide) ?_
  refine pj_goto C d_Sw_carry_73 (tgt := 77) (by decide) ?_
  exact pj_cut (pj_le_s (pj_le_s (pj_le_n (pj_le_n (pj_le_s (pj_le_s (pj_le_s (pj_le_n pj_le_e)))))))) (pt_Sw_carry_77 C hE hR53 t1 h)
def pb_Sw_carry_76 (R53 : pj_M → Int32 → Int32 → Prop) (K : Int32 → pj_M → Prop) (u : pj_M) (i1 : Nat) (x4 : Int32) (x5 : Int32) (x6 : Int32) : Prop := pb_Sw_carry_77 R53 K u i1 x4 x5 x6 0
set_option maxHeartbeats 1000000 in
theorem pt_Sw_carry_76 {g : pj_G} {b : Nat} (C : pj_X g c_Sw_carry 8 R_Sw (some .int) rm_Sw_carry) {K : Int32 → pj_M → Prop} (hE : pj_E g b (pj_Ki K)) {R53 : pj_M → Int32 → Int32 → Prop}  {u : pj_M} {i1 : Nat} {x4 : Int32} {x5 : Int32} {x6 : Int32} (hR53 : ∀ (u : pj_M) (x5 : Int32) (x6 : Int32), R53 u x5 x6 → pj_J g (pj_N g b u) 53 [some (.ref (b + 170)), some (.ref (b + i1)), none, none, some (.int x4), some (.int x5), some (.int x6), none] []) (t1 : pj_T i1 = 9) (h : pb_Sw_carry_76 R53 K u i1 x4 x5 x6) : pj_J g (pj_N g b u) 76 [some (.ref (b + 170)), some (.ref (b + i1)), none, none, some (.int x4), some (.int x5), some (.int x6), none] [] := by
  unfold pb_Sw_carry_76 at h
  refine pj_iconst C d_Sw_carry_76 (pc' := 77) rfl (v := 0) (by decide) ?_
  exact pj_cut (pj_le_s (pj_le_s (pj_le_n (pj_le_n (pj_le_s (pj_le_s (pj_le_s (pj_le_n pj_le_e)))))))) (pt_Sw_carry_77 C hE hR53 t1 h)
def pb_Sw_carry_65 (R53 : pj_M → Int32 → Int32 → Prop) (K : Int32 → pj_M → Prop) (u : pj_M) (i1 : Nat) (x4 : Int32) (x5 : Int32) (x6 : Int32) : Prop := ((x4 = x6) → (pb_Sw_carry_72 R53 K u i1 x4 x5 x6)) ∧ (¬ (x4 = x6) → (pb_Sw_carry_76 R53 K u i1 x4 x5 x6))
set_option maxHeartbeats 1000000 in
theorem pt_Sw_carry_65 {g : pj_G} {b : Nat} (C : pj_X g c_Sw_carry 8 R_Sw (some .int) rm_Sw_carry) {K : Int32 → pj_M → Prop} (hE : pj_E g b (pj_Ki K)) {R53 : pj_M → Int32 → Int32 → Prop}  {u : pj_M} {i1 : Nat} {x4 : Int32} {x5 : Int32} {x6 : Int32} (hR53 : ∀ (u : pj_M) (x5 : Int32) (x6 : Int32), R53 u x5 x6 → pj_J g (pj_N g b u) 53 [some (.ref (b + 170)), some (.ref (b + i1)), none, none, some (.int x4), some (.int x5), some (.int x6), none] []) (t1 : pj_T i1 = 9) (h : pb_Sw_carry_65 R53 K u i1 x4 x5 x6) : pj_J g (pj_N g b u) 65 [some (.ref (b + 170)), some (.ref (b + i1)), none, none, some (.int x4), some (.int x5), some (.int x6), none] [] := by
  unfold pb_Sw_carry_65 at h
  refine pj_iload C d_Sw_carry_65 (pc' := 67) (i := 4) (x := x4) rfl rfl ?_
  refine pj_iload C d_Sw_carry_67 (pc' := 69) (i := 6) (x := x6) rfl rfl ?_
  refine pj_icmp_ne C d_Sw_carry_69 (pc' := 72) rfl (tgt := 76) (by decide) h (fun h => ?_) (fun h => ?_)
  · exact pj_cut (pj_le_s (pj_le_s (pj_le_n (pj_le_n (pj_le_s (pj_le_s (pj_le_s (pj_le_n pj_le_e)))))))) (pt_Sw_carry_76 C hE hR53 t1 h)
  · exact pj_cut (pj_le_s (pj_le_s (pj_le_n (pj_le_n (pj_le_s (pj_le_s (pj_le_s (pj_le_n pj_le_e)))))))) (pt_Sw_carry_72 C hE hR53 t1 h)
def pb_Sw_carry_59 (R53 : pj_M → Int32 → Int32 → Prop) (K : Int32 → pj_M → Prop) (u : pj_M) (i1 : Nat) (x4 : Int32) (x5 : Int32) (x6 : Int32) : Prop := ((x4 = ((-1))) → (pb_Sw_carry_72 R53 K u i1 x4 x5 x6)) ∧ (¬ (x4 = ((-1))) → (pb_Sw_carry_65 R53 K u i1 x4 x5 x6))
set_option maxHeartbeats 1000000 in
theorem pt_Sw_carry_59 {g : pj_G} {b : Nat} (C : pj_X g c_Sw_carry 8 R_Sw (some .int) rm_Sw_carry) {K : Int32 → pj_M → Prop} (hE : pj_E g b (pj_Ki K)) {R53 : pj_M → Int32 → Int32 → Prop}  {u : pj_M} {i1 : Nat} {x4 : Int32} {x5 : Int32} {x6 : Int32} (hR53 : ∀ (u : pj_M) (x5 : Int32) (x6 : Int32), R53 u x5 x6 → pj_J g (pj_N g b u) 53 [some (.ref (b + 170)), some (.ref (b + i1)), none, none, some (.int x4), some (.int x5), some (.int x6), none] []) (t1 : pj_T i1 = 9) (h : pb_Sw_carry_59 R53 K u i1 x4 x5 x6) : pj_J g (pj_N g b u) 59 [some (.ref (b + 170)), some (.ref (b + i1)), none, none, some (.int x4), some (.int x5), some (.int x6), none] [] := by
  unfold pb_Sw_carry_59 at h
  refine pj_iload C d_Sw_carry_59 (pc' := 61) (i := 4) (x := x4) rfl rfl ?_
  refine pj_iconst C d_Sw_carry_61 (pc' := 62) rfl (v := (-1)) (by decide) ?_
  refine pj_icmp_eq C d_Sw_carry_62 (pc' := 65) rfl (tgt := 72) (by decide) h (fun h => ?_) (fun h => ?_)
  · exact pj_cut (pj_le_s (pj_le_s (pj_le_n (pj_le_n (pj_le_s (pj_le_s (pj_le_s (pj_le_n pj_le_e)))))))) (pt_Sw_carry_72 C hE hR53 t1 h)
  · exact pj_cut (pj_le_s (pj_le_s (pj_le_n (pj_le_n (pj_le_s (pj_le_s (pj_le_s (pj_le_n pj_le_e)))))))) (pt_Sw_carry_65 C hE hR53 t1 h)
def pb_Sw_carry_53b (R53 : pj_M → Int32 → Int32 → Prop) (K : Int32 → pj_M → Prop) (u : pj_M) (i1 : Nat) (x4 : Int32) (x5 : Int32) (x6 : Int32) : Prop := ((4 ≤ x6) → (pb_Sw_carry_121  K u x5)) ∧ (¬ (4 ≤ x6) → (pb_Sw_carry_59 R53 K u i1 x4 x5 x6))
set_option maxHeartbeats 1000000 in
theorem pt_Sw_carry_53b {g : pj_G} {b : Nat} (C : pj_X g c_Sw_carry 8 R_Sw (some .int) rm_Sw_carry) {K : Int32 → pj_M → Prop} (hE : pj_E g b (pj_Ki K)) {R53 : pj_M → Int32 → Int32 → Prop}  {u : pj_M} {i1 : Nat} {x4 : Int32} {x5 : Int32} {x6 : Int32} (hR53 : ∀ (u : pj_M) (x5 : Int32) (x6 : Int32), R53 u x5 x6 → pj_J g (pj_N g b u) 53 [some (.ref (b + 170)), some (.ref (b + i1)), none, none, some (.int x4), some (.int x5), some (.int x6), none] []) (t1 : pj_T i1 = 9) (h : pb_Sw_carry_53b R53 K u i1 x4 x5 x6) : pj_J g (pj_N g b u) 53 [some (.ref (b + 170)), some (.ref (b + i1)), none, none, some (.int x4), some (.int x5), some (.int x6), none] [] := by
  unfold pb_Sw_carry_53b at h
  refine pj_iload C d_Sw_carry_53 (pc' := 55) (i := 6) (x := x6) rfl rfl ?_
  refine pj_iconst C d_Sw_carry_55 (pc' := 56) rfl (v := 4) (by decide) ?_
  refine pj_icmp_ge C d_Sw_carry_56 (pc' := 59) rfl (tgt := 121) (by decide) h (fun h => ?_) (fun h => ?_)
  · exact pj_cut (pj_le_n (pj_le_n (pj_le_n (pj_le_n (pj_le_n (pj_le_s (pj_le_n (pj_le_n pj_le_e)))))))) (pt_Sw_carry_121 C hE   h)
  · exact pj_cut (pj_le_s (pj_le_s (pj_le_n (pj_le_n (pj_le_s (pj_le_s (pj_le_s (pj_le_n pj_le_e)))))))) (pt_Sw_carry_59 C hE hR53 t1 h)
def pb_Sw_carry_53  (K : Int32 → pj_M → Prop) (i1 : Nat) (x4 : Int32) : Nat → pj_M → Int32 → Int32 → Prop
  | 0 => fun _ _ _ => False
  | n + 1 => fun u x5 x6 => pb_Sw_carry_53b (pb_Sw_carry_53  K i1 x4 n) K u i1 x4 x5 x6
theorem pt_Sw_carry_53 {g : pj_G} {b : Nat} (C : pj_X g c_Sw_carry 8 R_Sw (some .int) rm_Sw_carry) {K : Int32 → pj_M → Prop} (hE : pj_E g b (pj_Ki K))  {i1 : Nat} {x4 : Int32}  (t1 : pj_T i1 = 9) : ∀ (n : Nat) (u : pj_M) (x5 : Int32) (x6 : Int32), pb_Sw_carry_53  K i1 x4 n u x5 x6 → pj_J g (pj_N g b u) 53 [some (.ref (b + 170)), some (.ref (b + i1)), none, none, some (.int x4), some (.int x5), some (.int x6), none] [] := by
  intro n
  induction n with
  | zero => intro u x5 x6 h; exact False.elim h
  | succ n ih =>
    intro u x5 x6 h
    exact (pt_Sw_carry_53b C hE ih t1 h)
def pb_Sw_carry_45  (K : Int32 → pj_M → Prop) (u : pj_M) (i1 : Nat) (s0 : Int32) : Prop := ∃ n, pb_Sw_carry_53  K i1 s0 n u 0 0
set_option maxHeartbeats 1000000 in
theorem pt_Sw_carry_45 {g : pj_G} {b : Nat} (C : pj_X g c_Sw_carry 8 R_Sw (some .int) rm_Sw_carry) {K : Int32 → pj_M → Prop} (hE : pj_E g b (pj_Ki K))   {u : pj_M} {i1 : Nat} {s0 : Int32}  (t1 : pj_T i1 = 9) (h : pb_Sw_carry_45  K u i1 s0) : pj_J g (pj_N g b u) 45 [some (.ref (b + 170)), some (.ref (b + i1)), none, none, none, none, none, none] [.int s0] := by
  unfold pb_Sw_carry_45 at h
  refine pj_istore C d_Sw_carry_45 (pc' := 47) (i := 4) (vs' := [some (.ref (b + 170)), some (.ref (b + i1)), none, none, some (.int s0), none, none, none]) rfl (Nat.le_of_ble_eq_true rfl) (Nat.le_of_ble_eq_true rfl) rfl rfl ?_
  refine pj_iconst C d_Sw_carry_47 (pc' := 48) rfl (v := 0) (by decide) ?_
  refine pj_istore C d_Sw_carry_48 (pc' := 50) (i := 5) (vs' := [some (.ref (b + 170)), some (.ref (b + i1)), none, none, some (.int s0), some (.int 0), none, none]) rfl (Nat.le_of_ble_eq_true rfl) (Nat.le_of_ble_eq_true rfl) rfl rfl ?_
  refine pj_iconst C d_Sw_carry_50 (pc' := 51) rfl (v := 0) (by decide) ?_
  refine pj_istore C d_Sw_carry_51 (pc' := 53) (i := 6) (vs' := [some (.ref (b + 170)), some (.ref (b + i1)), none, none, some (.int s0), some (.int 0), some (.int 0), none]) rfl (Nat.le_of_ble_eq_true rfl) (Nat.le_of_ble_eq_true rfl) rfl rfl ?_
  obtain ⟨n, h⟩ := h
  exact pj_cut (pj_le_s (pj_le_s (pj_le_n (pj_le_n (pj_le_s (pj_le_s (pj_le_s (pj_le_n pj_le_e)))))))) (pt_Sw_carry_53 C hE  t1 n _ _ _ h)
def pb_Sw_carry_39  (K : Int32 → pj_M → Prop) (u : pj_M) (i1 : Nat) (x3 : Int32) : Prop := vp_in x3 8 ∧ (pb_Sw_carry_45  K u i1 (u 172 x3.toNatClampNeg))
set_option maxHeartbeats 1000000 in
theorem pt_Sw_carry_39 {g : pj_G} {b : Nat} (C : pj_X g c_Sw_carry 8 R_Sw (some .int) rm_Sw_carry) {K : Int32 → pj_M → Prop} (hE : pj_E g b (pj_Ki K))   {u : pj_M} {i1 : Nat} {x3 : Int32}  (t1 : pj_T i1 = 9) (h : pb_Sw_carry_39  K u i1 x3) : pj_J g (pj_N g b u) 39 [some (.ref (b + 170)), some (.ref (b + i1)), none, some (.int x3), none, none, none, none] [] := by
  unfold pb_Sw_carry_39 at h
  refine pj_aload_n C d_Sw_carry_39 (pc' := 40) (i := 0) (x := b + 170) rfl rfl rfl ?_
  refine fg_Switch_17_Switch C tk_170 d_Sw_carry_40 (pc' := 43) rfl ?_
  refine pj_iload_n C d_Sw_carry_43 (pc' := 44) (i := 3) (x := x3) rfl rfl rfl ?_
  refine pj_iald C (pj_lt tk_172 (by decide)) (fun E u => ka_20 tk_172) d_Sw_carry_44 (pc' := 45) rfl h (fun h => ?_)
  exact pj_cut (pj_le_s (pj_le_s (pj_le_n (pj_le_n (pj_le_n (pj_le_n (pj_le_n (pj_le_n pj_le_e)))))))) (pt_Sw_carry_45 C hE  t1 h)
def pb_Sw_carry_35  (K : Int32 → pj_M → Prop) (u : pj_M) (i1 : Nat) : Prop := pb_Sw_carry_45  K u i1 ((-1))
set_option maxHeartbeats 1000000 in
theorem pt_Sw_carry_35 {g : pj_G} {b : Nat} (C : pj_X g c_Sw_carry 8 R_Sw (some .int) rm_Sw_carry) {K : Int32 → pj_M → Prop} (hE : pj_E g b (pj_Ki K))   {u : pj_M} {i1 : Nat}  (t1 : pj_T i1 = 9) (h : pb_Sw_carry_35  K u i1) : pj_J g (pj_N g b u) 35 [some (.ref (b + 170)), some (.ref (b + i1)), none, none, none, none, none, none] [] := by
  unfold pb_Sw_carry_35 at h
  refine pj_iconst C d_Sw_carry_35 (pc' := 36) rfl (v := (-1)) (by decide) ?_
  refine pj_goto C d_Sw_carry_36 (tgt := 45) (by decide) ?_
  exact pj_cut (pj_le_s (pj_le_s (pj_le_n (pj_le_n (pj_le_n (pj_le_n (pj_le_n (pj_le_n pj_le_e)))))))) (pt_Sw_carry_45 C hE  t1 h)
def pb_Sw_carry_9  (K : Int32 → pj_M → Prop) (u : pj_M) (i1 : Nat) (x2 : Int32) (x3 : Int32) : Prop := vp_in x2 8 ∧ pj_put u 172 x2.toNatClampNeg (u i1 0) fun u1 => (pj_put u1 i1 16 ((u1 i1 16) + 1) fun u2 => (((x3 = 8) → (pb_Sw_carry_35  K u2 i1)) ∧ (¬ (x3 = 8) → (pb_Sw_carry_39  K u2 i1 x3))))
set_option maxHeartbeats 1000000 in
theorem pt_Sw_carry_9 {g : pj_G} {b : Nat} (C : pj_X g c_Sw_carry 8 R_Sw (some .int) rm_Sw_carry) {K : Int32 → pj_M → Prop} (hE : pj_E g b (pj_Ki K))   {u : pj_M} {i1 : Nat} {x2 : Int32} {x3 : Int32}  (t1 : pj_T i1 = 9) (h : pb_Sw_carry_9  K u i1 x2 x3) : pj_J g (pj_N g b u) 9 [some (.ref (b + 170)), some (.ref (b + i1)), some (.int x2), some (.int x3), none, none, none, none] [] := by
  unfold pb_Sw_carry_9 at h
  refine pj_aload_n C d_Sw_carry_9 (pc' := 10) (i := 0) (x := b + 170) rfl rfl rfl ?_
  refine fg_Switch_17_Switch C tk_170 d_Sw_carry_10 (pc' := 13) rfl ?_
  refine pj_iload_n C d_Sw_carry_13 (pc' := 14) (i := 2) (x := x2) rfl rfl rfl ?_
  refine pj_aload_n C d_Sw_carry_14 (pc' := 15) (i := 1) (x := b + i1) rfl rfl rfl ?_
  refine fg_Switch_98_Port C t1 d_Sw_carry_15 (pc' := 18) rfl ?_
  refine pj_iast C (pj_lt tk_172 (by decide)) (fun E u => ka_20 tk_172) d_Sw_carry_18 (pc' := 19) rfl h (fun u1 h => ?_)
  refine pj_aload_n C d_Sw_carry_19 (pc' := 20) (i := 1) (x := b + i1) rfl rfl rfl ?_
  refine pj_dup C d_Sw_carry_20 (pc' := 21) rfl rfl ?_
  refine fg_Switch_228_Port C t1 d_Sw_carry_21 (pc' := 24) rfl ?_
  refine pj_iconst C d_Sw_carry_24 (pc' := 25) rfl (v := 1) (by decide) ?_
  refine pj_iadd C d_Sw_carry_25 (pc' := 26) rfl ?_
  refine fp_Switch_228_Port C t1  d_Sw_carry_26 (pc' := 29) rfl h (fun u2 h => ?_)
  refine pj_iload_n C d_Sw_carry_29 (pc' := 30) (i := 3) (x := x3) rfl rfl rfl ?_
  refine pj_bipush C d_Sw_carry_30 (pc' := 32) rfl (v := 8) (by decide) ?_
  refine pj_icmp_ne C d_Sw_carry_32 (pc' := 35) rfl (tgt := 39) (by decide) h (fun h => ?_) (fun h => ?_)
  · exact pj_cut (pj_le_s (pj_le_s (pj_le_n (pj_le_s (pj_le_n (pj_le_n (pj_le_n (pj_le_n pj_le_e)))))))) (pt_Sw_carry_39 C hE  t1 h)
  · exact pj_cut (pj_le_s (pj_le_s (pj_le_n (pj_le_n (pj_le_n (pj_le_n (pj_le_n (pj_le_n pj_le_e)))))))) (pt_Sw_carry_35 C hE  t1 h)
def pb_Sw_carry_7  (K : Int32 → pj_M → Prop) (u : pj_M)  : Prop := K 0 u
set_option maxHeartbeats 1000000 in
theorem pt_Sw_carry_7 {g : pj_G} {b : Nat} (C : pj_X g c_Sw_carry 8 R_Sw (some .int) rm_Sw_carry) {K : Int32 → pj_M → Prop} (hE : pj_E g b (pj_Ki K))   {u : pj_M}    (h : pb_Sw_carry_7  K u ) : pj_J g (pj_N g b u) 7 [none, none, none, none, none, none, none, none] [] := by
  unfold pb_Sw_carry_7 at h
  refine pj_iconst C d_Sw_carry_7 (pc' := 8) rfl (v := 0) (by decide) ?_
  exact pj_iret C hE d_Sw_carry_8 ⟨_, rfl, h⟩
def pb_Sw_carry_0  (K : Int32 → pj_M → Prop) (u : pj_M) (i1 : Nat) (x2 : Int32) (x3 : Int32) : Prop := (((u i1 6) = 0) → (pb_Sw_carry_7  K u )) ∧ (¬ ((u i1 6) = 0) → (pb_Sw_carry_9  K u i1 x2 x3))
set_option maxHeartbeats 1000000 in
theorem pt_Sw_carry_0 {g : pj_G} {b : Nat} (C : pj_X g c_Sw_carry 8 R_Sw (some .int) rm_Sw_carry) {K : Int32 → pj_M → Prop} (hE : pj_E g b (pj_Ki K))   {u : pj_M} {i1 : Nat} {x2 : Int32} {x3 : Int32}  (t1 : pj_T i1 = 9) (h : pb_Sw_carry_0  K u i1 x2 x3) : pj_J g (pj_N g b u) 0 [some (.ref (b + 170)), some (.ref (b + i1)), some (.int x2), some (.int x3), none, none, none, none] [] := by
  unfold pb_Sw_carry_0 at h
  refine pj_aload_n C d_Sw_carry_0 (pc' := 1) (i := 1) (x := b + i1) rfl rfl rfl ?_
  refine fg_Switch_111_Port C t1 d_Sw_carry_1 (pc' := 4) rfl ?_
  refine pj_if_ne C d_Sw_carry_4 (pc' := 7) rfl (tgt := 9) (by decide) h (fun h => ?_) (fun h => ?_)
  · exact pj_cut (pj_le_s (pj_le_s (pj_le_s (pj_le_s (pj_le_n (pj_le_n (pj_le_n (pj_le_n pj_le_e)))))))) (pt_Sw_carry_9 C hE  t1 h)
  · exact pj_cut (pj_le_n (pj_le_n (pj_le_n (pj_le_n (pj_le_n (pj_le_n (pj_le_n (pj_le_n pj_le_e)))))))) (pt_Sw_carry_7 C hE   h)
def pw_Sw_carry (u : pj_M) (i1 : Nat) (x2 : Int32) (x3 : Int32) (K : Int32 → pj_M → Prop) : Prop := pb_Sw_carry_0  K u i1 x2 x3
theorem pc_Sw_carry (l : Launch) (D : va_G) (E : Nat → ClassId) {b : Nat} {u : pj_M} {i1 : Nat} {x2 : Int32} {x3 : Int32} {K : Int32 → pj_M → Prop} (t1 : pj_T i1 = 9) (h : pw_Sw_carry u i1 x2 x3 K) : pj_C l y_Sw_carry c_Sw_carry 8 (some .int) rm_Sw_carry D E b [.ref (b + 170), .ref (b + i1), .int x2, .int x3] u (pj_Ki K) := by
  refine pj_met (own := R_Sw) (by decide +kernel) rfl (Nat.le_of_ble_eq_true rfl) (fun g hE C => ?_)
  unfold pw_Sw_carry at h
  show pj_J g (pj_N g b u) 0 [some (.ref (b + 170)), some (.ref (b + i1)), some (.int x2), some (.int x3), none, none, none, none] []
  exact pj_cut (pj_le_s (pj_le_s (pj_le_s (pj_le_s (pj_le_n (pj_le_n (pj_le_n (pj_le_n pj_le_e)))))))) (pt_Sw_carry_0 C hE  t1 h)
