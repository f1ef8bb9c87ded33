/-! Row.clear()V -/
theorem fp_Row_15_R {g : pj_G} {b : Nat} {cc : ByteArray} {nL : Nat} {ret : Option FieldType} {rm : Room} {u : pj_M} {pc pc' : Nat} {vs : List (Option Value)} {st : List Value} (C : pj_X g cc nL R_Ro ret rm) {i : Nat} {x : Int32} {P : pj_M → Prop} (t : pj_R i)  (hdg : decode cc pc = .ok (.putfield 15, 3)) (hp : pc + 3 = pc') (h : pj_put u i 1 x P) (kk : ∀ u', P u' → pj_J g (pj_N g b u') pc' vs st) : pj_J g (pj_N g b u) pc vs (.int x :: .ref (b + i) :: st) := by
  rcases t with t | t
  · exact pj_putI C cl_Row hin_Row ty_Row tyok_Row nm_Row (k := 1) (Nat.le_of_ble_eq_true rfl) wm_150 (Or.inl rfl) rfl (ty := .int) (by decide +kernel) rfl rfl (pj_lt t (by decide)) (fun E u => ko_3 t) (F := fun f => [.ref (b + (i + 1)), .int (f 1)]) (fun _ => Nat.le_of_ble_eq_true rfl) (fun _ _ => rfl) hdg hp h kk
  · exact pj_putI C cl_Packet hin_Packet ty_Packet tyok_Packet nm_Packet (k := 1) (Nat.le_of_ble_eq_true rfl) wm_150 (Or.inl rfl) rfl (ty := .int) (by decide +kernel) rfl rfl (pj_lt t (by decide)) (fun E u => ko_4 t) (F := fun f => [.ref (b + (i + 1)), .int (f 1)]) (fun _ => Nat.le_of_ble_eq_true rfl) (fun _ _ => rfl) hdg hp h kk
def rm_Ro_clear : Room := { frames := 0, cells := 0, slots := 0, locals := 0 }
def pb_Ro_clear_0  (K : pj_M → Prop) (u : pj_M) (i0 : Nat) : Prop := pj_put u i0 1 0 fun u1 => (K u1)
set_option maxHeartbeats 1000000 in
theorem pt_Ro_clear_0 {g : pj_G} {b : Nat} (C : pj_X g c_Ro_clear 1 R_Ro none rm_Ro_clear) {K : pj_M → Prop} (hE : pj_E g b (pj_Kv K))   {u : pj_M} {i0 : Nat}  (t0 : pj_R i0) (h : pb_Ro_clear_0  K u i0) : pj_J g (pj_N g b u) 0 [some (.ref (b + i0))] [] := by
  unfold pb_Ro_clear_0 at h
  refine pj_aload_n C d_Ro_clear_0 (pc' := 1) (i := 0) (x := b + i0) rfl rfl rfl ?_
  refine pj_iconst C d_Ro_clear_1 (pc' := 2) rfl (v := 0) (by decide) ?_
  refine fp_Row_15_R C t0  d_Ro_clear_2 (pc' := 5) rfl h (fun u1 h => ?_)
  exact pj_vret C hE d_Ro_clear_5 ⟨rfl, h⟩
def pw_Ro_clear (u : pj_M) (i0 : Nat) (K : pj_M → Prop) : Prop := pb_Ro_clear_0  K u i0
theorem pc_Ro_clear (l : Launch) (D : va_G) (E : Nat → ClassId) {b : Nat} {u : pj_M} {i0 : Nat} {K : pj_M → Prop} (t0 : pj_R i0) (h : pw_Ro_clear u i0 K) : pj_C l y_Ro_clear c_Ro_clear 1 none rm_Ro_clear D E b [.ref (b + i0)] u (pj_Kv K) := by
  refine pj_met (own := R_Ro) (by decide +kernel) rfl (Nat.le_of_ble_eq_true rfl) (fun g hE C => ?_)
  unfold pw_Ro_clear at h
  show pj_J g (pj_N g b u) 0 [some (.ref (b + i0))] []
  exact pj_cut (pj_le_s pj_le_e) (pt_Ro_clear_0 C hE  t0 h)
/-! Row.put(I)V -/
theorem fg_Row_15_R {g : pj_G} {b : Nat} {cc : ByteArray} {nL : Nat} {ret : Option FieldType} {rm : Room} {u : pj_M} {pc pc' : Nat} {vs : List (Option Value)} {st : List Value} (C : pj_X g cc nL R_Ro ret rm) {i : Nat} (t : pj_R i) (hdg : decode cc pc = .ok (.getfield 15, 3)) (hp : pc + 3 = pc') (kk : pj_J g (pj_N g b u) pc' vs (.int (u i 1) :: st)) : pj_J g (pj_N g b u) pc vs (.ref (b + i) :: st) := by
  rcases t with t | t
  · exact pj_get C cl_Row hin_Row (k := 1) (Nat.le_of_ble_eq_true rfl) wm_150 (Or.inl rfl) (pj_lt t (by decide)) (fun E => ko_3 t) rfl hdg hp kk
  · exact pj_get C cl_Packet hin_Packet (k := 1) (Nat.le_of_ble_eq_true rfl) wm_150 (Or.inl rfl) (pj_lt t (by decide)) (fun E => ko_4 t) rfl hdg hp kk
theorem fg_Row_9_R {g : pj_G} {b : Nat} {cc : ByteArray} {nL : Nat} {ret : Option FieldType} {rm : Room} {u : pj_M} {pc pc' : Nat} {vs : List (Option Value)} {st : List Value} (C : pj_X g cc nL R_Ro ret rm) {i : Nat} (t : pj_R i) (hdg : decode cc pc = .ok (.getfield 9, 3)) (hp : pc + 3 = pc') (kk : pj_J g (pj_N g b u) pc' vs (.ref (b + (i + 1)) :: st)) : pj_J g (pj_N g b u) pc vs (.ref (b + i) :: st) := by
  rcases t with t | t
  · exact pj_get C cl_Row hin_Row (k := 0) (Nat.le_of_ble_eq_true rfl) wm_146 (Or.inl rfl) (pj_lt t (by decide)) (fun E => ko_3 t) rfl hdg hp kk
  · exact pj_get C cl_Packet hin_Packet (k := 0) (Nat.le_of_ble_eq_true rfl) wm_146 (Or.inl rfl) (pj_lt t (by decide)) (fun E => ko_4 t) rfl hdg hp kk
def rm_Ro_put : Room := { frames := 0, cells := 0, slots := 0, locals := 0 }
def pb_Ro_put_33  (K : pj_M → Prop) (u : pj_M)  : Prop := K u
set_option maxHeartbeats 1000000 in
theorem pt_Ro_put_33 {g : pj_G} {b : Nat} (C : pj_X g c_Ro_put 2 R_Ro none rm_Ro_put) {K : pj_M → Prop} (hE : pj_E g b (pj_Kv K))   {u : pj_M}    (h : pb_Ro_put_33  K u ) : pj_J g (pj_N g b u) 33 [none, none] [] := by
  unfold pb_Ro_put_33 at h
  exact pj_vret C hE d_Ro_put_33 ⟨rfl, h⟩
def pb_Ro_put_9  (K : pj_M → Prop) (u : pj_M) (i0 : Nat) (x1 : Int32) : Prop := vp_in (u i0 1) 48 ∧ pj_put u (i0 + 1) (u i0 1).toNatClampNeg (x1 &&& 255) fun u1 => (pj_put u1 i0 1 ((u1 i0 1) + 1) fun u2 => (pb_Ro_put_33  K u2 ))
set_option maxHeartbeats 1000000 in
theorem pt_Ro_put_9 {g : pj_G} {b : Nat} (C : pj_X g c_Ro_put 2 R_Ro none rm_Ro_put) {K : pj_M → Prop} (hE : pj_E g b (pj_Kv K))   {u : pj_M} {i0 : Nat} {x1 : Int32}  (t0 : pj_R i0) (h : pb_Ro_put_9  K u i0 x1) : pj_J g (pj_N g b u) 9 [some (.ref (b + i0)), some (.int x1)] [] := by
  unfold pb_Ro_put_9 at h
  refine pj_aload_n C d_Ro_put_9 (pc' := 10) (i := 0) (x := b + i0) rfl rfl rfl ?_
  refine fg_Row_9_R C t0 d_Ro_put_10 (pc' := 13) rfl ?_
  refine pj_aload_n C d_Ro_put_13 (pc' := 14) (i := 0) (x := b + i0) rfl rfl rfl ?_
  refine fg_Row_15_R C t0 d_Ro_put_14 (pc' := 17) rfl ?_
  refine pj_iload_n C d_Ro_put_17 (pc' := 18) (i := 1) (x := x1) rfl rfl rfl ?_
  refine pj_sipush C d_Ro_put_18 (pc' := 21) rfl (v := 255) (by decide) ?_
  refine pj_iand C d_Ro_put_21 (pc' := 22) rfl ?_
  refine pj_iast C (pj_lt (pl_R_bytes t0) (by decide)) (fun E u => ka_22 (pl_R_bytes t0)) d_Ro_put_22 (pc' := 23) rfl h (fun u1 h => ?_)
  refine pj_aload_n C d_Ro_put_23 (pc' := 24) (i := 0) (x := b + i0) rfl rfl rfl ?_
  refine pj_dup C d_Ro_put_24 (pc' := 25) rfl rfl ?_
  refine fg_Row_15_R C t0 d_Ro_put_25 (pc' := 28) rfl ?_
  refine pj_iconst C d_Ro_put_28 (pc' := 29) rfl (v := 1) (by decide) ?_
  refine pj_iadd C d_Ro_put_29 (pc' := 30) rfl ?_
  refine fp_Row_15_R C t0  d_Ro_put_30 (pc' := 33) rfl h (fun u2 h => ?_)
  exact pj_cut (pj_le_n (pj_le_n pj_le_e)) (pt_Ro_put_33 C hE   h)
def pb_Ro_put_0  (K : pj_M → Prop) (u : pj_M) (i0 : Nat) (x1 : Int32) : Prop := ((48 ≤ (u i0 1)) → (pb_Ro_put_33  K u )) ∧ (¬ (48 ≤ (u i0 1)) → (pb_Ro_put_9  K u i0 x1))
set_option maxHeartbeats 1000000 in
theorem pt_Ro_put_0 {g : pj_G} {b : Nat} (C : pj_X g c_Ro_put 2 R_Ro none rm_Ro_put) {K : pj_M → Prop} (hE : pj_E g b (pj_Kv K))   {u : pj_M} {i0 : Nat} {x1 : Int32}  (t0 : pj_R i0) (h : pb_Ro_put_0  K u i0 x1) : pj_J g (pj_N g b u) 0 [some (.ref (b + i0)), some (.int x1)] [] := by
  unfold pb_Ro_put_0 at h
  refine pj_aload_n C d_Ro_put_0 (pc' := 1) (i := 0) (x := b + i0) rfl rfl rfl ?_
  refine fg_Row_15_R C t0 d_Ro_put_1 (pc' := 4) rfl ?_
  refine pj_bipush C d_Ro_put_4 (pc' := 6) rfl (v := 48) (by decide) ?_
  refine pj_icmp_ge C d_Ro_put_6 (pc' := 9) rfl (tgt := 33) (by decide) h (fun h => ?_) (fun h => ?_)
  · exact pj_cut (pj_le_n (pj_le_n pj_le_e)) (pt_Ro_put_33 C hE   h)
  · exact pj_cut (pj_le_s (pj_le_s pj_le_e)) (pt_Ro_put_9 C hE  t0 h)
def pw_Ro_put (u : pj_M) (i0 : Nat) (x1 : Int32) (K : pj_M → Prop) : Prop := pb_Ro_put_0  K u i0 x1
theorem pc_Ro_put (l : Launch) (D : va_G) (E : Nat → ClassId) {b : Nat} {u : pj_M} {i0 : Nat} {x1 : Int32} {K : pj_M → Prop} (t0 : pj_R i0) (h : pw_Ro_put u i0 x1 K) : pj_C l y_Ro_put c_Ro_put 2 none rm_Ro_put D E b [.ref (b + i0), .int x1] u (pj_Kv K) := by
  refine pj_met (own := R_Ro) (by decide +kernel) rfl (Nat.le_of_ble_eq_true rfl) (fun g hE C => ?_)
  unfold pw_Ro_put at h
  show pj_J g (pj_N g b u) 0 [some (.ref (b + i0)), some (.int x1)] []
  exact pj_cut (pj_le_s (pj_le_s pj_le_e)) (pt_Ro_put_0 C hE  t0 h)
/-! Row.putInt(I)V -/
theorem ck_Row_19_R {g : pj_G} {b : Nat} {cc : ByteArray} {nL : Nat} {ret : Option FieldType} {rm : Room} {u : pj_M} {pc pc' : Nat} {vs : List (Option Value)} {st : List Value} (C : pj_X g cc nL R_Ro ret rm) {i0 : Nat} {x1 : Int32} {K : pj_M → Prop} (t0 : pj_R i0) (h : pw_Ro_put u i0 x1 K) (hdg : decode cc pc = .ok (.invokevirtual 19, 3)) (hp : pc + 3 = pc') (hR : rm_Ro_put.frames + 1 ≤ rm.frames ∧ 8 + (2 + 11) + rm_Ro_put.locals ≤ rm.locals) (h8 : (st.map fun v => v.category).sum ≤ 8) (kk : ∀ u', K u' → pj_J g (pj_N g b u') pc' vs st) : pj_J g (pj_N g b u) pc vs (.int x1 :: .ref (b + i0) :: st) := by
  rcases t0 with t | t
  · have t0 : pj_R i0 := Or.inl t
    exact pj_callV C (As := [.int x1]) (fun l D E => pc_Ro_put l D E t0 h) rfl rfl cl_Row (pj_lt t (by decide)) (fun E => ko_3 t) wm_771 wm_589 wm_590 wm_94 wm_593 (by decide +kernel) (n := 1) rfl hR rfl h8 hdg hp (fun v u' hq => by obtain ⟨rfl, hk⟩ := hq; exact kk u' hk)
  · have t0 : pj_R i0 := Or.inr t
    exact pj_callV C (As := [.int x1]) (fun l D E => pc_Ro_put l D E t0 h) rfl rfl cl_Packet (pj_lt t (by decide)) (fun E => ko_4 t) wm_771 wm_589 wm_592 wm_94 wm_593 (by decide +kernel) (n := 1) rfl hR rfl h8 hdg hp (fun v u' hq => by obtain ⟨rfl, hk⟩ := hq; exact kk u' hk)
def rm_Ro_putInt : Room := { frames := 1, cells := 0, slots := 0, locals := 21 }
def pb_Ro_putInt_0  (K : pj_M → Prop) (u : pj_M) (i0 : Nat) (x1 : Int32) : Prop := pw_Ro_put u i0 ((x1.toUInt32 >>> ((24 : Int32).toUInt32 &&& Int32.toUInt32 31)).toInt32) fun u1 => (pw_Ro_put u1 i0 ((x1.toUInt32 >>> ((16 : Int32).toUInt32 &&& Int32.toUInt32 31)).toInt32) fun u2 => (pw_Ro_put u2 i0 ((x1.toUInt32 >>> ((8 : Int32).toUInt32 &&& Int32.toUInt32 31)).toInt32) fun u3 => (pw_Ro_put u3 i0 x1 fun u4 => (K u4))))
set_option maxHeartbeats 1000000 in
theorem pt_Ro_putInt_0 {g : pj_G} {b : Nat} (C : pj_X g c_Ro_putInt 2 R_Ro none rm_Ro_putInt) {K : pj_M → Prop} (hE : pj_E g b (pj_Kv K))   {u : pj_M} {i0 : Nat} {x1 : Int32}  (t0 : pj_R i0) (h : pb_Ro_putInt_0  K u i0 x1) : pj_J g (pj_N g b u) 0 [some (.ref (b + i0)), some (.int x1)] [] := by
  unfold pb_Ro_putInt_0 at h
  refine pj_aload_n C d_Ro_putInt_0 (pc' := 1) (i := 0) (x := b + i0) rfl rfl rfl ?_
  refine pj_iload_n C d_Ro_putInt_1 (pc' := 2) (i := 1) (x := x1) rfl rfl rfl ?_
  refine pj_bipush C d_Ro_putInt_2 (pc' := 4) rfl (v := 24) (by decide) ?_
  refine pj_iushr C d_Ro_putInt_4 (pc' := 5) rfl ?_
  refine ck_Row_19_R C t0 h d_Ro_putInt_5 (pc' := 8) rfl ⟨Nat.le_of_ble_eq_true rfl, Nat.le_of_ble_eq_true rfl⟩ (Nat.le_of_ble_eq_true rfl) (fun u1 h => ?_)
  refine pj_aload_n C d_Ro_putInt_8 (pc' := 9) (i := 0) (x := b + i0) rfl rfl rfl ?_
  refine pj_iload_n C d_Ro_putInt_9 (pc' := 10) (i := 1) (x := x1) rfl rfl rfl ?_
  refine pj_bipush C d_Ro_putInt_10 (pc' := 12) rfl (v := 16) (by decide) ?_
  refine pj_iushr C d_Ro_putInt_12 (pc' := 13) rfl ?_
  refine ck_Row_19_R C t0 h d_Ro_putInt_13 (pc' := 16) rfl ⟨Nat.le_of_ble_eq_true rfl, Nat.le_of_ble_eq_true rfl⟩ (Nat.le_of_ble_eq_true rfl) (fun u2 h => ?_)
  refine pj_aload_n C d_Ro_putInt_16 (pc' := 17) (i := 0) (x := b + i0) rfl rfl rfl ?_
  refine pj_iload_n C d_Ro_putInt_17 (pc' := 18) (i := 1) (x := x1) rfl rfl rfl ?_
  refine pj_bipush C d_Ro_putInt_18 (pc' := 20) rfl (v := 8) (by decide) ?_
  refine pj_iushr C d_Ro_putInt_20 (pc' := 21) rfl ?_
  refine ck_Row_19_R C t0 h d_Ro_putInt_21 (pc' := 24) rfl ⟨Nat.le_of_ble_eq_true rfl, Nat.le_of_ble_eq_true rfl⟩ (Nat.le_of_ble_eq_true rfl) (fun u3 h => ?_)
  refine pj_aload_n C d_Ro_putInt_24 (pc' := 25) (i := 0) (x := b + i0) rfl rfl rfl ?_
  refine pj_iload_n C d_Ro_putInt_25 (pc' := 26) (i := 1) (x := x1) rfl rfl rfl ?_
  refine ck_Row_19_R C t0 h d_Ro_putInt_26 (pc' := 29) rfl ⟨Nat.le_of_ble_eq_true rfl, Nat.le_of_ble_eq_true rfl⟩ (Nat.le_of_ble_eq_true rfl) (fun u4 h => ?_)
  exact pj_vret C hE d_Ro_putInt_29 ⟨rfl, h⟩
def pw_Ro_putInt (u : pj_M) (i0 : Nat) (x1 : Int32) (K : pj_M → Prop) : Prop := pb_Ro_putInt_0  K u i0 x1
theorem pc_Ro_putInt (l : Launch) (D : va_G) (E : Nat → ClassId) {b : Nat} {u : pj_M} {i0 : Nat} {x1 : Int32} {K : pj_M → Prop} (t0 : pj_R i0) (h : pw_Ro_putInt u i0 x1 K) : pj_C l y_Ro_putInt c_Ro_putInt 2 none rm_Ro_putInt D E b [.ref (b + i0), .int x1] u (pj_Kv K) := by
  refine pj_met (own := R_Ro) (by decide +kernel) rfl (Nat.le_of_ble_eq_true rfl) (fun g hE C => ?_)
  unfold pw_Ro_putInt at h
  show pj_J g (pj_N g b u) 0 [some (.ref (b + i0)), some (.int x1)] []
  exact pj_cut (pj_le_s (pj_le_s pj_le_e)) (pt_Ro_putInt_0 C hE  t0 h)
/-! Row.at(I)I -/
def rm_Ro_at : Room := { frames := 0, cells := 0, slots := 0, locals := 0 }
def pb_Ro_at_22  (K : Int32 → pj_M → Prop) (u : pj_M) (s0 : Int32) : Prop := K s0 u
set_option maxHeartbeats 1000000 in
theorem pt_Ro_at_22 {g : pj_G} {b : Nat} (C : pj_X g c_Ro_at 2 R_Ro (some .int) rm_Ro_at) {K : Int32 → pj_M → Prop} (hE : pj_E g b (pj_Ki K))   {u : pj_M} {s0 : Int32}   (h : pb_Ro_at_22  K u s0) : pj_J g (pj_N g b u) 22 [none, none] [.int s0] := by
  unfold pb_Ro_at_22 at h
  exact pj_iret C hE d_Ro_at_22 ⟨_, rfl, h⟩
def pb_Ro_at_21  (K : Int32 → pj_M → Prop) (u : pj_M)  : Prop := pb_Ro_at_22  K u ((-1))
set_option maxHeartbeats 1000000 in
theorem pt_Ro_at_21 {g : pj_G} {b : Nat} (C : pj_X g c_Ro_at 2 R_Ro (some .int) rm_Ro_at) {K : Int32 → pj_M → Prop} (hE : pj_E g b (pj_Ki K))   {u : pj_M}    (h : pb_Ro_at_21  K u ) : pj_J g (pj_N g b u) 21 [none, none] [] := by
  unfold pb_Ro_at_21 at h
  refine pj_iconst C d_Ro_at_21 (pc' := 22) rfl (v := (-1)) (by decide) ?_
  exact pj_cut (pj_le_n (pj_le_n pj_le_e)) (pt_Ro_at_22 C hE   h)
def pb_Ro_at_12  (K : Int32 → pj_M → Prop) (u : pj_M) (i0 : Nat) (x1 : Int32) : Prop := vp_in x1 48 ∧ (pb_Ro_at_22  K u (u (i0 + 1) x1.toNatClampNeg))
set_option maxHeartbeats 1000000 in
theorem pt_Ro_at_12 {g : pj_G} {b : Nat} (C : pj_X g c_Ro_at 2 R_Ro (some .int) rm_Ro_at) {K : Int32 → pj_M → Prop} (hE : pj_E g b (pj_Ki K))   {u : pj_M} {i0 : Nat} {x1 : Int32}  (t0 : pj_R i0) (h : pb_Ro_at_12  K u i0 x1) : pj_J g (pj_N g b u) 12 [some (.ref (b + i0)), some (.int x1)] [] := by
  unfold pb_Ro_at_12 at h
  refine pj_aload_n C d_Ro_at_12 (pc' := 13) (i := 0) (x := b + i0) rfl rfl rfl ?_
  refine fg_Row_9_R C t0 d_Ro_at_13 (pc' := 16) rfl ?_
  refine pj_iload_n C d_Ro_at_16 (pc' := 17) (i := 1) (x := x1) rfl rfl rfl ?_
  refine pj_iald C (pj_lt (pl_R_bytes t0) (by decide)) (fun E u => ka_22 (pl_R_bytes t0)) d_Ro_at_17 (pc' := 18) rfl h (fun h => ?_)
  refine pj_goto C d_Ro_at_18 (tgt := 22) (by decide) ?_
  exact pj_cut (pj_le_n (pj_le_n pj_le_e)) (pt_Ro_at_22 C hE   h)
def pb_Ro_at_4  (K : Int32 → pj_M → Prop) (u : pj_M) (i0 : Nat) (x1 : Int32) : Prop := (((u i0 1) ≤ x1) → (pb_Ro_at_21  K u )) ∧ (¬ ((u i0 1) ≤ x1) → (pb_Ro_at_12  K u i0 x1))
set_option maxHeartbeats 1000000 in
theorem pt_Ro_at_4 {g : pj_G} {b : Nat} (C : pj_X g c_Ro_at 2 R_Ro (some .int) rm_Ro_at) {K : Int32 → pj_M → Prop} (hE : pj_E g b (pj_Ki K))   {u : pj_M} {i0 : Nat} {x1 : Int32}  (t0 : pj_R i0) (h : pb_Ro_at_4  K u i0 x1) : pj_J g (pj_N g b u) 4 [some (.ref (b + i0)), some (.int x1)] [] := by
  unfold pb_Ro_at_4 at h
  refine pj_iload_n C d_Ro_at_4 (pc' := 5) (i := 1) (x := x1) rfl rfl rfl ?_
  refine pj_aload_n C d_Ro_at_5 (pc' := 6) (i := 0) (x := b + i0) rfl rfl rfl ?_
  refine fg_Row_15_R C t0 d_Ro_at_6 (pc' := 9) rfl ?_
  refine pj_icmp_ge C d_Ro_at_9 (pc' := 12) rfl (tgt := 21) (by decide) h (fun h => ?_) (fun h => ?_)
  · exact pj_cut (pj_le_n (pj_le_n pj_le_e)) (pt_Ro_at_21 C hE   h)
  · exact pj_cut (pj_le_s (pj_le_s pj_le_e)) (pt_Ro_at_12 C hE  t0 h)
def pb_Ro_at_0  (K : Int32 → pj_M → Prop) (u : pj_M) (i0 : Nat) (x1 : Int32) : Prop := ((x1 < 0) → (pb_Ro_at_21  K u )) ∧ (¬ (x1 < 0) → (pb_Ro_at_4  K u i0 x1))
set_option maxHeartbeats 1000000 in
theorem pt_Ro_at_0 {g : pj_G} {b : Nat} (C : pj_X g c_Ro_at 2 R_Ro (some .int) rm_Ro_at) {K : Int32 → pj_M → Prop} (hE : pj_E g b (pj_Ki K))   {u : pj_M} {i0 : Nat} {x1 : Int32}  (t0 : pj_R i0) (h : pb_Ro_at_0  K u i0 x1) : pj_J g (pj_N g b u) 0 [some (.ref (b + i0)), some (.int x1)] [] := by
  unfold pb_Ro_at_0 at h
  refine pj_iload_n C d_Ro_at_0 (pc' := 1) (i := 1) (x := x1) rfl rfl rfl ?_
  refine pj_if_lt C d_Ro_at_1 (pc' := 4) rfl (tgt := 21) (by decide) h (fun h => ?_) (fun h => ?_)
  · exact pj_cut (pj_le_n (pj_le_n pj_le_e)) (pt_Ro_at_21 C hE   h)
  · exact pj_cut (pj_le_s (pj_le_s pj_le_e)) (pt_Ro_at_4 C hE  t0 h)
def pw_Ro_at (u : pj_M) (i0 : Nat) (x1 : Int32) (K : Int32 → pj_M → Prop) : Prop := pb_Ro_at_0  K u i0 x1
theorem pc_Ro_at (l : Launch) (D : va_G) (E : Nat → ClassId) {b : Nat} {u : pj_M} {i0 : Nat} {x1 : Int32} {K : Int32 → pj_M → Prop} (t0 : pj_R i0) (h : pw_Ro_at u i0 x1 K) : pj_C l y_Ro_at c_Ro_at 2 (some .int) rm_Ro_at D E b [.ref (b + i0), .int x1] u (pj_Ki K) := by
  refine pj_met (own := R_Ro) (by decide +kernel) rfl (Nat.le_of_ble_eq_true rfl) (fun g hE C => ?_)
  unfold pw_Ro_at at h
  show pj_J g (pj_N g b u) 0 [some (.ref (b + i0)), some (.int x1)] []
  exact pj_cut (pj_le_s (pj_le_s pj_le_e)) (pt_Ro_at_0 C hE  t0 h)
/-! Row.intAt(I)I -/
theorem ck_Row_23_R {g : pj_G} {b : Nat} {cc : ByteArray} {nL : Nat} {ret : Option FieldType} {rm : Room} {u : pj_M} {pc pc' : Nat} {vs : List (Option Value)} {st : List Value} (C : pj_X g cc nL R_Ro ret rm) {i0 : Nat} {x1 : Int32} {K : Int32 → pj_M → Prop} (t0 : pj_R i0) (h : pw_Ro_at u i0 x1 K) (hdg : decode cc pc = .ok (.invokevirtual 23, 3)) (hp : pc + 3 = pc') (hR : rm_Ro_at.frames + 1 ≤ rm.frames ∧ 8 + (2 + 11) + rm_Ro_at.locals ≤ rm.locals) (h8 : (st.map fun v => v.category).sum ≤ 8) (kk : ∀ r u', K r u' → pj_J g (pj_N g b u') pc' vs (.int r :: st)) : pj_J g (pj_N g b u) pc vs (.int x1 :: .ref (b + i0) :: st) := by
  rcases t0 with t | t
  · have t0 : pj_R i0 := Or.inl t
    exact pj_callV C (As := [.int x1]) (fun l D E => pc_Ro_at l D E t0 h) rfl rfl cl_Row (pj_lt t (by decide)) (fun E => ko_3 t) wm_841 wm_650 wm_1633 wm_94 wm_651 (by decide +kernel) (n := 1) rfl hR rfl h8 hdg hp (fun v u' hq => by obtain ⟨r, rfl, hk⟩ := hq; exact kk r u' hk)
  · have t0 : pj_R i0 := Or.inr t
    exact pj_callV C (As := [.int x1]) (fun l D E => pc_Ro_at l D E t0 h) rfl rfl cl_Packet (pj_lt t (by decide)) (fun E => ko_4 t) wm_841 wm_650 wm_1632 wm_94 wm_651 (by decide +kernel) (n := 1) rfl hR rfl h8 hdg hp (fun v u' hq => by obtain ⟨r, rfl, hk⟩ := hq; exact kk r u' hk)
def rm_Ro_intAt : Room := { frames := 1, cells := 0, slots := 0, locals := 21 }
def pb_Ro_intAt_32  (K : Int32 → pj_M → Prop) (u : pj_M) (x2 : Int32) : Prop := K x2 u
set_option maxHeartbeats 1000000 in
theorem pt_Ro_intAt_32 {g : pj_G} {b : Nat} (C : pj_X g c_Ro_intAt 4 R_Ro (some .int) rm_Ro_intAt) {K : Int32 → pj_M → Prop} (hE : pj_E g b (pj_Ki K))   {u : pj_M} {x2 : Int32}   (h : pb_Ro_intAt_32  K u x2) : pj_J g (pj_N g b u) 32 [none, none, some (.int x2), none] [] := by
  unfold pb_Ro_intAt_32 at h
  refine pj_iload_n C d_Ro_intAt_32 (pc' := 33) (i := 2) (x := x2) rfl rfl rfl ?_
  exact pj_iret C hE d_Ro_intAt_33 ⟨_, rfl, h⟩
def pb_Ro_intAt_9 (R4 : pj_M → Int32 → Int32 → Prop) (K : Int32 → pj_M → Prop) (u : pj_M) (i0 : Nat) (x1 : Int32) (x2 : Int32) (x3 : Int32) : Prop := pw_Ro_at u i0 (x1 + x3) fun r2 u1 => (pj_let ((x2 <<< (8 &&& 31)) ||| (r2 &&& 255)) fun y3 => (R4 u1 y3 (x3 + 1)))
set_option maxHeartbeats 1000000 in
theorem pt_Ro_intAt_9 {g : pj_G} {b : Nat} (C : pj_X g c_Ro_intAt 4 R_Ro (some .int) rm_Ro_intAt) {K : Int32 → pj_M → Prop} (hE : pj_E g b (pj_Ki K)) {R4 : pj_M → Int32 → Int32 → Prop}  {u : pj_M} {i0 : Nat} {x1 : Int32} {x2 : Int32} {x3 : Int32} (hR4 : ∀ (u : pj_M) (x2 : Int32) (x3 : Int32), R4 u x2 x3 → pj_J g (pj_N g b u) 4 [some (.ref (b + i0)), some (.int x1), some (.int x2), some (.int x3)] []) (t0 : pj_R i0) (h : pb_Ro_intAt_9 R4 K u i0 x1 x2 x3) : pj_J g (pj_N g b u) 9 [some (.ref (b + i0)), some (.int x1), some (.int x2), some (.int x3)] [] := by
  unfold pb_Ro_intAt_9 at h
  refine pj_iload_n C d_Ro_intAt_9 (pc' := 10) (i := 2) (x := x2) rfl rfl rfl ?_
  refine pj_bipush C d_Ro_intAt_10 (pc' := 12) rfl (v := 8) (by decide) ?_
  refine pj_ishl C d_Ro_intAt_12 (pc' := 13) rfl ?_
  refine pj_aload_n C d_Ro_intAt_13 (pc' := 14) (i := 0) (x := b + i0) rfl rfl rfl ?_
  refine pj_iload_n C d_Ro_intAt_14 (pc' := 15) (i := 1) (x := x1) rfl rfl rfl ?_
  refine pj_iload_n C d_Ro_intAt_15 (pc' := 16) (i := 3) (x := x3) rfl rfl rfl ?_
  refine pj_iadd C d_Ro_intAt_16 (pc' := 17) rfl ?_
  refine ck_Row_23_R C t0 h d_Ro_intAt_17 (pc' := 20) rfl ⟨Nat.le_of_ble_eq_true rfl, Nat.le_of_ble_eq_true rfl⟩ (Nat.le_of_ble_eq_true rfl) (fun r2 u1 h => ?_)
  refine pj_sipush C d_Ro_intAt_20 (pc' := 23) rfl (v := 255) (by decide) ?_
  refine pj_iand C d_Ro_intAt_23 (pc' := 24) rfl ?_
  refine pj_ior C d_Ro_intAt_24 (pc' := 25) rfl ?_
  refine pj_name h (fun y3 h => ?_)
  refine pj_istore_n C d_Ro_intAt_25 (pc' := 26) (i := 2) (vs' := [some (.ref (b + i0)), some (.int x1), some (.int y3), some (.int x3)]) rfl rfl (Nat.le_of_ble_eq_true rfl) (Nat.le_of_ble_eq_true rfl) rfl rfl ?_
  refine pj_iinc C d_Ro_intAt_26 (pc' := 29) (x := x3) (d := 1) (vs' := [some (.ref (b + i0)), some (.int x1), some (.int y3), some (.int (x3 + 1))]) rfl rfl (Nat.le_of_ble_eq_true rfl) rfl (by decide) rfl ?_
  refine pj_goto C d_Ro_intAt_29 (tgt := 4) (by decide) ?_
  exact pj_cut (pj_le_s (pj_le_s (pj_le_s (pj_le_s pj_le_e)))) (hR4 _ _ _ h)
def pb_Ro_intAt_4b (R4 : pj_M → Int32 → Int32 → Prop) (K : Int32 → pj_M → Prop) (u : pj_M) (i0 : Nat) (x1 : Int32) (x2 : Int32) (x3 : Int32) : Prop := ((4 ≤ x3) → (pb_Ro_intAt_32  K u x2)) ∧ (¬ (4 ≤ x3) → (pb_Ro_intAt_9 R4 K u i0 x1 x2 x3))
set_option maxHeartbeats 1000000 in
theorem pt_Ro_intAt_4b {g : pj_G} {b : Nat} (C : pj_X g c_Ro_intAt 4 R_Ro (some .int) rm_Ro_intAt) {K : Int32 → pj_M → Prop} (hE : pj_E g b (pj_Ki K)) {R4 : pj_M → Int32 → Int32 → Prop}  {u : pj_M} {i0 : Nat} {x1 : Int32} {x2 : Int32} {x3 : Int32} (hR4 : ∀ (u : pj_M) (x2 : Int32) (x3 : Int32), R4 u x2 x3 → pj_J g (pj_N g b u) 4 [some (.ref (b + i0)), some (.int x1), some (.int x2), some (.int x3)] []) (t0 : pj_R i0) (h : pb_Ro_intAt_4b R4 K u i0 x1 x2 x3) : pj_J g (pj_N g b u) 4 [some (.ref (b + i0)), some (.int x1), some (.int x2), some (.int x3)] [] := by
  unfold pb_Ro_intAt_4b at h
  refine pj_iload_n C d_Ro_intAt_4 (pc' := 5) (i := 3) (x := x3) rfl rfl rfl ?_
  refine pj_iconst C d_Ro_intAt_5 (pc' := 6) rfl (v := 4) (by decide) ?_
  refine pj_icmp_ge C d_Ro_intAt_6 (pc' := 9) rfl (tgt := 32) (by decide) h (fun h => ?_) (fun h => ?_)
  · exact pj_cut (pj_le_n (pj_le_n (pj_le_s (pj_le_n pj_le_e)))) (pt_Ro_intAt_32 C hE   h)
  · exact pj_cut (pj_le_s (pj_le_s (pj_le_s (pj_le_s pj_le_e)))) (pt_Ro_intAt_9 C hE hR4 t0 h)
def pb_Ro_intAt_4  (K : Int32 → pj_M → Prop) (i0 : Nat) (x1 : Int32) : Nat → pj_M → Int32 → Int32 → Prop
  | 0 => fun _ _ _ => False
  | n + 1 => fun u x2 x3 => pb_Ro_intAt_4b (pb_Ro_intAt_4  K i0 x1 n) K u i0 x1 x2 x3
theorem pt_Ro_intAt_4 {g : pj_G} {b : Nat} (C : pj_X g c_Ro_intAt 4 R_Ro (some .int) rm_Ro_intAt) {K : Int32 → pj_M → Prop} (hE : pj_E g b (pj_Ki K))  {i0 : Nat} {x1 : Int32}  (t0 : pj_R i0) : ∀ (n : Nat) (u : pj_M) (x2 : Int32) (x3 : Int32), pb_Ro_intAt_4  K i0 x1 n u x2 x3 → pj_J g (pj_N g b u) 4 [some (.ref (b + i0)), some (.int x1), some (.int x2), some (.int x3)] [] := by
  intro n
  induction n with
  | zero => intro u x2 x3 h; exact False.elim h
  | succ n ih =>
    intro u x2 x3 h
    exact (pt_Ro_intAt_4b C hE ih t0 h)
def pb_Ro_intAt_0  (K : Int32 → pj_M → Prop) (u : pj_M) (i0 : Nat) (x1 : Int32) : Prop := ∃ n, pb_Ro_intAt_4  K i0 x1 n u 0 0
set_option maxHeartbeats 1000000 in
theorem pt_Ro_intAt_0 {g : pj_G} {b : Nat} (C : pj_X g c_Ro_intAt 4 R_Ro (some .int) rm_Ro_intAt) {K : Int32 → pj_M → Prop} (hE : pj_E g b (pj_Ki K))   {u : pj_M} {i0 : Nat} {x1 : Int32}  (t0 : pj_R i0) (h : pb_Ro_intAt_0  K u i0 x1) : pj_J g (pj_N g b u) 0 [some (.ref (b + i0)), some (.int x1), none, none] [] := by
  unfold pb_Ro_intAt_0 at h
  refine pj_iconst C d_Ro_intAt_0 (pc' := 1) rfl (v := 0) (by decide) ?_
  refine pj_istore_n C d_Ro_intAt_1 (pc' := 2) (i := 2) (vs' := [some (.ref (b + i0)), some (.int x1), some (.int 0), none]) rfl rfl (Nat.le_of_ble_eq_true rfl) (Nat.le_of_ble_eq_true rfl) rfl rfl ?_
  refine pj_iconst C d_Ro_intAt_2 (pc' := 3) rfl (v := 0) (by decide) ?_
  refine pj_istore_n C d_Ro_intAt_3 (pc' := 4) (i := 3) (vs' := [some (.ref (b + i0)), some (.int x1), some (.int 0), some (.int 0)]) rfl rfl (Nat.le_of_ble_eq_true rfl) (Nat.le_of_ble_eq_true rfl) rfl rfl ?_
  obtain ⟨n, h⟩ := h
  exact pj_cut (pj_le_s (pj_le_s (pj_le_s (pj_le_s pj_le_e)))) (pt_Ro_intAt_4 C hE  t0 n _ _ _ h)
def pw_Ro_intAt (u : pj_M) (i0 : Nat) (x1 : Int32) (K : Int32 → pj_M → Prop) : Prop := pb_Ro_intAt_0  K u i0 x1
theorem pc_Ro_intAt (l : Launch) (D : va_G) (E : Nat → ClassId) {b : Nat} {u : pj_M} {i0 : Nat} {x1 : Int32} {K : Int32 → pj_M → Prop} (t0 : pj_R i0) (h : pw_Ro_intAt u i0 x1 K) : pj_C l y_Ro_intAt c_Ro_intAt 4 (some .int) rm_Ro_intAt D E b [.ref (b + i0), .int x1] u (pj_Ki K) := by
  refine pj_met (own := R_Ro) (by decide +kernel) rfl (Nat.le_of_ble_eq_true rfl) (fun g hE C => ?_)
  unfold pw_Ro_intAt at h
  show pj_J g (pj_N g b u) 0 [some (.ref (b + i0)), some (.int x1), none, none] []
  exact pj_cut (pj_le_s (pj_le_s (pj_le_n (pj_le_n pj_le_e)))) (pt_Ro_intAt_0 C hE  t0 h)
/-! Row.set(II)V -/
def rm_Ro_set : Room := { frames := 0, cells := 0, slots := 0, locals := 0 }
def pb_Ro_set_23  (K : pj_M → Prop) (u : pj_M)  : Prop := K u
set_option maxHeartbeats 1000000 in
theorem pt_Ro_set_23 {g : pj_G} {b : Nat} (C : pj_X g c_Ro_set 3 R_Ro none rm_Ro_set) {K : pj_M → Prop} (hE : pj_E g b (pj_Kv K))   {u : pj_M}    (h : pb_Ro_set_23  K u ) : pj_J g (pj_N g b u) 23 [none, none, none] [] := by
  unfold pb_Ro_set_23 at h
  exact pj_vret C hE d_Ro_set_23 ⟨rfl, h⟩
def pb_Ro_set_12  (K : pj_M → Prop) (u : pj_M) (i0 : Nat) (x1 : Int32) (x2 : Int32) : Prop := vp_in x1 48 ∧ pj_put u (i0 + 1) x1.toNatClampNeg (x2 &&& 255) fun u1 => (pb_Ro_set_23  K u1 )
set_option maxHeartbeats 1000000 in
theorem pt_Ro_set_12 {g : pj_G} {b : Nat} (C : pj_X g c_Ro_set 3 R_Ro none rm_Ro_set) {K : pj_M → Prop} (hE : pj_E g b (pj_Kv K))   {u : pj_M} {i0 : Nat} {x1 : Int32} {x2 : Int32}  (t0 : pj_R i0) (h : pb_Ro_set_12  K u i0 x1 x2) : pj_J g (pj_N g b u) 12 [some (.ref (b + i0)), some (.int x1), some (.int x2)] [] := by
  unfold pb_Ro_set_12 at h
  refine pj_aload_n C d_Ro_set_12 (pc' := 13) (i := 0) (x := b + i0) rfl rfl rfl ?_
  refine fg_Row_9_R C t0 d_Ro_set_13 (pc' := 16) rfl ?_
  refine pj_iload_n C d_Ro_set_16 (pc' := 17) (i := 1) (x := x1) rfl rfl rfl ?_
  refine pj_iload_n C d_Ro_set_17 (pc' := 18) (i := 2) (x := x2) rfl rfl rfl ?_
  refine pj_sipush C d_Ro_set_18 (pc' := 21) rfl (v := 255) (by decide) ?_
  refine pj_iand C d_Ro_set_21 (pc' := 22) rfl ?_
  refine pj_iast C (pj_lt (pl_R_bytes t0) (by decide)) (fun E u => ka_22 (pl_R_bytes t0)) d_Ro_set_22 (pc' := 23) rfl h (fun u1 h => ?_)
  exact pj_cut (pj_le_n (pj_le_n (pj_le_n pj_le_e))) (pt_Ro_set_23 C hE   h)
def pb_Ro_set_4  (K : pj_M → Prop) (u : pj_M) (i0 : Nat) (x1 : Int32) (x2 : Int32) : Prop := (((u i0 1) ≤ x1) → (pb_Ro_set_23  K u )) ∧ (¬ ((u i0 1) ≤ x1) → (pb_Ro_set_12  K u i0 x1 x2))
set_option maxHeartbeats 1000000 in
theorem pt_Ro_set_4 {g : pj_G} {b : Nat} (C : pj_X g c_Ro_set 3 R_Ro none rm_Ro_set) {K : pj_M → Prop} (hE : pj_E g b (pj_Kv K))   {u : pj_M} {i0 : Nat} {x1 : Int32} {x2 : Int32}  (t0 : pj_R i0) (h : pb_Ro_set_4  K u i0 x1 x2) : pj_J g (pj_N g b u) 4 [some (.ref (b + i0)), some (.int x1), some (.int x2)] [] := by
  unfold pb_Ro_set_4 at h
  refine pj_iload_n C d_Ro_set_4 (pc' := 5) (i := 1) (x := x1) rfl rfl rfl ?_
  refine pj_aload_n C d_Ro_set_5 (pc' := 6) (i := 0) (x := b + i0) rfl rfl rfl ?_
  refine fg_Row_15_R C t0 d_Ro_set_6 (pc' := 9) rfl ?_
  refine pj_icmp_ge C d_Ro_set_9 (pc' := 12) rfl (tgt := 23) (by decide) h (fun h => ?_) (fun h => ?_)
  · exact pj_cut (pj_le_n (pj_le_n (pj_le_n pj_le_e))) (pt_Ro_set_23 C hE   h)
  · exact pj_cut (pj_le_s (pj_le_s (pj_le_s pj_le_e))) (pt_Ro_set_12 C hE  t0 h)
def pb_Ro_set_0  (K : pj_M → Prop) (u : pj_M) (i0 : Nat) (x1 : Int32) (x2 : Int32) : Prop := ((x1 < 0) → (pb_Ro_set_23  K u )) ∧ (¬ (x1 < 0) → (pb_Ro_set_4  K u i0 x1 x2))
set_option maxHeartbeats 1000000 in
theorem pt_Ro_set_0 {g : pj_G} {b : Nat} (C : pj_X g c_Ro_set 3 R_Ro none rm_Ro_set) {K : pj_M → Prop} (hE : pj_E g b (pj_Kv K))   {u : pj_M} {i0 : Nat} {x1 : Int32} {x2 : Int32}  (t0 : pj_R i0) (h : pb_Ro_set_0  K u i0 x1 x2) : pj_J g (pj_N g b u) 0 [some (.ref (b + i0)), some (.int x1), some (.int x2)] [] := by
  unfold pb_Ro_set_0 at h
  refine pj_iload_n C d_Ro_set_0 (pc' := 1) (i := 1) (x := x1) rfl rfl rfl ?_
  refine pj_if_lt C d_Ro_set_1 (pc' := 4) rfl (tgt := 23) (by decide) h (fun h => ?_) (fun h => ?_)
  · exact pj_cut (pj_le_n (pj_le_n (pj_le_n pj_le_e))) (pt_Ro_set_23 C hE   h)
  · exact pj_cut (pj_le_s (pj_le_s (pj_le_s pj_le_e))) (pt_Ro_set_4 C hE  t0 h)
def pw_Ro_set (u : pj_M) (i0 : Nat) (x1 : Int32) (x2 : Int32) (K : pj_M → Prop) : Prop := pb_Ro_set_0  K u i0 x1 x2
theorem pc_Ro_set (l : Launch) (D : va_G) (E : Nat → ClassId) {b : Nat} {u : pj_M} {i0 : Nat} {x1 : Int32} {x2 : Int32} {K : pj_M → Prop} (t0 : pj_R i0) (h : pw_Ro_set u i0 x1 x2 K) : pj_C l y_Ro_set c_Ro_set 3 none rm_Ro_set D E b [.ref (b + i0), .int x1, .int x2] u (pj_Kv K) := by
  refine pj_met (own := R_Ro) (by decide +kernel) rfl (Nat.le_of_ble_eq_true rfl) (fun g hE C => ?_)
  unfold pw_Ro_set at h
  show pj_J g (pj_N g b u) 0 [some (.ref (b + i0)), some (.int x1), some (.int x2)] []
  exact pj_cut (pj_le_s (pj_le_s (pj_le_s pj_le_e))) (pt_Ro_set_0 C hE  t0 h)
/-! Row.setInt(II)V -/
theorem ck_Row_27_R {g : pj_G} {b : Nat} {cc : ByteArray} {nL : Nat} {ret : Option FieldType} {rm : Room} {u : pj_M} {pc pc' : Nat} {vs : List (Option Value)} {st : List Value} (C : pj_X g cc nL R_Ro ret rm) {i0 : Nat} {x1 : Int32} {x2 : Int32} {K : pj_M → Prop} (t0 : pj_R i0) (h : pw_Ro_set u i0 x1 x2 K) (hdg : decode cc pc = .ok (.invokevirtual 27, 3)) (hp : pc + 3 = pc') (hR : rm_Ro_set.frames + 1 ≤ rm.frames ∧ 8 + (3 + 11) + rm_Ro_set.locals ≤ rm.locals) (h8 : (st.map fun v => v.category).sum ≤ 8) (kk : ∀ u', K u' → pj_J g (pj_N g b u') pc' vs st) : pj_J g (pj_N g b u) pc vs (.int x2 :: .int x1 :: .ref (b + i0) :: st) := by
  rcases t0 with t | t
  · have t0 : pj_R i0 := Or.inl t
    exact pj_callV C (As := [.int x1, .int x2]) (fun l D E => pc_Ro_set l D E t0 h) rfl rfl cl_Row (pj_lt t (by decide)) (fun E => ko_3 t) wm_800 wm_626 wm_1636 wm_94 wm_627 (by decide +kernel) (n := 2) rfl hR rfl h8 hdg hp (fun v u' hq => by obtain ⟨rfl, hk⟩ := hq; exact kk u' hk)
  · have t0 : pj_R i0 := Or.inr t
    exact pj_callV C (As := [.int x1, .int x2]) (fun l D E => pc_Ro_set l D E t0 h) rfl rfl cl_Packet (pj_lt t (by decide)) (fun E => ko_4 t) wm_800 wm_626 wm_1635 wm_94 wm_627 (by decide +kernel) (n := 2) rfl hR rfl h8 hdg hp (fun v u' hq => by obtain ⟨rfl, hk⟩ := hq; exact kk u' hk)
def rm_Ro_setInt : Room := { frames := 1, cells := 0, slots := 0, locals := 22 }
def pb_Ro_setInt_0  (K : pj_M → Prop) (u : pj_M) (i0 : Nat) (x1 : Int32) (x2 : Int32) : Prop := pw_Ro_set u i0 x1 ((x2.toUInt32 >>> ((24 : Int32).toUInt32 &&& Int32.toUInt32 31)).toInt32) fun u1 => (pw_Ro_set u1 i0 (x1 + 1) ((x2.toUInt32 >>> ((16 : Int32).toUInt32 &&& Int32.toUInt32 31)).toInt32) fun u2 => (pw_Ro_set u2 i0 (x1 + 2) ((x2.toUInt32 >>> ((8 : Int32).toUInt32 &&& Int32.toUInt32 31)).toInt32) fun u3 => (pw_Ro_set u3 i0 (x1 + 3) x2 fun u4 => (K u4))))
set_option maxHeartbeats 1000000 in
theorem pt_Ro_setInt_0 {g : pj_G} {b : Nat} (C : pj_X g c_Ro_setInt 3 R_Ro none rm_Ro_setInt) {K : pj_M → Prop} (hE : pj_E g b (pj_Kv K))   {u : pj_M} {i0 : Nat} {x1 : Int32} {x2 : Int32}  (t0 : pj_R i0) (h : pb_Ro_setInt_0  K u i0 x1 x2) : pj_J g (pj_N g b u) 0 [some (.ref (b + i0)), some (.int x1), some (.int x2)] [] := by
  unfold pb_Ro_setInt_0 at h
  refine pj_aload_n C d_Ro_setInt_0 (pc' := 1) (i := 0) (x := b + i0) rfl rfl rfl ?_
  refine pj_iload_n C d_Ro_setInt_1 (pc' := 2) (i := 1) (x := x1) rfl rfl rfl ?_
  refine pj_iload_n C d_Ro_setInt_2 (pc' := 3) (i := 2) (x := x2) rfl rfl rfl ?_
  refine pj_bipush C d_Ro_setInt_3 (pc' := 5) rfl (v := 24) (by decide) ?_
  refine pj_iushr C d_Ro_setInt_5 (pc' := 6) rfl ?_
  refine ck_Row_27_R C t0 h d_Ro_setInt_6 (pc' := 9) rfl ⟨Nat.le_of_ble_eq_true rfl, Nat.le_of_ble_eq_true rfl⟩ (Nat.le_of_ble_eq_true rfl) (fun u1 h => ?_)
  refine pj_aload_n C d_Ro_setInt_9 (pc' := 10) (i := 0) (x := b + i0) rfl rfl rfl ?_
  refine pj_iload_n C d_Ro_setInt_10 (pc' := 11) (i := 1) (x := x1) rfl rfl rfl ?_
  refine pj_iconst C d_Ro_setInt_11 (pc' := 12) rfl (v := 1) (by decide) ?_
  refine pj_iadd C d_Ro_setInt_12 (pc' := 13) rfl ?_
  refine pj_iload_n C d_Ro_setInt_13 (pc' := 14) (i := 2) (x := x2) rfl rfl rfl ?_
  refine pj_bipush C d_Ro_setInt_14 (pc' := 16) rfl (v := 16) (by decide) ?_
  refine pj_iushr C d_Ro_setInt_16 (pc' := 17) rfl ?_
  refine ck_Row_27_R C t0 h d_Ro_setInt_17 (pc' := 20) rfl ⟨Nat.le_of_ble_eq_true rfl, Nat.le_of_ble_eq_true rfl⟩ (Nat.le_of_ble_eq_true rfl) (fun u2 h => ?_)
  refine pj_aload_n C d_Ro_setInt_20 (pc' := 21) (i := 0) (x := b + i0) rfl rfl rfl ?_
  refine pj_iload_n C d_Ro_setInt_21 (pc' := 22) (i := 1) (x := x1) rfl rfl rfl ?_
  refine pj_iconst C d_Ro_setInt_22 (pc' := 23) rfl (v := 2) (by decide) ?_
  refine pj_iadd C d_Ro_setInt_23 (pc' := 24) rfl ?_
  refine pj_iload_n C d_Ro_setInt_24 (pc' := 25) (i := 2) (x := x2) rfl rfl rfl ?_
  refine pj_bipush C d_Ro_setInt_25 (pc' := 27) rfl (v := 8) (by decide) ?_
  refine pj_iushr C d_Ro_setInt_27 (pc' := 28) rfl ?_
  refine ck_Row_27_R C t0 h d_Ro_setInt_28 (pc' := 31) rfl ⟨Nat.le_of_ble_eq_true rfl, Nat.le_of_ble_eq_true rfl⟩ (Nat.le_of_ble_eq_true rfl) (fun u3 h => ?_)
  refine pj_aload_n C d_Ro_setInt_31 (pc' := 32) (i := 0) (x := b + i0) rfl rfl rfl ?_
  refine pj_iload_n C d_Ro_setInt_32 (pc' := 33) (i := 1) (x := x1) rfl rfl rfl ?_
  refine pj_iconst C d_Ro_setInt_33 (pc' := 34) rfl (v := 3) (by decide) ?_
  refine pj_iadd C d_Ro_setInt_34 (pc' := 35) rfl ?_
  refine pj_iload_n C d_Ro_setInt_35 (pc' := 36) (i := 2) (x := x2) rfl rfl rfl ?_
  refine ck_Row_27_R C t0 h d_Ro_setInt_36 (pc' := 39) rfl ⟨Nat.le_of_ble_eq_true rfl, Nat.le_of_ble_eq_true rfl⟩ (Nat.le_of_ble_eq_true rfl) (fun u4 h => ?_)
  exact pj_vret C hE d_Ro_setInt_39 ⟨rfl, h⟩
def pw_Ro_setInt (u : pj_M) (i0 : Nat) (x1 : Int32) (x2 : Int32) (K : pj_M → Prop) : Prop := pb_Ro_setInt_0  K u i0 x1 x2
theorem pc_Ro_setInt (l : Launch) (D : va_G) (E : Nat → ClassId) {b : Nat} {u : pj_M} {i0 : Nat} {x1 : Int32} {x2 : Int32} {K : pj_M → Prop} (t0 : pj_R i0) (h : pw_Ro_setInt u i0 x1 x2 K) : pj_C l y_Ro_setInt c_Ro_setInt 3 none rm_Ro_setInt D E b [.ref (b + i0), .int x1, .int x2] u (pj_Kv K) := by
  refine pj_met (own := R_Ro) (by decide +kernel) rfl (Nat.le_of_ble_eq_true rfl) (fun g hE C => ?_)
  unfold pw_Ro_setInt at h
  show pj_J g (pj_N g b u) 0 [some (.ref (b + i0)), some (.int x1), some (.int x2)] []
  exact pj_cut (pj_le_s (pj_le_s (pj_le_s pj_le_e))) (pt_Ro_setInt_0 C hE  t0 h)
/-! Row.copy(LPortGuard$Row;)V -/
def rm_Ro_copy : Room := { frames := 1, cells := 0, slots := 0, locals := 60 }
def pb_Ro_copy_0  (K : pj_M → Prop) (u : pj_M) (i0 : Nat) (i1 : Nat) : Prop := pj_put u i0 1 (u i1 1) fun u1 => ((¬ (0 : Int32) < 0 ∧ ¬ (0 : Int32) < 0 ∧ ¬ (u1 i0 1) < 0 ∧ (0 : Int32).toNatClampNeg + (u1 i0 1).toNatClampNeg ≤ 48 ∧ (0 : Int32).toNatClampNeg + (u1 i0 1).toNatClampNeg ≤ 48) ∧ pj_arr u1 (i0 + 1) (va_cpy (u1 (i1 + 1)) (u1 (i0 + 1)) (0 : Int32).toNatClampNeg (0 : Int32).toNatClampNeg (u1 i0 1).toNatClampNeg) fun u2 => (K u2))
set_option maxHeartbeats 1000000 in
theorem pt_Ro_copy_0 {g : pj_G} {b : Nat} (C : pj_X g c_Ro_copy 2 R_Ro none rm_Ro_copy) {K : pj_M → Prop} (hE : pj_E g b (pj_Kv K))   {u : pj_M} {i0 : Nat} {i1 : Nat}  (t0 : pj_R i0) (t1 : pj_R i1) (h : pb_Ro_copy_0  K u i0 i1) : pj_J g (pj_N g b u) 0 [some (.ref (b + i0)), some (.ref (b + i1))] [] := by
  unfold pb_Ro_copy_0 at h
  refine pj_aload_n C d_Ro_copy_0 (pc' := 1) (i := 0) (x := b + i0) rfl rfl rfl ?_
  refine pj_aload_n C d_Ro_copy_1 (pc' := 2) (i := 1) (x := b + i1) rfl rfl rfl ?_
  refine fg_Row_15_R C t1 d_Ro_copy_2 (pc' := 5) rfl ?_
  refine fp_Row_15_R C t0  d_Ro_copy_5 (pc' := 8) rfl h (fun u1 h => ?_)
  refine pj_aload_n C d_Ro_copy_8 (pc' := 9) (i := 1) (x := b + i1) rfl rfl rfl ?_
  refine fg_Row_9_R C t1 d_Ro_copy_9 (pc' := 12) rfl ?_
  refine pj_iconst C d_Ro_copy_12 (pc' := 13) rfl (v := 0) (by decide) ?_
  refine pj_aload_n C d_Ro_copy_13 (pc' := 14) (i := 0) (x := b + i0) rfl rfl rfl ?_
  refine fg_Row_9_R C t0 d_Ro_copy_14 (pc' := 17) rfl ?_
  refine pj_iconst C d_Ro_copy_17 (pc' := 18) rfl (v := 0) (by decide) ?_
  refine pj_aload_n C d_Ro_copy_18 (pc' := 19) (i := 0) (x := b + i0) rfl rfl rfl ?_
  refine fg_Row_15_R C t0 d_Ro_copy_19 (pc' := 22) rfl ?_
  refine pj_copy C wm_689 wm_691 wm_690 wm_104 (pj_lt (pl_R_bytes t1) (by decide)) (pj_lt (pl_R_bytes t0) (by decide)) (fun E u => ka_22 (pl_R_bytes t1)) (fun E u => ka_22 (pl_R_bytes t0)) ⟨Nat.le_of_ble_eq_true rfl, Nat.le_of_ble_eq_true rfl⟩ d_Ro_copy_22 (pc' := 25) rfl h (fun u2 h => ?_)
  exact pj_vret C hE d_Ro_copy_25 ⟨rfl, h⟩
def pw_Ro_copy (u : pj_M) (i0 : Nat) (i1 : Nat) (K : pj_M → Prop) : Prop := pb_Ro_copy_0  K u i0 i1
theorem pc_Ro_copy (l : Launch) (D : va_G) (E : Nat → ClassId) {b : Nat} {u : pj_M} {i0 : Nat} {i1 : Nat} {K : pj_M → Prop} (t0 : pj_R i0) (t1 : pj_R i1) (h : pw_Ro_copy u i0 i1 K) : pj_C l y_Ro_copy c_Ro_copy 2 none rm_Ro_copy D E b [.ref (b + i0), .ref (b + i1)] u (pj_Kv K) := by
  refine pj_met (own := R_Ro) (by decide +kernel) rfl (Nat.le_of_ble_eq_true rfl) (fun g hE C => ?_)
  unfold pw_Ro_copy at h
  show pj_J g (pj_N g b u) 0 [some (.ref (b + i0)), some (.ref (b + i1))] []
  exact pj_cut (pj_le_s (pj_le_s pj_le_e)) (pt_Ro_copy_0 C hE  t0 t1 h)
/-! Row.append(LPortGuard$Row;II)V -/
def rm_Ro_append : Room := { frames := 0, cells := 0, slots := 0, locals := 0 }
def pb_Ro_append_66  (K : pj_M → Prop) (u : pj_M)  : Prop := K u
set_option maxHeartbeats 1000000 in
theorem pt_Ro_append_66 {g : pj_G} {b : Nat} (C : pj_X g c_Ro_append 5 R_Ro none rm_Ro_append) {K : pj_M → Prop} (hE : pj_E g b (pj_Kv K))   {u : pj_M}    (h : pb_Ro_append_66  K u ) : pj_J g (pj_N g b u) 66 [none, none, none, none, none] [] := by
  unfold pb_Ro_append_66 at h
  exact pj_vret C hE d_Ro_append_66 ⟨rfl, h⟩
def pb_Ro_append_34 (R3 : pj_M → Int32 → Prop) (K : pj_M → Prop) (u : pj_M) (i0 : Nat) (i1 : Nat) (x2 : Int32) (x3 : Int32) (x4 : Int32) : Prop := vp_in x4 48 ∧ (vp_in (u i0 1) 48 ∧ pj_put u (i0 + 1) (u i0 1).toNatClampNeg (u (i1 + 1) x4.toNatClampNeg) fun u1 => (pj_put u1 i0 1 ((u1 i0 1) + 1) fun u2 => (R3 u2 (x4 + 1))))
set_option maxHeartbeats 1000000 in
theorem pt_Ro_append_34 {g : pj_G} {b : Nat} (C : pj_X g c_Ro_append 5 R_Ro none rm_Ro_append) {K : pj_M → Prop} (hE : pj_E g b (pj_Kv K)) {R3 : pj_M → Int32 → Prop}  {u : pj_M} {i0 : Nat} {i1 : Nat} {x2 : Int32} {x3 : Int32} {x4 : Int32} (hR3 : ∀ (u : pj_M) (x4 : Int32), R3 u x4 → pj_J g (pj_N g b u) 3 [some (.ref (b + i0)), some (.ref (b + i1)), some (.int x2), some (.int x3), some (.int x4)] []) (t0 : pj_R i0) (t1 : pj_R i1) (h : pb_Ro_append_34 R3 K u i0 i1 x2 x3 x4) : pj_J g (pj_N g b u) 34 [some (.ref (b + i0)), some (.ref (b + i1)), some (.int x2), some (.int x3), some (.int x4)] [] := by
  unfold pb_Ro_append_34 at h
  refine pj_aload_n C d_Ro_append_34 (pc' := 35) (i := 0) (x := b + i0) rfl rfl rfl ?_
  refine fg_Row_9_R C t0 d_Ro_append_35 (pc' := 38) rfl ?_
  refine pj_aload_n C d_Ro_append_38 (pc' := 39) (i := 0) (x := b + i0) rfl rfl rfl ?_
  refine fg_Row_15_R C t0 d_Ro_append_39 (pc' := 42) rfl ?_
  refine pj_aload_n C d_Ro_append_42 (pc' := 43) (i := 1) (x := b + i1) rfl rfl rfl ?_
  refine fg_Row_9_R C t1 d_Ro_append_43 (pc' := 46) rfl ?_
  refine pj_iload C d_Ro_append_46 (pc' := 48) (i := 4) (x := x4) rfl rfl ?_
  refine pj_iald C (pj_lt (pl_R_bytes t1) (by decide)) (fun E u => ka_22 (pl_R_bytes t1)) d_Ro_append_48 (pc' := 49) rfl h (fun h => ?_)
  refine pj_iast C (pj_lt (pl_R_bytes t0) (by decide)) (fun E u => ka_22 (pl_R_bytes t0)) d_Ro_append_49 (pc' := 50) rfl h (fun u1 h => ?_)
  refine pj_aload_n C d_Ro_append_50 (pc' := 51) (i := 0) (x := b + i0) rfl rfl rfl ?_
  refine pj_dup C d_Ro_append_51 (pc' := 52) rfl rfl ?_
  refine fg_Row_15_R C t0 d_Ro_append_52 (pc' := 55) rfl ?_
  refine pj_iconst C d_Ro_append_55 (pc' := 56) rfl (v := 1) (by decide) ?_
  refine pj_iadd C d_Ro_append_56 (pc' := 57) rfl ?_
  refine fp_Row_15_R C t0  d_Ro_append_57 (pc' := 60) rfl h (fun u2 h => ?_)
  refine pj_iinc C d_Ro_append_60 (pc' := 63) (x := x4) (d := 1) (vs' := [some (.ref (b + i0)), some (.ref (b + i1)), some (.int x2), some (.int x3), some (.int (x4 + 1))]) rfl rfl (Nat.le_of_ble_eq_true rfl) rfl (by decide) rfl ?_
  refine pj_goto C d_Ro_append_63 (tgt := 3) (by decide) ?_
  exact pj_cut (pj_le_s (pj_le_s (pj_le_s (pj_le_s (pj_le_s pj_le_e))))) (hR3 _ _ h)
def pb_Ro_append_25 (R3 : pj_M → Int32 → Prop) (K : pj_M → Prop) (u : pj_M) (i0 : Nat) (i1 : Nat) (x2 : Int32) (x3 : Int32) (x4 : Int32) : Prop := ((48 ≤ (u i0 1)) → (pb_Ro_append_66  K u )) ∧ (¬ (48 ≤ (u i0 1)) → (pb_Ro_append_34 R3 K u i0 i1 x2 x3 x4))
set_option maxHeartbeats 1000000 in
theorem pt_Ro_append_25 {g : pj_G} {b : Nat} (C : pj_X g c_Ro_append 5 R_Ro none rm_Ro_append) {K : pj_M → Prop} (hE : pj_E g b (pj_Kv K)) {R3 : pj_M → Int32 → Prop}  {u : pj_M} {i0 : Nat} {i1 : Nat} {x2 : Int32} {x3 : Int32} {x4 : Int32} (hR3 : ∀ (u : pj_M) (x4 : Int32), R3 u x4 → pj_J g (pj_N g b u) 3 [some (.ref (b + i0)), some (.ref (b + i1)), some (.int x2), some (.int x3), some (.int x4)] []) (t0 : pj_R i0) (t1 : pj_R i1) (h : pb_Ro_append_25 R3 K u i0 i1 x2 x3 x4) : pj_J g (pj_N g b u) 25 [some (.ref (b + i0)), some (.ref (b + i1)), some (.int x2), some (.int x3), some (.int x4)] [] := by
  unfold pb_Ro_append_25 at h
  refine pj_aload_n C d_Ro_append_25 (pc' := 26) (i := 0) (x := b + i0) rfl rfl rfl ?_
  refine fg_Row_15_R C t0 d_Ro_append_26 (pc' := 29) rfl ?_
  refine pj_bipush C d_Ro_append_29 (pc' := 31) rfl (v := 48) (by decide) ?_
  refine pj_icmp_ge C d_Ro_append_31 (pc' := 34) rfl (tgt := 66) (by decide) h (fun h => ?_) (fun h => ?_)
  · exact pj_cut (pj_le_n (pj_le_n (pj_le_n (pj_le_n (pj_le_n pj_le_e))))) (pt_Ro_append_66 C hE   h)
  · exact pj_cut (pj_le_s (pj_le_s (pj_le_s (pj_le_s (pj_le_s pj_le_e))))) (pt_Ro_append_34 C hE hR3 t0 t1 h)
def pb_Ro_append_16 (R3 : pj_M → Int32 → Prop) (K : pj_M → Prop) (u : pj_M) (i0 : Nat) (i1 : Nat) (x2 : Int32) (x3 : Int32) (x4 : Int32) : Prop := (((u i1 1) ≤ x4) → (pb_Ro_append_66  K u )) ∧ (¬ ((u i1 1) ≤ x4) → (pb_Ro_append_25 R3 K u i0 i1 x2 x3 x4))
set_option maxHeartbeats 1000000 in
theorem pt_Ro_append_16 {g : pj_G} {b : Nat} (C : pj_X g c_Ro_append 5 R_Ro none rm_Ro_append) {K : pj_M → Prop} (hE : pj_E g b (pj_Kv K)) {R3 : pj_M → Int32 → Prop}  {u : pj_M} {i0 : Nat} {i1 : Nat} {x2 : Int32} {x3 : Int32} {x4 : Int32} (hR3 : ∀ (u : pj_M) (x4 : Int32), R3 u x4 → pj_J g (pj_N g b u) 3 [some (.ref (b + i0)), some (.ref (b + i1)), some (.int x2), some (.int x3), some (.int x4)] []) (t0 : pj_R i0) (t1 : pj_R i1) (h : pb_Ro_append_16 R3 K u i0 i1 x2 x3 x4) : pj_J g (pj_N g b u) 16 [some (.ref (b + i0)), some (.ref (b + i1)), some (.int x2), some (.int x3), some (.int x4)] [] := by
  unfold pb_Ro_append_16 at h
  refine pj_iload C d_Ro_append_16 (pc' := 18) (i := 4) (x := x4) rfl rfl ?_
  refine pj_aload_n C d_Ro_append_18 (pc' := 19) (i := 1) (x := b + i1) rfl rfl rfl ?_
  refine fg_Row_15_R C t1 d_Ro_append_19 (pc' := 22) rfl ?_
  refine pj_icmp_ge C d_Ro_append_22 (pc' := 25) rfl (tgt := 66) (by decide) h (fun h => ?_) (fun h => ?_)
  · exact pj_cut (pj_le_n (pj_le_n (pj_le_n (pj_le_n (pj_le_n pj_le_e))))) (pt_Ro_append_66 C hE   h)
  · exact pj_cut (pj_le_s (pj_le_s (pj_le_s (pj_le_s (pj_le_s pj_le_e))))) (pt_Ro_append_25 C hE hR3 t0 t1 h)
def pb_Ro_append_8 (R3 : pj_M → Int32 → Prop) (K : pj_M → Prop) (u : pj_M) (i0 : Nat) (i1 : Nat) (x2 : Int32) (x3 : Int32) (x4 : Int32) : Prop := (((x2 + x3) ≤ x4) → (pb_Ro_append_66  K u )) ∧ (¬ ((x2 + x3) ≤ x4) → (pb_Ro_append_16 R3 K u i0 i1 x2 x3 x4))
set_option maxHeartbeats 1000000 in
theorem pt_Ro_append_8 {g : pj_G} {b : Nat} (C : pj_X g c_Ro_append 5 R_Ro none rm_Ro_append) {K : pj_M → Prop} (hE : pj_E g b (pj_Kv K)) {R3 : pj_M → Int32 → Prop}  {u : pj_M} {i0 : Nat} {i1 : Nat} {x2 : Int32} {x3 : Int32} {x4 : Int32} (hR3 : ∀ (u : pj_M) (x4 : Int32), R3 u x4 → pj_J g (pj_N g b u) 3 [some (.ref (b + i0)), some (.ref (b + i1)), some (.int x2), some (.int x3), some (.int x4)] []) (t0 : pj_R i0) (t1 : pj_R i1) (h : pb_Ro_append_8 R3 K u i0 i1 x2 x3 x4) : pj_J g (pj_N g b u) 8 [some (.ref (b + i0)), some (.ref (b + i1)), some (.int x2), some (.int x3), some (.int x4)] [] := by
  unfold pb_Ro_append_8 at h
  refine pj_iload C d_Ro_append_8 (pc' := 10) (i := 4) (x := x4) rfl rfl ?_
  refine pj_iload_n C d_Ro_append_10 (pc' := 11) (i := 2) (x := x2) rfl rfl rfl ?_
  refine pj_iload_n C d_Ro_append_11 (pc' := 12) (i := 3) (x := x3) rfl rfl rfl ?_
  refine pj_iadd C d_Ro_append_12 (pc' := 13) rfl ?_
  refine pj_icmp_ge C d_Ro_append_13 (pc' := 16) rfl (tgt := 66) (by decide) h (fun h => ?_) (fun h => ?_)
  · exact pj_cut (pj_le_n (pj_le_n (pj_le_n (pj_le_n (pj_le_n pj_le_e))))) (pt_Ro_append_66 C hE   h)
  · exact pj_cut (pj_le_s (pj_le_s (pj_le_s (pj_le_s (pj_le_s pj_le_e))))) (pt_Ro_append_16 C hE hR3 t0 t1 h)
def pb_Ro_append_3b (R3 : pj_M → Int32 → Prop) (K : pj_M → Prop) (u : pj_M) (i0 : Nat) (i1 : Nat) (x2 : Int32) (x3 : Int32) (x4 : Int32) : Prop := ((x4 < 0) → (pb_Ro_append_66  K u )) ∧ (¬ (x4 < 0) → (pb_Ro_append_8 R3 K u i0 i1 x2 x3 x4))
set_option maxHeartbeats 1000000 in
theorem pt_Ro_append_3b {g : pj_G} {b : Nat} (C : pj_X g c_Ro_append 5 R_Ro none rm_Ro_append) {K : pj_M → Prop} (hE : pj_E g b (pj_Kv K)) {R3 : pj_M → Int32 → Prop}  {u : pj_M} {i0 : Nat} {i1 : Nat} {x2 : Int32} {x3 : Int32} {x4 : Int32} (hR3 : ∀ (u : pj_M) (x4 : Int32), R3 u x4 → pj_J g (pj_N g b u) 3 [some (.ref (b + i0)), some (.ref (b + i1)), some (.int x2), some (.int x3), some (.int x4)] []) (t0 : pj_R i0) (t1 : pj_R i1) (h : pb_Ro_append_3b R3 K u i0 i1 x2 x3 x4) : pj_J g (pj_N g b u) 3 [some (.ref (b + i0)), some (.ref (b + i1)), some (.int x2), some (.int x3), some (.int x4)] [] := by
  unfold pb_Ro_append_3b at h
  refine pj_iload C d_Ro_append_3 (pc' := 5) (i := 4) (x := x4) rfl rfl ?_
  refine pj_if_lt C d_Ro_append_5 (pc' := 8) rfl (tgt := 66) (by decide) h (fun h => ?_) (fun h => ?_)
  · exact pj_cut (pj_le_n (pj_le_n (pj_le_n (pj_le_n (pj_le_n pj_le_e))))) (pt_Ro_append_66 C hE   h)
  · exact pj_cut (pj_le_s (pj_le_s (pj_le_s (pj_le_s (pj_le_s pj_le_e))))) (pt_Ro_append_8 C hE hR3 t0 t1 h)
def pb_Ro_append_3  (K : pj_M → Prop) (i0 : Nat) (i1 : Nat) (x2 : Int32) (x3 : Int32) : Nat → pj_M → Int32 → Prop
  | 0 => fun _ _ => False
  | n + 1 => fun u x4 => pb_Ro_append_3b (pb_Ro_append_3  K i0 i1 x2 x3 n) K u i0 i1 x2 x3 x4
theorem pt_Ro_append_3 {g : pj_G} {b : Nat} (C : pj_X g c_Ro_append 5 R_Ro none rm_Ro_append) {K : pj_M → Prop} (hE : pj_E g b (pj_Kv K))  {i0 : Nat} {i1 : Nat} {x2 : Int32} {x3 : Int32}  (t0 : pj_R i0) (t1 : pj_R i1) : ∀ (n : Nat) (u : pj_M) (x4 : Int32), pb_Ro_append_3  K i0 i1 x2 x3 n u x4 → pj_J g (pj_N g b u) 3 [some (.ref (b + i0)), some (.ref (b + i1)), some (.int x2), some (.int x3), some (.int x4)] [] := by
  intro n
  induction n with
  | zero => intro u x4 h; exact False.elim h
  | succ n ih =>
    intro u x4 h
    exact (pt_Ro_append_3b C hE ih t0 t1 h)
def pb_Ro_append_0  (K : pj_M → Prop) (u : pj_M) (i0 : Nat) (i1 : Nat) (x2 : Int32) (x3 : Int32) : Prop := ∃ n, pb_Ro_append_3  K i0 i1 x2 x3 n u x2
set_option maxHeartbeats 1000000 in
theorem pt_Ro_append_0 {g : pj_G} {b : Nat} (C : pj_X g c_Ro_append 5 R_Ro none rm_Ro_append) {K : pj_M → Prop} (hE : pj_E g b (pj_Kv K))   {u : pj_M} {i0 : Nat} {i1 : Nat} {x2 : Int32} {x3 : Int32}  (t0 : pj_R i0) (t1 : pj_R i1) (h : pb_Ro_append_0  K u i0 i1 x2 x3) : pj_J g (pj_N g b u) 0 [some (.ref (b + i0)), some (.ref (b + i1)), some (.int x2), some (.int x3), none] [] := by
  unfold pb_Ro_append_0 at h
  refine pj_iload_n C d_Ro_append_0 (pc' := 1) (i := 2) (x := x2) rfl rfl rfl ?_
  refine pj_istore C d_Ro_append_1 (pc' := 3) (i := 4) (vs' := [some (.ref (b + i0)), some (.ref (b + i1)), some (.int x2), some (.int x3), some (.int x2)]) rfl (Nat.le_of_ble_eq_true rfl) (Nat.le_of_ble_eq_true rfl) rfl rfl ?_
  obtain ⟨n, h⟩ := h
  exact pj_cut (pj_le_s (pj_le_s (pj_le_s (pj_le_s (pj_le_s pj_le_e))))) (pt_Ro_append_3 C hE  t0 t1 n _ _ h)
def pw_Ro_append (u : pj_M) (i0 : Nat) (i1 : Nat) (x2 : Int32) (x3 : Int32) (K : pj_M → Prop) : Prop := pb_Ro_append_0  K u i0 i1 x2 x3
theorem pc_Ro_append (l : Launch) (D : va_G) (E : Nat → ClassId) {b : Nat} {u : pj_M} {i0 : Nat} {i1 : Nat} {x2 : Int32} {x3 : Int32} {K : pj_M → Prop} (t0 : pj_R i0) (t1 : pj_R i1) (h : pw_Ro_append u i0 i1 x2 x3 K) : pj_C l y_Ro_append c_Ro_append 5 none rm_Ro_append D E b [.ref (b + i0), .ref (b + i1), .int x2, .int x3] u (pj_Kv K) := by
  refine pj_met (own := R_Ro) (by decide +kernel) rfl (Nat.le_of_ble_eq_true rfl) (fun g hE C => ?_)
  unfold pw_Ro_append at h
  show pj_J g (pj_N g b u) 0 [some (.ref (b + i0)), some (.ref (b + i1)), some (.int x2), some (.int x3), none] []
  exact pj_cut (pj_le_s (pj_le_s (pj_le_s (pj_le_s (pj_le_n pj_le_e))))) (pt_Ro_append_0 C hE  t0 t1 h)
