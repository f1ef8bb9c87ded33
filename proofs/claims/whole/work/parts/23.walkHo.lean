/-! Host.forget()V -/
theorem fp_Host_47_Host {g : pj_G} {b : Nat} {cc : ByteArray} {nL : Nat} {ret : Option FieldType} {rm : Room} {u : pj_M} {pc pc' : Nat} {vs : List (Option Value)} {st : List Value} (C : pj_X g cc nL R_Ho ret rm) {i : Nat} {x : Int32} {P : pj_M → Prop} (t : pj_T i = 6) (hb : pj_bi x) (hdg : decode cc pc = .ok (.putfield 47, 3)) (hp : pc + 3 = pc') (h : pj_put u i 7 x P) (kk : ∀ u', P u' → pj_J g (pj_N g b u') pc' vs st) : pj_J g (pj_N g b u) pc vs (.int x :: .ref (b + i) :: st) :=
  pj_putI C cl_Host hin_Host ty_Host tyok_Host nm_Host (k := 7) (Nat.le_of_ble_eq_true rfl) wm_206 (Or.inl rfl) rfl (ty := .boolean) (by decide +kernel) hb.nar hb.fit (pj_lt t (by decide)) (fun E u => ko_6 t) (F := fun f => [.int (f 0), .ref (b + 4), .ref (b + (i + 1)), .ref (b + (i + 3)), .int (f 4), .int (f 5), .int (f 6), .int (f 7), .int (f 8), .int (f 9), .int (f 10), .int (f 11), .int (f 12), .int (f 13), .int (f 14)]) (fun _ => Nat.le_of_ble_eq_true rfl) (fun _ _ => rfl) hdg hp h kk
theorem fp_Host_51_Host {g : pj_G} {b : Nat} {cc : ByteArray} {nL : Nat} {ret : Option FieldType} {rm : Room} {u : pj_M} {pc pc' : Nat} {vs : List (Option Value)} {st : List Value} (C : pj_X g cc nL R_Ho ret rm) {i : Nat} {x : Int32} {P : pj_M → Prop} (t : pj_T i = 6) (hb : pj_bi x) (hdg : decode cc pc = .ok (.putfield 51, 3)) (hp : pc + 3 = pc') (h : pj_put u i 8 x P) (kk : ∀ u', P u' → pj_J g (pj_N g b u') pc' vs st) : pj_J g (pj_N g b u) pc vs (.int x :: .ref (b + i) :: st) :=
  pj_putI C cl_Host hin_Host ty_Host tyok_Host nm_Host (k := 8) (Nat.le_of_ble_eq_true rfl) wm_207 (Or.inl rfl) rfl (ty := .boolean) (by decide +kernel) hb.nar hb.fit (pj_lt t (by decide)) (fun E u => ko_6 t) (F := fun f => [.int (f 0), .ref (b + 4), .ref (b + (i + 1)), .ref (b + (i + 3)), .int (f 4), .int (f 5), .int (f 6), .int (f 7), .int (f 8), .int (f 9), .int (f 10), .int (f 11), .int (f 12), .int (f 13), .int (f 14)]) (fun _ => Nat.le_of_ble_eq_true rfl) (fun _ _ => rfl) hdg hp h kk
theorem fp_Host_54_Host {g : pj_G} {b : Nat} {cc : ByteArray} {nL : Nat} {ret : Option FieldType} {rm : Room} {u : pj_M} {pc pc' : Nat} {vs : List (Option Value)} {st : List Value} (C : pj_X g cc nL R_Ho ret rm) {i : Nat} {x : Int32} {P : pj_M → Prop} (t : pj_T i = 6) (hb : pj_bi x) (hdg : decode cc pc = .ok (.putfield 54, 3)) (hp : pc + 3 = pc') (h : pj_put u i 11 x P) (kk : ∀ u', P u' → pj_J g (pj_N g b u') pc' vs st) : pj_J g (pj_N g b u) pc vs (.int x :: .ref (b + i) :: st) :=
  pj_putI C cl_Host hin_Host ty_Host tyok_Host nm_Host (k := 11) (Nat.le_of_ble_eq_true rfl) wm_210 (Or.inl rfl) rfl (ty := .boolean) (by decide +kernel) hb.nar hb.fit (pj_lt t (by decide)) (fun E u => ko_6 t) (F := fun f => [.int (f 0), .ref (b + 4), .ref (b + (i + 1)), .ref (b + (i + 3)), .int (f 4), .int (f 5), .int (f 6), .int (f 7), .int (f 8), .int (f 9), .int (f 10), .int (f 11), .int (f 12), .int (f 13), .int (f 14)]) (fun _ => Nat.le_of_ble_eq_true rfl) (fun _ _ => rfl) hdg hp h kk
theorem fp_Host_57_Host {g : pj_G} {b : Nat} {cc : ByteArray} {nL : Nat} {ret : Option FieldType} {rm : Room} {u : pj_M} {pc pc' : Nat} {vs : List (Option Value)} {st : List Value} (C : pj_X g cc nL R_Ho ret rm) {i : Nat} {x : Int32} {P : pj_M → Prop} (t : pj_T i = 6)  (hdg : decode cc pc = .ok (.putfield 57, 3)) (hp : pc + 3 = pc') (h : pj_put u i 12 x P) (kk : ∀ u', P u' → pj_J g (pj_N g b u') pc' vs st) : pj_J g (pj_N g b u) pc vs (.int x :: .ref (b + i) :: st) :=
  pj_putI C cl_Host hin_Host ty_Host tyok_Host nm_Host (k := 12) (Nat.le_of_ble_eq_true rfl) wm_211 (Or.inl rfl) rfl (ty := .int) (by decide +kernel) rfl rfl (pj_lt t (by decide)) (fun E u => ko_6 t) (F := fun f => [.int (f 0), .ref (b + 4), .ref (b + (i + 1)), .ref (b + (i + 3)), .int (f 4), .int (f 5), .int (f 6), .int (f 7), .int (f 8), .int (f 9), .int (f 10), .int (f 11), .int (f 12), .int (f 13), .int (f 14)]) (fun _ => Nat.le_of_ble_eq_true rfl) (fun _ _ => rfl) hdg hp h kk
def rm_Ho_forget : Room := { frames := 0, cells := 0, slots := 0, locals := 0 }
def pb_Ho_forget_0  (K : pj_M → Prop) (u : pj_M) (i0 : Nat) : Prop := pj_put u i0 7 0 fun u1 => (pj_put u1 i0 8 0 fun u2 => (pj_put u2 i0 11 0 fun u3 => (pj_put u3 i0 12 0 fun u4 => (K u4))))
set_option maxHeartbeats 1000000 in
theorem pt_Ho_forget_0 {g : pj_G} {b : Nat} (C : pj_X g c_Ho_forget 1 R_Ho none rm_Ho_forget) {K : pj_M → Prop} (hE : pj_E g b (pj_Kv K))   {u : pj_M} {i0 : Nat}  (t0 : pj_T i0 = 6) (h : pb_Ho_forget_0  K u i0) : pj_J g (pj_N g b u) 0 [some (.ref (b + i0))] [] := by
  unfold pb_Ho_forget_0 at h
  refine pj_aload_n C d_Ho_forget_0 (pc' := 1) (i := 0) (x := b + i0) rfl rfl rfl ?_
  refine pj_iconst C d_Ho_forget_1 (pc' := 2) rfl (v := 0) (by decide) ?_
  refine fp_Host_47_Host C t0 pj_bi0 d_Ho_forget_2 (pc' := 5) rfl h (fun u1 h => ?_)
  refine pj_aload_n C d_Ho_forget_5 (pc' := 6) (i := 0) (x := b + i0) rfl rfl rfl ?_
  refine pj_iconst C d_Ho_forget_6 (pc' := 7) rfl (v := 0) (by decide) ?_
  refine fp_Host_51_Host C t0 pj_bi0 d_Ho_forget_7 (pc' := 10) rfl h (fun u2 h => ?_)
  refine pj_aload_n C d_Ho_forget_10 (pc' := 11) (i := 0) (x := b + i0) rfl rfl rfl ?_
  refine pj_iconst C d_Ho_forget_11 (pc' := 12) rfl (v := 0) (by decide) ?_
  refine fp_Host_54_Host C t0 pj_bi0 d_Ho_forget_12 (pc' := 15) rfl h (fun u3 h => ?_)
  refine pj_aload_n C d_Ho_forget_15 (pc' := 16) (i := 0) (x := b + i0) rfl rfl rfl ?_
  refine pj_iconst C d_Ho_forget_16 (pc' := 17) rfl (v := 0) (by decide) ?_
  refine fp_Host_57_Host C t0  d_Ho_forget_17 (pc' := 20) rfl h (fun u4 h => ?_)
  exact pj_vret C hE d_Ho_forget_20 ⟨rfl, h⟩
def pw_Ho_forget (u : pj_M) (i0 : Nat) (K : pj_M → Prop) : Prop := pb_Ho_forget_0  K u i0
theorem pc_Ho_forget (l : Launch) (D : va_G) (E : Nat → ClassId) {b : Nat} {u : pj_M} {i0 : Nat} {K : pj_M → Prop} (t0 : pj_T i0 = 6) (h : pw_Ho_forget u i0 K) : pj_C l y_Ho_forget c_Ho_forget 1 none rm_Ho_forget D E b [.ref (b + i0)] u (pj_Kv K) := by
  refine pj_met (own := R_Ho) (by decide +kernel) rfl (Nat.le_of_ble_eq_true rfl) (fun g hE C => ?_)
  unfold pw_Ho_forget at h
  show pj_J g (pj_N g b u) 0 [some (.ref (b + i0))] []
  exact pj_cut (pj_le_s pj_le_e) (pt_Ho_forget_0 C hE  t0 h)
/-! Host.become(III)V -/
theorem fp_Host_21_Host {g : pj_G} {b : Nat} {cc : ByteArray} {nL : Nat} {ret : Option FieldType} {rm : Room} {u : pj_M} {pc pc' : Nat} {vs : List (Option Value)} {st : List Value} (C : pj_X g cc nL R_Ho ret rm) {i : Nat} {x : Int32} {P : pj_M → Prop} (t : pj_T i = 6)  (hdg : decode cc pc = .ok (.putfield 21, 3)) (hp : pc + 3 = pc') (h : pj_put u i 4 x P) (kk : ∀ u', P u' → pj_J g (pj_N g b u') pc' vs st) : pj_J g (pj_N g b u) pc vs (.int x :: .ref (b + i) :: st) :=
  pj_putI C cl_Host hin_Host ty_Host tyok_Host nm_Host (k := 4) (Nat.le_of_ble_eq_true rfl) wm_202 (Or.inl rfl) rfl (ty := .int) (by decide +kernel) rfl rfl (pj_lt t (by decide)) (fun E u => ko_6 t) (F := fun f => [.int (f 0), .ref (b + 4), .ref (b + (i + 1)), .ref (b + (i + 3)), .int (f 4), .int (f 5), .int (f 6), .int (f 7), .int (f 8), .int (f 9), .int (f 10), .int (f 11), .int (f 12), .int (f 13), .int (f 14)]) (fun _ => Nat.le_of_ble_eq_true rfl) (fun _ _ => rfl) hdg hp h kk
theorem fp_Host_32_Host {g : pj_G} {b : Nat} {cc : ByteArray} {nL : Nat} {ret : Option FieldType} {rm : Room} {u : pj_M} {pc pc' : Nat} {vs : List (Option Value)} {st : List Value} (C : pj_X g cc nL R_Ho ret rm) {i : Nat} {x : Int32} {P : pj_M → Prop} (t : pj_T i = 6)  (hdg : decode cc pc = .ok (.putfield 32, 3)) (hp : pc + 3 = pc') (h : pj_put u i 5 x P) (kk : ∀ u', P u' → pj_J g (pj_N g b u') pc' vs st) : pj_J g (pj_N g b u) pc vs (.int x :: .ref (b + i) :: st) :=
  pj_putI C cl_Host hin_Host ty_Host tyok_Host nm_Host (k := 5) (Nat.le_of_ble_eq_true rfl) wm_204 (Or.inl rfl) rfl (ty := .int) (by decide +kernel) rfl rfl (pj_lt t (by decide)) (fun E u => ko_6 t) (F := fun f => [.int (f 0), .ref (b + 4), .ref (b + (i + 1)), .ref (b + (i + 3)), .int (f 4), .int (f 5), .int (f 6), .int (f 7), .int (f 8), .int (f 9), .int (f 10), .int (f 11), .int (f 12), .int (f 13), .int (f 14)]) (fun _ => Nat.le_of_ble_eq_true rfl) (fun _ _ => rfl) hdg hp h kk
theorem fp_Host_35_Host {g : pj_G} {b : Nat} {cc : ByteArray} {nL : Nat} {ret : Option FieldType} {rm : Room} {u : pj_M} {pc pc' : Nat} {vs : List (Option Value)} {st : List Value} (C : pj_X g cc nL R_Ho ret rm) {i : Nat} {x : Int32} {P : pj_M → Prop} (t : pj_T i = 6)  (hdg : decode cc pc = .ok (.putfield 35, 3)) (hp : pc + 3 = pc') (h : pj_put u i 6 x P) (kk : ∀ u', P u' → pj_J g (pj_N g b u') pc' vs st) : pj_J g (pj_N g b u) pc vs (.int x :: .ref (b + i) :: st) :=
  pj_putI C cl_Host hin_Host ty_Host tyok_Host nm_Host (k := 6) (Nat.le_of_ble_eq_true rfl) wm_205 (Or.inl rfl) rfl (ty := .int) (by decide +kernel) rfl rfl (pj_lt t (by decide)) (fun E u => ko_6 t) (F := fun f => [.int (f 0), .ref (b + 4), .ref (b + (i + 1)), .ref (b + (i + 3)), .int (f 4), .int (f 5), .int (f 6), .int (f 7), .int (f 8), .int (f 9), .int (f 10), .int (f 11), .int (f 12), .int (f 13), .int (f 14)]) (fun _ => Nat.le_of_ble_eq_true rfl) (fun _ _ => rfl) hdg hp h kk
theorem ck_Host_38_Host {g : pj_G} {b : Nat} {cc : ByteArray} {nL : Nat} {ret : Option FieldType} {rm : Room} {u : pj_M} {pc pc' : Nat} {vs : List (Option Value)} {st : List Value} (C : pj_X g cc nL R_Ho ret rm) {i0 : Nat} {K : pj_M → Prop} (t0 : pj_T i0 = 6) (h : pw_Ho_forget u i0 K) (hdg : decode cc pc = .ok (.invokevirtual 38, 3)) (hp : pc + 3 = pc') (hR : rm_Ho_forget.frames + 1 ≤ rm.frames ∧ 8 + (1 + 11) + rm_Ho_forget.locals ≤ rm.locals) (h8 : (st.map fun v => v.category).sum ≤ 8) (kk : ∀ u', K u' → pj_J g (pj_N g b u') pc' vs st) : pj_J g (pj_N g b u) pc vs (.ref (b + i0) :: st) :=
  pj_callV C (As := []) (fun l D E => pc_Ho_forget l D E t0 h) rfl rfl cl_Host (pj_lt t0 (by decide)) (fun E => ko_6 t0) wm_562 wm_564 wm_0 wm_95 wm_565 (by decide +kernel) (n := 0) rfl hR rfl h8 hdg hp (fun v u' hq => by obtain ⟨rfl, hk⟩ := hq; exact kk u' hk)
def rm_Ho_become : Room := { frames := 1, cells := 0, slots := 0, locals := 20 }
def pb_Ho_become_0  (K : pj_M → Prop) (u : pj_M) (i0 : Nat) (x1 : Int32) (x2 : Int32) (x3 : Int32) : Prop := pj_put u i0 4 x1 fun u1 => (pj_put u1 i0 5 x2 fun u2 => (pj_put u2 i0 6 x3 fun u3 => (pw_Ho_forget u3 i0 fun u4 => (K u4))))
set_option maxHeartbeats 1000000 in
theorem pt_Ho_become_0 {g : pj_G} {b : Nat} (C : pj_X g c_Ho_become 4 R_Ho none rm_Ho_become) {K : pj_M → Prop} (hE : pj_E g b (pj_Kv K))   {u : pj_M} {i0 : Nat} {x1 : Int32} {x2 : Int32} {x3 : Int32}  (t0 : pj_T i0 = 6) (h : pb_Ho_become_0  K u i0 x1 x2 x3) : pj_J g (pj_N g b u) 0 [some (.ref (b + i0)), some (.int x1), some (.int x2), some (.int x3)] [] := by
  unfold pb_Ho_become_0 at h
  refine pj_aload_n C d_Ho_become_0 (pc' := 1) (i := 0) (x := b + i0) rfl rfl rfl ?_
  refine pj_iload_n C d_Ho_become_1 (pc' := 2) (i := 1) (x := x1) rfl rfl rfl ?_
  refine fp_Host_21_Host C t0  d_Ho_become_2 (pc' := 5) rfl h (fun u1 h => ?_)
  refine pj_aload_n C d_Ho_become_5 (pc' := 6) (i := 0) (x := b + i0) rfl rfl rfl ?_
  refine pj_iload_n C d_Ho_become_6 (pc' := 7) (i := 2) (x := x2) rfl rfl rfl ?_
  refine fp_Host_32_Host C t0  d_Ho_become_7 (pc' := 10) rfl h (fun u2 h => ?_)
  refine pj_aload_n C d_Ho_become_10 (pc' := 11) (i := 0) (x := b + i0) rfl rfl rfl ?_
  refine pj_iload_n C d_Ho_become_11 (pc' := 12) (i := 3) (x := x3) rfl rfl rfl ?_
  refine fp_Host_35_Host C t0  d_Ho_become_12 (pc' := 15) rfl h (fun u3 h => ?_)
  refine pj_aload_n C d_Ho_become_15 (pc' := 16) (i := 0) (x := b + i0) rfl rfl rfl ?_
  refine ck_Host_38_Host C t0 h d_Ho_become_16 (pc' := 19) rfl ⟨Nat.le_of_ble_eq_true rfl, Nat.le_of_ble_eq_true rfl⟩ (Nat.le_of_ble_eq_true rfl) (fun u4 h => ?_)
  exact pj_vret C hE d_Ho_become_19 ⟨rfl, h⟩
def pw_Ho_become (u : pj_M) (i0 : Nat) (x1 : Int32) (x2 : Int32) (x3 : Int32) (K : pj_M → Prop) : Prop := pb_Ho_become_0  K u i0 x1 x2 x3
theorem pc_Ho_become (l : Launch) (D : va_G) (E : Nat → ClassId) {b : Nat} {u : pj_M} {i0 : Nat} {x1 : Int32} {x2 : Int32} {x3 : Int32} {K : pj_M → Prop} (t0 : pj_T i0 = 6) (h : pw_Ho_become u i0 x1 x2 x3 K) : pj_C l y_Ho_become c_Ho_become 4 none rm_Ho_become D E b [.ref (b + i0), .int x1, .int x2, .int x3] u (pj_Kv K) := by
  refine pj_met (own := R_Ho) (by decide +kernel) rfl (Nat.le_of_ble_eq_true rfl) (fun g hE C => ?_)
  unfold pw_Ho_become at h
  show pj_J g (pj_N g b u) 0 [some (.ref (b + i0)), some (.int x1), some (.int x2), some (.int x3)] []
  exact pj_cut (pj_le_s (pj_le_s (pj_le_s (pj_le_s pj_le_e)))) (pt_Ho_become_0 C hE  t0 h)
/-! Host.call(I)V -/
theorem fg_Host_28_Host {g : pj_G} {b : Nat} {cc : ByteArray} {nL : Nat} {ret : Option FieldType} {rm : Room} {u : pj_M} {pc pc' : Nat} {vs : List (Option Value)} {st : List Value} (C : pj_X g cc nL R_Ho ret rm) {i : Nat} (t : pj_T i = 6) (hdg : decode cc pc = .ok (.getfield 28, 3)) (hp : pc + 3 = pc') (kk : pj_J g (pj_N g b u) pc' vs (.ref (b + 4) :: st)) : pj_J g (pj_N g b u) pc vs (.ref (b + i) :: st) :=
  pj_get C cl_Host hin_Host (k := 1) (Nat.le_of_ble_eq_true rfl) wm_199 (Or.inl rfl) (pj_lt t (by decide)) (fun E => ko_6 t) rfl hdg hp kk
theorem fg_Host_25_Host {g : pj_G} {b : Nat} {cc : ByteArray} {nL : Nat} {ret : Option FieldType} {rm : Room} {u : pj_M} {pc pc' : Nat} {vs : List (Option Value)} {st : List Value} (C : pj_X g cc nL R_Ho ret rm) {i : Nat} (t : pj_T i = 6) (hdg : decode cc pc = .ok (.getfield 25, 3)) (hp : pc + 3 = pc') (kk : pj_J g (pj_N g b u) pc' vs (.int (u i 0) :: st)) : pj_J g (pj_N g b u) pc vs (.ref (b + i) :: st) :=
  pj_get C cl_Host hin_Host (k := 0) (Nat.le_of_ble_eq_true rfl) wm_198 (Or.inl rfl) (pj_lt t (by decide)) (fun E => ko_6 t) rfl hdg hp kk
theorem ck_Host_41_Mailbox {g : pj_G} {b : Nat} {cc : ByteArray} {nL : Nat} {ret : Option FieldType} {rm : Room} {u : pj_M} {pc pc' : Nat} {vs : List (Option Value)} {st : List Value} (C : pj_X g cc nL R_Ho ret rm) {x1 : Int32} {x2 : Int32} {x3 : Int32} {K : pj_M → Prop}  (h : pw_Ma_sendByte u x1 x2 x3 K) (hdg : decode cc pc = .ok (.invokevirtual 41, 3)) (hp : pc + 3 = pc') (hR : rm_Ma_sendByte.frames + 1 ≤ rm.frames ∧ 8 + (5 + 11) + rm_Ma_sendByte.locals ≤ rm.locals) (h8 : (st.map fun v => v.category).sum ≤ 8) (kk : ∀ u', K u' → pj_J g (pj_N g b u') pc' vs st) : pj_J g (pj_N g b u) pc vs (.int x3 :: .int x2 :: .int x1 :: .ref (b + 4) :: st) :=
  pj_callV C (As := [.int x1, .int x2, .int x3]) (fun l D E => pc_Ma_sendByte l D E  h) rfl rfl cl_Mailbox (pj_lt tk_4 (by decide)) (fun E => ko_2 tk_4) wm_574 wm_575 wm_576 wm_93 wm_577 (by decide +kernel) (n := 3) rfl hR rfl h8 hdg hp (fun v u' hq => by obtain ⟨rfl, hk⟩ := hq; exact kk u' hk)
def rm_Ho_call : Room := { frames := 2, cells := 0, slots := 0, locals := 46 }
def pb_Ho_call_0  (K : pj_M → Prop) (u : pj_M) (i0 : Nat) (x1 : Int32) : Prop := pw_Ho_forget u i0 fun u1 => (pw_Ma_sendByte u1 0 (u1 i0 0) x1 fun u2 => (K u2))
set_option maxHeartbeats 1000000 in
theorem pt_Ho_call_0 {g : pj_G} {b : Nat} (C : pj_X g c_Ho_call 2 R_Ho none rm_Ho_call) {K : pj_M → Prop} (hE : pj_E g b (pj_Kv K))   {u : pj_M} {i0 : Nat} {x1 : Int32}  (t0 : pj_T i0 = 6) (h : pb_Ho_call_0  K u i0 x1) : pj_J g (pj_N g b u) 0 [some (.ref (b + i0)), some (.int x1)] [] := by
  unfold pb_Ho_call_0 at h
  refine pj_aload_n C d_Ho_call_0 (pc' := 1) (i := 0) (x := b + i0) rfl rfl rfl ?_
  refine ck_Host_38_Host C t0 h d_Ho_call_1 (pc' := 4) rfl ⟨Nat.le_of_ble_eq_true rfl, Nat.le_of_ble_eq_true rfl⟩ (Nat.le_of_ble_eq_true rfl) (fun u1 h => ?_)
  refine pj_aload_n C d_Ho_call_4 (pc' := 5) (i := 0) (x := b + i0) rfl rfl rfl ?_
  refine fg_Host_28_Host C t0 d_Ho_call_5 (pc' := 8) rfl ?_
  refine pj_iconst C d_Ho_call_8 (pc' := 9) rfl (v := 0) (by decide) ?_
  refine pj_aload_n C d_Ho_call_9 (pc' := 10) (i := 0) (x := b + i0) rfl rfl rfl ?_
  refine fg_Host_25_Host C t0 d_Ho_call_10 (pc' := 13) rfl ?_
  refine pj_iload_n C d_Ho_call_13 (pc' := 14) (i := 1) (x := x1) rfl rfl rfl ?_
  refine ck_Host_41_Mailbox C  h d_Ho_call_14 (pc' := 17) rfl ⟨Nat.le_of_ble_eq_true rfl, Nat.le_of_ble_eq_true rfl⟩ (Nat.le_of_ble_eq_true rfl) (fun u2 h => ?_)
  exact pj_vret C hE d_Ho_call_17 ⟨rfl, h⟩
def pw_Ho_call (u : pj_M) (i0 : Nat) (x1 : Int32) (K : pj_M → Prop) : Prop := pb_Ho_call_0  K u i0 x1
theorem pc_Ho_call (l : Launch) (D : va_G) (E : Nat → ClassId) {b : Nat} {u : pj_M} {i0 : Nat} {x1 : Int32} {K : pj_M → Prop} (t0 : pj_T i0 = 6) (h : pw_Ho_call u i0 x1 K) : pj_C l y_Ho_call c_Ho_call 2 none rm_Ho_call D E b [.ref (b + i0), .int x1] u (pj_Kv K) := by
  refine pj_met (own := R_Ho) (by decide +kernel) rfl (Nat.le_of_ble_eq_true rfl) (fun g hE C => ?_)
  unfold pw_Ho_call at h
  show pj_J g (pj_N g b u) 0 [some (.ref (b + i0)), some (.int x1)] []
  exact pj_cut (pj_le_s (pj_le_s pj_le_e)) (pt_Ho_call_0 C hE  t0 h)
/-! Host.isRepeated()Z -/
theorem fg_Host_47_Host {g : pj_G} {b : Nat} {cc : ByteArray} {nL : Nat} {ret : Option FieldType} {rm : Room} {u : pj_M} {pc pc' : Nat} {vs : List (Option Value)} {st : List Value} (C : pj_X g cc nL R_Ho ret rm) {i : Nat} (t : pj_T i = 6) (hdg : decode cc pc = .ok (.getfield 47, 3)) (hp : pc + 3 = pc') (kk : pj_J g (pj_N g b u) pc' vs (.int (u i 7) :: st)) : pj_J g (pj_N g b u) pc vs (.ref (b + i) :: st) :=
  pj_get C cl_Host hin_Host (k := 7) (Nat.le_of_ble_eq_true rfl) wm_206 (Or.inl rfl) (pj_lt t (by decide)) (fun E => ko_6 t) rfl hdg hp kk
theorem fg_Host_18_Host {g : pj_G} {b : Nat} {cc : ByteArray} {nL : Nat} {ret : Option FieldType} {rm : Room} {u : pj_M} {pc pc' : Nat} {vs : List (Option Value)} {st : List Value} (C : pj_X g cc nL R_Ho ret rm) {i : Nat} (t : pj_T i = 6) (hdg : decode cc pc = .ok (.getfield 18, 3)) (hp : pc + 3 = pc') (kk : pj_J g (pj_N g b u) pc' vs (.ref (b + (i + 3)) :: st)) : pj_J g (pj_N g b u) pc vs (.ref (b + i) :: st) :=
  pj_get C cl_Host hin_Host (k := 3) (Nat.le_of_ble_eq_true rfl) wm_201 (Or.inl rfl) (pj_lt t (by decide)) (fun E => ko_6 t) rfl hdg hp kk
theorem fg_Host_12_Host {g : pj_G} {b : Nat} {cc : ByteArray} {nL : Nat} {ret : Option FieldType} {rm : Room} {u : pj_M} {pc pc' : Nat} {vs : List (Option Value)} {st : List Value} (C : pj_X g cc nL R_Ho ret rm) {i : Nat} (t : pj_T i = 6) (hdg : decode cc pc = .ok (.getfield 12, 3)) (hp : pc + 3 = pc') (kk : pj_J g (pj_N g b u) pc' vs (.ref (b + (i + 1)) :: st)) : pj_J g (pj_N g b u) pc vs (.ref (b + i) :: st) :=
  pj_get C cl_Host hin_Host (k := 2) (Nat.le_of_ble_eq_true rfl) wm_200 (Or.inl rfl) (pj_lt t (by decide)) (fun E => ko_6 t) rfl hdg hp kk
theorem ck_Host_82_Packet {g : pj_G} {b : Nat} {cc : ByteArray} {nL : Nat} {ret : Option FieldType} {rm : Room} {u : pj_M} {pc pc' : Nat} {vs : List (Option Value)} {st : List Value} (C : pj_X g cc nL R_Ho ret rm) {i0 : Nat} {K : Int32 → pj_M → Prop} (t0 : pj_T i0 = 4) (h : pw_Pa_id u i0 K) (hdg : decode cc pc = .ok (.invokevirtual 82, 3)) (hp : pc + 3 = pc') (hR : rm_Pa_id.frames + 1 ≤ rm.frames ∧ 8 + (1 + 11) + rm_Pa_id.locals ≤ rm.locals) (h8 : (st.map fun v => v.category).sum ≤ 8) (kk : ∀ r u', K r u' → pj_J g (pj_N g b u') pc' vs (.int r :: st)) : pj_J g (pj_N g b u) pc vs (.ref (b + i0) :: st) :=
  pj_callV C (As := []) (fun l D E => pc_Pa_id l D E t0 h) rfl rfl cl_Packet (pj_lt t0 (by decide)) (fun E => ko_4 t0) wm_813 wm_643 wm_644 wm_96 wm_645 (by decide +kernel) (n := 0) rfl hR rfl h8 hdg hp (fun v u' hq => by obtain ⟨r, rfl, hk⟩ := hq; exact kk r u' hk)
def rm_Ho_isRepeated : Room := { frames := 2, cells := 0, slots := 0, locals := 41 }
def pb_Ho_isRepeated_29  (K : Int32 → pj_M → Prop) (u : pj_M) (s0 : Int32) : Prop := pj_bi s0 ∧ K s0 u
set_option maxHeartbeats 1000000 in
theorem pt_Ho_isRepeated_29 {g : pj_G} {b : Nat} (C : pj_X g c_Ho_isRepeated 1 R_Ho (some .boolean) rm_Ho_isRepeated) {K : Int32 → pj_M → Prop} (hE : pj_E g b (pj_Ki K))   {u : pj_M} {s0 : Int32}   (h : pb_Ho_isRepeated_29  K u s0) : pj_J g (pj_N g b u) 29 [none] [.int s0] := by
  unfold pb_Ho_isRepeated_29 at h
  exact pj_zret C hE d_Ho_isRepeated_29 h.1 ⟨_, rfl, h.2⟩
def pb_Ho_isRepeated_28  (K : Int32 → pj_M → Prop) (u : pj_M)  : Prop := pb_Ho_isRepeated_29  K u 0
set_option maxHeartbeats 1000000 in
theorem pt_Ho_isRepeated_28 {g : pj_G} {b : Nat} (C : pj_X g c_Ho_isRepeated 1 R_Ho (some .boolean) rm_Ho_isRepeated) {K : Int32 → pj_M → Prop} (hE : pj_E g b (pj_Ki K))   {u : pj_M}    (h : pb_Ho_isRepeated_28  K u ) : pj_J g (pj_N g b u) 28 [none] [] := by
  unfold pb_Ho_isRepeated_28 at h
  refine pj_iconst C d_Ho_isRepeated_28 (pc' := 29) rfl (v := 0) (by decide) ?_
  exact pj_cut (pj_le_n pj_le_e) (pt_Ho_isRepeated_29 C hE   h)
def pb_Ho_isRepeated_24  (K : Int32 → pj_M → Prop) (u : pj_M)  : Prop := pb_Ho_isRepeated_29  K u 1
set_option maxHeartbeats 1000000 in
theorem pt_Ho_isRepeated_24 {g : pj_G} {b : Nat} (C : pj_X g c_Ho_isRepeated 1 R_Ho (some .boolean) rm_Ho_isRepeated) {K : Int32 → pj_M → Prop} (hE : pj_E g b (pj_Ki K))   {u : pj_M}    (h : pb_Ho_isRepeated_24  K u ) : pj_J g (pj_N g b u) 24 [none] [] := by
  unfold pb_Ho_isRepeated_24 at h
  refine pj_iconst C d_Ho_isRepeated_24 (pc' := 25) rfl (v := 1) (by decide) ?_
  refine pj_goto C d_Ho_isRepeated_25 (tgt := 29) (by decide) ?_
  exact pj_cut (pj_le_n pj_le_e) (pt_Ho_isRepeated_29 C hE   h)
def pb_Ho_isRepeated_7  (K : Int32 → pj_M → Prop) (u : pj_M) (i0 : Nat) : Prop := pw_Pa_id u (i0 + 3) fun r2 u1 => (pw_Pa_id u1 (i0 + 1) fun r4 u3 => (((r2 = r4) → (pb_Ho_isRepeated_24  K u3 )) ∧ (¬ (r2 = r4) → (pb_Ho_isRepeated_28  K u3 ))))
set_option maxHeartbeats 1000000 in
theorem pt_Ho_isRepeated_7 {g : pj_G} {b : Nat} (C : pj_X g c_Ho_isRepeated 1 R_Ho (some .boolean) rm_Ho_isRepeated) {K : Int32 → pj_M → Prop} (hE : pj_E g b (pj_Ki K))   {u : pj_M} {i0 : Nat}  (t0 : pj_T i0 = 6) (h : pb_Ho_isRepeated_7  K u i0) : pj_J g (pj_N g b u) 7 [some (.ref (b + i0))] [] := by
  unfold pb_Ho_isRepeated_7 at h
  refine pj_aload_n C d_Ho_isRepeated_7 (pc' := 8) (i := 0) (x := b + i0) rfl rfl rfl ?_
  refine fg_Host_18_Host C t0 d_Ho_isRepeated_8 (pc' := 11) rfl ?_
  refine ck_Host_82_Packet C (pl_Host_latest t0) h d_Ho_isRepeated_11 (pc' := 14) rfl ⟨Nat.le_of_ble_eq_true rfl, Nat.le_of_ble_eq_true rfl⟩ (Nat.le_of_ble_eq_true rfl) (fun r2 u1 h => ?_)
  refine pj_aload_n C d_Ho_isRepeated_14 (pc' := 15) (i := 0) (x := b + i0) rfl rfl rfl ?_
  refine fg_Host_12_Host C t0 d_Ho_isRepeated_15 (pc' := 18) rfl ?_
  refine ck_Host_82_Packet C (pl_Host_packet t0) h d_Ho_isRepeated_18 (pc' := 21) rfl ⟨Nat.le_of_ble_eq_true rfl, Nat.le_of_ble_eq_true rfl⟩ (Nat.le_of_ble_eq_true rfl) (fun r4 u3 h => ?_)
  refine pj_icmp_ne C d_Ho_isRepeated_21 (pc' := 24) rfl (tgt := 28) (by decide) h (fun h => ?_) (fun h => ?_)
  · exact pj_cut (pj_le_n pj_le_e) (pt_Ho_isRepeated_28 C hE   h)
  · exact pj_cut (pj_le_n pj_le_e) (pt_Ho_isRepeated_24 C hE   h)
def pb_Ho_isRepeated_0  (K : Int32 → pj_M → Prop) (u : pj_M) (i0 : Nat) : Prop := (((u i0 7) = 0) → (pb_Ho_isRepeated_28  K u )) ∧ (¬ ((u i0 7) = 0) → (pb_Ho_isRepeated_7  K u i0))
set_option maxHeartbeats 1000000 in
theorem pt_Ho_isRepeated_0 {g : pj_G} {b : Nat} (C : pj_X g c_Ho_isRepeated 1 R_Ho (some .boolean) rm_Ho_isRepeated) {K : Int32 → pj_M → Prop} (hE : pj_E g b (pj_Ki K))   {u : pj_M} {i0 : Nat}  (t0 : pj_T i0 = 6) (h : pb_Ho_isRepeated_0  K u i0) : pj_J g (pj_N g b u) 0 [some (.ref (b + i0))] [] := by
  unfold pb_Ho_isRepeated_0 at h
  refine pj_aload_n C d_Ho_isRepeated_0 (pc' := 1) (i := 0) (x := b + i0) rfl rfl rfl ?_
  refine fg_Host_47_Host C t0 d_Ho_isRepeated_1 (pc' := 4) rfl ?_
  refine pj_if_eq C d_Ho_isRepeated_4 (pc' := 7) rfl (tgt := 28) (by decide) h (fun h => ?_) (fun h => ?_)
  · exact pj_cut (pj_le_n pj_le_e) (pt_Ho_isRepeated_28 C hE   h)
  · exact pj_cut (pj_le_s pj_le_e) (pt_Ho_isRepeated_7 C hE  t0 h)
def pw_Ho_isRepeated (u : pj_M) (i0 : Nat) (K : Int32 → pj_M → Prop) : Prop := pb_Ho_isRepeated_0  K u i0
theorem pc_Ho_isRepeated (l : Launch) (D : va_G) (E : Nat → ClassId) {b : Nat} {u : pj_M} {i0 : Nat} {K : Int32 → pj_M → Prop} (t0 : pj_T i0 = 6) (h : pw_Ho_isRepeated u i0 K) : pj_C l y_Ho_isRepeated c_Ho_isRepeated 1 (some .boolean) rm_Ho_isRepeated D E b [.ref (b + i0)] u (pj_Ki K) := by
  refine pj_met (own := R_Ho) (by decide +kernel) rfl (Nat.le_of_ble_eq_true rfl) (fun g hE C => ?_)
  unfold pw_Ho_isRepeated at h
  show pj_J g (pj_N g b u) 0 [some (.ref (b + i0))] []
  exact pj_cut (pj_le_s pj_le_e) (pt_Ho_isRepeated_0 C hE  t0 h)
/-! Host.tellUser()Z -/
theorem fg_Host_21_Host {g : pj_G} {b : Nat} {cc : ByteArray} {nL : Nat} {ret : Option FieldType} {rm : Room} {u : pj_M} {pc pc' : Nat} {vs : List (Option Value)} {st : List Value} (C : pj_X g cc nL R_Ho ret rm) {i : Nat} (t : pj_T i = 6) (hdg : decode cc pc = .ok (.getfield 21, 3)) (hp : pc + 3 = pc') (kk : pj_J g (pj_N g b u) pc' vs (.int (u i 4) :: st)) : pj_J g (pj_N g b u) pc vs (.ref (b + i) :: st) :=
  pj_get C cl_Host hin_Host (k := 4) (Nat.le_of_ble_eq_true rfl) wm_202 (Or.inl rfl) (pj_lt t (by decide)) (fun E => ko_6 t) rfl hdg hp kk
theorem ck_Host_103_Packet {g : pj_G} {b : Nat} {cc : ByteArray} {nL : Nat} {ret : Option FieldType} {rm : Room} {u : pj_M} {pc pc' : Nat} {vs : List (Option Value)} {st : List Value} (C : pj_X g cc nL R_Ho ret rm) {i0 : Nat} {x1 : Int32} {x2 : Int32} {x3 : Int32} {K : pj_M → Prop} (t0 : pj_T i0 = 4) (h : pw_Pa_open u i0 x1 x2 x3 K) (hdg : decode cc pc = .ok (.invokevirtual 103, 3)) (hp : pc + 3 = pc') (hR : rm_Pa_open.frames + 1 ≤ rm.frames ∧ 8 + (4 + 11) + rm_Pa_open.locals ≤ rm.locals) (h8 : (st.map fun v => v.category).sum ≤ 8) (kk : ∀ u', K u' → pj_J g (pj_N g b u') pc' vs st) : pj_J g (pj_N g b u) pc vs (.int x3 :: .int x2 :: .int x1 :: .ref (b + i0) :: st) :=
  pj_callV C (As := [.int x1, .int x2, .int x3]) (fun l D E => pc_Pa_open l D E t0 h) rfl rfl cl_Packet (pj_lt t0 (by decide)) (fun E => ko_4 t0) wm_823 wm_607 wm_608 wm_96 wm_609 (by decide +kernel) (n := 3) rfl hR rfl h8 hdg hp (fun v u' hq => by obtain ⟨rfl, hk⟩ := hq; exact kk u' hk)
theorem ck_Host_106_Packet {g : pj_G} {b : Nat} {cc : ByteArray} {nL : Nat} {ret : Option FieldType} {rm : Room} {u : pj_M} {pc pc' : Nat} {vs : List (Option Value)} {st : List Value} (C : pj_X g cc nL R_Ho ret rm) {i0 : Nat} {x1 : Int32} {K : pj_M → Prop} (t : pj_T i0 = 4) (h : pw_Ro_put u i0 x1 K) (hdg : decode cc pc = .ok (.invokevirtual 106, 3)) (hp : pc + 3 = pc') (hR : rm_Ro_put.frames + 1 ≤ rm.frames ∧ 8 + (2 + 11) + rm_Ro_put.locals ≤ rm.locals) (h8 : (st.map fun v => v.category).sum ≤ 8) (kk : ∀ u', K u' → pj_J g (pj_N g b u') pc' vs st) : pj_J g (pj_N g b u) pc vs (.int x1 :: .ref (b + i0) :: st) := by
  have t0 : pj_R i0 := Or.inr t
  exact pj_callU C (x := ⟨"PortGuard$Packet", "put", "(I)V"⟩) (owner := "PortGuard$Row") (As := [.int x1]) (fun l D E => pc_Ro_put l D E t0 h) rfl rfl cl_Packet (pj_lt t (by decide)) (fun E => ko_4 t) rfl wm_824 wm_589 wm_617 wm_94 wm_593 wm_615 (by decide +kernel) (n := 1) rfl hR rfl h8 hdg hp (fun v u' hq => by obtain ⟨rfl, hk⟩ := hq; exact kk u' hk)
theorem ck_Host_110_Packet {g : pj_G} {b : Nat} {cc : ByteArray} {nL : Nat} {ret : Option FieldType} {rm : Room} {u : pj_M} {pc pc' : Nat} {vs : List (Option Value)} {st : List Value} (C : pj_X g cc nL R_Ho ret rm) {i0 : Nat} {K : pj_M → Prop} (t0 : pj_T i0 = 4) (h : pw_Pa_setLength u i0 K) (hdg : decode cc pc = .ok (.invokevirtual 110, 3)) (hp : pc + 3 = pc') (hR : rm_Pa_setLength.frames + 1 ≤ rm.frames ∧ 8 + (1 + 11) + rm_Pa_setLength.locals ≤ rm.locals) (h8 : (st.map fun v => v.category).sum ≤ 8) (kk : ∀ u', K u' → pj_J g (pj_N g b u') pc' vs st) : pj_J g (pj_N g b u) pc vs (.ref (b + i0) :: st) :=
  pj_callV C (As := []) (fun l D E => pc_Pa_setLength l D E t0 h) rfl rfl cl_Packet (pj_lt t0 (by decide)) (fun E => ko_4 t0) wm_825 wm_619 wm_620 wm_96 wm_621 (by decide +kernel) (n := 0) rfl hR rfl h8 hdg hp (fun v u' hq => by obtain ⟨rfl, hk⟩ := hq; exact kk u' hk)
def rm_Ho_tellUser : Room := { frames := 2, cells := 0, slots := 0, locals := 44 }
def pb_Ho_tellUser_0  (K : Int32 → pj_M → Prop) (u : pj_M) (i0 : Nat) : Prop := pj_put u i0 11 0 fun u1 => (pw_Pa_id u1 (i0 + 1) fun r3 u2 => (pw_Pa_open u2 (i0 + 3) 2 r3 1 fun u4 => (pw_Ro_put u4 (i0 + 3) (u4 i0 4) fun u5 => (pw_Pa_setLength u5 (i0 + 3) fun u6 => (K 1 u6)))))
set_option maxHeartbeats 1000000 in
theorem pt_Ho_tellUser_0 {g : pj_G} {b : Nat} (C : pj_X g c_Ho_tellUser 1 R_Ho (some .boolean) rm_Ho_tellUser) {K : Int32 → pj_M → Prop} (hE : pj_E g b (pj_Ki K))   {u : pj_M} {i0 : Nat}  (t0 : pj_T i0 = 6) (h : pb_Ho_tellUser_0  K u i0) : pj_J g (pj_N g b u) 0 [some (.ref (b + i0))] [] := by
  unfold pb_Ho_tellUser_0 at h
  refine pj_aload_n C d_Ho_tellUser_0 (pc' := 1) (i := 0) (x := b + i0) rfl rfl rfl ?_
  refine pj_iconst C d_Ho_tellUser_1 (pc' := 2) rfl (v := 0) (by decide) ?_
  refine fp_Host_54_Host C t0 pj_bi0 d_Ho_tellUser_2 (pc' := 5) rfl h (fun u1 h => ?_)
  refine pj_aload_n C d_Ho_tellUser_5 (pc' := 6) (i := 0) (x := b + i0) rfl rfl rfl ?_
  refine fg_Host_18_Host C t0 d_Ho_tellUser_6 (pc' := 9) rfl ?_
  refine pj_iconst C d_Ho_tellUser_9 (pc' := 10) rfl (v := 2) (by decide) ?_
  refine pj_aload_n C d_Ho_tellUser_10 (pc' := 11) (i := 0) (x := b + i0) rfl rfl rfl ?_
  refine fg_Host_12_Host C t0 d_Ho_tellUser_11 (pc' := 14) rfl ?_
  refine ck_Host_82_Packet C (pl_Host_packet t0) h d_Ho_tellUser_14 (pc' := 17) rfl ⟨Nat.le_of_ble_eq_true rfl, Nat.le_of_ble_eq_true rfl⟩ (Nat.le_of_ble_eq_true rfl) (fun r3 u2 h => ?_)
  refine pj_iconst C d_Ho_tellUser_17 (pc' := 18) rfl (v := 1) (by decide) ?_
  refine ck_Host_103_Packet C (pl_Host_latest t0) h d_Ho_tellUser_18 (pc' := 21) rfl ⟨Nat.le_of_ble_eq_true rfl, Nat.le_of_ble_eq_true rfl⟩ (Nat.le_of_ble_eq_true rfl) (fun u4 h => ?_)
  refine pj_aload_n C d_Ho_tellUser_21 (pc' := 22) (i := 0) (x := b + i0) rfl rfl rfl ?_
  refine fg_Host_18_Host C t0 d_Ho_tellUser_22 (pc' := 25) rfl ?_
  refine pj_aload_n C d_Ho_tellUser_25 (pc' := 26) (i := 0) (x := b + i0) rfl rfl rfl ?_
  refine fg_Host_21_Host C t0 d_Ho_tellUser_26 (pc' := 29) rfl ?_
  refine ck_Host_106_Packet C (pl_Host_latest t0) h d_Ho_tellUser_29 (pc' := 32) rfl ⟨Nat.le_of_ble_eq_true rfl, Nat.le_of_ble_eq_true rfl⟩ (Nat.le_of_ble_eq_true rfl) (fun u5 h => ?_)
  refine pj_aload_n C d_Ho_tellUser_32 (pc' := 33) (i := 0) (x := b + i0) rfl rfl rfl ?_
  refine fg_Host_18_Host C t0 d_Ho_tellUser_33 (pc' := 36) rfl ?_
  refine ck_Host_110_Packet C (pl_Host_latest t0) h d_Ho_tellUser_36 (pc' := 39) rfl ⟨Nat.le_of_ble_eq_true rfl, Nat.le_of_ble_eq_true rfl⟩ (Nat.le_of_ble_eq_true rfl) (fun u6 h => ?_)
  refine pj_iconst C d_Ho_tellUser_39 (pc' := 40) rfl (v := 1) (by decide) ?_
  exact pj_zret C hE d_Ho_tellUser_40 pj_bi1 ⟨_, rfl, h⟩
def pw_Ho_tellUser (u : pj_M) (i0 : Nat) (K : Int32 → pj_M → Prop) : Prop := pb_Ho_tellUser_0  K u i0
theorem pc_Ho_tellUser (l : Launch) (D : va_G) (E : Nat → ClassId) {b : Nat} {u : pj_M} {i0 : Nat} {K : Int32 → pj_M → Prop} (t0 : pj_T i0 = 6) (h : pw_Ho_tellUser u i0 K) : pj_C l y_Ho_tellUser c_Ho_tellUser 1 (some .boolean) rm_Ho_tellUser D E b [.ref (b + i0)] u (pj_Ki K) := by
  refine pj_met (own := R_Ho) (by decide +kernel) rfl (Nat.le_of_ble_eq_true rfl) (fun g hE C => ?_)
  unfold pw_Ho_tellUser at h
  show pj_J g (pj_N g b u) 0 [some (.ref (b + i0))] []
  exact pj_cut (pj_le_s pj_le_e) (pt_Ho_tellUser_0 C hE  t0 h)
/-! Host.meetChallenge()Z -/
theorem fg_Host_32_Host {g : pj_G} {b : Nat} {cc : ByteArray} {nL : Nat} {ret : Option FieldType} {rm : Room} {u : pj_M} {pc pc' : Nat} {vs : List (Option Value)} {st : List Value} (C : pj_X g cc nL R_Ho ret rm) {i : Nat} (t : pj_T i = 6) (hdg : decode cc pc = .ok (.getfield 32, 3)) (hp : pc + 3 = pc') (kk : pj_J g (pj_N g b u) pc' vs (.int (u i 5) :: st)) : pj_J g (pj_N g b u) pc vs (.ref (b + i) :: st) :=
  pj_get C cl_Host hin_Host (k := 5) (Nat.le_of_ble_eq_true rfl) wm_204 (Or.inl rfl) (pj_lt t (by decide)) (fun E => ko_6 t) rfl hdg hp kk
theorem ck_Host_113_Packet {g : pj_G} {b : Nat} {cc : ByteArray} {nL : Nat} {ret : Option FieldType} {rm : Room} {u : pj_M} {pc pc' : Nat} {vs : List (Option Value)} {st : List Value} (C : pj_X g cc nL R_Ho ret rm) {i0 : Nat} {K : Int32 → pj_M → Prop} (t0 : pj_T i0 = 4) (h : pw_Pa_dataSize u i0 K) (hdg : decode cc pc = .ok (.invokevirtual 113, 3)) (hp : pc + 3 = pc') (hR : rm_Pa_dataSize.frames + 1 ≤ rm.frames ∧ 8 + (1 + 11) + rm_Pa_dataSize.locals ≤ rm.locals) (h8 : (st.map fun v => v.category).sum ≤ 8) (kk : ∀ r u', K r u' → pj_J g (pj_N g b u') pc' vs (.int r :: st)) : pj_J g (pj_N g b u) pc vs (.ref (b + i0) :: st) :=
  pj_callV C (As := []) (fun l D E => pc_Pa_dataSize l D E t0 h) rfl rfl cl_Packet (pj_lt t0 (by decide)) (fun E => ko_4 t0) wm_830 wm_733 wm_734 wm_96 wm_735 (by decide +kernel) (n := 0) rfl hR rfl h8 hdg hp (fun v u' hq => by obtain ⟨r, rfl, hk⟩ := hq; exact kk r u' hk)
theorem ck_Host_116_Packet {g : pj_G} {b : Nat} {cc : ByteArray} {nL : Nat} {ret : Option FieldType} {rm : Room} {u : pj_M} {pc pc' : Nat} {vs : List (Option Value)} {st : List Value} (C : pj_X g cc nL R_Ho ret rm) {i0 : Nat} {x1 : Int32} {K : Int32 → pj_M → Prop} (t0 : pj_T i0 = 4) (h : pw_Pa_dataIntAt u i0 x1 K) (hdg : decode cc pc = .ok (.invokevirtual 116, 3)) (hp : pc + 3 = pc') (hR : rm_Pa_dataIntAt.frames + 1 ≤ rm.frames ∧ 8 + (2 + 11) + rm_Pa_dataIntAt.locals ≤ rm.locals) (h8 : (st.map fun v => v.category).sum ≤ 8) (kk : ∀ r u', K r u' → pj_J g (pj_N g b u') pc' vs (.int r :: st)) : pj_J g (pj_N g b u) pc vs (.int x1 :: .ref (b + i0) :: st) :=
  pj_callV C (As := [.int x1]) (fun l D E => pc_Pa_dataIntAt l D E t0 h) rfl rfl cl_Packet (pj_lt t0 (by decide)) (fun E => ko_4 t0) wm_831 wm_832 wm_833 wm_96 wm_834 (by decide +kernel) (n := 1) rfl hR rfl h8 hdg hp (fun v u' hq => by obtain ⟨r, rfl, hk⟩ := hq; exact kk r u' hk)
theorem ck_Host_120 {g : pj_G} {b : Nat} {cc : ByteArray} {nL : Nat} {ret : Option FieldType} {rm : Room} {u : pj_M} {pc pc' : Nat} {vs : List (Option Value)} {st : List Value} (C : pj_X g cc nL R_Ho ret rm) {x0 : Int32} {x1 : Int32} {x2 : Int32} {K : Int32 → pj_M → Prop}  (h : pw_Di_challengeResponse u x0 x1 x2 K) (hdg : decode cc pc = .ok (.invokestatic 120, 3)) (hp : pc + 3 = pc') (hR : rm_Di_challengeResponse.frames + 1 ≤ rm.frames ∧ 8 + (3 + 11) + rm_Di_challengeResponse.locals ≤ rm.locals) (h8 : (st.map fun v => v.category).sum ≤ 8) (kk : ∀ r u', K r u' → pj_J g (pj_N g b u') pc' vs (.int r :: st)) : pj_J g (pj_N g b u) pc vs (.int x2 :: .int x1 :: .int x0 :: st) :=
  pj_callS C (As := [.int x0, .int x1, .int x2]) (fun l D E => pc_Di_challengeResponse l D E  h) rfl rfl wm_842 wm_843 wm_105 wm_844 (by decide +kernel) (n := 3) rfl hR rfl h8 hdg hp (fun v u' hq => by obtain ⟨r, rfl, hk⟩ := hq; exact kk r u' hk)
theorem ck_Host_126_Packet {g : pj_G} {b : Nat} {cc : ByteArray} {nL : Nat} {ret : Option FieldType} {rm : Room} {u : pj_M} {pc pc' : Nat} {vs : List (Option Value)} {st : List Value} (C : pj_X g cc nL R_Ho ret rm) {i0 : Nat} {x1 : Int32} {K : pj_M → Prop} (t : pj_T i0 = 4) (h : pw_Ro_putInt u i0 x1 K) (hdg : decode cc pc = .ok (.invokevirtual 126, 3)) (hp : pc + 3 = pc') (hR : rm_Ro_putInt.frames + 1 ≤ rm.frames ∧ 8 + (2 + 11) + rm_Ro_putInt.locals ≤ rm.locals) (h8 : (st.map fun v => v.category).sum ≤ 8) (kk : ∀ u', K u' → pj_J g (pj_N g b u') pc' vs st) : pj_J g (pj_N g b u) pc vs (.int x1 :: .ref (b + i0) :: st) := by
  have t0 : pj_R i0 := Or.inr t
  exact pj_callU C (x := ⟨"PortGuard$Packet", "putInt", "(I)V"⟩) (owner := "PortGuard$Row") (As := [.int x1]) (fun l D E => pc_Ro_putInt l D E t0 h) rfl rfl cl_Packet (pj_lt t (by decide)) (fun E => ko_4 t) rfl wm_845 wm_766 wm_848 wm_94 wm_770 wm_846 (by decide +kernel) (n := 1) rfl hR rfl h8 hdg hp (fun v u' hq => by obtain ⟨rfl, hk⟩ := hq; exact kk u' hk)
def rm_Ho_meetChallenge : Room := { frames := 3, cells := 0, slots := 0, locals := 65 }
def pb_Ho_meetChallenge_13  (K : Int32 → pj_M → Prop) (u : pj_M) (i0 : Nat) : Prop := pj_put u i0 11 1 fun u1 => (pw_Pa_id u1 (i0 + 1) fun r3 u2 => (pw_Pa_open u2 (i0 + 3) 2 r3 4 fun u4 => (pw_Pa_id u4 (i0 + 1) fun r6 u5 => (pw_Pa_dataIntAt u5 (i0 + 1) 0 fun r8 u7 => (pw_Di_challengeResponse u7 r6 (u5 i0 5) r8 fun r10 u9 => (pw_Ro_putInt u9 (i0 + 3) r10 fun u11 => (pw_Pa_setLength u11 (i0 + 3) fun u12 => (K 1 u12))))))))
set_option maxHeartbeats 1000000 in
theorem pt_Ho_meetChallenge_13 {g : pj_G} {b : Nat} (C : pj_X g c_Ho_meetChallenge 1 R_Ho (some .boolean) rm_Ho_meetChallenge) {K : Int32 → pj_M → Prop} (hE : pj_E g b (pj_Ki K))   {u : pj_M} {i0 : Nat}  (t0 : pj_T i0 = 6) (h : pb_Ho_meetChallenge_13  K u i0) : pj_J g (pj_N g b u) 13 [some (.ref (b + i0))] [] := by
  unfold pb_Ho_meetChallenge_13 at h
  refine pj_aload_n C d_Ho_meetChallenge_13 (pc' := 14) (i := 0) (x := b + i0) rfl rfl rfl ?_
  refine pj_iconst C d_Ho_meetChallenge_14 (pc' := 15) rfl (v := 1) (by decide) ?_
  refine fp_Host_54_Host C t0 pj_bi1 d_Ho_meetChallenge_15 (pc' := 18) rfl h (fun u1 h => ?_)
  refine pj_aload_n C d_Ho_meetChallenge_18 (pc' := 19) (i := 0) (x := b + i0) rfl rfl rfl ?_
  refine fg_Host_18_Host C t0 d_Ho_meetChallenge_19 (pc' := 22) rfl ?_
  refine pj_iconst C d_Ho_meetChallenge_22 (pc' := 23) rfl (v := 2) (by decide) ?_
  refine pj_aload_n C d_Ho_meetChallenge_23 (pc' := 24) (i := 0) (x := b + i0) rfl rfl rfl ?_
  refine fg_Host_12_Host C t0 d_Ho_meetChallenge_24 (pc' := 27) rfl ?_
  refine ck_Host_82_Packet C (pl_Host_packet t0) h d_Ho_meetChallenge_27 (pc' := 30) rfl ⟨Nat.le_of_ble_eq_true rfl, Nat.le_of_ble_eq_true rfl⟩ (Nat.le_of_ble_eq_true rfl) (fun r3 u2 h => ?_)
  refine pj_iconst C d_Ho_meetChallenge_30 (pc' := 31) rfl (v := 4) (by decide) ?_
  refine ck_Host_103_Packet C (pl_Host_latest t0) h d_Ho_meetChallenge_31 (pc' := 34) rfl ⟨Nat.le_of_ble_eq_true rfl, Nat.le_of_ble_eq_true rfl⟩ (Nat.le_of_ble_eq_true rfl) (fun u4 h => ?_)
  refine pj_aload_n C d_Ho_meetChallenge_34 (pc' := 35) (i := 0) (x := b + i0) rfl rfl rfl ?_
  refine fg_Host_18_Host C t0 d_Ho_meetChallenge_35 (pc' := 38) rfl ?_
  refine pj_aload_n C d_Ho_meetChallenge_38 (pc' := 39) (i := 0) (x := b + i0) rfl rfl rfl ?_
  refine fg_Host_12_Host C t0 d_Ho_meetChallenge_39 (pc' := 42) rfl ?_
  refine ck_Host_82_Packet C (pl_Host_packet t0) h d_Ho_meetChallenge_42 (pc' := 45) rfl ⟨Nat.le_of_ble_eq_true rfl, Nat.le_of_ble_eq_true rfl⟩ (Nat.le_of_ble_eq_true rfl) (fun r6 u5 h => ?_)
  refine pj_aload_n C d_Ho_meetChallenge_45 (pc' := 46) (i := 0) (x := b + i0) rfl rfl rfl ?_
  refine fg_Host_32_Host C t0 d_Ho_meetChallenge_46 (pc' := 49) rfl ?_
  refine pj_aload_n C d_Ho_meetChallenge_49 (pc' := 50) (i := 0) (x := b + i0) rfl rfl rfl ?_
  refine fg_Host_12_Host C t0 d_Ho_meetChallenge_50 (pc' := 53) rfl ?_
  refine pj_iconst C d_Ho_meetChallenge_53 (pc' := 54) rfl (v := 0) (by decide) ?_
  refine ck_Host_116_Packet C (pl_Host_packet t0) h d_Ho_meetChallenge_54 (pc' := 57) rfl ⟨Nat.le_of_ble_eq_true rfl, Nat.le_of_ble_eq_true rfl⟩ (Nat.le_of_ble_eq_true rfl) (fun r8 u7 h => ?_)
  refine ck_Host_120 C  h d_Ho_meetChallenge_57 (pc' := 60) rfl ⟨Nat.le_of_ble_eq_true rfl, Nat.le_of_ble_eq_true rfl⟩ (Nat.le_of_ble_eq_true rfl) (fun r10 u9 h => ?_)
  refine ck_Host_126_Packet C (pl_Host_latest t0) h d_Ho_meetChallenge_60 (pc' := 63) rfl ⟨Nat.le_of_ble_eq_true rfl, Nat.le_of_ble_eq_true rfl⟩ (Nat.le_of_ble_eq_true rfl) (fun u11 h => ?_)
  refine pj_aload_n C d_Ho_meetChallenge_63 (pc' := 64) (i := 0) (x := b + i0) rfl rfl rfl ?_
  refine fg_Host_18_Host C t0 d_Ho_meetChallenge_64 (pc' := 67) rfl ?_
  refine ck_Host_110_Packet C (pl_Host_latest t0) h d_Ho_meetChallenge_67 (pc' := 70) rfl ⟨Nat.le_of_ble_eq_true rfl, Nat.le_of_ble_eq_true rfl⟩ (Nat.le_of_ble_eq_true rfl) (fun u12 h => ?_)
  refine pj_iconst C d_Ho_meetChallenge_70 (pc' := 71) rfl (v := 1) (by decide) ?_
  exact pj_zret C hE d_Ho_meetChallenge_71 pj_bi1 ⟨_, rfl, h⟩
def pb_Ho_meetChallenge_11  (K : Int32 → pj_M → Prop) (u : pj_M)  : Prop := K 0 u
set_option maxHeartbeats 1000000 in
theorem pt_Ho_meetChallenge_11 {g : pj_G} {b : Nat} (C : pj_X g c_Ho_meetChallenge 1 R_Ho (some .boolean) rm_Ho_meetChallenge) {K : Int32 → pj_M → Prop} (hE : pj_E g b (pj_Ki K))   {u : pj_M}    (h : pb_Ho_meetChallenge_11  K u ) : pj_J g (pj_N g b u) 11 [none] [] := by
  unfold pb_Ho_meetChallenge_11 at h
  refine pj_iconst C d_Ho_meetChallenge_11 (pc' := 12) rfl (v := 0) (by decide) ?_
  exact pj_zret C hE d_Ho_meetChallenge_12 pj_bi0 ⟨_, rfl, h⟩
def pb_Ho_meetChallenge_0  (K : Int32 → pj_M → Prop) (u : pj_M) (i0 : Nat) : Prop := pw_Pa_dataSize u (i0 + 1) fun r2 u1 => (((r2 = 4) → (pb_Ho_meetChallenge_13  K u1 i0)) ∧ (¬ (r2 = 4) → (pb_Ho_meetChallenge_11  K u1 )))
set_option maxHeartbeats 1000000 in
theorem pt_Ho_meetChallenge_0 {g : pj_G} {b : Nat} (C : pj_X g c_Ho_meetChallenge 1 R_Ho (some .boolean) rm_Ho_meetChallenge) {K : Int32 → pj_M → Prop} (hE : pj_E g b (pj_Ki K))   {u : pj_M} {i0 : Nat}  (t0 : pj_T i0 = 6) (h : pb_Ho_meetChallenge_0  K u i0) : pj_J g (pj_N g b u) 0 [some (.ref (b + i0))] [] := by
  unfold pb_Ho_meetChallenge_0 at h
  refine pj_aload_n C d_Ho_meetChallenge_0 (pc' := 1) (i := 0) (x := b + i0) rfl rfl rfl ?_
  refine fg_Host_12_Host C t0 d_Ho_meetChallenge_1 (pc' := 4) rfl ?_
  refine ck_Host_113_Packet C (pl_Host_packet t0) h d_Ho_meetChallenge_4 (pc' := 7) rfl ⟨Nat.le_of_ble_eq_true rfl, Nat.le_of_ble_eq_true rfl⟩ (Nat.le_of_ble_eq_true rfl) (fun r2 u1 h => ?_)
  refine pj_iconst C d_Ho_meetChallenge_7 (pc' := 8) rfl (v := 4) (by decide) ?_
  refine pj_icmp_eq C d_Ho_meetChallenge_8 (pc' := 11) rfl (tgt := 13) (by decide) h (fun h => ?_) (fun h => ?_)
  · exact pj_cut (pj_le_s pj_le_e) (pt_Ho_meetChallenge_13 C hE  t0 h)
  · exact pj_cut (pj_le_n pj_le_e) (pt_Ho_meetChallenge_11 C hE   h)
def pw_Ho_meetChallenge (u : pj_M) (i0 : Nat) (K : Int32 → pj_M → Prop) : Prop := pb_Ho_meetChallenge_0  K u i0
theorem pc_Ho_meetChallenge (l : Launch) (D : va_G) (E : Nat → ClassId) {b : Nat} {u : pj_M} {i0 : Nat} {K : Int32 → pj_M → Prop} (t0 : pj_T i0 = 6) (h : pw_Ho_meetChallenge u i0 K) : pj_C l y_Ho_meetChallenge c_Ho_meetChallenge 1 (some .boolean) rm_Ho_meetChallenge D E b [.ref (b + i0)] u (pj_Ki K) := by
  refine pj_met (own := R_Ho) (by decide +kernel) rfl (Nat.le_of_ble_eq_true rfl) (fun g hE C => ?_)
  unfold pw_Ho_meetChallenge at h
  show pj_J g (pj_N g b u) 0 [some (.ref (b + i0))] []
  exact pj_cut (pj_le_s pj_le_e) (pt_Ho_meetChallenge_0 C hE  t0 h)
/-! Host.refuse()Z -/
theorem fg_Host_35_Host {g : pj_G} {b : Nat} {cc : ByteArray} {nL : Nat} {ret : Option FieldType} {rm : Room} {u : pj_M} {pc pc' : Nat} {vs : List (Option Value)} {st : List Value} (C : pj_X g cc nL R_Ho ret rm) {i : Nat} (t : pj_T i = 6) (hdg : decode cc pc = .ok (.getfield 35, 3)) (hp : pc + 3 = pc') (kk : pj_J g (pj_N g b u) pc' vs (.int (u i 6) :: st)) : pj_J g (pj_N g b u) pc vs (.ref (b + i) :: st) :=
  pj_get C cl_Host hin_Host (k := 6) (Nat.le_of_ble_eq_true rfl) wm_205 (Or.inl rfl) (pj_lt t (by decide)) (fun E => ko_6 t) rfl hdg hp kk
def rm_Ho_refuse : Room := { frames := 2, cells := 0, slots := 0, locals := 44 }
def pb_Ho_refuse_58  (K : Int32 → pj_M → Prop) (u : pj_M) (i0 : Nat) : Prop := pw_Pa_setLength u (i0 + 3) fun u1 => (K 1 u1)
set_option maxHeartbeats 1000000 in
theorem pt_Ho_refuse_58 {g : pj_G} {b : Nat} (C : pj_X g c_Ho_refuse 1 R_Ho (some .boolean) rm_Ho_refuse) {K : Int32 → pj_M → Prop} (hE : pj_E g b (pj_Ki K))   {u : pj_M} {i0 : Nat}  (t0 : pj_T i0 = 6) (h : pb_Ho_refuse_58  K u i0) : pj_J g (pj_N g b u) 58 [some (.ref (b + i0))] [] := by
  unfold pb_Ho_refuse_58 at h
  refine pj_aload_n C d_Ho_refuse_58 (pc' := 59) (i := 0) (x := b + i0) rfl rfl rfl ?_
  refine fg_Host_18_Host C t0 d_Ho_refuse_59 (pc' := 62) rfl ?_
  refine ck_Host_110_Packet C (pl_Host_latest t0) h d_Ho_refuse_62 (pc' := 65) rfl ⟨Nat.le_of_ble_eq_true rfl, Nat.le_of_ble_eq_true rfl⟩ (Nat.le_of_ble_eq_true rfl) (fun u1 h => ?_)
  refine pj_iconst C d_Ho_refuse_65 (pc' := 66) rfl (v := 1) (by decide) ?_
  exact pj_zret C hE d_Ho_refuse_66 pj_bi1 ⟨_, rfl, h⟩
def pb_Ho_refuse_55  (K : Int32 → pj_M → Prop) (u : pj_M) (i0 : Nat) (s0 : Int32) (j1 : Nat) : Prop := pw_Ro_put u j1 s0 fun u1 => (pb_Ho_refuse_58  K u1 i0)
set_option maxHeartbeats 1000000 in
theorem pt_Ho_refuse_55 {g : pj_G} {b : Nat} (C : pj_X g c_Ho_refuse 1 R_Ho (some .boolean) rm_Ho_refuse) {K : Int32 → pj_M → Prop} (hE : pj_E g b (pj_Ki K))   {u : pj_M} {i0 : Nat} {s0 : Int32} {j1 : Nat}  (t0 : pj_T i0 = 6) (ts1 : pj_T j1 = 4) (h : pb_Ho_refuse_55  K u i0 s0 j1) : pj_J g (pj_N g b u) 55 [some (.ref (b + i0))] [.int s0, .ref (b + j1)] := by
  unfold pb_Ho_refuse_55 at h
  refine ck_Host_106_Packet C ts1 h d_Ho_refuse_55 (pc' := 58) rfl ⟨Nat.le_of_ble_eq_true rfl, Nat.le_of_ble_eq_true rfl⟩ (Nat.le_of_ble_eq_true rfl) (fun u1 h => ?_)
  exact pj_cut (pj_le_s pj_le_e) (pt_Ho_refuse_58 C hE  t0 h)
def pb_Ho_refuse_54  (K : Int32 → pj_M → Prop) (u : pj_M) (i0 : Nat) (j0 : Nat) : Prop := pb_Ho_refuse_55  K u i0 0 j0
set_option maxHeartbeats 1000000 in
theorem pt_Ho_refuse_54 {g : pj_G} {b : Nat} (C : pj_X g c_Ho_refuse 1 R_Ho (some .boolean) rm_Ho_refuse) {K : Int32 → pj_M → Prop} (hE : pj_E g b (pj_Ki K))   {u : pj_M} {i0 : Nat} {j0 : Nat}  (t0 : pj_T i0 = 6) (ts0 : pj_T j0 = 4) (h : pb_Ho_refuse_54  K u i0 j0) : pj_J g (pj_N g b u) 54 [some (.ref (b + i0))] [.ref (b + j0)] := by
  unfold pb_Ho_refuse_54 at h
  refine pj_iconst C d_Ho_refuse_54 (pc' := 55) rfl (v := 0) (by decide) ?_
  exact pj_cut (pj_le_s pj_le_e) (pt_Ho_refuse_55 C hE  t0 ts0 h)
def pb_Ho_refuse_49  (K : Int32 → pj_M → Prop) (u : pj_M) (i0 : Nat) (j0 : Nat) : Prop := pb_Ho_refuse_55  K u i0 51 j0
set_option maxHeartbeats 1000000 in
theorem pt_Ho_refuse_49 {g : pj_G} {b : Nat} (C : pj_X g c_Ho_refuse 1 R_Ho (some .boolean) rm_Ho_refuse) {K : Int32 → pj_M → Prop} (hE : pj_E g b (pj_Ki K))   {u : pj_M} {i0 : Nat} {j0 : Nat}  (t0 : pj_T i0 = 6) (ts0 : pj_T j0 = 4) (h : pb_Ho_refuse_49  K u i0 j0) : pj_J g (pj_N g b u) 49 [some (.ref (b + i0))] [.ref (b + j0)] := by
  unfold pb_Ho_refuse_49 at h
  refine pj_bipush C d_Ho_refuse_49 (pc' := 51) rfl (v := 51) (by decide) ?_
  refine pj_goto C d_Ho_refuse_51 (tgt := 55) (by decide) ?_
  exact pj_cut (pj_le_s pj_le_e) (pt_Ho_refuse_55 C hE  t0 ts0 h)
def pb_Ho_refuse_36  (K : Int32 → pj_M → Prop) (u : pj_M) (i0 : Nat) : Prop := ((((u i0 6) &&& 2) = 0) → (pb_Ho_refuse_54  K u i0 (i0 + 3))) ∧ (¬ (((u i0 6) &&& 2) = 0) → (pb_Ho_refuse_49  K u i0 (i0 + 3)))
set_option maxHeartbeats 1000000 in
theorem pt_Ho_refuse_36 {g : pj_G} {b : Nat} (C : pj_X g c_Ho_refuse 1 R_Ho (some .boolean) rm_Ho_refuse) {K : Int32 → pj_M → Prop} (hE : pj_E g b (pj_Ki K))   {u : pj_M} {i0 : Nat}  (t0 : pj_T i0 = 6) (h : pb_Ho_refuse_36  K u i0) : pj_J g (pj_N g b u) 36 [some (.ref (b + i0))] [] := by
  unfold pb_Ho_refuse_36 at h
  refine pj_aload_n C d_Ho_refuse_36 (pc' := 37) (i := 0) (x := b + i0) rfl rfl rfl ?_
  refine fg_Host_18_Host C t0 d_Ho_refuse_37 (pc' := 40) rfl ?_
  refine pj_aload_n C d_Ho_refuse_40 (pc' := 41) (i := 0) (x := b + i0) rfl rfl rfl ?_
  refine fg_Host_35_Host C t0 d_Ho_refuse_41 (pc' := 44) rfl ?_
  refine pj_iconst C d_Ho_refuse_44 (pc' := 45) rfl (v := 2) (by decide) ?_
  refine pj_iand C d_Ho_refuse_45 (pc' := 46) rfl ?_
  refine pj_if_eq C d_Ho_refuse_46 (pc' := 49) rfl (tgt := 54) (by decide) h (fun h => ?_) (fun h => ?_)
  · exact pj_cut (pj_le_s pj_le_e) (pt_Ho_refuse_54 C hE  t0 (pl_Host_latest t0) h)
  · exact pj_cut (pj_le_s pj_le_e) (pt_Ho_refuse_49 C hE  t0 (pl_Host_latest t0) h)
def pb_Ho_refuse_25  (K : Int32 → pj_M → Prop) (u : pj_M) (i0 : Nat) : Prop := pw_Ro_put u (i0 + 3) 4 fun u1 => (pb_Ho_refuse_58  K u1 i0)
set_option maxHeartbeats 1000000 in
theorem pt_Ho_refuse_25 {g : pj_G} {b : Nat} (C : pj_X g c_Ho_refuse 1 R_Ho (some .boolean) rm_Ho_refuse) {K : Int32 → pj_M → Prop} (hE : pj_E g b (pj_Ki K))   {u : pj_M} {i0 : Nat}  (t0 : pj_T i0 = 6) (h : pb_Ho_refuse_25  K u i0) : pj_J g (pj_N g b u) 25 [some (.ref (b + i0))] [] := by
  unfold pb_Ho_refuse_25 at h
  refine pj_aload_n C d_Ho_refuse_25 (pc' := 26) (i := 0) (x := b + i0) rfl rfl rfl ?_
  refine fg_Host_18_Host C t0 d_Ho_refuse_26 (pc' := 29) rfl ?_
  refine pj_iconst C d_Ho_refuse_29 (pc' := 30) rfl (v := 4) (by decide) ?_
  refine ck_Host_106_Packet C (pl_Host_latest t0) h d_Ho_refuse_30 (pc' := 33) rfl ⟨Nat.le_of_ble_eq_true rfl, Nat.le_of_ble_eq_true rfl⟩ (Nat.le_of_ble_eq_true rfl) (fun u1 h => ?_)
  refine pj_goto C d_Ho_refuse_33 (tgt := 58) (by decide) ?_
  exact pj_cut (pj_le_s pj_le_e) (pt_Ho_refuse_58 C hE  t0 h)
def pb_Ho_refuse_0  (K : Int32 → pj_M → Prop) (u : pj_M) (i0 : Nat) : Prop := pw_Pa_id u (i0 + 1) fun r2 u1 => (pw_Pa_open u1 (i0 + 3) 2 r2 3 fun u3 => (((((u3 i0 6) &&& 1) = 0) → (pb_Ho_refuse_36  K u3 i0)) ∧ (¬ (((u3 i0 6) &&& 1) = 0) → (pb_Ho_refuse_25  K u3 i0))))
set_option maxHeartbeats 1000000 in
theorem pt_Ho_refuse_0 {g : pj_G} {b : Nat} (C : pj_X g c_Ho_refuse 1 R_Ho (some .boolean) rm_Ho_refuse) {K : Int32 → pj_M → Prop} (hE : pj_E g b (pj_Ki K))   {u : pj_M} {i0 : Nat}  (t0 : pj_T i0 = 6) (h : pb_Ho_refuse_0  K u i0) : pj_J g (pj_N g b u) 0 [some (.ref (b + i0))] [] := by
  unfold pb_Ho_refuse_0 at h
  refine pj_aload_n C d_Ho_refuse_0 (pc' := 1) (i := 0) (x := b + i0) rfl rfl rfl ?_
  refine fg_Host_18_Host C t0 d_Ho_refuse_1 (pc' := 4) rfl ?_
  refine pj_iconst C d_Ho_refuse_4 (pc' := 5) rfl (v := 2) (by decide) ?_
  refine pj_aload_n C d_Ho_refuse_5 (pc' := 6) (i := 0) (x := b + i0) rfl rfl rfl ?_
  refine fg_Host_12_Host C t0 d_Ho_refuse_6 (pc' := 9) rfl ?_
  refine ck_Host_82_Packet C (pl_Host_packet t0) h d_Ho_refuse_9 (pc' := 12) rfl ⟨Nat.le_of_ble_eq_true rfl, Nat.le_of_ble_eq_true rfl⟩ (Nat.le_of_ble_eq_true rfl) (fun r2 u1 h => ?_)
  refine pj_iconst C d_Ho_refuse_12 (pc' := 13) rfl (v := 3) (by decide) ?_
  refine ck_Host_103_Packet C (pl_Host_latest t0) h d_Ho_refuse_13 (pc' := 16) rfl ⟨Nat.le_of_ble_eq_true rfl, Nat.le_of_ble_eq_true rfl⟩ (Nat.le_of_ble_eq_true rfl) (fun u3 h => ?_)
  refine pj_aload_n C d_Ho_refuse_16 (pc' := 17) (i := 0) (x := b + i0) rfl rfl rfl ?_
  refine fg_Host_35_Host C t0 d_Ho_refuse_17 (pc' := 20) rfl ?_
  refine pj_iconst C d_Ho_refuse_20 (pc' := 21) rfl (v := 1) (by decide) ?_
  refine pj_iand C d_Ho_refuse_21 (pc' := 22) rfl ?_
  refine pj_if_eq C d_Ho_refuse_22 (pc' := 25) rfl (tgt := 36) (by decide) h (fun h => ?_) (fun h => ?_)
  · exact pj_cut (pj_le_s pj_le_e) (pt_Ho_refuse_36 C hE  t0 h)
  · exact pj_cut (pj_le_s pj_le_e) (pt_Ho_refuse_25 C hE  t0 h)
def pw_Ho_refuse (u : pj_M) (i0 : Nat) (K : Int32 → pj_M → Prop) : Prop := pb_Ho_refuse_0  K u i0
theorem pc_Ho_refuse (l : Launch) (D : va_G) (E : Nat → ClassId) {b : Nat} {u : pj_M} {i0 : Nat} {K : Int32 → pj_M → Prop} (t0 : pj_T i0 = 6) (h : pw_Ho_refuse u i0 K) : pj_C l y_Ho_refuse c_Ho_refuse 1 (some .boolean) rm_Ho_refuse D E b [.ref (b + i0)] u (pj_Ki K) := by
  refine pj_met (own := R_Ho) (by decide +kernel) rfl (Nat.le_of_ble_eq_true rfl) (fun g hE C => ?_)
  unfold pw_Ho_refuse at h
  show pj_J g (pj_N g b u) 0 [some (.ref (b + i0))] []
  exact pj_cut (pj_le_s pj_le_e) (pt_Ho_refuse_0 C hE  t0 h)
/-! Host.answerRandom()Z -/
theorem fp_Host_132_Host {g : pj_G} {b : Nat} {cc : ByteArray} {nL : Nat} {ret : Option FieldType} {rm : Room} {u : pj_M} {pc pc' : Nat} {vs : List (Option Value)} {st : List Value} (C : pj_X g cc nL R_Ho ret rm) {i : Nat} {x : Int32} {P : pj_M → Prop} (t : pj_T i = 6)  (hdg : decode cc pc = .ok (.putfield 132, 3)) (hp : pc + 3 = pc') (h : pj_put u i 9 x P) (kk : ∀ u', P u' → pj_J g (pj_N g b u') pc' vs st) : pj_J g (pj_N g b u) pc vs (.int x :: .ref (b + i) :: st) :=
  pj_putI C cl_Host hin_Host ty_Host tyok_Host nm_Host (k := 9) (Nat.le_of_ble_eq_true rfl) wm_208 (Or.inl rfl) rfl (ty := .int) (by decide +kernel) rfl rfl (pj_lt t (by decide)) (fun E u => ko_6 t) (F := fun f => [.int (f 0), .ref (b + 4), .ref (b + (i + 1)), .ref (b + (i + 3)), .int (f 4), .int (f 5), .int (f 6), .int (f 7), .int (f 8), .int (f 9), .int (f 10), .int (f 11), .int (f 12), .int (f 13), .int (f 14)]) (fun _ => Nat.le_of_ble_eq_true rfl) (fun _ _ => rfl) hdg hp h kk
theorem fg_Host_135_Host {g : pj_G} {b : Nat} {cc : ByteArray} {nL : Nat} {ret : Option FieldType} {rm : Room} {u : pj_M} {pc pc' : Nat} {vs : List (Option Value)} {st : List Value} (C : pj_X g cc nL R_Ho ret rm) {i : Nat} (t : pj_T i = 6) (hdg : decode cc pc = .ok (.getfield 135, 3)) (hp : pc + 3 = pc') (kk : pj_J g (pj_N g b u) pc' vs (.int (u i 13) :: st)) : pj_J g (pj_N g b u) pc vs (.ref (b + i) :: st) :=
  pj_get C cl_Host hin_Host (k := 13) (Nat.le_of_ble_eq_true rfl) wm_212 (Or.inl rfl) (pj_lt t (by decide)) (fun E => ko_6 t) rfl hdg hp kk
theorem fp_Host_141_Host {g : pj_G} {b : Nat} {cc : ByteArray} {nL : Nat} {ret : Option FieldType} {rm : Room} {u : pj_M} {pc pc' : Nat} {vs : List (Option Value)} {st : List Value} (C : pj_X g cc nL R_Ho ret rm) {i : Nat} {x : Int32} {P : pj_M → Prop} (t : pj_T i = 6)  (hdg : decode cc pc = .ok (.putfield 141, 3)) (hp : pc + 3 = pc') (h : pj_put u i 10 x P) (kk : ∀ u', P u' → pj_J g (pj_N g b u') pc' vs st) : pj_J g (pj_N g b u) pc vs (.int x :: .ref (b + i) :: st) :=
  pj_putI C cl_Host hin_Host ty_Host tyok_Host nm_Host (k := 10) (Nat.le_of_ble_eq_true rfl) wm_209 (Or.inl rfl) rfl (ty := .int) (by decide +kernel) rfl rfl (pj_lt t (by decide)) (fun E u => ko_6 t) (F := fun f => [.int (f 0), .ref (b + 4), .ref (b + (i + 1)), .ref (b + (i + 3)), .int (f 4), .int (f 5), .int (f 6), .int (f 7), .int (f 8), .int (f 9), .int (f 10), .int (f 11), .int (f 12), .int (f 13), .int (f 14)]) (fun _ => Nat.le_of_ble_eq_true rfl) (fun _ _ => rfl) hdg hp h kk
theorem fp_Host_135_Host {g : pj_G} {b : Nat} {cc : ByteArray} {nL : Nat} {ret : Option FieldType} {rm : Room} {u : pj_M} {pc pc' : Nat} {vs : List (Option Value)} {st : List Value} (C : pj_X g cc nL R_Ho ret rm) {i : Nat} {x : Int32} {P : pj_M → Prop} (t : pj_T i = 6)  (hdg : decode cc pc = .ok (.putfield 135, 3)) (hp : pc + 3 = pc') (h : pj_put u i 13 x P) (kk : ∀ u', P u' → pj_J g (pj_N g b u') pc' vs st) : pj_J g (pj_N g b u) pc vs (.int x :: .ref (b + i) :: st) :=
  pj_putI C cl_Host hin_Host ty_Host tyok_Host nm_Host (k := 13) (Nat.le_of_ble_eq_true rfl) wm_212 (Or.inl rfl) rfl (ty := .int) (by decide +kernel) rfl rfl (pj_lt t (by decide)) (fun E u => ko_6 t) (F := fun f => [.int (f 0), .ref (b + 4), .ref (b + (i + 1)), .ref (b + (i + 3)), .int (f 4), .int (f 5), .int (f 6), .int (f 7), .int (f 8), .int (f 9), .int (f 10), .int (f 11), .int (f 12), .int (f 13), .int (f 14)]) (fun _ => Nat.le_of_ble_eq_true rfl) (fun _ _ => rfl) hdg hp h kk
theorem fg_Host_141_Host {g : pj_G} {b : Nat} {cc : ByteArray} {nL : Nat} {ret : Option FieldType} {rm : Room} {u : pj_M} {pc pc' : Nat} {vs : List (Option Value)} {st : List Value} (C : pj_X g cc nL R_Ho ret rm) {i : Nat} (t : pj_T i = 6) (hdg : decode cc pc = .ok (.getfield 141, 3)) (hp : pc + 3 = pc') (kk : pj_J g (pj_N g b u) pc' vs (.int (u i 10) :: st)) : pj_J g (pj_N g b u) pc vs (.ref (b + i) :: st) :=
  pj_get C cl_Host hin_Host (k := 10) (Nat.le_of_ble_eq_true rfl) wm_209 (Or.inl rfl) (pj_lt t (by decide)) (fun E => ko_6 t) rfl hdg hp kk
theorem fg_Host_132_Host {g : pj_G} {b : Nat} {cc : ByteArray} {nL : Nat} {ret : Option FieldType} {rm : Room} {u : pj_M} {pc pc' : Nat} {vs : List (Option Value)} {st : List Value} (C : pj_X g cc nL R_Ho ret rm) {i : Nat} (t : pj_T i = 6) (hdg : decode cc pc = .ok (.getfield 132, 3)) (hp : pc + 3 = pc') (kk : pj_J g (pj_N g b u) pc' vs (.int (u i 9) :: st)) : pj_J g (pj_N g b u) pc vs (.ref (b + i) :: st) :=
  pj_get C cl_Host hin_Host (k := 9) (Nat.le_of_ble_eq_true rfl) wm_208 (Or.inl rfl) (pj_lt t (by decide)) (fun E => ko_6 t) rfl hdg hp kk
theorem ck_Host_129_Packet {g : pj_G} {b : Nat} {cc : ByteArray} {nL : Nat} {ret : Option FieldType} {rm : Room} {u : pj_M} {pc pc' : Nat} {vs : List (Option Value)} {st : List Value} (C : pj_X g cc nL R_Ho ret rm) {i0 : Nat} {K : Int32 → pj_M → Prop} (t0 : pj_T i0 = 4) (h : pw_Pa_firstData u i0 K) (hdg : decode cc pc = .ok (.invokevirtual 129, 3)) (hp : pc + 3 = pc') (hR : rm_Pa_firstData.frames + 1 ≤ rm.frames ∧ 8 + (1 + 11) + rm_Pa_firstData.locals ≤ rm.locals) (h8 : (st.map fun v => v.category).sum ≤ 8) (kk : ∀ r u', K r u' → pj_J g (pj_N g b u') pc' vs (.int r :: st)) : pj_J g (pj_N g b u) pc vs (.ref (b + i0) :: st) :=
  pj_callV C (As := []) (fun l D E => pc_Pa_firstData l D E t0 h) rfl rfl cl_Packet (pj_lt t0 (by decide)) (fun E => ko_4 t0) wm_857 wm_737 wm_738 wm_96 wm_739 (by decide +kernel) (n := 0) rfl hR rfl h8 hdg hp (fun v u' hq => by obtain ⟨r, rfl, hk⟩ := hq; exact kk r u' hk)
theorem ck_Host_138 {g : pj_G} {b : Nat} {cc : ByteArray} {nL : Nat} {ret : Option FieldType} {rm : Room} {u : pj_M} {pc pc' : Nat} {vs : List (Option Value)} {st : List Value} (C : pj_X g cc nL R_Ho ret rm) {x0 : Int32} {x1 : Int32} {x2 : Int32} {K : Int32 → pj_M → Prop}  (h : pw_Di_random u x0 x1 x2 K) (hdg : decode cc pc = .ok (.invokestatic 138, 3)) (hp : pc + 3 = pc') (hR : rm_Di_random.frames + 1 ≤ rm.frames ∧ 8 + (3 + 11) + rm_Di_random.locals ≤ rm.locals) (h8 : (st.map fun v => v.category).sum ≤ 8) (kk : ∀ r u', K r u' → pj_J g (pj_N g b u') pc' vs (.int r :: st)) : pj_J g (pj_N g b u) pc vs (.int x2 :: .int x1 :: .int x0 :: st) :=
  pj_callS C (As := [.int x0, .int x1, .int x2]) (fun l D E => pc_Di_random l D E  h) rfl rfl wm_858 wm_859 wm_105 wm_860 (by decide +kernel) (n := 3) rfl hR rfl h8 hdg hp (fun v u' hq => by obtain ⟨r, rfl, hk⟩ := hq; exact kk r u' hk)
theorem ck_Host_144 {g : pj_G} {b : Nat} {cc : ByteArray} {nL : Nat} {ret : Option FieldType} {rm : Room} {u : pj_M} {pc pc' : Nat} {vs : List (Option Value)} {st : List Value} (C : pj_X g cc nL R_Ho ret rm) {x0 : Int32} {x1 : Int32} {x2 : Int32} {x3 : Int32} {K : Int32 → pj_M → Prop}  (h : pw_Di_macOfProof u x0 x1 x2 x3 K) (hdg : decode cc pc = .ok (.invokestatic 144, 3)) (hp : pc + 3 = pc') (hR : rm_Di_macOfProof.frames + 1 ≤ rm.frames ∧ 8 + (6 + 11) + rm_Di_macOfProof.locals ≤ rm.locals) (h8 : (st.map fun v => v.category).sum ≤ 8) (kk : ∀ r u', K r u' → pj_J g (pj_N g b u') pc' vs (.int r :: st)) : pj_J g (pj_N g b u) pc vs (.int x3 :: .int x2 :: .int x1 :: .int x0 :: st) :=
  pj_callS C (As := [.int x0, .int x1, .int x2, .int x3]) (fun l D E => pc_Di_macOfProof l D E  h) rfl rfl wm_861 wm_862 wm_105 wm_863 (by decide +kernel) (n := 4) rfl hR rfl h8 hdg hp (fun v u' hq => by obtain ⟨r, rfl, hk⟩ := hq; exact kk r u' hk)
def rm_Ho_answerRandom : Room := { frames := 3, cells := 0, slots := 0, locals := 65 }
def pb_Ho_answerRandom_22  (K : Int32 → pj_M → Prop) (u : pj_M)  : Prop := K 0 u
set_option maxHeartbeats 1000000 in
theorem pt_Ho_answerRandom_22 {g : pj_G} {b : Nat} (C : pj_X g c_Ho_answerRandom 1 R_Ho (some .boolean) rm_Ho_answerRandom) {K : Int32 → pj_M → Prop} (hE : pj_E g b (pj_Ki K))   {u : pj_M}    (h : pb_Ho_answerRandom_22  K u ) : pj_J g (pj_N g b u) 22 [none] [] := by
  unfold pb_Ho_answerRandom_22 at h
  refine pj_iconst C d_Ho_answerRandom_22 (pc' := 23) rfl (v := 0) (by decide) ?_
  exact pj_zret C hE d_Ho_answerRandom_23 pj_bi0 ⟨_, rfl, h⟩
def pb_Ho_answerRandom_24  (K : Int32 → pj_M → Prop) (u : pj_M) (i0 : Nat) : Prop := pj_put u i0 11 0 fun u1 => (pw_Pa_dataIntAt u1 (i0 + 1) 1 fun r3 u2 => (pj_put u2 i0 9 r3 fun u4 => (pj_put u4 i0 8 1 fun u5 => (pw_Di_random u5 (u5 i0 5) (u5 i0 0) (u5 i0 13) fun r7 u6 => (pj_put u6 i0 10 r7 fun u8 => (pj_put u8 i0 13 ((u8 i0 13) + 1) fun u9 => (pw_Pa_id u9 (i0 + 1) fun r11 u10 => (pw_Pa_open u10 (i0 + 3) 2 r11 51 fun u12 => (pw_Ro_put u12 (i0 + 3) 2 fun u13 => (pw_Ro_putInt u13 (i0 + 3) (u13 i0 10) fun u14 => (pw_Di_macOfProof u14 (u14 i0 5) 2 (u14 i0 9) (u14 i0 10) fun r16 u15 => (pw_Ro_putInt u15 (i0 + 3) r16 fun u17 => (pw_Pa_setLength u17 (i0 + 3) fun u18 => (K 1 u18))))))))))))))
set_option maxHeartbeats 1000000 in
theorem pt_Ho_answerRandom_24 {g : pj_G} {b : Nat} (C : pj_X g c_Ho_answerRandom 1 R_Ho (some .boolean) rm_Ho_answerRandom) {K : Int32 → pj_M → Prop} (hE : pj_E g b (pj_Ki K))   {u : pj_M} {i0 : Nat}  (t0 : pj_T i0 = 6) (h : pb_Ho_answerRandom_24  K u i0) : pj_J g (pj_N g b u) 24 [some (.ref (b + i0))] [] := by
  unfold pb_Ho_answerRandom_24 at h
  refine pj_aload_n C d_Ho_answerRandom_24 (pc' := 25) (i := 0) (x := b + i0) rfl rfl rfl ?_
  refine pj_iconst C d_Ho_answerRandom_25 (pc' := 26) rfl (v := 0) (by decide) ?_
  refine fp_Host_54_Host C t0 pj_bi0 d_Ho_answerRandom_26 (pc' := 29) rfl h (fun u1 h => ?_)
  refine pj_aload_n C d_Ho_answerRandom_29 (pc' := 30) (i := 0) (x := b + i0) rfl rfl rfl ?_
  refine pj_aload_n C d_Ho_answerRandom_30 (pc' := 31) (i := 0) (x := b + i0) rfl rfl rfl ?_
  refine fg_Host_12_Host C t0 d_Ho_answerRandom_31 (pc' := 34) rfl ?_
  refine pj_iconst C d_Ho_answerRandom_34 (pc' := 35) rfl (v := 1) (by decide) ?_
  refine ck_Host_116_Packet C (pl_Host_packet t0) h d_Ho_answerRandom_35 (pc' := 38) rfl ⟨Nat.le_of_ble_eq_true rfl, Nat.le_of_ble_eq_true rfl⟩ (Nat.le_of_ble_eq_true rfl) (fun r3 u2 h => ?_)
  refine fp_Host_132_Host C t0  d_Ho_answerRandom_38 (pc' := 41) rfl h (fun u4 h => ?_)
  refine pj_aload_n C d_Ho_answerRandom_41 (pc' := 42) (i := 0) (x := b + i0) rfl rfl rfl ?_
  refine pj_iconst C d_Ho_answerRandom_42 (pc' := 43) rfl (v := 1) (by decide) ?_
  refine fp_Host_51_Host C t0 pj_bi1 d_Ho_answerRandom_43 (pc' := 46) rfl h (fun u5 h => ?_)
  refine pj_aload_n C d_Ho_answerRandom_46 (pc' := 47) (i := 0) (x := b + i0) rfl rfl rfl ?_
  refine pj_aload_n C d_Ho_answerRandom_47 (pc' := 48) (i := 0) (x := b + i0) rfl rfl rfl ?_
  refine fg_Host_32_Host C t0 d_Ho_answerRandom_48 (pc' := 51) rfl ?_
  refine pj_aload_n C d_Ho_answerRandom_51 (pc' := 52) (i := 0) (x := b + i0) rfl rfl rfl ?_
  refine fg_Host_25_Host C t0 d_Ho_answerRandom_52 (pc' := 55) rfl ?_
  refine pj_aload_n C d_Ho_answerRandom_55 (pc' := 56) (i := 0) (x := b + i0) rfl rfl rfl ?_
  refine fg_Host_135_Host C t0 d_Ho_answerRandom_56 (pc' := 59) rfl ?_
  refine ck_Host_138 C  h d_Ho_answerRandom_59 (pc' := 62) rfl ⟨Nat.le_of_ble_eq_true rfl, Nat.le_of_ble_eq_true rfl⟩ (Nat.le_of_ble_eq_true rfl) (fun r7 u6 h => ?_)
  refine fp_Host_141_Host C t0  d_Ho_answerRandom_62 (pc' := 65) rfl h (fun u8 h => ?_)
  refine pj_aload_n C d_Ho_answerRandom_65 (pc' := 66) (i := 0) (x := b + i0) rfl rfl rfl ?_
  refine pj_dup C d_Ho_answerRandom_66 (pc' := 67) rfl rfl ?_
  refine fg_Host_135_Host C t0 d_Ho_answerRandom_67 (pc' := 70) rfl ?_
  refine pj_iconst C d_Ho_answerRandom_70 (pc' := 71) rfl (v := 1) (by decide) ?_
  refine pj_iadd C d_Ho_answerRandom_71 (pc' := 72) rfl ?_
  refine fp_Host_135_Host C t0  d_Ho_answerRandom_72 (pc' := 75) rfl h (fun u9 h => ?_)
  refine pj_aload_n C d_Ho_answerRandom_75 (pc' := 76) (i := 0) (x := b + i0) rfl rfl rfl ?_
  refine fg_Host_18_Host C t0 d_Ho_answerRandom_76 (pc' := 79) rfl ?_
  refine pj_iconst C d_Ho_answerRandom_79 (pc' := 80) rfl (v := 2) (by decide) ?_
  refine pj_aload_n C d_Ho_answerRandom_80 (pc' := 81) (i := 0) (x := b + i0) rfl rfl rfl ?_
  refine fg_Host_12_Host C t0 d_Ho_answerRandom_81 (pc' := 84) rfl ?_
  refine ck_Host_82_Packet C (pl_Host_packet t0) h d_Ho_answerRandom_84 (pc' := 87) rfl ⟨Nat.le_of_ble_eq_true rfl, Nat.le_of_ble_eq_true rfl⟩ (Nat.le_of_ble_eq_true rfl) (fun r11 u10 h => ?_)
  refine pj_bipush C d_Ho_answerRandom_87 (pc' := 89) rfl (v := 51) (by decide) ?_
  refine ck_Host_103_Packet C (pl_Host_latest t0) h d_Ho_answerRandom_89 (pc' := 92) rfl ⟨Nat.le_of_ble_eq_true rfl, Nat.le_of_ble_eq_true rfl⟩ (Nat.le_of_ble_eq_true rfl) (fun u12 h => ?_)
  refine pj_aload_n C d_Ho_answerRandom_92 (pc' := 93) (i := 0) (x := b + i0) rfl rfl rfl ?_
  refine fg_Host_18_Host C t0 d_Ho_answerRandom_93 (pc' := 96) rfl ?_
  refine pj_iconst C d_Ho_answerRandom_96 (pc' := 97) rfl (v := 2) (by decide) ?_
  refine ck_Host_106_Packet C (pl_Host_latest t0) h d_Ho_answerRandom_97 (pc' := 100) rfl ⟨Nat.le_of_ble_eq_true rfl, Nat.le_of_ble_eq_true rfl⟩ (Nat.le_of_ble_eq_true rfl) (fun u13 h => ?_)
  refine pj_aload_n C d_Ho_answerRandom_100 (pc' := 101) (i := 0) (x := b + i0) rfl rfl rfl ?_
  refine fg_Host_18_Host C t0 d_Ho_answerRandom_101 (pc' := 104) rfl ?_
  refine pj_aload_n C d_Ho_answerRandom_104 (pc' := 105) (i := 0) (x := b + i0) rfl rfl rfl ?_
  refine fg_Host_141_Host C t0 d_Ho_answerRandom_105 (pc' := 108) rfl ?_
  refine ck_Host_126_Packet C (pl_Host_latest t0) h d_Ho_answerRandom_108 (pc' := 111) rfl ⟨Nat.le_of_ble_eq_true rfl, Nat.le_of_ble_eq_true rfl⟩ (Nat.le_of_ble_eq_true rfl) (fun u14 h => ?_)
  refine pj_aload_n C d_Ho_answerRandom_111 (pc' := 112) (i := 0) (x := b + i0) rfl rfl rfl ?_
  refine fg_Host_18_Host C t0 d_Ho_answerRandom_112 (pc' := 115) rfl ?_
  refine pj_aload_n C d_Ho_answerRandom_115 (pc' := 116) (i := 0) (x := b + i0) rfl rfl rfl ?_
  refine fg_Host_32_Host C t0 d_Ho_answerRandom_116 (pc' := 119) rfl ?_
  refine pj_iconst C d_Ho_answerRandom_119 (pc' := 120) rfl (v := 2) (by decide) ?_
  refine pj_aload_n C d_Ho_answerRandom_120 (pc' := 121) (i := 0) (x := b + i0) rfl rfl rfl ?_
  refine fg_Host_132_Host C t0 d_Ho_answerRandom_121 (pc' := 124) rfl ?_
  refine pj_aload_n C d_Ho_answerRandom_124 (pc' := 125) (i := 0) (x := b + i0) rfl rfl rfl ?_
  refine fg_Host_141_Host C t0 d_Ho_answerRandom_125 (pc' := 128) rfl ?_
  refine ck_Host_144 C  h d_Ho_answerRandom_128 (pc' := 131) rfl ⟨Nat.le_of_ble_eq_true rfl, Nat.le_of_ble_eq_true rfl⟩ (Nat.le_of_ble_eq_true rfl) (fun r16 u15 h => ?_)
  refine ck_Host_126_Packet C (pl_Host_latest t0) h d_Ho_answerRandom_131 (pc' := 134) rfl ⟨Nat.le_of_ble_eq_true rfl, Nat.le_of_ble_eq_true rfl⟩ (Nat.le_of_ble_eq_true rfl) (fun u17 h => ?_)
  refine pj_aload_n C d_Ho_answerRandom_134 (pc' := 135) (i := 0) (x := b + i0) rfl rfl rfl ?_
  refine fg_Host_18_Host C t0 d_Ho_answerRandom_135 (pc' := 138) rfl ?_
  refine ck_Host_110_Packet C (pl_Host_latest t0) h d_Ho_answerRandom_138 (pc' := 141) rfl ⟨Nat.le_of_ble_eq_true rfl, Nat.le_of_ble_eq_true rfl⟩ (Nat.le_of_ble_eq_true rfl) (fun u18 h => ?_)
  refine pj_iconst C d_Ho_answerRandom_141 (pc' := 142) rfl (v := 1) (by decide) ?_
  exact pj_zret C hE d_Ho_answerRandom_142 pj_bi1 ⟨_, rfl, h⟩
def pb_Ho_answerRandom_11  (K : Int32 → pj_M → Prop) (u : pj_M) (i0 : Nat) : Prop := pw_Pa_firstData u (i0 + 1) fun r2 u1 => (((r2 = 1) → (pb_Ho_answerRandom_24  K u1 i0)) ∧ (¬ (r2 = 1) → (pb_Ho_answerRandom_22  K u1 )))
set_option maxHeartbeats 1000000 in
theorem pt_Ho_answerRandom_11 {g : pj_G} {b : Nat} (C : pj_X g c_Ho_answerRandom 1 R_Ho (some .boolean) rm_Ho_answerRandom) {K : Int32 → pj_M → Prop} (hE : pj_E g b (pj_Ki K))   {u : pj_M} {i0 : Nat}  (t0 : pj_T i0 = 6) (h : pb_Ho_answerRandom_11  K u i0) : pj_J g (pj_N g b u) 11 [some (.ref (b + i0))] [] := by
  unfold pb_Ho_answerRandom_11 at h
  refine pj_aload_n C d_Ho_answerRandom_11 (pc' := 12) (i := 0) (x := b + i0) rfl rfl rfl ?_
  refine fg_Host_12_Host C t0 d_Ho_answerRandom_12 (pc' := 15) rfl ?_
  refine ck_Host_129_Packet C (pl_Host_packet t0) h d_Ho_answerRandom_15 (pc' := 18) rfl ⟨Nat.le_of_ble_eq_true rfl, Nat.le_of_ble_eq_true rfl⟩ (Nat.le_of_ble_eq_true rfl) (fun r2 u1 h => ?_)
  refine pj_iconst C d_Ho_answerRandom_18 (pc' := 19) rfl (v := 1) (by decide) ?_
  refine pj_icmp_eq C d_Ho_answerRandom_19 (pc' := 22) rfl (tgt := 24) (by decide) h (fun h => ?_) (fun h => ?_)
  · exact pj_cut (pj_le_s pj_le_e) (pt_Ho_answerRandom_24 C hE  t0 h)
  · exact pj_cut (pj_le_n pj_le_e) (pt_Ho_answerRandom_22 C hE   h)
def pb_Ho_answerRandom_0  (K : Int32 → pj_M → Prop) (u : pj_M) (i0 : Nat) : Prop := pw_Pa_dataSize u (i0 + 1) fun r2 u1 => (((r2 = 5) → (pb_Ho_answerRandom_11  K u1 i0)) ∧ (¬ (r2 = 5) → (pb_Ho_answerRandom_22  K u1 )))
set_option maxHeartbeats 1000000 in
theorem pt_Ho_answerRandom_0 {g : pj_G} {b : Nat} (C : pj_X g c_Ho_answerRandom 1 R_Ho (some .boolean) rm_Ho_answerRandom) {K : Int32 → pj_M → Prop} (hE : pj_E g b (pj_Ki K))   {u : pj_M} {i0 : Nat}  (t0 : pj_T i0 = 6) (h : pb_Ho_answerRandom_0  K u i0) : pj_J g (pj_N g b u) 0 [some (.ref (b + i0))] [] := by
  unfold pb_Ho_answerRandom_0 at h
  refine pj_aload_n C d_Ho_answerRandom_0 (pc' := 1) (i := 0) (x := b + i0) rfl rfl rfl ?_
  refine fg_Host_12_Host C t0 d_Ho_answerRandom_1 (pc' := 4) rfl ?_
  refine ck_Host_113_Packet C (pl_Host_packet t0) h d_Ho_answerRandom_4 (pc' := 7) rfl ⟨Nat.le_of_ble_eq_true rfl, Nat.le_of_ble_eq_true rfl⟩ (Nat.le_of_ble_eq_true rfl) (fun r2 u1 h => ?_)
  refine pj_iconst C d_Ho_answerRandom_7 (pc' := 8) rfl (v := 5) (by decide) ?_
  refine pj_icmp_ne C d_Ho_answerRandom_8 (pc' := 11) rfl (tgt := 22) (by decide) h (fun h => ?_) (fun h => ?_)
  · exact pj_cut (pj_le_n pj_le_e) (pt_Ho_answerRandom_22 C hE   h)
  · exact pj_cut (pj_le_s pj_le_e) (pt_Ho_answerRandom_11 C hE  t0 h)
def pw_Ho_answerRandom (u : pj_M) (i0 : Nat) (K : Int32 → pj_M → Prop) : Prop := pb_Ho_answerRandom_0  K u i0
theorem pc_Ho_answerRandom (l : Launch) (D : va_G) (E : Nat → ClassId) {b : Nat} {u : pj_M} {i0 : Nat} {K : Int32 → pj_M → Prop} (t0 : pj_T i0 = 6) (h : pw_Ho_answerRandom u i0 K) : pj_C l y_Ho_answerRandom c_Ho_answerRandom 1 (some .boolean) rm_Ho_answerRandom D E b [.ref (b + i0)] u (pj_Ki K) := by
  refine pj_met (own := R_Ho) (by decide +kernel) rfl (Nat.le_of_ble_eq_true rfl) (fun g hE C => ?_)
  unfold pw_Ho_answerRandom at h
  show pj_J g (pj_N g b u) 0 [some (.ref (b + i0))] []
  exact pj_cut (pj_le_s pj_le_e) (pt_Ho_answerRandom_0 C hE  t0 h)
/-! Host.answerProof()Z -/
theorem fg_Host_51_Host {g : pj_G} {b : Nat} {cc : ByteArray} {nL : Nat} {ret : Option FieldType} {rm : Room} {u : pj_M} {pc pc' : Nat} {vs : List (Option Value)} {st : List Value} (C : pj_X g cc nL R_Ho ret rm) {i : Nat} (t : pj_T i = 6) (hdg : decode cc pc = .ok (.getfield 51, 3)) (hp : pc + 3 = pc') (kk : pj_J g (pj_N g b u) pc' vs (.int (u i 8) :: st)) : pj_J g (pj_N g b u) pc vs (.ref (b + i) :: st) :=
  pj_get C cl_Host hin_Host (k := 8) (Nat.le_of_ble_eq_true rfl) wm_207 (Or.inl rfl) (pj_lt t (by decide)) (fun E => ko_6 t) rfl hdg hp kk
def rm_Ho_answerProof : Room := { frames := 3, cells := 0, slots := 0, locals := 65 }
def pb_Ho_answerProof_56  (K : Int32 → pj_M → Prop) (u : pj_M)  : Prop := K 0 u
set_option maxHeartbeats 1000000 in
theorem pt_Ho_answerProof_56 {g : pj_G} {b : Nat} (C : pj_X g c_Ho_answerProof 1 R_Ho (some .boolean) rm_Ho_answerProof) {K : Int32 → pj_M → Prop} (hE : pj_E g b (pj_Ki K))   {u : pj_M}    (h : pb_Ho_answerProof_56  K u ) : pj_J g (pj_N g b u) 56 [none] [] := by
  unfold pb_Ho_answerProof_56 at h
  refine pj_iconst C d_Ho_answerProof_56 (pc' := 57) rfl (v := 0) (by decide) ?_
  exact pj_zret C hE d_Ho_answerProof_57 pj_bi0 ⟨_, rfl, h⟩
def pb_Ho_answerProof_58  (K : Int32 → pj_M → Prop) (u : pj_M) (i0 : Nat) : Prop := pj_put u i0 11 1 fun u1 => (pw_Pa_id u1 (i0 + 1) fun r3 u2 => (pw_Pa_open u2 (i0 + 3) 2 r3 51 fun u4 => (pw_Ro_put u4 (i0 + 3) 4 fun u5 => (pw_Di_macOfProof u5 (u5 i0 5) 4 (u5 i0 9) (u5 i0 10) fun r7 u6 => (pw_Ro_putInt u6 (i0 + 3) r7 fun u8 => (pw_Pa_setLength u8 (i0 + 3) fun u9 => (K 1 u9)))))))
set_option maxHeartbeats 1000000 in
theorem pt_Ho_answerProof_58 {g : pj_G} {b : Nat} (C : pj_X g c_Ho_answerProof 1 R_Ho (some .boolean) rm_Ho_answerProof) {K : Int32 → pj_M → Prop} (hE : pj_E g b (pj_Ki K))   {u : pj_M} {i0 : Nat}  (t0 : pj_T i0 = 6) (h : pb_Ho_answerProof_58  K u i0) : pj_J g (pj_N g b u) 58 [some (.ref (b + i0))] [] := by
  unfold pb_Ho_answerProof_58 at h
  refine pj_aload_n C d_Ho_answerProof_58 (pc' := 59) (i := 0) (x := b + i0) rfl rfl rfl ?_
  refine pj_iconst C d_Ho_answerProof_59 (pc' := 60) rfl (v := 1) (by decide) ?_
  refine fp_Host_54_Host C t0 pj_bi1 d_Ho_answerProof_60 (pc' := 63) rfl h (fun u1 h => ?_)
  refine pj_aload_n C d_Ho_answerProof_63 (pc' := 64) (i := 0) (x := b + i0) rfl rfl rfl ?_
  refine fg_Host_18_Host C t0 d_Ho_answerProof_64 (pc' := 67) rfl ?_
  refine pj_iconst C d_Ho_answerProof_67 (pc' := 68) rfl (v := 2) (by decide) ?_
  refine pj_aload_n C d_Ho_answerProof_68 (pc' := 69) (i := 0) (x := b + i0) rfl rfl rfl ?_
  refine fg_Host_12_Host C t0 d_Ho_answerProof_69 (pc' := 72) rfl ?_
  refine ck_Host_82_Packet C (pl_Host_packet t0) h d_Ho_answerProof_72 (pc' := 75) rfl ⟨Nat.le_of_ble_eq_true rfl, Nat.le_of_ble_eq_true rfl⟩ (Nat.le_of_ble_eq_true rfl) (fun r3 u2 h => ?_)
  refine pj_bipush C d_Ho_answerProof_75 (pc' := 77) rfl (v := 51) (by decide) ?_
  refine ck_Host_103_Packet C (pl_Host_latest t0) h d_Ho_answerProof_77 (pc' := 80) rfl ⟨Nat.le_of_ble_eq_true rfl, Nat.le_of_ble_eq_true rfl⟩ (Nat.le_of_ble_eq_true rfl) (fun u4 h => ?_)
  refine pj_aload_n C d_Ho_answerProof_80 (pc' := 81) (i := 0) (x := b + i0) rfl rfl rfl ?_
  refine fg_Host_18_Host C t0 d_Ho_answerProof_81 (pc' := 84) rfl ?_
  refine pj_iconst C d_Ho_answerProof_84 (pc' := 85) rfl (v := 4) (by decide) ?_
  refine ck_Host_106_Packet C (pl_Host_latest t0) h d_Ho_answerProof_85 (pc' := 88) rfl ⟨Nat.le_of_ble_eq_true rfl, Nat.le_of_ble_eq_true rfl⟩ (Nat.le_of_ble_eq_true rfl) (fun u5 h => ?_)
  refine pj_aload_n C d_Ho_answerProof_88 (pc' := 89) (i := 0) (x := b + i0) rfl rfl rfl ?_
  refine fg_Host_18_Host C t0 d_Ho_answerProof_89 (pc' := 92) rfl ?_
  refine pj_aload_n C d_Ho_answerProof_92 (pc' := 93) (i := 0) (x := b + i0) rfl rfl rfl ?_
  refine fg_Host_32_Host C t0 d_Ho_answerProof_93 (pc' := 96) rfl ?_
  refine pj_iconst C d_Ho_answerProof_96 (pc' := 97) rfl (v := 4) (by decide) ?_
  refine pj_aload_n C d_Ho_answerProof_97 (pc' := 98) (i := 0) (x := b + i0) rfl rfl rfl ?_
  refine fg_Host_132_Host C t0 d_Ho_answerProof_98 (pc' := 101) rfl ?_
  refine pj_aload_n C d_Ho_answerProof_101 (pc' := 102) (i := 0) (x := b + i0) rfl rfl rfl ?_
  refine fg_Host_141_Host C t0 d_Ho_answerProof_102 (pc' := 105) rfl ?_
  refine ck_Host_144 C  h d_Ho_answerProof_105 (pc' := 108) rfl ⟨Nat.le_of_ble_eq_true rfl, Nat.le_of_ble_eq_true rfl⟩ (Nat.le_of_ble_eq_true rfl) (fun r7 u6 h => ?_)
  refine ck_Host_126_Packet C (pl_Host_latest t0) h d_Ho_answerProof_108 (pc' := 111) rfl ⟨Nat.le_of_ble_eq_true rfl, Nat.le_of_ble_eq_true rfl⟩ (Nat.le_of_ble_eq_true rfl) (fun u8 h => ?_)
  refine pj_aload_n C d_Ho_answerProof_111 (pc' := 112) (i := 0) (x := b + i0) rfl rfl rfl ?_
  refine fg_Host_18_Host C t0 d_Ho_answerProof_112 (pc' := 115) rfl ?_
  refine ck_Host_110_Packet C (pl_Host_latest t0) h d_Ho_answerProof_115 (pc' := 118) rfl ⟨Nat.le_of_ble_eq_true rfl, Nat.le_of_ble_eq_true rfl⟩ (Nat.le_of_ble_eq_true rfl) (fun u9 h => ?_)
  refine pj_iconst C d_Ho_answerProof_118 (pc' := 119) rfl (v := 1) (by decide) ?_
  exact pj_zret C hE d_Ho_answerProof_119 pj_bi1 ⟨_, rfl, h⟩
def pb_Ho_answerProof_29  (K : Int32 → pj_M → Prop) (u : pj_M) (i0 : Nat) : Prop := pw_Pa_dataIntAt u (i0 + 1) 1 fun r2 u1 => (pw_Di_macOfProof u1 (u1 i0 5) 3 (u1 i0 10) (u1 i0 9) fun r4 u3 => (((r2 = r4) → (pb_Ho_answerProof_58  K u3 i0)) ∧ (¬ (r2 = r4) → (pb_Ho_answerProof_56  K u3 ))))
set_option maxHeartbeats 1000000 in
theorem pt_Ho_answerProof_29 {g : pj_G} {b : Nat} (C : pj_X g c_Ho_answerProof 1 R_Ho (some .boolean) rm_Ho_answerProof) {K : Int32 → pj_M → Prop} (hE : pj_E g b (pj_Ki K))   {u : pj_M} {i0 : Nat}  (t0 : pj_T i0 = 6) (h : pb_Ho_answerProof_29  K u i0) : pj_J g (pj_N g b u) 29 [some (.ref (b + i0))] [] := by
  unfold pb_Ho_answerProof_29 at h
  refine pj_aload_n C d_Ho_answerProof_29 (pc' := 30) (i := 0) (x := b + i0) rfl rfl rfl ?_
  refine fg_Host_12_Host C t0 d_Ho_answerProof_30 (pc' := 33) rfl ?_
  refine pj_iconst C d_Ho_answerProof_33 (pc' := 34) rfl (v := 1) (by decide) ?_
  refine ck_Host_116_Packet C (pl_Host_packet t0) h d_Ho_answerProof_34 (pc' := 37) rfl ⟨Nat.le_of_ble_eq_true rfl, Nat.le_of_ble_eq_true rfl⟩ (Nat.le_of_ble_eq_true rfl) (fun r2 u1 h => ?_)
  refine pj_aload_n C d_Ho_answerProof_37 (pc' := 38) (i := 0) (x := b + i0) rfl rfl rfl ?_
  refine fg_Host_32_Host C t0 d_Ho_answerProof_38 (pc' := 41) rfl ?_
  refine pj_iconst C d_Ho_answerProof_41 (pc' := 42) rfl (v := 3) (by decide) ?_
  refine pj_aload_n C d_Ho_answerProof_42 (pc' := 43) (i := 0) (x := b + i0) rfl rfl rfl ?_
  refine fg_Host_141_Host C t0 d_Ho_answerProof_43 (pc' := 46) rfl ?_
  refine pj_aload_n C d_Ho_answerProof_46 (pc' := 47) (i := 0) (x := b + i0) rfl rfl rfl ?_
  refine fg_Host_132_Host C t0 d_Ho_answerProof_47 (pc' := 50) rfl ?_
  refine ck_Host_144 C  h d_Ho_answerProof_50 (pc' := 53) rfl ⟨Nat.le_of_ble_eq_true rfl, Nat.le_of_ble_eq_true rfl⟩ (Nat.le_of_ble_eq_true rfl) (fun r4 u3 h => ?_)
  refine pj_icmp_eq C d_Ho_answerProof_53 (pc' := 56) rfl (tgt := 58) (by decide) h (fun h => ?_) (fun h => ?_)
  · exact pj_cut (pj_le_s pj_le_e) (pt_Ho_answerProof_58 C hE  t0 h)
  · exact pj_cut (pj_le_n pj_le_e) (pt_Ho_answerProof_56 C hE   h)
def pb_Ho_answerProof_22  (K : Int32 → pj_M → Prop) (u : pj_M) (i0 : Nat) : Prop := (((u i0 8) = 0) → (pb_Ho_answerProof_56  K u )) ∧ (¬ ((u i0 8) = 0) → (pb_Ho_answerProof_29  K u i0))
set_option maxHeartbeats 1000000 in
theorem pt_Ho_answerProof_22 {g : pj_G} {b : Nat} (C : pj_X g c_Ho_answerProof 1 R_Ho (some .boolean) rm_Ho_answerProof) {K : Int32 → pj_M → Prop} (hE : pj_E g b (pj_Ki K))   {u : pj_M} {i0 : Nat}  (t0 : pj_T i0 = 6) (h : pb_Ho_answerProof_22  K u i0) : pj_J g (pj_N g b u) 22 [some (.ref (b + i0))] [] := by
  unfold pb_Ho_answerProof_22 at h
  refine pj_aload_n C d_Ho_answerProof_22 (pc' := 23) (i := 0) (x := b + i0) rfl rfl rfl ?_
  refine fg_Host_51_Host C t0 d_Ho_answerProof_23 (pc' := 26) rfl ?_
  refine pj_if_eq C d_Ho_answerProof_26 (pc' := 29) rfl (tgt := 56) (by decide) h (fun h => ?_) (fun h => ?_)
  · exact pj_cut (pj_le_n pj_le_e) (pt_Ho_answerProof_56 C hE   h)
  · exact pj_cut (pj_le_s pj_le_e) (pt_Ho_answerProof_29 C hE  t0 h)
def pb_Ho_answerProof_11  (K : Int32 → pj_M → Prop) (u : pj_M) (i0 : Nat) : Prop := pw_Pa_firstData u (i0 + 1) fun r2 u1 => (((r2 = 3) → (pb_Ho_answerProof_22  K u1 i0)) ∧ (¬ (r2 = 3) → (pb_Ho_answerProof_56  K u1 )))
set_option maxHeartbeats 1000000 in
theorem pt_Ho_answerProof_11 {g : pj_G} {b : Nat} (C : pj_X g c_Ho_answerProof 1 R_Ho (some .boolean) rm_Ho_answerProof) {K : Int32 → pj_M → Prop} (hE : pj_E g b (pj_Ki K))   {u : pj_M} {i0 : Nat}  (t0 : pj_T i0 = 6) (h : pb_Ho_answerProof_11  K u i0) : pj_J g (pj_N g b u) 11 [some (.ref (b + i0))] [] := by
  unfold pb_Ho_answerProof_11 at h
  refine pj_aload_n C d_Ho_answerProof_11 (pc' := 12) (i := 0) (x := b + i0) rfl rfl rfl ?_
  refine fg_Host_12_Host C t0 d_Ho_answerProof_12 (pc' := 15) rfl ?_
  refine ck_Host_129_Packet C (pl_Host_packet t0) h d_Ho_answerProof_15 (pc' := 18) rfl ⟨Nat.le_of_ble_eq_true rfl, Nat.le_of_ble_eq_true rfl⟩ (Nat.le_of_ble_eq_true rfl) (fun r2 u1 h => ?_)
  refine pj_iconst C d_Ho_answerProof_18 (pc' := 19) rfl (v := 3) (by decide) ?_
  refine pj_icmp_ne C d_Ho_answerProof_19 (pc' := 22) rfl (tgt := 56) (by decide) h (fun h => ?_) (fun h => ?_)
  · exact pj_cut (pj_le_n pj_le_e) (pt_Ho_answerProof_56 C hE   h)
  · exact pj_cut (pj_le_s pj_le_e) (pt_Ho_answerProof_22 C hE  t0 h)
def pb_Ho_answerProof_0  (K : Int32 → pj_M → Prop) (u : pj_M) (i0 : Nat) : Prop := pw_Pa_dataSize u (i0 + 1) fun r2 u1 => (((r2 = 5) → (pb_Ho_answerProof_11  K u1 i0)) ∧ (¬ (r2 = 5) → (pb_Ho_answerProof_56  K u1 )))
set_option maxHeartbeats 1000000 in
theorem pt_Ho_answerProof_0 {g : pj_G} {b : Nat} (C : pj_X g c_Ho_answerProof 1 R_Ho (some .boolean) rm_Ho_answerProof) {K : Int32 → pj_M → Prop} (hE : pj_E g b (pj_Ki K))   {u : pj_M} {i0 : Nat}  (t0 : pj_T i0 = 6) (h : pb_Ho_answerProof_0  K u i0) : pj_J g (pj_N g b u) 0 [some (.ref (b + i0))] [] := by
  unfold pb_Ho_answerProof_0 at h
  refine pj_aload_n C d_Ho_answerProof_0 (pc' := 1) (i := 0) (x := b + i0) rfl rfl rfl ?_
  refine fg_Host_12_Host C t0 d_Ho_answerProof_1 (pc' := 4) rfl ?_
  refine ck_Host_113_Packet C (pl_Host_packet t0) h d_Ho_answerProof_4 (pc' := 7) rfl ⟨Nat.le_of_ble_eq_true rfl, Nat.le_of_ble_eq_true rfl⟩ (Nat.le_of_ble_eq_true rfl) (fun r2 u1 h => ?_)
  refine pj_iconst C d_Ho_answerProof_7 (pc' := 8) rfl (v := 5) (by decide) ?_
  refine pj_icmp_ne C d_Ho_answerProof_8 (pc' := 11) rfl (tgt := 56) (by decide) h (fun h => ?_) (fun h => ?_)
  · exact pj_cut (pj_le_n pj_le_e) (pt_Ho_answerProof_56 C hE   h)
  · exact pj_cut (pj_le_s pj_le_e) (pt_Ho_answerProof_11 C hE  t0 h)
def pw_Ho_answerProof (u : pj_M) (i0 : Nat) (K : Int32 → pj_M → Prop) : Prop := pb_Ho_answerProof_0  K u i0
theorem pc_Ho_answerProof (l : Launch) (D : va_G) (E : Nat → ClassId) {b : Nat} {u : pj_M} {i0 : Nat} {K : Int32 → pj_M → Prop} (t0 : pj_T i0 = 6) (h : pw_Ho_answerProof u i0 K) : pj_C l y_Ho_answerProof c_Ho_answerProof 1 (some .boolean) rm_Ho_answerProof D E b [.ref (b + i0)] u (pj_Ki K) := by
  refine pj_met (own := R_Ho) (by decide +kernel) rfl (Nat.le_of_ble_eq_true rfl) (fun g hE C => ?_)
  unfold pw_Ho_answerProof at h
  show pj_J g (pj_N g b u) 0 [some (.ref (b + i0))] []
  exact pj_cut (pj_le_s pj_le_e) (pt_Ho_answerProof_0 C hE  t0 h)
/-! Host.respond()Z -/
theorem ck_Host_85_Packet {g : pj_G} {b : Nat} {cc : ByteArray} {nL : Nat} {ret : Option FieldType} {rm : Room} {u : pj_M} {pc pc' : Nat} {vs : List (Option Value)} {st : List Value} (C : pj_X g cc nL R_Ho ret rm) {i0 : Nat} {K : Int32 → pj_M → Prop} (t0 : pj_T i0 = 4) (h : pw_Pa_type u i0 K) (hdg : decode cc pc = .ok (.invokevirtual 85, 3)) (hp : pc + 3 = pc') (hR : rm_Pa_type.frames + 1 ≤ rm.frames ∧ 8 + (1 + 11) + rm_Pa_type.locals ≤ rm.locals) (h8 : (st.map fun v => v.category).sum ≤ 8) (kk : ∀ r u', K r u' → pj_J g (pj_N g b u') pc' vs (.int r :: st)) : pj_J g (pj_N g b u) pc vs (.ref (b + i0) :: st) :=
  pj_callV C (As := []) (fun l D E => pc_Pa_type l D E t0 h) rfl rfl cl_Packet (pj_lt t0 (by decide)) (fun E => ko_4 t0) wm_818 wm_729 wm_730 wm_96 wm_731 (by decide +kernel) (n := 0) rfl hR rfl h8 hdg hp (fun v u' hq => by obtain ⟨r, rfl, hk⟩ := hq; exact kk r u' hk)
theorem ck_Host_94_Host {g : pj_G} {b : Nat} {cc : ByteArray} {nL : Nat} {ret : Option FieldType} {rm : Room} {u : pj_M} {pc pc' : Nat} {vs : List (Option Value)} {st : List Value} (C : pj_X g cc nL R_Ho ret rm) {i0 : Nat} {K : Int32 → pj_M → Prop} (t0 : pj_T i0 = 6) (h : pw_Ho_refuse u i0 K) (hdg : decode cc pc = .ok (.invokevirtual 94, 3)) (hp : pc + 3 = pc') (hR : rm_Ho_refuse.frames + 1 ≤ rm.frames ∧ 8 + (1 + 11) + rm_Ho_refuse.locals ≤ rm.locals) (h8 : (st.map fun v => v.category).sum ≤ 8) (kk : ∀ r u', K r u' → pj_J g (pj_N g b u') pc' vs (.int r :: st)) : pj_J g (pj_N g b u) pc vs (.ref (b + i0) :: st) :=
  pj_callV C (As := []) (fun l D E => pc_Ho_refuse l D E t0 h) rfl rfl cl_Host (pj_lt t0 (by decide)) (fun E => ko_6 t0) wm_849 wm_851 wm_12 wm_95 wm_852 (by decide +kernel) (n := 0) rfl hR rfl h8 hdg hp (fun v u' hq => by obtain ⟨r, rfl, hk⟩ := hq; exact kk r u' hk)
theorem ck_Host_97_Host {g : pj_G} {b : Nat} {cc : ByteArray} {nL : Nat} {ret : Option FieldType} {rm : Room} {u : pj_M} {pc pc' : Nat} {vs : List (Option Value)} {st : List Value} (C : pj_X g cc nL R_Ho ret rm) {i0 : Nat} {K : Int32 → pj_M → Prop} (t0 : pj_T i0 = 6) (h : pw_Ho_answerRandom u i0 K) (hdg : decode cc pc = .ok (.invokevirtual 97, 3)) (hp : pc + 3 = pc') (hR : rm_Ho_answerRandom.frames + 1 ≤ rm.frames ∧ 8 + (1 + 11) + rm_Ho_answerRandom.locals ≤ rm.locals) (h8 : (st.map fun v => v.category).sum ≤ 8) (kk : ∀ r u', K r u' → pj_J g (pj_N g b u') pc' vs (.int r :: st)) : pj_J g (pj_N g b u) pc vs (.ref (b + i0) :: st) :=
  pj_callV C (As := []) (fun l D E => pc_Ho_answerRandom l D E t0 h) rfl rfl cl_Host (pj_lt t0 (by decide)) (fun E => ko_6 t0) wm_853 wm_855 wm_13 wm_95 wm_856 (by decide +kernel) (n := 0) rfl hR rfl h8 hdg hp (fun v u' hq => by obtain ⟨r, rfl, hk⟩ := hq; exact kk r u' hk)
theorem ck_Host_100_Host {g : pj_G} {b : Nat} {cc : ByteArray} {nL : Nat} {ret : Option FieldType} {rm : Room} {u : pj_M} {pc pc' : Nat} {vs : List (Option Value)} {st : List Value} (C : pj_X g cc nL R_Ho ret rm) {i0 : Nat} {K : Int32 → pj_M → Prop} (t0 : pj_T i0 = 6) (h : pw_Ho_answerProof u i0 K) (hdg : decode cc pc = .ok (.invokevirtual 100, 3)) (hp : pc + 3 = pc') (hR : rm_Ho_answerProof.frames + 1 ≤ rm.frames ∧ 8 + (1 + 11) + rm_Ho_answerProof.locals ≤ rm.locals) (h8 : (st.map fun v => v.category).sum ≤ 8) (kk : ∀ r u', K r u' → pj_J g (pj_N g b u') pc' vs (.int r :: st)) : pj_J g (pj_N g b u) pc vs (.ref (b + i0) :: st) :=
  pj_callV C (As := []) (fun l D E => pc_Ho_answerProof l D E t0 h) rfl rfl cl_Host (pj_lt t0 (by decide)) (fun E => ko_6 t0) wm_864 wm_866 wm_14 wm_95 wm_867 (by decide +kernel) (n := 0) rfl hR rfl h8 hdg hp (fun v u' hq => by obtain ⟨r, rfl, hk⟩ := hq; exact kk r u' hk)
theorem ck_Host_91_Host {g : pj_G} {b : Nat} {cc : ByteArray} {nL : Nat} {ret : Option FieldType} {rm : Room} {u : pj_M} {pc pc' : Nat} {vs : List (Option Value)} {st : List Value} (C : pj_X g cc nL R_Ho ret rm) {i0 : Nat} {K : Int32 → pj_M → Prop} (t0 : pj_T i0 = 6) (h : pw_Ho_meetChallenge u i0 K) (hdg : decode cc pc = .ok (.invokevirtual 91, 3)) (hp : pc + 3 = pc') (hR : rm_Ho_meetChallenge.frames + 1 ≤ rm.frames ∧ 8 + (1 + 11) + rm_Ho_meetChallenge.locals ≤ rm.locals) (h8 : (st.map fun v => v.category).sum ≤ 8) (kk : ∀ r u', K r u' → pj_J g (pj_N g b u') pc' vs (.int r :: st)) : pj_J g (pj_N g b u) pc vs (.ref (b + i0) :: st) :=
  pj_callV C (As := []) (fun l D E => pc_Ho_meetChallenge l D E t0 h) rfl rfl cl_Host (pj_lt t0 (by decide)) (fun E => ko_6 t0) wm_826 wm_828 wm_11 wm_95 wm_829 (by decide +kernel) (n := 0) rfl hR rfl h8 hdg hp (fun v u' hq => by obtain ⟨r, rfl, hk⟩ := hq; exact kk r u' hk)
theorem ck_Host_88_Host {g : pj_G} {b : Nat} {cc : ByteArray} {nL : Nat} {ret : Option FieldType} {rm : Room} {u : pj_M} {pc pc' : Nat} {vs : List (Option Value)} {st : List Value} (C : pj_X g cc nL R_Ho ret rm) {i0 : Nat} {K : Int32 → pj_M → Prop} (t0 : pj_T i0 = 6) (h : pw_Ho_tellUser u i0 K) (hdg : decode cc pc = .ok (.invokevirtual 88, 3)) (hp : pc + 3 = pc') (hR : rm_Ho_tellUser.frames + 1 ≤ rm.frames ∧ 8 + (1 + 11) + rm_Ho_tellUser.locals ≤ rm.locals) (h8 : (st.map fun v => v.category).sum ≤ 8) (kk : ∀ r u', K r u' → pj_J g (pj_N g b u') pc' vs (.int r :: st)) : pj_J g (pj_N g b u) pc vs (.ref (b + i0) :: st) :=
  pj_callV C (As := []) (fun l D E => pc_Ho_tellUser l D E t0 h) rfl rfl cl_Host (pj_lt t0 (by decide)) (fun E => ko_6 t0) wm_819 wm_821 wm_10 wm_95 wm_822 (by decide +kernel) (n := 0) rfl hR rfl h8 hdg hp (fun v u' hq => by obtain ⟨r, rfl, hk⟩ := hq; exact kk r u' hk)
def rm_Ho_respond : Room := { frames := 4, cells := 0, slots := 0, locals := 85 }
def pb_Ho_respond_40  (K : Int32 → pj_M → Prop) (u : pj_M) (i0 : Nat) : Prop := pw_Ho_tellUser u i0 fun r2 u1 => (pj_bi r2 ∧ K r2 u1)
set_option maxHeartbeats 1000000 in
theorem pt_Ho_respond_40 {g : pj_G} {b : Nat} (C : pj_X g c_Ho_respond 1 R_Ho (some .boolean) rm_Ho_respond) {K : Int32 → pj_M → Prop} (hE : pj_E g b (pj_Ki K))   {u : pj_M} {i0 : Nat}  (t0 : pj_T i0 = 6) (h : pb_Ho_respond_40  K u i0) : pj_J g (pj_N g b u) 40 [some (.ref (b + i0))] [] := by
  unfold pb_Ho_respond_40 at h
  refine pj_aload_n C d_Ho_respond_40 (pc' := 41) (i := 0) (x := b + i0) rfl rfl rfl ?_
  refine ck_Host_88_Host C t0 h d_Ho_respond_41 (pc' := 44) rfl ⟨Nat.le_of_ble_eq_true rfl, Nat.le_of_ble_eq_true rfl⟩ (Nat.le_of_ble_eq_true rfl) (fun r2 u1 h => ?_)
  exact pj_zret C hE d_Ho_respond_44 h.1 ⟨_, rfl, h.2⟩
def pb_Ho_respond_65  (K : Int32 → pj_M → Prop) (u : pj_M) (s0 : Int32) : Prop := pj_bi s0 ∧ K s0 u
set_option maxHeartbeats 1000000 in
theorem pt_Ho_respond_65 {g : pj_G} {b : Nat} (C : pj_X g c_Ho_respond 1 R_Ho (some .boolean) rm_Ho_respond) {K : Int32 → pj_M → Prop} (hE : pj_E g b (pj_Ki K))   {u : pj_M} {s0 : Int32}   (h : pb_Ho_respond_65  K u s0) : pj_J g (pj_N g b u) 65 [none] [.int s0] := by
  unfold pb_Ho_respond_65 at h
  exact pj_zret C hE d_Ho_respond_65 h.1 ⟨_, rfl, h.2⟩
def pb_Ho_respond_61  (K : Int32 → pj_M → Prop) (u : pj_M) (i0 : Nat) : Prop := pw_Ho_refuse u i0 fun r2 u1 => (pb_Ho_respond_65  K u1 r2)
set_option maxHeartbeats 1000000 in
theorem pt_Ho_respond_61 {g : pj_G} {b : Nat} (C : pj_X g c_Ho_respond 1 R_Ho (some .boolean) rm_Ho_respond) {K : Int32 → pj_M → Prop} (hE : pj_E g b (pj_Ki K))   {u : pj_M} {i0 : Nat}  (t0 : pj_T i0 = 6) (h : pb_Ho_respond_61  K u i0) : pj_J g (pj_N g b u) 61 [some (.ref (b + i0))] [] := by
  unfold pb_Ho_respond_61 at h
  refine pj_aload_n C d_Ho_respond_61 (pc' := 62) (i := 0) (x := b + i0) rfl rfl rfl ?_
  refine ck_Host_94_Host C t0 h d_Ho_respond_62 (pc' := 65) rfl ⟨Nat.le_of_ble_eq_true rfl, Nat.le_of_ble_eq_true rfl⟩ (Nat.le_of_ble_eq_true rfl) (fun r2 u1 h => ?_)
  exact pj_cut (pj_le_n pj_le_e) (pt_Ho_respond_65 C hE   h)
def pb_Ho_respond_54  (K : Int32 → pj_M → Prop) (u : pj_M) (i0 : Nat) : Prop := pw_Ho_meetChallenge u i0 fun r2 u1 => (pb_Ho_respond_65  K u1 r2)
set_option maxHeartbeats 1000000 in
theorem pt_Ho_respond_54 {g : pj_G} {b : Nat} (C : pj_X g c_Ho_respond 1 R_Ho (some .boolean) rm_Ho_respond) {K : Int32 → pj_M → Prop} (hE : pj_E g b (pj_Ki K))   {u : pj_M} {i0 : Nat}  (t0 : pj_T i0 = 6) (h : pb_Ho_respond_54  K u i0) : pj_J g (pj_N g b u) 54 [some (.ref (b + i0))] [] := by
  unfold pb_Ho_respond_54 at h
  refine pj_aload_n C d_Ho_respond_54 (pc' := 55) (i := 0) (x := b + i0) rfl rfl rfl ?_
  refine ck_Host_91_Host C t0 h d_Ho_respond_55 (pc' := 58) rfl ⟨Nat.le_of_ble_eq_true rfl, Nat.le_of_ble_eq_true rfl⟩ (Nat.le_of_ble_eq_true rfl) (fun r2 u1 h => ?_)
  refine pj_goto C d_Ho_respond_58 (tgt := 65) (by decide) ?_
  exact pj_cut (pj_le_n pj_le_e) (pt_Ho_respond_65 C hE   h)
def pb_Ho_respond_45  (K : Int32 → pj_M → Prop) (u : pj_M) (i0 : Nat) : Prop := ((((u i0 6) &&& 1) = 0) → (pb_Ho_respond_61  K u i0)) ∧ (¬ (((u i0 6) &&& 1) = 0) → (pb_Ho_respond_54  K u i0))
set_option maxHeartbeats 1000000 in
theorem pt_Ho_respond_45 {g : pj_G} {b : Nat} (C : pj_X g c_Ho_respond 1 R_Ho (some .boolean) rm_Ho_respond) {K : Int32 → pj_M → Prop} (hE : pj_E g b (pj_Ki K))   {u : pj_M} {i0 : Nat}  (t0 : pj_T i0 = 6) (h : pb_Ho_respond_45  K u i0) : pj_J g (pj_N g b u) 45 [some (.ref (b + i0))] [] := by
  unfold pb_Ho_respond_45 at h
  refine pj_aload_n C d_Ho_respond_45 (pc' := 46) (i := 0) (x := b + i0) rfl rfl rfl ?_
  refine fg_Host_35_Host C t0 d_Ho_respond_46 (pc' := 49) rfl ?_
  refine pj_iconst C d_Ho_respond_49 (pc' := 50) rfl (v := 1) (by decide) ?_
  refine pj_iand C d_Ho_respond_50 (pc' := 51) rfl ?_
  refine pj_if_eq C d_Ho_respond_51 (pc' := 54) rfl (tgt := 61) (by decide) h (fun h => ?_) (fun h => ?_)
  · exact pj_cut (pj_le_s pj_le_e) (pt_Ho_respond_61 C hE  t0 h)
  · exact pj_cut (pj_le_s pj_le_e) (pt_Ho_respond_54 C hE  t0 h)
def pb_Ho_respond_99  (K : Int32 → pj_M → Prop) (u : pj_M) (s0 : Int32) : Prop := pj_bi s0 ∧ K s0 u
set_option maxHeartbeats 1000000 in
theorem pt_Ho_respond_99 {g : pj_G} {b : Nat} (C : pj_X g c_Ho_respond 1 R_Ho (some .boolean) rm_Ho_respond) {K : Int32 → pj_M → Prop} (hE : pj_E g b (pj_Ki K))   {u : pj_M} {s0 : Int32}   (h : pb_Ho_respond_99  K u s0) : pj_J g (pj_N g b u) 99 [none] [.int s0] := by
  unfold pb_Ho_respond_99 at h
  exact pj_zret C hE d_Ho_respond_99 h.1 ⟨_, rfl, h.2⟩
def pb_Ho_respond_94  (K : Int32 → pj_M → Prop) (u : pj_M)  : Prop := pb_Ho_respond_99  K u 1
set_option maxHeartbeats 1000000 in
theorem pt_Ho_respond_94 {g : pj_G} {b : Nat} (C : pj_X g c_Ho_respond 1 R_Ho (some .boolean) rm_Ho_respond) {K : Int32 → pj_M → Prop} (hE : pj_E g b (pj_Ki K))   {u : pj_M}    (h : pb_Ho_respond_94  K u ) : pj_J g (pj_N g b u) 94 [none] [] := by
  unfold pb_Ho_respond_94 at h
  refine pj_iconst C d_Ho_respond_94 (pc' := 95) rfl (v := 1) (by decide) ?_
  refine pj_goto C d_Ho_respond_95 (tgt := 99) (by decide) ?_
  exact pj_cut (pj_le_n pj_le_e) (pt_Ho_respond_99 C hE   h)
def pb_Ho_respond_98  (K : Int32 → pj_M → Prop) (u : pj_M)  : Prop := pb_Ho_respond_99  K u 0
set_option maxHeartbeats 1000000 in
theorem pt_Ho_respond_98 {g : pj_G} {b : Nat} (C : pj_X g c_Ho_respond 1 R_Ho (some .boolean) rm_Ho_respond) {K : Int32 → pj_M → Prop} (hE : pj_E g b (pj_Ki K))   {u : pj_M}    (h : pb_Ho_respond_98  K u ) : pj_J g (pj_N g b u) 98 [none] [] := by
  unfold pb_Ho_respond_98 at h
  refine pj_iconst C d_Ho_respond_98 (pc' := 99) rfl (v := 0) (by decide) ?_
  exact pj_cut (pj_le_n pj_le_e) (pt_Ho_respond_99 C hE   h)
def pb_Ho_respond_87  (K : Int32 → pj_M → Prop) (u : pj_M) (i0 : Nat) : Prop := pw_Ho_answerProof u i0 fun r2 u1 => (((r2 = 0) → (pb_Ho_respond_98  K u1 )) ∧ (¬ (r2 = 0) → (pb_Ho_respond_94  K u1 )))
set_option maxHeartbeats 1000000 in
theorem pt_Ho_respond_87 {g : pj_G} {b : Nat} (C : pj_X g c_Ho_respond 1 R_Ho (some .boolean) rm_Ho_respond) {K : Int32 → pj_M → Prop} (hE : pj_E g b (pj_Ki K))   {u : pj_M} {i0 : Nat}  (t0 : pj_T i0 = 6) (h : pb_Ho_respond_87  K u i0) : pj_J g (pj_N g b u) 87 [some (.ref (b + i0))] [] := by
  unfold pb_Ho_respond_87 at h
  refine pj_aload_n C d_Ho_respond_87 (pc' := 88) (i := 0) (x := b + i0) rfl rfl rfl ?_
  refine ck_Host_100_Host C t0 h d_Ho_respond_88 (pc' := 91) rfl ⟨Nat.le_of_ble_eq_true rfl, Nat.le_of_ble_eq_true rfl⟩ (Nat.le_of_ble_eq_true rfl) (fun r2 u1 h => ?_)
  refine pj_if_eq C d_Ho_respond_91 (pc' := 94) rfl (tgt := 98) (by decide) h (fun h => ?_) (fun h => ?_)
  · exact pj_cut (pj_le_n pj_le_e) (pt_Ho_respond_98 C hE   h)
  · exact pj_cut (pj_le_n pj_le_e) (pt_Ho_respond_94 C hE   h)
def pb_Ho_respond_80  (K : Int32 → pj_M → Prop) (u : pj_M) (i0 : Nat) : Prop := pw_Ho_answerRandom u i0 fun r2 u1 => (((r2 = 0) → (pb_Ho_respond_87  K u1 i0)) ∧ (¬ (r2 = 0) → (pb_Ho_respond_94  K u1 )))
set_option maxHeartbeats 1000000 in
theorem pt_Ho_respond_80 {g : pj_G} {b : Nat} (C : pj_X g c_Ho_respond 1 R_Ho (some .boolean) rm_Ho_respond) {K : Int32 → pj_M → Prop} (hE : pj_E g b (pj_Ki K))   {u : pj_M} {i0 : Nat}  (t0 : pj_T i0 = 6) (h : pb_Ho_respond_80  K u i0) : pj_J g (pj_N g b u) 80 [some (.ref (b + i0))] [] := by
  unfold pb_Ho_respond_80 at h
  refine pj_aload_n C d_Ho_respond_80 (pc' := 81) (i := 0) (x := b + i0) rfl rfl rfl ?_
  refine ck_Host_97_Host C t0 h d_Ho_respond_81 (pc' := 84) rfl ⟨Nat.le_of_ble_eq_true rfl, Nat.le_of_ble_eq_true rfl⟩ (Nat.le_of_ble_eq_true rfl) (fun r2 u1 h => ?_)
  refine pj_if_ne C d_Ho_respond_84 (pc' := 87) rfl (tgt := 94) (by decide) h (fun h => ?_) (fun h => ?_)
  · exact pj_cut (pj_le_n pj_le_e) (pt_Ho_respond_94 C hE   h)
  · exact pj_cut (pj_le_s pj_le_e) (pt_Ho_respond_87 C hE  t0 h)
def pb_Ho_respond_75  (K : Int32 → pj_M → Prop) (u : pj_M) (i0 : Nat) : Prop := pw_Ho_refuse u i0 fun r2 u1 => (pj_bi r2 ∧ K r2 u1)
set_option maxHeartbeats 1000000 in
theorem pt_Ho_respond_75 {g : pj_G} {b : Nat} (C : pj_X g c_Ho_respond 1 R_Ho (some .boolean) rm_Ho_respond) {K : Int32 → pj_M → Prop} (hE : pj_E g b (pj_Ki K))   {u : pj_M} {i0 : Nat}  (t0 : pj_T i0 = 6) (h : pb_Ho_respond_75  K u i0) : pj_J g (pj_N g b u) 75 [some (.ref (b + i0))] [] := by
  unfold pb_Ho_respond_75 at h
  refine pj_aload_n C d_Ho_respond_75 (pc' := 76) (i := 0) (x := b + i0) rfl rfl rfl ?_
  refine ck_Host_94_Host C t0 h d_Ho_respond_76 (pc' := 79) rfl ⟨Nat.le_of_ble_eq_true rfl, Nat.le_of_ble_eq_true rfl⟩ (Nat.le_of_ble_eq_true rfl) (fun r2 u1 h => ?_)
  exact pj_zret C hE d_Ho_respond_79 h.1 ⟨_, rfl, h.2⟩
def pb_Ho_respond_66  (K : Int32 → pj_M → Prop) (u : pj_M) (i0 : Nat) : Prop := ((((u i0 6) &&& 2) = 0) → (pb_Ho_respond_75  K u i0)) ∧ (¬ (((u i0 6) &&& 2) = 0) → (pb_Ho_respond_80  K u i0))
set_option maxHeartbeats 1000000 in
theorem pt_Ho_respond_66 {g : pj_G} {b : Nat} (C : pj_X g c_Ho_respond 1 R_Ho (some .boolean) rm_Ho_respond) {K : Int32 → pj_M → Prop} (hE : pj_E g b (pj_Ki K))   {u : pj_M} {i0 : Nat}  (t0 : pj_T i0 = 6) (h : pb_Ho_respond_66  K u i0) : pj_J g (pj_N g b u) 66 [some (.ref (b + i0))] [] := by
  unfold pb_Ho_respond_66 at h
  refine pj_aload_n C d_Ho_respond_66 (pc' := 67) (i := 0) (x := b + i0) rfl rfl rfl ?_
  refine fg_Host_35_Host C t0 d_Ho_respond_67 (pc' := 70) rfl ?_
  refine pj_iconst C d_Ho_respond_70 (pc' := 71) rfl (v := 2) (by decide) ?_
  refine pj_iand C d_Ho_respond_71 (pc' := 72) rfl ?_
  refine pj_if_ne C d_Ho_respond_72 (pc' := 75) rfl (tgt := 80) (by decide) h (fun h => ?_) (fun h => ?_)
  · exact pj_cut (pj_le_s pj_le_e) (pt_Ho_respond_80 C hE  t0 h)
  · exact pj_cut (pj_le_s pj_le_e) (pt_Ho_respond_75 C hE  t0 h)
def pb_Ho_respond_100  (K : Int32 → pj_M → Prop) (u : pj_M)  : Prop := K 0 u
set_option maxHeartbeats 1000000 in
theorem pt_Ho_respond_100 {g : pj_G} {b : Nat} (C : pj_X g c_Ho_respond 1 R_Ho (some .boolean) rm_Ho_respond) {K : Int32 → pj_M → Prop} (hE : pj_E g b (pj_Ki K))   {u : pj_M}    (h : pb_Ho_respond_100  K u ) : pj_J g (pj_N g b u) 100 [none] [] := by
  unfold pb_Ho_respond_100 at h
  refine pj_iconst C d_Ho_respond_100 (pc' := 101) rfl (v := 0) (by decide) ?_
  exact pj_zret C hE d_Ho_respond_101 pj_bi0 ⟨_, rfl, h⟩
def pb_Ho_respond_0  (K : Int32 → pj_M → Prop) (u : pj_M) (i0 : Nat) : Prop := pw_Pa_type u (i0 + 1) fun r2 u1 => (((r2 = 1) → (pb_Ho_respond_40  K u1 i0)) ∧ (¬ (r2 = 1) → ((r2 = 4) → (pb_Ho_respond_45  K u1 i0)) ∧ (¬ (r2 = 4) → ((r2 = 51) → (pb_Ho_respond_66  K u1 i0)) ∧ (¬ (r2 = 51) → (pb_Ho_respond_100  K u1 )))))
set_option maxHeartbeats 1000000 in
theorem pt_Ho_respond_0 {g : pj_G} {b : Nat} (C : pj_X g c_Ho_respond 1 R_Ho (some .boolean) rm_Ho_respond) {K : Int32 → pj_M → Prop} (hE : pj_E g b (pj_Ki K))   {u : pj_M} {i0 : Nat}  (t0 : pj_T i0 = 6) (h : pb_Ho_respond_0  K u i0) : pj_J g (pj_N g b u) 0 [some (.ref (b + i0))] [] := by
  unfold pb_Ho_respond_0 at h
  refine pj_aload_n C d_Ho_respond_0 (pc' := 1) (i := 0) (x := b + i0) rfl rfl rfl ?_
  refine fg_Host_12_Host C t0 d_Ho_respond_1 (pc' := 4) rfl ?_
  refine ck_Host_85_Packet C (pl_Host_packet t0) h d_Ho_respond_4 (pc' := 7) rfl ⟨Nat.le_of_ble_eq_true rfl, Nat.le_of_ble_eq_true rfl⟩ (Nat.le_of_ble_eq_true rfl) (fun r2 u1 h => ?_)
  by_cases e0 : r2 = 1
  · have h := h.1 e0
    refine pj_lk C d_Ho_respond_7 (by decide) (tgt := 40) (off := 33) (by rw [e0]; decide) (by decide) ?_
    exact pj_cut (pj_le_s pj_le_e) (pt_Ho_respond_40 C hE  t0 h)
  have h := h.2 e0
  by_cases e1 : r2 = 4
  · have h := h.1 e1
    refine pj_lk C d_Ho_respond_7 (by decide) (tgt := 45) (off := 38) (by rw [e1]; decide) (by decide) ?_
    exact pj_cut (pj_le_s pj_le_e) (pt_Ho_respond_45 C hE  t0 h)
  have h := h.2 e1
  by_cases e2 : r2 = 51
  · have h := h.1 e2
    refine pj_lk C d_Ho_respond_7 (by decide) (tgt := 66) (off := 59) (by rw [e2]; decide) (by decide) ?_
    exact pj_cut (pj_le_s pj_le_e) (pt_Ho_respond_66 C hE  t0 h)
  have h := h.2 e2
  have z0 := lv_neT (a := 1) e0 (by decide)
  have z1 := lv_neT (a := 4) e1 (by decide)
  have z2 := lv_neT (a := 51) e2 (by decide)
  refine pj_lk C d_Ho_respond_7 (by decide) (tgt := 100) (off := 93) (by rw [lv_osw e0 (by decide), lv_osw e1 (by decide), lv_osw e2 (by decide)]; rfl) (by decide) ?_
  exact pj_cut (pj_le_n pj_le_e) (pt_Ho_respond_100 C hE   h)
def pw_Ho_respond (u : pj_M) (i0 : Nat) (K : Int32 → pj_M → Prop) : Prop := pb_Ho_respond_0  K u i0
theorem pc_Ho_respond (l : Launch) (D : va_G) (E : Nat → ClassId) {b : Nat} {u : pj_M} {i0 : Nat} {K : Int32 → pj_M → Prop} (t0 : pj_T i0 = 6) (h : pw_Ho_respond u i0 K) : pj_C l y_Ho_respond c_Ho_respond 1 (some .boolean) rm_Ho_respond D E b [.ref (b + i0)] u (pj_Ki K) := by
  refine pj_met (own := R_Ho) (by decide +kernel) rfl (Nat.le_of_ble_eq_true rfl) (fun g hE C => ?_)
  unfold pw_Ho_respond at h
  show pj_J g (pj_N g b u) 0 [some (.ref (b + i0))] []
  exact pj_cut (pj_le_s pj_le_e) (pt_Ho_respond_0 C hE  t0 h)
/-! Host.takeFrame(LPortGuard$Row;)V -/
theorem fg_Host_64_Host {g : pj_G} {b : Nat} {cc : ByteArray} {nL : Nat} {ret : Option FieldType} {rm : Room} {u : pj_M} {pc pc' : Nat} {vs : List (Option Value)} {st : List Value} (C : pj_X g cc nL R_Ho ret rm) {i : Nat} (t : pj_T i = 6) (hdg : decode cc pc = .ok (.getfield 64, 3)) (hp : pc + 3 = pc') (kk : pj_J g (pj_N g b u) pc' vs (.int (u i 14) :: st)) : pj_J g (pj_N g b u) pc vs (.ref (b + i) :: st) :=
  pj_get C cl_Host hin_Host (k := 14) (Nat.le_of_ble_eq_true rfl) wm_213 (Or.inl rfl) (pj_lt t (by decide)) (fun E => ko_6 t) rfl hdg hp kk
theorem fp_Host_64_Host {g : pj_G} {b : Nat} {cc : ByteArray} {nL : Nat} {ret : Option FieldType} {rm : Room} {u : pj_M} {pc pc' : Nat} {vs : List (Option Value)} {st : List Value} (C : pj_X g cc nL R_Ho ret rm) {i : Nat} {x : Int32} {P : pj_M → Prop} (t : pj_T i = 6)  (hdg : decode cc pc = .ok (.putfield 64, 3)) (hp : pc + 3 = pc') (h : pj_put u i 14 x P) (kk : ∀ u', P u' → pj_J g (pj_N g b u') pc' vs st) : pj_J g (pj_N g b u) pc vs (.int x :: .ref (b + i) :: st) :=
  pj_putI C cl_Host hin_Host ty_Host tyok_Host nm_Host (k := 14) (Nat.le_of_ble_eq_true rfl) wm_213 (Or.inl rfl) rfl (ty := .int) (by decide +kernel) rfl rfl (pj_lt t (by decide)) (fun E u => ko_6 t) (F := fun f => [.int (f 0), .ref (b + 4), .ref (b + (i + 1)), .ref (b + (i + 3)), .int (f 4), .int (f 5), .int (f 6), .int (f 7), .int (f 8), .int (f 9), .int (f 10), .int (f 11), .int (f 12), .int (f 13), .int (f 14)]) (fun _ => Nat.le_of_ble_eq_true rfl) (fun _ _ => rfl) hdg hp h kk
theorem fg_Host_54_Host {g : pj_G} {b : Nat} {cc : ByteArray} {nL : Nat} {ret : Option FieldType} {rm : Room} {u : pj_M} {pc pc' : Nat} {vs : List (Option Value)} {st : List Value} (C : pj_X g cc nL R_Ho ret rm) {i : Nat} (t : pj_T i = 6) (hdg : decode cc pc = .ok (.getfield 54, 3)) (hp : pc + 3 = pc') (kk : pj_J g (pj_N g b u) pc' vs (.int (u i 11) :: st)) : pj_J g (pj_N g b u) pc vs (.ref (b + i) :: st) :=
  pj_get C cl_Host hin_Host (k := 11) (Nat.le_of_ble_eq_true rfl) wm_210 (Or.inl rfl) (pj_lt t (by decide)) (fun E => ko_6 t) rfl hdg hp kk
theorem fg_Host_57_Host {g : pj_G} {b : Nat} {cc : ByteArray} {nL : Nat} {ret : Option FieldType} {rm : Room} {u : pj_M} {pc pc' : Nat} {vs : List (Option Value)} {st : List Value} (C : pj_X g cc nL R_Ho ret rm) {i : Nat} (t : pj_T i = 6) (hdg : decode cc pc = .ok (.getfield 57, 3)) (hp : pc + 3 = pc') (kk : pj_J g (pj_N g b u) pc' vs (.int (u i 12) :: st)) : pj_J g (pj_N g b u) pc vs (.ref (b + i) :: st) :=
  pj_get C cl_Host hin_Host (k := 12) (Nat.le_of_ble_eq_true rfl) wm_211 (Or.inl rfl) (pj_lt t (by decide)) (fun E => ko_6 t) rfl hdg hp kk
theorem ck_Host_60_Packet {g : pj_G} {b : Nat} {cc : ByteArray} {nL : Nat} {ret : Option FieldType} {rm : Room} {u : pj_M} {pc pc' : Nat} {vs : List (Option Value)} {st : List Value} (C : pj_X g cc nL R_Ho ret rm) {i0 : Nat} {i1 : Nat} {K : Int32 → pj_M → Prop} (t0 : pj_T i0 = 4) (t1 : pj_R i1) (h : pw_Pa_readFrame u i0 i1 K) (hdg : decode cc pc = .ok (.invokevirtual 60, 3)) (hp : pc + 3 = pc') (hR : rm_Pa_readFrame.frames + 1 ≤ rm.frames ∧ 8 + (2 + 11) + rm_Pa_readFrame.locals ≤ rm.locals) (h8 : (st.map fun v => v.category).sum ≤ 8) (kk : ∀ r u', K r u' → pj_J g (pj_N g b u') pc' vs (.int r :: st)) : pj_J g (pj_N g b u) pc vs (.ref (b + i1) :: .ref (b + i0) :: st) :=
  pj_callV C (As := [.ref (b + i1)]) (fun l D E => pc_Pa_readFrame l D E t0 t1 h) rfl rfl cl_Packet (pj_lt t0 (by decide)) (fun E => ko_4 t0) wm_807 wm_707 wm_708 wm_96 wm_709 (by decide +kernel) (n := 1) rfl hR rfl h8 hdg hp (fun v u' hq => by obtain ⟨r, rfl, hk⟩ := hq; exact kk r u' hk)
theorem ck_Host_67_Packet {g : pj_G} {b : Nat} {cc : ByteArray} {nL : Nat} {ret : Option FieldType} {rm : Room} {u : pj_M} {pc pc' : Nat} {vs : List (Option Value)} {st : List Value} (C : pj_X g cc nL R_Ho ret rm) {i0 : Nat} {K : Int32 → pj_M → Prop} (t0 : pj_T i0 = 4) (h : pw_Pa_code u i0 K) (hdg : decode cc pc = .ok (.invokevirtual 67, 3)) (hp : pc + 3 = pc') (hR : rm_Pa_code.frames + 1 ≤ rm.frames ∧ 8 + (1 + 11) + rm_Pa_code.locals ≤ rm.locals) (h8 : (st.map fun v => v.category).sum ≤ 8) (kk : ∀ r u', K r u' → pj_J g (pj_N g b u') pc' vs (.int r :: st)) : pj_J g (pj_N g b u) pc vs (.ref (b + i0) :: st) :=
  pj_callV C (As := []) (fun l D E => pc_Pa_code l D E t0 h) rfl rfl cl_Packet (pj_lt t0 (by decide)) (fun E => ko_4 t0) wm_808 wm_720 wm_721 wm_96 wm_722 (by decide +kernel) (n := 0) rfl hR rfl h8 hdg hp (fun v u' hq => by obtain ⟨r, rfl, hk⟩ := hq; exact kk r u' hk)
theorem ck_Host_71_Host {g : pj_G} {b : Nat} {cc : ByteArray} {nL : Nat} {ret : Option FieldType} {rm : Room} {u : pj_M} {pc pc' : Nat} {vs : List (Option Value)} {st : List Value} (C : pj_X g cc nL R_Ho ret rm) {i0 : Nat} {K : Int32 → pj_M → Prop} (t0 : pj_T i0 = 6) (h : pw_Ho_isRepeated u i0 K) (hdg : decode cc pc = .ok (.invokevirtual 71, 3)) (hp : pc + 3 = pc') (hR : rm_Ho_isRepeated.frames + 1 ≤ rm.frames ∧ 8 + (1 + 11) + rm_Ho_isRepeated.locals ≤ rm.locals) (h8 : (st.map fun v => v.category).sum ≤ 8) (kk : ∀ r u', K r u' → pj_J g (pj_N g b u') pc' vs (.int r :: st)) : pj_J g (pj_N g b u) pc vs (.ref (b + i0) :: st) :=
  pj_callV C (As := []) (fun l D E => pc_Ho_isRepeated l D E t0 h) rfl rfl cl_Host (pj_lt t0 (by decide)) (fun E => ko_6 t0) wm_809 wm_811 wm_8 wm_95 wm_812 (by decide +kernel) (n := 0) rfl hR rfl h8 hdg hp (fun v u' hq => by obtain ⟨r, rfl, hk⟩ := hq; exact kk r u' hk)
theorem ck_Host_75_Host {g : pj_G} {b : Nat} {cc : ByteArray} {nL : Nat} {ret : Option FieldType} {rm : Room} {u : pj_M} {pc pc' : Nat} {vs : List (Option Value)} {st : List Value} (C : pj_X g cc nL R_Ho ret rm) {i0 : Nat} {K : Int32 → pj_M → Prop} (t0 : pj_T i0 = 6) (h : pw_Ho_respond u i0 K) (hdg : decode cc pc = .ok (.invokevirtual 75, 3)) (hp : pc + 3 = pc') (hR : rm_Ho_respond.frames + 1 ≤ rm.frames ∧ 8 + (1 + 11) + rm_Ho_respond.locals ≤ rm.locals) (h8 : (st.map fun v => v.category).sum ≤ 8) (kk : ∀ r u', K r u' → pj_J g (pj_N g b u') pc' vs (.int r :: st)) : pj_J g (pj_N g b u) pc vs (.ref (b + i0) :: st) :=
  pj_callV C (As := []) (fun l D E => pc_Ho_respond l D E t0 h) rfl rfl cl_Host (pj_lt t0 (by decide)) (fun E => ko_6 t0) wm_814 wm_816 wm_9 wm_95 wm_817 (by decide +kernel) (n := 0) rfl hR rfl h8 hdg hp (fun v u' hq => by obtain ⟨r, rfl, hk⟩ := hq; exact kk r u' hk)
theorem ck_Host_78_Mailbox {g : pj_G} {b : Nat} {cc : ByteArray} {nL : Nat} {ret : Option FieldType} {rm : Room} {u : pj_M} {pc pc' : Nat} {vs : List (Option Value)} {st : List Value} (C : pj_X g cc nL R_Ho ret rm) {x1 : Int32} {x2 : Int32} {i3 : Nat} {K : pj_M → Prop} (t3 : pj_T i3 = 4) (h : pw_Ma_sendPacket u x1 x2 i3 K) (hdg : decode cc pc = .ok (.invokevirtual 78, 3)) (hp : pc + 3 = pc') (hR : rm_Ma_sendPacket.frames + 1 ≤ rm.frames ∧ 8 + (5 + 11) + rm_Ma_sendPacket.locals ≤ rm.locals) (h8 : (st.map fun v => v.category).sum ≤ 8) (kk : ∀ u', K u' → pj_J g (pj_N g b u') pc' vs st) : pj_J g (pj_N g b u) pc vs (.ref (b + i3) :: .int x2 :: .int x1 :: .ref (b + 4) :: st) :=
  pj_callV C (As := [.int x1, .int x2, .ref (b + i3)]) (fun l D E => pc_Ma_sendPacket l D E t3 h) rfl rfl cl_Mailbox (pj_lt tk_4 (by decide)) (fun E => ko_2 tk_4) wm_868 wm_633 wm_634 wm_93 wm_635 (by decide +kernel) (n := 3) rfl hR rfl h8 hdg hp (fun v u' hq => by obtain ⟨rfl, hk⟩ := hq; exact kk u' hk)
def rm_Ho_takeFrame : Room := { frames := 5, cells := 0, slots := 0, locals := 105 }
def pb_Ho_takeFrame_149  (K : pj_M → Prop) (u : pj_M)  : Prop := K u
set_option maxHeartbeats 1000000 in
theorem pt_Ho_takeFrame_149 {g : pj_G} {b : Nat} (C : pj_X g c_Ho_takeFrame 3 R_Ho none rm_Ho_takeFrame) {K : pj_M → Prop} (hE : pj_E g b (pj_Kv K))   {u : pj_M}    (h : pb_Ho_takeFrame_149  K u ) : pj_J g (pj_N g b u) 149 [none, none, none] [] := by
  unfold pb_Ho_takeFrame_149 at h
  exact pj_vret C hE d_Ho_takeFrame_149 ⟨rfl, h⟩
def pb_Ho_takeFrame_90  (K : pj_M → Prop) (u : pj_M) (i0 : Nat) : Prop := pj_put u i0 7 1 fun u1 => (pw_Ma_sendPacket u1 0 (u1 i0 0) (i0 + 3) fun u2 => (pb_Ho_takeFrame_149  K u2 ))
set_option maxHeartbeats 1000000 in
theorem pt_Ho_takeFrame_90 {g : pj_G} {b : Nat} (C : pj_X g c_Ho_takeFrame 3 R_Ho none rm_Ho_takeFrame) {K : pj_M → Prop} (hE : pj_E g b (pj_Kv K))   {u : pj_M} {i0 : Nat}  (t0 : pj_T i0 = 6) (h : pb_Ho_takeFrame_90  K u i0) : pj_J g (pj_N g b u) 90 [some (.ref (b + i0)), none, none] [] := by
  unfold pb_Ho_takeFrame_90 at h
  refine pj_aload_n C d_Ho_takeFrame_90 (pc' := 91) (i := 0) (x := b + i0) rfl rfl rfl ?_
  refine pj_iconst C d_Ho_takeFrame_91 (pc' := 92) rfl (v := 1) (by decide) ?_
  refine fp_Host_47_Host C t0 pj_bi1 d_Ho_takeFrame_92 (pc' := 95) rfl h (fun u1 h => ?_)
  refine pj_aload_n C d_Ho_takeFrame_95 (pc' := 96) (i := 0) (x := b + i0) rfl rfl rfl ?_
  refine fg_Host_28_Host C t0 d_Ho_takeFrame_96 (pc' := 99) rfl ?_
  refine pj_iconst C d_Ho_takeFrame_99 (pc' := 100) rfl (v := 0) (by decide) ?_
  refine pj_aload_n C d_Ho_takeFrame_100 (pc' := 101) (i := 0) (x := b + i0) rfl rfl rfl ?_
  refine fg_Host_25_Host C t0 d_Ho_takeFrame_101 (pc' := 104) rfl ?_
  refine pj_aload_n C d_Ho_takeFrame_104 (pc' := 105) (i := 0) (x := b + i0) rfl rfl rfl ?_
  refine fg_Host_18_Host C t0 d_Ho_takeFrame_105 (pc' := 108) rfl ?_
  refine ck_Host_78_Mailbox C (pl_Host_latest t0) h d_Ho_takeFrame_108 (pc' := 111) rfl ⟨Nat.le_of_ble_eq_true rfl, Nat.le_of_ble_eq_true rfl⟩ (Nat.le_of_ble_eq_true rfl) (fun u2 h => ?_)
  refine pj_goto C d_Ho_takeFrame_111 (tgt := 149) (by decide) ?_
  exact pj_cut (pj_le_n (pj_le_n (pj_le_n pj_le_e))) (pt_Ho_takeFrame_149 C hE   h)
def pb_Ho_takeFrame_83  (K : pj_M → Prop) (u : pj_M) (i0 : Nat) : Prop := pw_Ho_respond u i0 fun r2 u1 => (((r2 = 0) → (pb_Ho_takeFrame_149  K u1 )) ∧ (¬ (r2 = 0) → (pb_Ho_takeFrame_90  K u1 i0)))
set_option maxHeartbeats 1000000 in
theorem pt_Ho_takeFrame_83 {g : pj_G} {b : Nat} (C : pj_X g c_Ho_takeFrame 3 R_Ho none rm_Ho_takeFrame) {K : pj_M → Prop} (hE : pj_E g b (pj_Kv K))   {u : pj_M} {i0 : Nat}  (t0 : pj_T i0 = 6) (h : pb_Ho_takeFrame_83  K u i0) : pj_J g (pj_N g b u) 83 [some (.ref (b + i0)), none, none] [] := by
  unfold pb_Ho_takeFrame_83 at h
  refine pj_aload_n C d_Ho_takeFrame_83 (pc' := 84) (i := 0) (x := b + i0) rfl rfl rfl ?_
  refine ck_Host_75_Host C t0 h d_Ho_takeFrame_84 (pc' := 87) rfl ⟨Nat.le_of_ble_eq_true rfl, Nat.le_of_ble_eq_true rfl⟩ (Nat.le_of_ble_eq_true rfl) (fun r2 u1 h => ?_)
  refine pj_if_eq C d_Ho_takeFrame_87 (pc' := 90) rfl (tgt := 149) (by decide) h (fun h => ?_) (fun h => ?_)
  · exact pj_cut (pj_le_n (pj_le_n (pj_le_n pj_le_e))) (pt_Ho_takeFrame_149 C hE   h)
  · exact pj_cut (pj_le_s (pj_le_n (pj_le_n pj_le_e))) (pt_Ho_takeFrame_90 C hE  t0 h)
def pb_Ho_takeFrame_76  (K : pj_M → Prop) (u : pj_M) (i0 : Nat) : Prop := pw_Ho_isRepeated u i0 fun r2 u1 => (((r2 = 0) → (pb_Ho_takeFrame_83  K u1 i0)) ∧ (¬ (r2 = 0) → (pb_Ho_takeFrame_90  K u1 i0)))
set_option maxHeartbeats 1000000 in
theorem pt_Ho_takeFrame_76 {g : pj_G} {b : Nat} (C : pj_X g c_Ho_takeFrame 3 R_Ho none rm_Ho_takeFrame) {K : pj_M → Prop} (hE : pj_E g b (pj_Kv K))   {u : pj_M} {i0 : Nat}  (t0 : pj_T i0 = 6) (h : pb_Ho_takeFrame_76  K u i0) : pj_J g (pj_N g b u) 76 [some (.ref (b + i0)), none, none] [] := by
  unfold pb_Ho_takeFrame_76 at h
  refine pj_aload_n C d_Ho_takeFrame_76 (pc' := 77) (i := 0) (x := b + i0) rfl rfl rfl ?_
  refine ck_Host_71_Host C t0 h d_Ho_takeFrame_77 (pc' := 80) rfl ⟨Nat.le_of_ble_eq_true rfl, Nat.le_of_ble_eq_true rfl⟩ (Nat.le_of_ble_eq_true rfl) (fun r2 u1 h => ?_)
  refine pj_if_ne C d_Ho_takeFrame_80 (pc' := 83) rfl (tgt := 90) (by decide) h (fun h => ?_) (fun h => ?_)
  · exact pj_cut (pj_le_s (pj_le_n (pj_le_n pj_le_e))) (pt_Ho_takeFrame_90 C hE  t0 h)
  · exact pj_cut (pj_le_s (pj_le_n (pj_le_n pj_le_e))) (pt_Ho_takeFrame_83 C hE  t0 h)
def pb_Ho_takeFrame_130  (K : pj_M → Prop) (u : pj_M) (s0 : Int32) (j1 : Nat) : Prop := pj_put u j1 12 s0 fun u1 => (pb_Ho_takeFrame_149  K u1 )
set_option maxHeartbeats 1000000 in
theorem pt_Ho_takeFrame_130 {g : pj_G} {b : Nat} (C : pj_X g c_Ho_takeFrame 3 R_Ho none rm_Ho_takeFrame) {K : pj_M → Prop} (hE : pj_E g b (pj_Kv K))   {u : pj_M} {s0 : Int32} {j1 : Nat}  (ts1 : pj_T j1 = 6) (h : pb_Ho_takeFrame_130  K u s0 j1) : pj_J g (pj_N g b u) 130 [none, none, none] [.int s0, .ref (b + j1)] := by
  unfold pb_Ho_takeFrame_130 at h
  refine fp_Host_57_Host C ts1  d_Ho_takeFrame_130 (pc' := 133) rfl h (fun u1 h => ?_)
  refine pj_goto C d_Ho_takeFrame_133 (tgt := 149) (by decide) ?_
  exact pj_cut (pj_le_n (pj_le_n (pj_le_n pj_le_e))) (pt_Ho_takeFrame_149 C hE   h)
def pb_Ho_takeFrame_126  (K : pj_M → Prop) (u : pj_M) (i0 : Nat) (j0 : Nat) : Prop := pb_Ho_takeFrame_130  K u (u i0 12) j0
set_option maxHeartbeats 1000000 in
theorem pt_Ho_takeFrame_126 {g : pj_G} {b : Nat} (C : pj_X g c_Ho_takeFrame 3 R_Ho none rm_Ho_takeFrame) {K : pj_M → Prop} (hE : pj_E g b (pj_Kv K))   {u : pj_M} {i0 : Nat} {j0 : Nat}  (t0 : pj_T i0 = 6) (ts0 : pj_T j0 = 6) (h : pb_Ho_takeFrame_126  K u i0 j0) : pj_J g (pj_N g b u) 126 [some (.ref (b + i0)), none, none] [.ref (b + j0)] := by
  unfold pb_Ho_takeFrame_126 at h
  refine pj_aload_n C d_Ho_takeFrame_126 (pc' := 127) (i := 0) (x := b + i0) rfl rfl rfl ?_
  refine fg_Host_57_Host C t0 d_Ho_takeFrame_127 (pc' := 130) rfl ?_
  exact pj_cut (pj_le_n (pj_le_n (pj_le_n pj_le_e))) (pt_Ho_takeFrame_130 C hE  ts0 h)
def pb_Ho_takeFrame_122  (K : pj_M → Prop) (u : pj_M) (j0 : Nat) : Prop := pb_Ho_takeFrame_130  K u 1 j0
set_option maxHeartbeats 1000000 in
theorem pt_Ho_takeFrame_122 {g : pj_G} {b : Nat} (C : pj_X g c_Ho_takeFrame 3 R_Ho none rm_Ho_takeFrame) {K : pj_M → Prop} (hE : pj_E g b (pj_Kv K))   {u : pj_M} {j0 : Nat}  (ts0 : pj_T j0 = 6) (h : pb_Ho_takeFrame_122  K u j0) : pj_J g (pj_N g b u) 122 [none, none, none] [.ref (b + j0)] := by
  unfold pb_Ho_takeFrame_122 at h
  refine pj_iconst C d_Ho_takeFrame_122 (pc' := 123) rfl (v := 1) (by decide) ?_
  refine pj_goto C d_Ho_takeFrame_123 (tgt := 130) (by decide) ?_
  exact pj_cut (pj_le_n (pj_le_n (pj_le_n pj_le_e))) (pt_Ho_takeFrame_130 C hE  ts0 h)
def pb_Ho_takeFrame_114  (K : pj_M → Prop) (u : pj_M) (i0 : Nat) : Prop := (((u i0 11) = 0) → (pb_Ho_takeFrame_126  K u i0 i0)) ∧ (¬ ((u i0 11) = 0) → (pb_Ho_takeFrame_122  K u i0))
set_option maxHeartbeats 1000000 in
theorem pt_Ho_takeFrame_114 {g : pj_G} {b : Nat} (C : pj_X g c_Ho_takeFrame 3 R_Ho none rm_Ho_takeFrame) {K : pj_M → Prop} (hE : pj_E g b (pj_Kv K))   {u : pj_M} {i0 : Nat}  (t0 : pj_T i0 = 6) (h : pb_Ho_takeFrame_114  K u i0) : pj_J g (pj_N g b u) 114 [some (.ref (b + i0)), none, none] [] := by
  unfold pb_Ho_takeFrame_114 at h
  refine pj_aload_n C d_Ho_takeFrame_114 (pc' := 115) (i := 0) (x := b + i0) rfl rfl rfl ?_
  refine pj_aload_n C d_Ho_takeFrame_115 (pc' := 116) (i := 0) (x := b + i0) rfl rfl rfl ?_
  refine fg_Host_54_Host C t0 d_Ho_takeFrame_116 (pc' := 119) rfl ?_
  refine pj_if_eq C d_Ho_takeFrame_119 (pc' := 122) rfl (tgt := 126) (by decide) h (fun h => ?_) (fun h => ?_)
  · exact pj_cut (pj_le_s (pj_le_n (pj_le_n pj_le_e))) (pt_Ho_takeFrame_126 C hE  t0 t0 h)
  · exact pj_cut (pj_le_n (pj_le_n (pj_le_n pj_le_e))) (pt_Ho_takeFrame_122 C hE  t0 h)
def pb_Ho_takeFrame_136  (K : pj_M → Prop) (u : pj_M) (i0 : Nat) : Prop := pj_put u i0 12 2 fun u1 => (pj_put u1 i0 11 0 fun u2 => (pb_Ho_takeFrame_149  K u2 ))
set_option maxHeartbeats 1000000 in
theorem pt_Ho_takeFrame_136 {g : pj_G} {b : Nat} (C : pj_X g c_Ho_takeFrame 3 R_Ho none rm_Ho_takeFrame) {K : pj_M → Prop} (hE : pj_E g b (pj_Kv K))   {u : pj_M} {i0 : Nat}  (t0 : pj_T i0 = 6) (h : pb_Ho_takeFrame_136  K u i0) : pj_J g (pj_N g b u) 136 [some (.ref (b + i0)), none, none] [] := by
  unfold pb_Ho_takeFrame_136 at h
  refine pj_aload_n C d_Ho_takeFrame_136 (pc' := 137) (i := 0) (x := b + i0) rfl rfl rfl ?_
  refine pj_iconst C d_Ho_takeFrame_137 (pc' := 138) rfl (v := 2) (by decide) ?_
  refine fp_Host_57_Host C t0  d_Ho_takeFrame_138 (pc' := 141) rfl h (fun u1 h => ?_)
  refine pj_aload_n C d_Ho_takeFrame_141 (pc' := 142) (i := 0) (x := b + i0) rfl rfl rfl ?_
  refine pj_iconst C d_Ho_takeFrame_142 (pc' := 143) rfl (v := 0) (by decide) ?_
  refine fp_Host_54_Host C t0 pj_bi0 d_Ho_takeFrame_143 (pc' := 146) rfl h (fun u2 h => ?_)
  refine pj_goto C d_Ho_takeFrame_146 (tgt := 149) (by decide) ?_
  exact pj_cut (pj_le_n (pj_le_n (pj_le_n pj_le_e))) (pt_Ho_takeFrame_149 C hE   h)
def pb_Ho_takeFrame_38  (K : pj_M → Prop) (u : pj_M) (i0 : Nat) : Prop := pw_Pa_code u (i0 + 1) fun r2 u1 => (((r2 = 1) → (pb_Ho_takeFrame_76  K u1 i0)) ∧ (¬ (r2 = 1) → ((r2 = 2) → (pb_Ho_takeFrame_149  K u1 )) ∧ (¬ (r2 = 2) → ((r2 = 3) → (pb_Ho_takeFrame_114  K u1 i0)) ∧ (¬ (r2 = 3) → ((r2 = 4) → (pb_Ho_takeFrame_136  K u1 i0)) ∧ (¬ (r2 = 4) → (pb_Ho_takeFrame_149  K u1 ))))))
set_option maxHeartbeats 1000000 in
theorem pt_Ho_takeFrame_38 {g : pj_G} {b : Nat} (C : pj_X g c_Ho_takeFrame 3 R_Ho none rm_Ho_takeFrame) {K : pj_M → Prop} (hE : pj_E g b (pj_Kv K))   {u : pj_M} {i0 : Nat}  (t0 : pj_T i0 = 6) (h : pb_Ho_takeFrame_38  K u i0) : pj_J g (pj_N g b u) 38 [some (.ref (b + i0)), none, none] [] := by
  unfold pb_Ho_takeFrame_38 at h
  refine pj_aload_n C d_Ho_takeFrame_38 (pc' := 39) (i := 0) (x := b + i0) rfl rfl rfl ?_
  refine fg_Host_12_Host C t0 d_Ho_takeFrame_39 (pc' := 42) rfl ?_
  refine ck_Host_67_Packet C (pl_Host_packet t0) h d_Ho_takeFrame_42 (pc' := 45) rfl ⟨Nat.le_of_ble_eq_true rfl, Nat.le_of_ble_eq_true rfl⟩ (Nat.le_of_ble_eq_true rfl) (fun r2 u1 h => ?_)
  by_cases e0 : r2 = 1
  · have h := h.1 e0
    refine pj_tsIn C d_Ho_takeFrame_45 (kv := 1) (by rw [e0]; decide) (by decide) (by decide) (tgt := 76) rfl (by decide) ?_
    exact pj_cut (pj_le_s (pj_le_n (pj_le_n pj_le_e))) (pt_Ho_takeFrame_76 C hE  t0 h)
  have h := h.2 e0
  by_cases e1 : r2 = 2
  · have h := h.1 e1
    refine pj_tsIn C d_Ho_takeFrame_45 (kv := 2) (by rw [e1]; decide) (by decide) (by decide) (tgt := 149) rfl (by decide) ?_
    exact pj_cut (pj_le_n (pj_le_n (pj_le_n pj_le_e))) (pt_Ho_takeFrame_149 C hE   h)
  have h := h.2 e1
  by_cases e2 : r2 = 3
  · have h := h.1 e2
    refine pj_tsIn C d_Ho_takeFrame_45 (kv := 3) (by rw [e2]; decide) (by decide) (by decide) (tgt := 114) rfl (by decide) ?_
    exact pj_cut (pj_le_s (pj_le_n (pj_le_n pj_le_e))) (pt_Ho_takeFrame_114 C hE  t0 h)
  have h := h.2 e2
  by_cases e3 : r2 = 4
  · have h := h.1 e3
    refine pj_tsIn C d_Ho_takeFrame_45 (kv := 4) (by rw [e3]; decide) (by decide) (by decide) (tgt := 136) rfl (by decide) ?_
    exact pj_cut (pj_le_s (pj_le_n (pj_le_n pj_le_e))) (pt_Ho_takeFrame_136 C hE  t0 h)
  have h := h.2 e3
  have z0 := lv_neT (a := 1) e0 (by decide)
  have z1 := lv_neT (a := 2) e1 (by decide)
  have z2 := lv_neT (a := 3) e2 (by decide)
  have z3 := lv_neT (a := 4) e3 (by decide)
  refine pj_tsOut C d_Ho_takeFrame_45 (by omega) (tgt := 149) (by decide) ?_
  exact pj_cut (pj_le_n (pj_le_n (pj_le_n pj_le_e))) (pt_Ho_takeFrame_149 C hE   h)
def pb_Ho_takeFrame_37  (K : pj_M → Prop) (u : pj_M)  : Prop := K u
set_option maxHeartbeats 1000000 in
theorem pt_Ho_takeFrame_37 {g : pj_G} {b : Nat} (C : pj_X g c_Ho_takeFrame 3 R_Ho none rm_Ho_takeFrame) {K : pj_M → Prop} (hE : pj_E g b (pj_Kv K))   {u : pj_M}    (h : pb_Ho_takeFrame_37  K u ) : pj_J g (pj_N g b u) 37 [none, none, none] [] := by
  unfold pb_Ho_takeFrame_37 at h
  exact pj_vret C hE d_Ho_takeFrame_37 ⟨rfl, h⟩
def pb_Ho_takeFrame_33  (K : pj_M → Prop) (u : pj_M) (i0 : Nat) (x2 : Int32) : Prop := ((x2 = 0) → (pb_Ho_takeFrame_38  K u i0)) ∧ (¬ (x2 = 0) → (pb_Ho_takeFrame_37  K u ))
set_option maxHeartbeats 1000000 in
theorem pt_Ho_takeFrame_33 {g : pj_G} {b : Nat} (C : pj_X g c_Ho_takeFrame 3 R_Ho none rm_Ho_takeFrame) {K : pj_M → Prop} (hE : pj_E g b (pj_Kv K))   {u : pj_M} {i0 : Nat} {x2 : Int32}  (t0 : pj_T i0 = 6) (h : pb_Ho_takeFrame_33  K u i0 x2) : pj_J g (pj_N g b u) 33 [some (.ref (b + i0)), none, some (.int x2)] [] := by
  unfold pb_Ho_takeFrame_33 at h
  refine pj_iload_n C d_Ho_takeFrame_33 (pc' := 34) (i := 2) (x := x2) rfl rfl rfl ?_
  refine pj_if_eq C d_Ho_takeFrame_34 (pc' := 37) rfl (tgt := 38) (by decide) h (fun h => ?_) (fun h => ?_)
  · exact pj_cut (pj_le_s (pj_le_n (pj_le_n pj_le_e))) (pt_Ho_takeFrame_38 C hE  t0 h)
  · exact pj_cut (pj_le_n (pj_le_n (pj_le_n pj_le_e))) (pt_Ho_takeFrame_37 C hE   h)
def pb_Ho_takeFrame_23  (K : pj_M → Prop) (u : pj_M) (i0 : Nat) (x2 : Int32) : Prop := pj_put u i0 14 ((u i0 14) + 1) fun u1 => (pb_Ho_takeFrame_33  K u1 i0 x2)
set_option maxHeartbeats 1000000 in
theorem pt_Ho_takeFrame_23 {g : pj_G} {b : Nat} (C : pj_X g c_Ho_takeFrame 3 R_Ho none rm_Ho_takeFrame) {K : pj_M → Prop} (hE : pj_E g b (pj_Kv K))   {u : pj_M} {i0 : Nat} {x2 : Int32}  (t0 : pj_T i0 = 6) (h : pb_Ho_takeFrame_23  K u i0 x2) : pj_J g (pj_N g b u) 23 [some (.ref (b + i0)), none, some (.int x2)] [] := by
  unfold pb_Ho_takeFrame_23 at h
  refine pj_aload_n C d_Ho_takeFrame_23 (pc' := 24) (i := 0) (x := b + i0) rfl rfl rfl ?_
  refine pj_dup C d_Ho_takeFrame_24 (pc' := 25) rfl rfl ?_
  refine fg_Host_64_Host C t0 d_Ho_takeFrame_25 (pc' := 28) rfl ?_
  refine pj_iconst C d_Ho_takeFrame_28 (pc' := 29) rfl (v := 1) (by decide) ?_
  refine pj_iadd C d_Ho_takeFrame_29 (pc' := 30) rfl ?_
  refine fp_Host_64_Host C t0  d_Ho_takeFrame_30 (pc' := 33) rfl h (fun u1 h => ?_)
  exact pj_cut (pj_le_s (pj_le_n (pj_le_s pj_le_e))) (pt_Ho_takeFrame_33 C hE  t0 h)
def pb_Ho_takeFrame_9  (K : pj_M → Prop) (u : pj_M) (i0 : Nat) (i1 : Nat) : Prop := pw_Pa_readFrame u (i0 + 1) i1 fun r2 u1 => (((r2 = ((-1))) → (pb_Ho_takeFrame_23  K u1 i0 r2)) ∧ (¬ (r2 = ((-1))) → (pb_Ho_takeFrame_33  K u1 i0 r2)))
set_option maxHeartbeats 1000000 in
theorem pt_Ho_takeFrame_9 {g : pj_G} {b : Nat} (C : pj_X g c_Ho_takeFrame 3 R_Ho none rm_Ho_takeFrame) {K : pj_M → Prop} (hE : pj_E g b (pj_Kv K))   {u : pj_M} {i0 : Nat} {i1 : Nat}  (t0 : pj_T i0 = 6) (t1 : pj_R i1) (h : pb_Ho_takeFrame_9  K u i0 i1) : pj_J g (pj_N g b u) 9 [some (.ref (b + i0)), some (.ref (b + i1)), none] [] := by
  unfold pb_Ho_takeFrame_9 at h
  refine pj_aload_n C d_Ho_takeFrame_9 (pc' := 10) (i := 0) (x := b + i0) rfl rfl rfl ?_
  refine fg_Host_12_Host C t0 d_Ho_takeFrame_10 (pc' := 13) rfl ?_
  refine pj_aload_n C d_Ho_takeFrame_13 (pc' := 14) (i := 1) (x := b + i1) rfl rfl rfl ?_
  refine ck_Host_60_Packet C (pl_Host_packet t0) t1 h d_Ho_takeFrame_14 (pc' := 17) rfl ⟨Nat.le_of_ble_eq_true rfl, Nat.le_of_ble_eq_true rfl⟩ (Nat.le_of_ble_eq_true rfl) (fun r2 u1 h => ?_)
  refine pj_istore_n C d_Ho_takeFrame_17 (pc' := 18) (i := 2) (vs' := [some (.ref (b + i0)), some (.ref (b + i1)), some (.int r2)]) rfl rfl (Nat.le_of_ble_eq_true rfl) (Nat.le_of_ble_eq_true rfl) rfl rfl ?_
  refine pj_iload_n C d_Ho_takeFrame_18 (pc' := 19) (i := 2) (x := r2) rfl rfl rfl ?_
  refine pj_iconst C d_Ho_takeFrame_19 (pc' := 20) rfl (v := (-1)) (by decide) ?_
  refine pj_icmp_ne C d_Ho_takeFrame_20 (pc' := 23) rfl (tgt := 33) (by decide) h (fun h => ?_) (fun h => ?_)
  · exact pj_cut (pj_le_s (pj_le_n (pj_le_s pj_le_e))) (pt_Ho_takeFrame_33 C hE  t0 h)
  · exact pj_cut (pj_le_s (pj_le_n (pj_le_s pj_le_e))) (pt_Ho_takeFrame_23 C hE  t0 h)
def pb_Ho_takeFrame_8  (K : pj_M → Prop) (u : pj_M)  : Prop := K u
set_option maxHeartbeats 1000000 in
theorem pt_Ho_takeFrame_8 {g : pj_G} {b : Nat} (C : pj_X g c_Ho_takeFrame 3 R_Ho none rm_Ho_takeFrame) {K : pj_M → Prop} (hE : pj_E g b (pj_Kv K))   {u : pj_M}    (h : pb_Ho_takeFrame_8  K u ) : pj_J g (pj_N g b u) 8 [none, none, none] [] := by
  unfold pb_Ho_takeFrame_8 at h
  exact pj_vret C hE d_Ho_takeFrame_8 ⟨rfl, h⟩
def pb_Ho_takeFrame_0  (K : pj_M → Prop) (u : pj_M) (i0 : Nat) (i1 : Nat) : Prop := (((u i0 4) = ((-1))) → (pb_Ho_takeFrame_8  K u )) ∧ (¬ ((u i0 4) = ((-1))) → (pb_Ho_takeFrame_9  K u i0 i1))
set_option maxHeartbeats 1000000 in
theorem pt_Ho_takeFrame_0 {g : pj_G} {b : Nat} (C : pj_X g c_Ho_takeFrame 3 R_Ho none rm_Ho_takeFrame) {K : pj_M → Prop} (hE : pj_E g b (pj_Kv K))   {u : pj_M} {i0 : Nat} {i1 : Nat}  (t0 : pj_T i0 = 6) (t1 : pj_R i1) (h : pb_Ho_takeFrame_0  K u i0 i1) : pj_J g (pj_N g b u) 0 [some (.ref (b + i0)), some (.ref (b + i1)), none] [] := by
  unfold pb_Ho_takeFrame_0 at h
  refine pj_aload_n C d_Ho_takeFrame_0 (pc' := 1) (i := 0) (x := b + i0) rfl rfl rfl ?_
  refine fg_Host_21_Host C t0 d_Ho_takeFrame_1 (pc' := 4) rfl ?_
  refine pj_iconst C d_Ho_takeFrame_4 (pc' := 5) rfl (v := (-1)) (by decide) ?_
  refine pj_icmp_ne C d_Ho_takeFrame_5 (pc' := 8) rfl (tgt := 9) (by decide) h (fun h => ?_) (fun h => ?_)
  · exact pj_cut (pj_le_s (pj_le_s (pj_le_n pj_le_e))) (pt_Ho_takeFrame_9 C hE  t0 t1 h)
  · exact pj_cut (pj_le_n (pj_le_n (pj_le_n pj_le_e))) (pt_Ho_takeFrame_8 C hE   h)
def pw_Ho_takeFrame (u : pj_M) (i0 : Nat) (i1 : Nat) (K : pj_M → Prop) : Prop := pb_Ho_takeFrame_0  K u i0 i1
theorem pc_Ho_takeFrame (l : Launch) (D : va_G) (E : Nat → ClassId) {b : Nat} {u : pj_M} {i0 : Nat} {i1 : Nat} {K : pj_M → Prop} (t0 : pj_T i0 = 6) (t1 : pj_R i1) (h : pw_Ho_takeFrame u i0 i1 K) : pj_C l y_Ho_takeFrame c_Ho_takeFrame 3 none rm_Ho_takeFrame D E b [.ref (b + i0), .ref (b + i1)] u (pj_Kv K) := by
  refine pj_met (own := R_Ho) (by decide +kernel) rfl (Nat.le_of_ble_eq_true rfl) (fun g hE C => ?_)
  unfold pw_Ho_takeFrame at h
  show pj_J g (pj_N g b u) 0 [some (.ref (b + i0)), some (.ref (b + i1)), none] []
  exact pj_cut (pj_le_s (pj_le_s (pj_le_n pj_le_e))) (pt_Ho_takeFrame_0 C hE  t0 t1 h)
/-! Host.tell(I)I -/
def rm_Ho_tell : Room := { frames := 2, cells := 0, slots := 0, locals := 41 }
def pb_Ho_tell_36  (K : Int32 → pj_M → Prop) (u : pj_M) (i0 : Nat) : Prop := K (u i0 12) u
set_option maxHeartbeats 1000000 in
theorem pt_Ho_tell_36 {g : pj_G} {b : Nat} (C : pj_X g c_Ho_tell 2 R_Ho (some .int) rm_Ho_tell) {K : Int32 → pj_M → Prop} (hE : pj_E g b (pj_Ki K))   {u : pj_M} {i0 : Nat}  (t0 : pj_T i0 = 6) (h : pb_Ho_tell_36  K u i0) : pj_J g (pj_N g b u) 36 [some (.ref (b + i0)), none] [] := by
  unfold pb_Ho_tell_36 at h
  refine pj_aload_n C d_Ho_tell_36 (pc' := 37) (i := 0) (x := b + i0) rfl rfl rfl ?_
  refine fg_Host_57_Host C t0 d_Ho_tell_37 (pc' := 40) rfl ?_
  exact pj_iret C hE d_Ho_tell_40 ⟨_, rfl, h⟩
def pb_Ho_tell_53  (K : Int32 → pj_M → Prop) (u : pj_M) (s0 : Int32) : Prop := K s0 u
set_option maxHeartbeats 1000000 in
theorem pt_Ho_tell_53 {g : pj_G} {b : Nat} (C : pj_X g c_Ho_tell 2 R_Ho (some .int) rm_Ho_tell) {K : Int32 → pj_M → Prop} (hE : pj_E g b (pj_Ki K))   {u : pj_M} {s0 : Int32}   (h : pb_Ho_tell_53  K u s0) : pj_J g (pj_N g b u) 53 [none, none] [.int s0] := by
  unfold pb_Ho_tell_53 at h
  exact pj_iret C hE d_Ho_tell_53 ⟨_, rfl, h⟩
def pb_Ho_tell_52  (K : Int32 → pj_M → Prop) (u : pj_M)  : Prop := pb_Ho_tell_53  K u 0
set_option maxHeartbeats 1000000 in
theorem pt_Ho_tell_52 {g : pj_G} {b : Nat} (C : pj_X g c_Ho_tell 2 R_Ho (some .int) rm_Ho_tell) {K : Int32 → pj_M → Prop} (hE : pj_E g b (pj_Ki K))   {u : pj_M}    (h : pb_Ho_tell_52  K u ) : pj_J g (pj_N g b u) 52 [none, none] [] := by
  unfold pb_Ho_tell_52 at h
  refine pj_iconst C d_Ho_tell_52 (pc' := 53) rfl (v := 0) (by decide) ?_
  exact pj_cut (pj_le_n (pj_le_n pj_le_e)) (pt_Ho_tell_53 C hE   h)
def pb_Ho_tell_48  (K : Int32 → pj_M → Prop) (u : pj_M)  : Prop := pb_Ho_tell_53  K u 1
set_option maxHeartbeats 1000000 in
theorem pt_Ho_tell_48 {g : pj_G} {b : Nat} (C : pj_X g c_Ho_tell 2 R_Ho (some .int) rm_Ho_tell) {K : Int32 → pj_M → Prop} (hE : pj_E g b (pj_Ki K))   {u : pj_M}    (h : pb_Ho_tell_48  K u ) : pj_J g (pj_N g b u) 48 [none, none] [] := by
  unfold pb_Ho_tell_48 at h
  refine pj_iconst C d_Ho_tell_48 (pc' := 49) rfl (v := 1) (by decide) ?_
  refine pj_goto C d_Ho_tell_49 (tgt := 53) (by decide) ?_
  exact pj_cut (pj_le_n (pj_le_n pj_le_e)) (pt_Ho_tell_53 C hE   h)
def pb_Ho_tell_41  (K : Int32 → pj_M → Prop) (u : pj_M) (i0 : Nat) : Prop := (((u i0 11) = 0) → (pb_Ho_tell_52  K u )) ∧ (¬ ((u i0 11) = 0) → (pb_Ho_tell_48  K u ))
set_option maxHeartbeats 1000000 in
theorem pt_Ho_tell_41 {g : pj_G} {b : Nat} (C : pj_X g c_Ho_tell 2 R_Ho (some .int) rm_Ho_tell) {K : Int32 → pj_M → Prop} (hE : pj_E g b (pj_Ki K))   {u : pj_M} {i0 : Nat}  (t0 : pj_T i0 = 6) (h : pb_Ho_tell_41  K u i0) : pj_J g (pj_N g b u) 41 [some (.ref (b + i0)), none] [] := by
  unfold pb_Ho_tell_41 at h
  refine pj_aload_n C d_Ho_tell_41 (pc' := 42) (i := 0) (x := b + i0) rfl rfl rfl ?_
  refine fg_Host_54_Host C t0 d_Ho_tell_42 (pc' := 45) rfl ?_
  refine pj_if_eq C d_Ho_tell_45 (pc' := 48) rfl (tgt := 52) (by decide) h (fun h => ?_) (fun h => ?_)
  · exact pj_cut (pj_le_n (pj_le_n pj_le_e)) (pt_Ho_tell_52 C hE   h)
  · exact pj_cut (pj_le_n (pj_le_n pj_le_e)) (pt_Ho_tell_48 C hE   h)
def pb_Ho_tell_72  (K : Int32 → pj_M → Prop) (u : pj_M) (s0 : Int32) : Prop := K s0 u
set_option maxHeartbeats 1000000 in
theorem pt_Ho_tell_72 {g : pj_G} {b : Nat} (C : pj_X g c_Ho_tell 2 R_Ho (some .int) rm_Ho_tell) {K : Int32 → pj_M → Prop} (hE : pj_E g b (pj_Ki K))   {u : pj_M} {s0 : Int32}   (h : pb_Ho_tell_72  K u s0) : pj_J g (pj_N g b u) 72 [none, none] [.int s0] := by
  unfold pb_Ho_tell_72 at h
  exact pj_iret C hE d_Ho_tell_72 ⟨_, rfl, h⟩
def pb_Ho_tell_71  (K : Int32 → pj_M → Prop) (u : pj_M)  : Prop := pb_Ho_tell_72  K u ((-1))
set_option maxHeartbeats 1000000 in
theorem pt_Ho_tell_71 {g : pj_G} {b : Nat} (C : pj_X g c_Ho_tell 2 R_Ho (some .int) rm_Ho_tell) {K : Int32 → pj_M → Prop} (hE : pj_E g b (pj_Ki K))   {u : pj_M}    (h : pb_Ho_tell_71  K u ) : pj_J g (pj_N g b u) 71 [none, none] [] := by
  unfold pb_Ho_tell_71 at h
  refine pj_iconst C d_Ho_tell_71 (pc' := 72) rfl (v := (-1)) (by decide) ?_
  exact pj_cut (pj_le_n (pj_le_n pj_le_e)) (pt_Ho_tell_72 C hE   h)
def pb_Ho_tell_61  (K : Int32 → pj_M → Prop) (u : pj_M) (i0 : Nat) : Prop := pw_Pa_id u (i0 + 3) fun r2 u1 => (pb_Ho_tell_72  K u1 r2)
set_option maxHeartbeats 1000000 in
theorem pt_Ho_tell_61 {g : pj_G} {b : Nat} (C : pj_X g c_Ho_tell 2 R_Ho (some .int) rm_Ho_tell) {K : Int32 → pj_M → Prop} (hE : pj_E g b (pj_Ki K))   {u : pj_M} {i0 : Nat}  (t0 : pj_T i0 = 6) (h : pb_Ho_tell_61  K u i0) : pj_J g (pj_N g b u) 61 [some (.ref (b + i0)), none] [] := by
  unfold pb_Ho_tell_61 at h
  refine pj_aload_n C d_Ho_tell_61 (pc' := 62) (i := 0) (x := b + i0) rfl rfl rfl ?_
  refine fg_Host_18_Host C t0 d_Ho_tell_62 (pc' := 65) rfl ?_
  refine ck_Host_82_Packet C (pl_Host_latest t0) h d_Ho_tell_65 (pc' := 68) rfl ⟨Nat.le_of_ble_eq_true rfl, Nat.le_of_ble_eq_true rfl⟩ (Nat.le_of_ble_eq_true rfl) (fun r2 u1 h => ?_)
  refine pj_goto C d_Ho_tell_68 (tgt := 72) (by decide) ?_
  exact pj_cut (pj_le_n (pj_le_n pj_le_e)) (pt_Ho_tell_72 C hE   h)
def pb_Ho_tell_54  (K : Int32 → pj_M → Prop) (u : pj_M) (i0 : Nat) : Prop := (((u i0 7) = 0) → (pb_Ho_tell_71  K u )) ∧ (¬ ((u i0 7) = 0) → (pb_Ho_tell_61  K u i0))
set_option maxHeartbeats 1000000 in
theorem pt_Ho_tell_54 {g : pj_G} {b : Nat} (C : pj_X g c_Ho_tell 2 R_Ho (some .int) rm_Ho_tell) {K : Int32 → pj_M → Prop} (hE : pj_E g b (pj_Ki K))   {u : pj_M} {i0 : Nat}  (t0 : pj_T i0 = 6) (h : pb_Ho_tell_54  K u i0) : pj_J g (pj_N g b u) 54 [some (.ref (b + i0)), none] [] := by
  unfold pb_Ho_tell_54 at h
  refine pj_aload_n C d_Ho_tell_54 (pc' := 55) (i := 0) (x := b + i0) rfl rfl rfl ?_
  refine fg_Host_47_Host C t0 d_Ho_tell_55 (pc' := 58) rfl ?_
  refine pj_if_eq C d_Ho_tell_58 (pc' := 61) rfl (tgt := 71) (by decide) h (fun h => ?_) (fun h => ?_)
  · exact pj_cut (pj_le_n (pj_le_n pj_le_e)) (pt_Ho_tell_71 C hE   h)
  · exact pj_cut (pj_le_s (pj_le_n pj_le_e)) (pt_Ho_tell_61 C hE  t0 h)
def pb_Ho_tell_73  (K : Int32 → pj_M → Prop) (u : pj_M) (i0 : Nat) : Prop := K (u i0 4) u
set_option maxHeartbeats 1000000 in
theorem pt_Ho_tell_73 {g : pj_G} {b : Nat} (C : pj_X g c_Ho_tell 2 R_Ho (some .int) rm_Ho_tell) {K : Int32 → pj_M → Prop} (hE : pj_E g b (pj_Ki K))   {u : pj_M} {i0 : Nat}  (t0 : pj_T i0 = 6) (h : pb_Ho_tell_73  K u i0) : pj_J g (pj_N g b u) 73 [some (.ref (b + i0)), none] [] := by
  unfold pb_Ho_tell_73 at h
  refine pj_aload_n C d_Ho_tell_73 (pc' := 74) (i := 0) (x := b + i0) rfl rfl rfl ?_
  refine fg_Host_21_Host C t0 d_Ho_tell_74 (pc' := 77) rfl ?_
  exact pj_iret C hE d_Ho_tell_77 ⟨_, rfl, h⟩
def pb_Ho_tell_78  (K : Int32 → pj_M → Prop) (u : pj_M) (i0 : Nat) : Prop := K (u i0 13) u
set_option maxHeartbeats 1000000 in
theorem pt_Ho_tell_78 {g : pj_G} {b : Nat} (C : pj_X g c_Ho_tell 2 R_Ho (some .int) rm_Ho_tell) {K : Int32 → pj_M → Prop} (hE : pj_E g b (pj_Ki K))   {u : pj_M} {i0 : Nat}  (t0 : pj_T i0 = 6) (h : pb_Ho_tell_78  K u i0) : pj_J g (pj_N g b u) 78 [some (.ref (b + i0)), none] [] := by
  unfold pb_Ho_tell_78 at h
  refine pj_aload_n C d_Ho_tell_78 (pc' := 79) (i := 0) (x := b + i0) rfl rfl rfl ?_
  refine fg_Host_135_Host C t0 d_Ho_tell_79 (pc' := 82) rfl ?_
  exact pj_iret C hE d_Ho_tell_82 ⟨_, rfl, h⟩
def pb_Ho_tell_83  (K : Int32 → pj_M → Prop) (u : pj_M)  : Prop := K ((-2)) u
set_option maxHeartbeats 1000000 in
theorem pt_Ho_tell_83 {g : pj_G} {b : Nat} (C : pj_X g c_Ho_tell 2 R_Ho (some .int) rm_Ho_tell) {K : Int32 → pj_M → Prop} (hE : pj_E g b (pj_Ki K))   {u : pj_M}    (h : pb_Ho_tell_83  K u ) : pj_J g (pj_N g b u) 83 [none, none] [] := by
  unfold pb_Ho_tell_83 at h
  refine pj_bipush C d_Ho_tell_83 (pc' := 85) rfl (v := (-2)) (by decide) ?_
  exact pj_iret C hE d_Ho_tell_85 ⟨_, rfl, h⟩
def pb_Ho_tell_0  (K : Int32 → pj_M → Prop) (u : pj_M) (i0 : Nat) (x1 : Int32) : Prop := ((x1 = 0) → (pb_Ho_tell_36  K u i0)) ∧ (¬ (x1 = 0) → ((x1 = 1) → (pb_Ho_tell_41  K u i0)) ∧ (¬ (x1 = 1) → ((x1 = 2) → (pb_Ho_tell_54  K u i0)) ∧ (¬ (x1 = 2) → ((x1 = 3) → (pb_Ho_tell_73  K u i0)) ∧ (¬ (x1 = 3) → ((x1 = 4) → (pb_Ho_tell_78  K u i0)) ∧ (¬ (x1 = 4) → (pb_Ho_tell_83  K u ))))))
set_option maxHeartbeats 1000000 in
theorem pt_Ho_tell_0 {g : pj_G} {b : Nat} (C : pj_X g c_Ho_tell 2 R_Ho (some .int) rm_Ho_tell) {K : Int32 → pj_M → Prop} (hE : pj_E g b (pj_Ki K))   {u : pj_M} {i0 : Nat} {x1 : Int32}  (t0 : pj_T i0 = 6) (h : pb_Ho_tell_0  K u i0 x1) : pj_J g (pj_N g b u) 0 [some (.ref (b + i0)), some (.int x1)] [] := by
  unfold pb_Ho_tell_0 at h
  refine pj_iload_n C d_Ho_tell_0 (pc' := 1) (i := 1) (x := x1) rfl rfl rfl ?_
  by_cases e0 : x1 = 0
  · have h := h.1 e0
    refine pj_tsIn C d_Ho_tell_1 (kv := 0) (by rw [e0]; decide) (by decide) (by decide) (tgt := 36) rfl (by decide) ?_
    exact pj_cut (pj_le_s (pj_le_n pj_le_e)) (pt_Ho_tell_36 C hE  t0 h)
  have h := h.2 e0
  by_cases e1 : x1 = 1
  · have h := h.1 e1
    refine pj_tsIn C d_Ho_tell_1 (kv := 1) (by rw [e1]; decide) (by decide) (by decide) (tgt := 41) rfl (by decide) ?_
    exact pj_cut (pj_le_s (pj_le_n pj_le_e)) (pt_Ho_tell_41 C hE  t0 h)
  have h := h.2 e1
  by_cases e2 : x1 = 2
  · have h := h.1 e2
    refine pj_tsIn C d_Ho_tell_1 (kv := 2) (by rw [e2]; decide) (by decide) (by decide) (tgt := 54) rfl (by decide) ?_
    exact pj_cut (pj_le_s (pj_le_n pj_le_e)) (pt_Ho_tell_54 C hE  t0 h)
  have h := h.2 e2
  by_cases e3 : x1 = 3
  · have h := h.1 e3
    refine pj_tsIn C d_Ho_tell_1 (kv := 3) (by rw [e3]; decide) (by decide) (by decide) (tgt := 73) rfl (by decide) ?_
    exact pj_cut (pj_le_s (pj_le_n pj_le_e)) (pt_Ho_tell_73 C hE  t0 h)
  have h := h.2 e3
  by_cases e4 : x1 = 4
  · have h := h.1 e4
    refine pj_tsIn C d_Ho_tell_1 (kv := 4) (by rw [e4]; decide) (by decide) (by decide) (tgt := 78) rfl (by decide) ?_
    exact pj_cut (pj_le_s (pj_le_n pj_le_e)) (pt_Ho_tell_78 C hE  t0 h)
  have h := h.2 e4
  have z0 := lv_neT (a := 0) e0 (by decide)
  have z1 := lv_neT (a := 1) e1 (by decide)
  have z2 := lv_neT (a := 2) e2 (by decide)
  have z3 := lv_neT (a := 3) e3 (by decide)
  have z4 := lv_neT (a := 4) e4 (by decide)
  refine pj_tsOut C d_Ho_tell_1 (by omega) (tgt := 83) (by decide) ?_
  exact pj_cut (pj_le_n (pj_le_n pj_le_e)) (pt_Ho_tell_83 C hE   h)
def pw_Ho_tell (u : pj_M) (i0 : Nat) (x1 : Int32) (K : Int32 → pj_M → Prop) : Prop := pb_Ho_tell_0  K u i0 x1
theorem pc_Ho_tell (l : Launch) (D : va_G) (E : Nat → ClassId) {b : Nat} {u : pj_M} {i0 : Nat} {x1 : Int32} {K : Int32 → pj_M → Prop} (t0 : pj_T i0 = 6) (h : pw_Ho_tell u i0 x1 K) : pj_C l y_Ho_tell c_Ho_tell 2 (some .int) rm_Ho_tell D E b [.ref (b + i0), .int x1] u (pj_Ki K) := by
  refine pj_met (own := R_Ho) (by decide +kernel) rfl (Nat.le_of_ble_eq_true rfl) (fun g hE C => ?_)
  unfold pw_Ho_tell at h
  show pj_J g (pj_N g b u) 0 [some (.ref (b + i0)), some (.int x1)] []
  exact pj_cut (pj_le_s (pj_le_s pj_le_e)) (pt_Ho_tell_0 C hE  t0 h)
