/-! Port.expectResponse()V -/
theorem fp_Port_41_Port {g : pj_G} {b : Nat} {cc : ByteArray} {nL : Nat} {ret : Option FieldType} {rm : Room} {u : pj_M} {pc pc' : Nat} {vs : List (Option Value)} {st : List Value} (C : pj_X g cc nL R_Po ret rm) {i : Nat} {x : Int32} {P : pj_M → Prop} (t : pj_T i = 9) (hb : pj_bi x) (hdg : decode cc pc = .ok (.putfield 41, 3)) (hp : pc + 3 = pc') (h : pj_put u i 8 x P) (kk : ∀ u', P u' → pj_J g (pj_N g b u') pc' vs st) : pj_J g (pj_N g b u) pc vs (.int x :: .ref (b + i) :: st) :=
  pj_putI C cl_Port hin_Port ty_Port tyok_Port nm_Port (k := 8) (Nat.le_of_ble_eq_true rfl) wm_429 (Or.inl rfl) rfl (ty := .boolean) (by decide +kernel) hb.nar hb.fit (pj_lt t (by decide)) (fun E u => ko_9 t) (F := fun f => [.int (f 0), .ref (b + (i + 1)), .ref (b + (i + 3)), .ref (b + (i + 5)), .int (f 4), .int (f 5), .int (f 6), .int (f 7), .int (f 8), .int (f 9), .int (f 10), .int (f 11), .int (f 12), .int (f 13), .int (f 14), .int (f 15), .int (f 16), .int (f 17)]) (fun _ => Nat.le_of_ble_eq_true rfl) (fun _ _ => rfl) hdg hp h kk
theorem fp_Port_45_Port {g : pj_G} {b : Nat} {cc : ByteArray} {nL : Nat} {ret : Option FieldType} {rm : Room} {u : pj_M} {pc pc' : Nat} {vs : List (Option Value)} {st : List Value} (C : pj_X g cc nL R_Po ret rm) {i : Nat} {x : Int32} {P : pj_M → Prop} (t : pj_T i = 9)  (hdg : decode cc pc = .ok (.putfield 45, 3)) (hp : pc + 3 = pc') (h : pj_put u i 9 x P) (kk : ∀ u', P u' → pj_J g (pj_N g b u') pc' vs st) : pj_J g (pj_N g b u) pc vs (.int x :: .ref (b + i) :: st) :=
  pj_putI C cl_Port hin_Port ty_Port tyok_Port nm_Port (k := 9) (Nat.le_of_ble_eq_true rfl) wm_431 (Or.inl rfl) rfl (ty := .int) (by decide +kernel) rfl rfl (pj_lt t (by decide)) (fun E u => ko_9 t) (F := fun f => [.int (f 0), .ref (b + (i + 1)), .ref (b + (i + 3)), .ref (b + (i + 5)), .int (f 4), .int (f 5), .int (f 6), .int (f 7), .int (f 8), .int (f 9), .int (f 10), .int (f 11), .int (f 12), .int (f 13), .int (f 14), .int (f 15), .int (f 16), .int (f 17)]) (fun _ => Nat.le_of_ble_eq_true rfl) (fun _ _ => rfl) hdg hp h kk
theorem fp_Port_48_Port {g : pj_G} {b : Nat} {cc : ByteArray} {nL : Nat} {ret : Option FieldType} {rm : Room} {u : pj_M} {pc pc' : Nat} {vs : List (Option Value)} {st : List Value} (C : pj_X g cc nL R_Po ret rm) {i : Nat} {x : Int32} {P : pj_M → Prop} (t : pj_T i = 9)  (hdg : decode cc pc = .ok (.putfield 48, 3)) (hp : pc + 3 = pc') (h : pj_put u i 7 x P) (kk : ∀ u', P u' → pj_J g (pj_N g b u') pc' vs st) : pj_J g (pj_N g b u) pc vs (.int x :: .ref (b + i) :: st) :=
  pj_putI C cl_Port hin_Port ty_Port tyok_Port nm_Port (k := 7) (Nat.le_of_ble_eq_true rfl) wm_427 (Or.inl rfl) rfl (ty := .int) (by decide +kernel) rfl rfl (pj_lt t (by decide)) (fun E u => ko_9 t) (F := fun f => [.int (f 0), .ref (b + (i + 1)), .ref (b + (i + 3)), .ref (b + (i + 5)), .int (f 4), .int (f 5), .int (f 6), .int (f 7), .int (f 8), .int (f 9), .int (f 10), .int (f 11), .int (f 12), .int (f 13), .int (f 14), .int (f 15), .int (f 16), .int (f 17)]) (fun _ => Nat.le_of_ble_eq_true rfl) (fun _ _ => rfl) hdg hp h kk
def rm_Po_expectResponse : Room := { frames := 0, cells := 0, slots := 0, locals := 0 }
def pb_Po_expectResponse_0  (K : pj_M → Prop) (u : pj_M) (i0 : Nat) : Prop := pj_put u i0 8 1 fun u1 => (pj_put u1 i0 9 0 fun u2 => (pj_put u2 i0 7 0 fun u3 => (K u3)))
set_option maxHeartbeats 1000000 in
theorem pt_Po_expectResponse_0 {g : pj_G} {b : Nat} (C : pj_X g c_Po_expectResponse 1 R_Po none rm_Po_expectResponse) {K : pj_M → Prop} (hE : pj_E g b (pj_Kv K))   {u : pj_M} {i0 : Nat}  (t0 : pj_T i0 = 9) (h : pb_Po_expectResponse_0  K u i0) : pj_J g (pj_N g b u) 0 [some (.ref (b + i0))] [] := by
  unfold pb_Po_expectResponse_0 at h
  refine pj_aload_n C d_Po_expectResponse_0 (pc' := 1) (i := 0) (x := b + i0) rfl rfl rfl ?_
  refine pj_iconst C d_Po_expectResponse_1 (pc' := 2) rfl (v := 1) (by decide) ?_
  refine fp_Port_41_Port C t0 pj_bi1 d_Po_expectResponse_2 (pc' := 5) rfl h (fun u1 h => ?_)
  refine pj_aload_n C d_Po_expectResponse_5 (pc' := 6) (i := 0) (x := b + i0) rfl rfl rfl ?_
  refine pj_iconst C d_Po_expectResponse_6 (pc' := 7) rfl (v := 0) (by decide) ?_
  refine fp_Port_45_Port C t0  d_Po_expectResponse_7 (pc' := 10) rfl h (fun u2 h => ?_)
  refine pj_aload_n C d_Po_expectResponse_10 (pc' := 11) (i := 0) (x := b + i0) rfl rfl rfl ?_
  refine pj_iconst C d_Po_expectResponse_11 (pc' := 12) rfl (v := 0) (by decide) ?_
  refine fp_Port_48_Port C t0  d_Po_expectResponse_12 (pc' := 15) rfl h (fun u3 h => ?_)
  exact pj_vret C hE d_Po_expectResponse_15 ⟨rfl, h⟩
def pw_Po_expectResponse (u : pj_M) (i0 : Nat) (K : pj_M → Prop) : Prop := pb_Po_expectResponse_0  K u i0
theorem pc_Po_expectResponse (l : Launch) (D : va_G) (E : Nat → ClassId) {b : Nat} {u : pj_M} {i0 : Nat} {K : pj_M → Prop} (t0 : pj_T i0 = 9) (h : pw_Po_expectResponse u i0 K) : pj_C l y_Po_expectResponse c_Po_expectResponse 1 none rm_Po_expectResponse D E b [.ref (b + i0)] u (pj_Kv K) := by
  refine pj_met (own := R_Po) (by decide +kernel) rfl (Nat.le_of_ble_eq_true rfl) (fun g hE C => ?_)
  unfold pw_Po_expectResponse at h
  show pj_J g (pj_N g b u) 0 [some (.ref (b + i0))] []
  exact pj_cut (pj_le_s pj_le_e) (pt_Po_expectResponse_0 C hE  t0 h)
/-! Port.tell(I)I -/
theorem fg_Port_66_Port {g : pj_G} {b : Nat} {cc : ByteArray} {nL : Nat} {ret : Option FieldType} {rm : Room} {u : pj_M} {pc pc' : Nat} {vs : List (Option Value)} {st : List Value} (C : pj_X g cc nL R_Po ret rm) {i : Nat} (t : pj_T i = 9) (hdg : decode cc pc = .ok (.getfield 66, 3)) (hp : pc + 3 = pc') (kk : pj_J g (pj_N g b u) pc' vs (.int (u i 17) :: st)) : pj_J g (pj_N g b u) pc vs (.ref (b + i) :: st) :=
  pj_get C cl_Port hin_Port (k := 17) (Nat.le_of_ble_eq_true rfl) wm_446 (Or.inl rfl) (pj_lt t (by decide)) (fun E => ko_9 t) rfl hdg hp kk
theorem fg_Port_63_Port {g : pj_G} {b : Nat} {cc : ByteArray} {nL : Nat} {ret : Option FieldType} {rm : Room} {u : pj_M} {pc pc' : Nat} {vs : List (Option Value)} {st : List Value} (C : pj_X g cc nL R_Po ret rm) {i : Nat} (t : pj_T i = 9) (hdg : decode cc pc = .ok (.getfield 63, 3)) (hp : pc + 3 = pc') (kk : pj_J g (pj_N g b u) pc' vs (.int (u i 16) :: st)) : pj_J g (pj_N g b u) pc vs (.ref (b + i) :: st) :=
  pj_get C cl_Port hin_Port (k := 16) (Nat.le_of_ble_eq_true rfl) wm_444 (Or.inl rfl) (pj_lt t (by decide)) (fun E => ko_9 t) rfl hdg hp kk
theorem fg_Port_60_Port {g : pj_G} {b : Nat} {cc : ByteArray} {nL : Nat} {ret : Option FieldType} {rm : Room} {u : pj_M} {pc pc' : Nat} {vs : List (Option Value)} {st : List Value} (C : pj_X g cc nL R_Po ret rm) {i : Nat} (t : pj_T i = 9) (hdg : decode cc pc = .ok (.getfield 60, 3)) (hp : pc + 3 = pc') (kk : pj_J g (pj_N g b u) pc' vs (.int (u i 15) :: st)) : pj_J g (pj_N g b u) pc vs (.ref (b + i) :: st) :=
  pj_get C cl_Port hin_Port (k := 15) (Nat.le_of_ble_eq_true rfl) wm_442 (Or.inl rfl) (pj_lt t (by decide)) (fun E => ko_9 t) rfl hdg hp kk
theorem fg_Port_35_Port {g : pj_G} {b : Nat} {cc : ByteArray} {nL : Nat} {ret : Option FieldType} {rm : Room} {u : pj_M} {pc pc' : Nat} {vs : List (Option Value)} {st : List Value} (C : pj_X g cc nL R_Po ret rm) {i : Nat} (t : pj_T i = 9) (hdg : decode cc pc = .ok (.getfield 35, 3)) (hp : pc + 3 = pc') (kk : pj_J g (pj_N g b u) pc' vs (.int (u i 11) :: st)) : pj_J g (pj_N g b u) pc vs (.ref (b + i) :: st) :=
  pj_get C cl_Port hin_Port (k := 11) (Nat.le_of_ble_eq_true rfl) wm_435 (Or.inl rfl) (pj_lt t (by decide)) (fun E => ko_9 t) rfl hdg hp kk
theorem fg_Port_32_Port {g : pj_G} {b : Nat} {cc : ByteArray} {nL : Nat} {ret : Option FieldType} {rm : Room} {u : pj_M} {pc pc' : Nat} {vs : List (Option Value)} {st : List Value} (C : pj_X g cc nL R_Po ret rm) {i : Nat} (t : pj_T i = 9) (hdg : decode cc pc = .ok (.getfield 32, 3)) (hp : pc + 3 = pc') (kk : pj_J g (pj_N g b u) pc' vs (.int (u i 10) :: st)) : pj_J g (pj_N g b u) pc vs (.ref (b + i) :: st) :=
  pj_get C cl_Port hin_Port (k := 10) (Nat.le_of_ble_eq_true rfl) wm_433 (Or.inl rfl) (pj_lt t (by decide)) (fun E => ko_9 t) rfl hdg hp kk
theorem fg_Port_54_Port {g : pj_G} {b : Nat} {cc : ByteArray} {nL : Nat} {ret : Option FieldType} {rm : Room} {u : pj_M} {pc pc' : Nat} {vs : List (Option Value)} {st : List Value} (C : pj_X g cc nL R_Po ret rm) {i : Nat} (t : pj_T i = 9) (hdg : decode cc pc = .ok (.getfield 54, 3)) (hp : pc + 3 = pc') (kk : pj_J g (pj_N g b u) pc' vs (.int (u i 12) :: st)) : pj_J g (pj_N g b u) pc vs (.ref (b + i) :: st) :=
  pj_get C cl_Port hin_Port (k := 12) (Nat.le_of_ble_eq_true rfl) wm_438 (Or.inl rfl) (pj_lt t (by decide)) (fun E => ko_9 t) rfl hdg hp kk
theorem fg_Port_57_Port {g : pj_G} {b : Nat} {cc : ByteArray} {nL : Nat} {ret : Option FieldType} {rm : Room} {u : pj_M} {pc pc' : Nat} {vs : List (Option Value)} {st : List Value} (C : pj_X g cc nL R_Po ret rm) {i : Nat} (t : pj_T i = 9) (hdg : decode cc pc = .ok (.getfield 57, 3)) (hp : pc + 3 = pc') (kk : pj_J g (pj_N g b u) pc' vs (.int (u i 13) :: st)) : pj_J g (pj_N g b u) pc vs (.ref (b + i) :: st) :=
  pj_get C cl_Port hin_Port (k := 13) (Nat.le_of_ble_eq_true rfl) wm_439 (Or.inl rfl) (pj_lt t (by decide)) (fun E => ko_9 t) rfl hdg hp kk
theorem fg_Port_48_Port {g : pj_G} {b : Nat} {cc : ByteArray} {nL : Nat} {ret : Option FieldType} {rm : Room} {u : pj_M} {pc pc' : Nat} {vs : List (Option Value)} {st : List Value} (C : pj_X g cc nL R_Po ret rm) {i : Nat} (t : pj_T i = 9) (hdg : decode cc pc = .ok (.getfield 48, 3)) (hp : pc + 3 = pc') (kk : pj_J g (pj_N g b u) pc' vs (.int (u i 7) :: st)) : pj_J g (pj_N g b u) pc vs (.ref (b + i) :: st) :=
  pj_get C cl_Port hin_Port (k := 7) (Nat.le_of_ble_eq_true rfl) wm_427 (Or.inl rfl) (pj_lt t (by decide)) (fun E => ko_9 t) rfl hdg hp kk
theorem fg_Port_45_Port {g : pj_G} {b : Nat} {cc : ByteArray} {nL : Nat} {ret : Option FieldType} {rm : Room} {u : pj_M} {pc pc' : Nat} {vs : List (Option Value)} {st : List Value} (C : pj_X g cc nL R_Po ret rm) {i : Nat} (t : pj_T i = 9) (hdg : decode cc pc = .ok (.getfield 45, 3)) (hp : pc + 3 = pc') (kk : pj_J g (pj_N g b u) pc' vs (.int (u i 9) :: st)) : pj_J g (pj_N g b u) pc vs (.ref (b + i) :: st) :=
  pj_get C cl_Port hin_Port (k := 9) (Nat.le_of_ble_eq_true rfl) wm_431 (Or.inl rfl) (pj_lt t (by decide)) (fun E => ko_9 t) rfl hdg hp kk
theorem fg_Port_41_Port {g : pj_G} {b : Nat} {cc : ByteArray} {nL : Nat} {ret : Option FieldType} {rm : Room} {u : pj_M} {pc pc' : Nat} {vs : List (Option Value)} {st : List Value} (C : pj_X g cc nL R_Po ret rm) {i : Nat} (t : pj_T i = 9) (hdg : decode cc pc = .ok (.getfield 41, 3)) (hp : pc + 3 = pc') (kk : pj_J g (pj_N g b u) pc' vs (.int (u i 8) :: st)) : pj_J g (pj_N g b u) pc vs (.ref (b + i) :: st) :=
  pj_get C cl_Port hin_Port (k := 8) (Nat.le_of_ble_eq_true rfl) wm_429 (Or.inl rfl) (pj_lt t (by decide)) (fun E => ko_9 t) rfl hdg hp kk
theorem fg_Port_51_Port {g : pj_G} {b : Nat} {cc : ByteArray} {nL : Nat} {ret : Option FieldType} {rm : Room} {u : pj_M} {pc pc' : Nat} {vs : List (Option Value)} {st : List Value} (C : pj_X g cc nL R_Po ret rm) {i : Nat} (t : pj_T i = 9) (hdg : decode cc pc = .ok (.getfield 51, 3)) (hp : pc + 3 = pc') (kk : pj_J g (pj_N g b u) pc' vs (.int (u i 6) :: st)) : pj_J g (pj_N g b u) pc vs (.ref (b + i) :: st) :=
  pj_get C cl_Port hin_Port (k := 6) (Nat.le_of_ble_eq_true rfl) wm_425 (Or.inl rfl) (pj_lt t (by decide)) (fun E => ko_9 t) rfl hdg hp kk
theorem fg_Port_28_Port {g : pj_G} {b : Nat} {cc : ByteArray} {nL : Nat} {ret : Option FieldType} {rm : Room} {u : pj_M} {pc pc' : Nat} {vs : List (Option Value)} {st : List Value} (C : pj_X g cc nL R_Po ret rm) {i : Nat} (t : pj_T i = 9) (hdg : decode cc pc = .ok (.getfield 28, 3)) (hp : pc + 3 = pc') (kk : pj_J g (pj_N g b u) pc' vs (.int (u i 5) :: st)) : pj_J g (pj_N g b u) pc vs (.ref (b + i) :: st) :=
  pj_get C cl_Port hin_Port (k := 5) (Nat.le_of_ble_eq_true rfl) wm_423 (Or.inl rfl) (pj_lt t (by decide)) (fun E => ko_9 t) rfl hdg hp kk
def rm_Po_tell : Room := { frames := 0, cells := 0, slots := 0, locals := 0 }
def pb_Po_tell_64  (K : Int32 → pj_M → Prop) (u : pj_M) (i0 : Nat) : Prop := K (u i0 5) u
set_option maxHeartbeats 1000000 in
theorem pt_Po_tell_64 {g : pj_G} {b : Nat} (C : pj_X g c_Po_tell 2 R_Po (some .int) rm_Po_tell) {K : Int32 → pj_M → Prop} (hE : pj_E g b (pj_Ki K))   {u : pj_M} {i0 : Nat}  (t0 : pj_T i0 = 9) (h : pb_Po_tell_64  K u i0) : pj_J g (pj_N g b u) 64 [some (.ref (b + i0)), none] [] := by
  unfold pb_Po_tell_64 at h
  refine pj_aload_n C d_Po_tell_64 (pc' := 65) (i := 0) (x := b + i0) rfl rfl rfl ?_
  refine fg_Port_28_Port C t0 d_Po_tell_65 (pc' := 68) rfl ?_
  exact pj_iret C hE d_Po_tell_68 ⟨_, rfl, h⟩
def pb_Po_tell_81  (K : Int32 → pj_M → Prop) (u : pj_M) (s0 : Int32) : Prop := K s0 u
set_option maxHeartbeats 1000000 in
theorem pt_Po_tell_81 {g : pj_G} {b : Nat} (C : pj_X g c_Po_tell 2 R_Po (some .int) rm_Po_tell) {K : Int32 → pj_M → Prop} (hE : pj_E g b (pj_Ki K))   {u : pj_M} {s0 : Int32}   (h : pb_Po_tell_81  K u s0) : pj_J g (pj_N g b u) 81 [none, none] [.int s0] := by
  unfold pb_Po_tell_81 at h
  exact pj_iret C hE d_Po_tell_81 ⟨_, rfl, h⟩
def pb_Po_tell_80  (K : Int32 → pj_M → Prop) (u : pj_M)  : Prop := pb_Po_tell_81  K u 0
set_option maxHeartbeats 1000000 in
theorem pt_Po_tell_80 {g : pj_G} {b : Nat} (C : pj_X g c_Po_tell 2 R_Po (some .int) rm_Po_tell) {K : Int32 → pj_M → Prop} (hE : pj_E g b (pj_Ki K))   {u : pj_M}    (h : pb_Po_tell_80  K u ) : pj_J g (pj_N g b u) 80 [none, none] [] := by
  unfold pb_Po_tell_80 at h
  refine pj_iconst C d_Po_tell_80 (pc' := 81) rfl (v := 0) (by decide) ?_
  exact pj_cut (pj_le_n (pj_le_n pj_le_e)) (pt_Po_tell_81 C hE   h)
def pb_Po_tell_76  (K : Int32 → pj_M → Prop) (u : pj_M)  : Prop := pb_Po_tell_81  K u 1
set_option maxHeartbeats 1000000 in
theorem pt_Po_tell_76 {g : pj_G} {b : Nat} (C : pj_X g c_Po_tell 2 R_Po (some .int) rm_Po_tell) {K : Int32 → pj_M → Prop} (hE : pj_E g b (pj_Ki K))   {u : pj_M}    (h : pb_Po_tell_76  K u ) : pj_J g (pj_N g b u) 76 [none, none] [] := by
  unfold pb_Po_tell_76 at h
  refine pj_iconst C d_Po_tell_76 (pc' := 77) rfl (v := 1) (by decide) ?_
  refine pj_goto C d_Po_tell_77 (tgt := 81) (by decide) ?_
  exact pj_cut (pj_le_n (pj_le_n pj_le_e)) (pt_Po_tell_81 C hE   h)
def pb_Po_tell_69  (K : Int32 → pj_M → Prop) (u : pj_M) (i0 : Nat) : Prop := (((u i0 6) = 0) → (pb_Po_tell_80  K u )) ∧ (¬ ((u i0 6) = 0) → (pb_Po_tell_76  K u ))
set_option maxHeartbeats 1000000 in
theorem pt_Po_tell_69 {g : pj_G} {b : Nat} (C : pj_X g c_Po_tell 2 R_Po (some .int) rm_Po_tell) {K : Int32 → pj_M → Prop} (hE : pj_E g b (pj_Ki K))   {u : pj_M} {i0 : Nat}  (t0 : pj_T i0 = 9) (h : pb_Po_tell_69  K u i0) : pj_J g (pj_N g b u) 69 [some (.ref (b + i0)), none] [] := by
  unfold pb_Po_tell_69 at h
  refine pj_aload_n C d_Po_tell_69 (pc' := 70) (i := 0) (x := b + i0) rfl rfl rfl ?_
  refine fg_Port_51_Port C t0 d_Po_tell_70 (pc' := 73) rfl ?_
  refine pj_if_eq C d_Po_tell_73 (pc' := 76) rfl (tgt := 80) (by decide) h (fun h => ?_) (fun h => ?_)
  · exact pj_cut (pj_le_n (pj_le_n pj_le_e)) (pt_Po_tell_80 C hE   h)
  · exact pj_cut (pj_le_n (pj_le_n pj_le_e)) (pt_Po_tell_76 C hE   h)
def pb_Po_tell_94  (K : Int32 → pj_M → Prop) (u : pj_M) (s0 : Int32) : Prop := K s0 u
set_option maxHeartbeats 1000000 in
theorem pt_Po_tell_94 {g : pj_G} {b : Nat} (C : pj_X g c_Po_tell 2 R_Po (some .int) rm_Po_tell) {K : Int32 → pj_M → Prop} (hE : pj_E g b (pj_Ki K))   {u : pj_M} {s0 : Int32}   (h : pb_Po_tell_94  K u s0) : pj_J g (pj_N g b u) 94 [none, none] [.int s0] := by
  unfold pb_Po_tell_94 at h
  exact pj_iret C hE d_Po_tell_94 ⟨_, rfl, h⟩
def pb_Po_tell_93  (K : Int32 → pj_M → Prop) (u : pj_M)  : Prop := pb_Po_tell_94  K u 0
set_option maxHeartbeats 1000000 in
theorem pt_Po_tell_93 {g : pj_G} {b : Nat} (C : pj_X g c_Po_tell 2 R_Po (some .int) rm_Po_tell) {K : Int32 → pj_M → Prop} (hE : pj_E g b (pj_Ki K))   {u : pj_M}    (h : pb_Po_tell_93  K u ) : pj_J g (pj_N g b u) 93 [none, none] [] := by
  unfold pb_Po_tell_93 at h
  refine pj_iconst C d_Po_tell_93 (pc' := 94) rfl (v := 0) (by decide) ?_
  exact pj_cut (pj_le_n (pj_le_n pj_le_e)) (pt_Po_tell_94 C hE   h)
def pb_Po_tell_89  (K : Int32 → pj_M → Prop) (u : pj_M)  : Prop := pb_Po_tell_94  K u 1
set_option maxHeartbeats 1000000 in
theorem pt_Po_tell_89 {g : pj_G} {b : Nat} (C : pj_X g c_Po_tell 2 R_Po (some .int) rm_Po_tell) {K : Int32 → pj_M → Prop} (hE : pj_E g b (pj_Ki K))   {u : pj_M}    (h : pb_Po_tell_89  K u ) : pj_J g (pj_N g b u) 89 [none, none] [] := by
  unfold pb_Po_tell_89 at h
  refine pj_iconst C d_Po_tell_89 (pc' := 90) rfl (v := 1) (by decide) ?_
  refine pj_goto C d_Po_tell_90 (tgt := 94) (by decide) ?_
  exact pj_cut (pj_le_n (pj_le_n pj_le_e)) (pt_Po_tell_94 C hE   h)
def pb_Po_tell_82  (K : Int32 → pj_M → Prop) (u : pj_M) (i0 : Nat) : Prop := (((u i0 8) = 0) → (pb_Po_tell_93  K u )) ∧ (¬ ((u i0 8) = 0) → (pb_Po_tell_89  K u ))
set_option maxHeartbeats 1000000 in
theorem pt_Po_tell_82 {g : pj_G} {b : Nat} (C : pj_X g c_Po_tell 2 R_Po (some .int) rm_Po_tell) {K : Int32 → pj_M → Prop} (hE : pj_E g b (pj_Ki K))   {u : pj_M} {i0 : Nat}  (t0 : pj_T i0 = 9) (h : pb_Po_tell_82  K u i0) : pj_J g (pj_N g b u) 82 [some (.ref (b + i0)), none] [] := by
  unfold pb_Po_tell_82 at h
  refine pj_aload_n C d_Po_tell_82 (pc' := 83) (i := 0) (x := b + i0) rfl rfl rfl ?_
  refine fg_Port_41_Port C t0 d_Po_tell_83 (pc' := 86) rfl ?_
  refine pj_if_eq C d_Po_tell_86 (pc' := 89) rfl (tgt := 93) (by decide) h (fun h => ?_) (fun h => ?_)
  · exact pj_cut (pj_le_n (pj_le_n pj_le_e)) (pt_Po_tell_93 C hE   h)
  · exact pj_cut (pj_le_n (pj_le_n pj_le_e)) (pt_Po_tell_89 C hE   h)
def pb_Po_tell_95  (K : Int32 → pj_M → Prop) (u : pj_M) (i0 : Nat) : Prop := K (u i0 9) u
set_option maxHeartbeats 1000000 in
theorem pt_Po_tell_95 {g : pj_G} {b : Nat} (C : pj_X g c_Po_tell 2 R_Po (some .int) rm_Po_tell) {K : Int32 → pj_M → Prop} (hE : pj_E g b (pj_Ki K))   {u : pj_M} {i0 : Nat}  (t0 : pj_T i0 = 9) (h : pb_Po_tell_95  K u i0) : pj_J g (pj_N g b u) 95 [some (.ref (b + i0)), none] [] := by
  unfold pb_Po_tell_95 at h
  refine pj_aload_n C d_Po_tell_95 (pc' := 96) (i := 0) (x := b + i0) rfl rfl rfl ?_
  refine fg_Port_45_Port C t0 d_Po_tell_96 (pc' := 99) rfl ?_
  exact pj_iret C hE d_Po_tell_99 ⟨_, rfl, h⟩
def pb_Po_tell_100  (K : Int32 → pj_M → Prop) (u : pj_M) (i0 : Nat) : Prop := K (u i0 7) u
set_option maxHeartbeats 1000000 in
theorem pt_Po_tell_100 {g : pj_G} {b : Nat} (C : pj_X g c_Po_tell 2 R_Po (some .int) rm_Po_tell) {K : Int32 → pj_M → Prop} (hE : pj_E g b (pj_Ki K))   {u : pj_M} {i0 : Nat}  (t0 : pj_T i0 = 9) (h : pb_Po_tell_100  K u i0) : pj_J g (pj_N g b u) 100 [some (.ref (b + i0)), none] [] := by
  unfold pb_Po_tell_100 at h
  refine pj_aload_n C d_Po_tell_100 (pc' := 101) (i := 0) (x := b + i0) rfl rfl rfl ?_
  refine fg_Port_48_Port C t0 d_Po_tell_101 (pc' := 104) rfl ?_
  exact pj_iret C hE d_Po_tell_104 ⟨_, rfl, h⟩
def pb_Po_tell_120  (K : Int32 → pj_M → Prop) (u : pj_M) (s0 : Int32) : Prop := K s0 u
set_option maxHeartbeats 1000000 in
theorem pt_Po_tell_120 {g : pj_G} {b : Nat} (C : pj_X g c_Po_tell 2 R_Po (some .int) rm_Po_tell) {K : Int32 → pj_M → Prop} (hE : pj_E g b (pj_Ki K))   {u : pj_M} {s0 : Int32}   (h : pb_Po_tell_120  K u s0) : pj_J g (pj_N g b u) 120 [none, none] [.int s0] := by
  unfold pb_Po_tell_120 at h
  exact pj_iret C hE d_Po_tell_120 ⟨_, rfl, h⟩
def pb_Po_tell_119  (K : Int32 → pj_M → Prop) (u : pj_M)  : Prop := pb_Po_tell_120  K u ((-1))
set_option maxHeartbeats 1000000 in
theorem pt_Po_tell_119 {g : pj_G} {b : Nat} (C : pj_X g c_Po_tell 2 R_Po (some .int) rm_Po_tell) {K : Int32 → pj_M → Prop} (hE : pj_E g b (pj_Ki K))   {u : pj_M}    (h : pb_Po_tell_119  K u ) : pj_J g (pj_N g b u) 119 [none, none] [] := by
  unfold pb_Po_tell_119 at h
  refine pj_iconst C d_Po_tell_119 (pc' := 120) rfl (v := (-1)) (by decide) ?_
  exact pj_cut (pj_le_n (pj_le_n pj_le_e)) (pt_Po_tell_120 C hE   h)
def pb_Po_tell_112  (K : Int32 → pj_M → Prop) (u : pj_M) (i0 : Nat) : Prop := pb_Po_tell_120  K u (u i0 13)
set_option maxHeartbeats 1000000 in
theorem pt_Po_tell_112 {g : pj_G} {b : Nat} (C : pj_X g c_Po_tell 2 R_Po (some .int) rm_Po_tell) {K : Int32 → pj_M → Prop} (hE : pj_E g b (pj_Ki K))   {u : pj_M} {i0 : Nat}  (t0 : pj_T i0 = 9) (h : pb_Po_tell_112  K u i0) : pj_J g (pj_N g b u) 112 [some (.ref (b + i0)), none] [] := by
  unfold pb_Po_tell_112 at h
  refine pj_aload_n C d_Po_tell_112 (pc' := 113) (i := 0) (x := b + i0) rfl rfl rfl ?_
  refine fg_Port_57_Port C t0 d_Po_tell_113 (pc' := 116) rfl ?_
  refine pj_goto C d_Po_tell_116 (tgt := 120) (by decide) ?_
  exact pj_cut (pj_le_n (pj_le_n pj_le_e)) (pt_Po_tell_120 C hE   h)
def pb_Po_tell_105  (K : Int32 → pj_M → Prop) (u : pj_M) (i0 : Nat) : Prop := (((u i0 12) ≤ 0) → (pb_Po_tell_119  K u )) ∧ (¬ ((u i0 12) ≤ 0) → (pb_Po_tell_112  K u i0))
set_option maxHeartbeats 1000000 in
theorem pt_Po_tell_105 {g : pj_G} {b : Nat} (C : pj_X g c_Po_tell 2 R_Po (some .int) rm_Po_tell) {K : Int32 → pj_M → Prop} (hE : pj_E g b (pj_Ki K))   {u : pj_M} {i0 : Nat}  (t0 : pj_T i0 = 9) (h : pb_Po_tell_105  K u i0) : pj_J g (pj_N g b u) 105 [some (.ref (b + i0)), none] [] := by
  unfold pb_Po_tell_105 at h
  refine pj_aload_n C d_Po_tell_105 (pc' := 106) (i := 0) (x := b + i0) rfl rfl rfl ?_
  refine fg_Port_54_Port C t0 d_Po_tell_106 (pc' := 109) rfl ?_
  refine pj_if_le C d_Po_tell_109 (pc' := 112) rfl (tgt := 119) (by decide) h (fun h => ?_) (fun h => ?_)
  · exact pj_cut (pj_le_n (pj_le_n pj_le_e)) (pt_Po_tell_119 C hE   h)
  · exact pj_cut (pj_le_s (pj_le_n pj_le_e)) (pt_Po_tell_112 C hE  t0 h)
def pb_Po_tell_121  (K : Int32 → pj_M → Prop) (u : pj_M) (i0 : Nat) : Prop := K (u i0 12) u
set_option maxHeartbeats 1000000 in
theorem pt_Po_tell_121 {g : pj_G} {b : Nat} (C : pj_X g c_Po_tell 2 R_Po (some .int) rm_Po_tell) {K : Int32 → pj_M → Prop} (hE : pj_E g b (pj_Ki K))   {u : pj_M} {i0 : Nat}  (t0 : pj_T i0 = 9) (h : pb_Po_tell_121  K u i0) : pj_J g (pj_N g b u) 121 [some (.ref (b + i0)), none] [] := by
  unfold pb_Po_tell_121 at h
  refine pj_aload_n C d_Po_tell_121 (pc' := 122) (i := 0) (x := b + i0) rfl rfl rfl ?_
  refine fg_Port_54_Port C t0 d_Po_tell_122 (pc' := 125) rfl ?_
  exact pj_iret C hE d_Po_tell_125 ⟨_, rfl, h⟩
def pb_Po_tell_126  (K : Int32 → pj_M → Prop) (u : pj_M) (i0 : Nat) : Prop := K (u i0 10) u
set_option maxHeartbeats 1000000 in
theorem pt_Po_tell_126 {g : pj_G} {b : Nat} (C : pj_X g c_Po_tell 2 R_Po (some .int) rm_Po_tell) {K : Int32 → pj_M → Prop} (hE : pj_E g b (pj_Ki K))   {u : pj_M} {i0 : Nat}  (t0 : pj_T i0 = 9) (h : pb_Po_tell_126  K u i0) : pj_J g (pj_N g b u) 126 [some (.ref (b + i0)), none] [] := by
  unfold pb_Po_tell_126 at h
  refine pj_aload_n C d_Po_tell_126 (pc' := 127) (i := 0) (x := b + i0) rfl rfl rfl ?_
  refine fg_Port_32_Port C t0 d_Po_tell_127 (pc' := 130) rfl ?_
  exact pj_iret C hE d_Po_tell_130 ⟨_, rfl, h⟩
def pb_Po_tell_131  (K : Int32 → pj_M → Prop) (u : pj_M) (i0 : Nat) : Prop := K (u i0 11) u
set_option maxHeartbeats 1000000 in
theorem pt_Po_tell_131 {g : pj_G} {b : Nat} (C : pj_X g c_Po_tell 2 R_Po (some .int) rm_Po_tell) {K : Int32 → pj_M → Prop} (hE : pj_E g b (pj_Ki K))   {u : pj_M} {i0 : Nat}  (t0 : pj_T i0 = 9) (h : pb_Po_tell_131  K u i0) : pj_J g (pj_N g b u) 131 [some (.ref (b + i0)), none] [] := by
  unfold pb_Po_tell_131 at h
  refine pj_aload_n C d_Po_tell_131 (pc' := 132) (i := 0) (x := b + i0) rfl rfl rfl ?_
  refine fg_Port_35_Port C t0 d_Po_tell_132 (pc' := 135) rfl ?_
  exact pj_iret C hE d_Po_tell_135 ⟨_, rfl, h⟩
def pb_Po_tell_136  (K : Int32 → pj_M → Prop) (u : pj_M) (i0 : Nat) : Prop := K (u i0 15) u
set_option maxHeartbeats 1000000 in
theorem pt_Po_tell_136 {g : pj_G} {b : Nat} (C : pj_X g c_Po_tell 2 R_Po (some .int) rm_Po_tell) {K : Int32 → pj_M → Prop} (hE : pj_E g b (pj_Ki K))   {u : pj_M} {i0 : Nat}  (t0 : pj_T i0 = 9) (h : pb_Po_tell_136  K u i0) : pj_J g (pj_N g b u) 136 [some (.ref (b + i0)), none] [] := by
  unfold pb_Po_tell_136 at h
  refine pj_aload_n C d_Po_tell_136 (pc' := 137) (i := 0) (x := b + i0) rfl rfl rfl ?_
  refine fg_Port_60_Port C t0 d_Po_tell_137 (pc' := 140) rfl ?_
  exact pj_iret C hE d_Po_tell_140 ⟨_, rfl, h⟩
def pb_Po_tell_141  (K : Int32 → pj_M → Prop) (u : pj_M) (i0 : Nat) : Prop := K (u i0 16) u
set_option maxHeartbeats 1000000 in
theorem pt_Po_tell_141 {g : pj_G} {b : Nat} (C : pj_X g c_Po_tell 2 R_Po (some .int) rm_Po_tell) {K : Int32 → pj_M → Prop} (hE : pj_E g b (pj_Ki K))   {u : pj_M} {i0 : Nat}  (t0 : pj_T i0 = 9) (h : pb_Po_tell_141  K u i0) : pj_J g (pj_N g b u) 141 [some (.ref (b + i0)), none] [] := by
  unfold pb_Po_tell_141 at h
  refine pj_aload_n C d_Po_tell_141 (pc' := 142) (i := 0) (x := b + i0) rfl rfl rfl ?_
  refine fg_Port_63_Port C t0 d_Po_tell_142 (pc' := 145) rfl ?_
  exact pj_iret C hE d_Po_tell_145 ⟨_, rfl, h⟩
def pb_Po_tell_146  (K : Int32 → pj_M → Prop) (u : pj_M) (i0 : Nat) : Prop := K (u i0 17) u
set_option maxHeartbeats 1000000 in
theorem pt_Po_tell_146 {g : pj_G} {b : Nat} (C : pj_X g c_Po_tell 2 R_Po (some .int) rm_Po_tell) {K : Int32 → pj_M → Prop} (hE : pj_E g b (pj_Ki K))   {u : pj_M} {i0 : Nat}  (t0 : pj_T i0 = 9) (h : pb_Po_tell_146  K u i0) : pj_J g (pj_N g b u) 146 [some (.ref (b + i0)), none] [] := by
  unfold pb_Po_tell_146 at h
  refine pj_aload_n C d_Po_tell_146 (pc' := 147) (i := 0) (x := b + i0) rfl rfl rfl ?_
  refine fg_Port_66_Port C t0 d_Po_tell_147 (pc' := 150) rfl ?_
  exact pj_iret C hE d_Po_tell_150 ⟨_, rfl, h⟩
def pb_Po_tell_151  (K : Int32 → pj_M → Prop) (u : pj_M)  : Prop := K ((-2)) u
set_option maxHeartbeats 1000000 in
theorem pt_Po_tell_151 {g : pj_G} {b : Nat} (C : pj_X g c_Po_tell 2 R_Po (some .int) rm_Po_tell) {K : Int32 → pj_M → Prop} (hE : pj_E g b (pj_Ki K))   {u : pj_M}    (h : pb_Po_tell_151  K u ) : pj_J g (pj_N g b u) 151 [none, none] [] := by
  unfold pb_Po_tell_151 at h
  refine pj_bipush C d_Po_tell_151 (pc' := 153) rfl (v := (-2)) (by decide) ?_
  exact pj_iret C hE d_Po_tell_153 ⟨_, rfl, h⟩
def pb_Po_tell_0  (K : Int32 → pj_M → Prop) (u : pj_M) (i0 : Nat) (x1 : Int32) : Prop := ((x1 = 0) → (pb_Po_tell_64  K u i0)) ∧ (¬ (x1 = 0) → ((x1 = 1) → (pb_Po_tell_69  K u i0)) ∧ (¬ (x1 = 1) → ((x1 = 2) → (pb_Po_tell_82  K u i0)) ∧ (¬ (x1 = 2) → ((x1 = 3) → (pb_Po_tell_95  K u i0)) ∧ (¬ (x1 = 3) → ((x1 = 4) → (pb_Po_tell_100  K u i0)) ∧ (¬ (x1 = 4) → ((x1 = 5) → (pb_Po_tell_105  K u i0)) ∧ (¬ (x1 = 5) → ((x1 = 6) → (pb_Po_tell_121  K u i0)) ∧ (¬ (x1 = 6) → ((x1 = 7) → (pb_Po_tell_126  K u i0)) ∧ (¬ (x1 = 7) → ((x1 = 8) → (pb_Po_tell_131  K u i0)) ∧ (¬ (x1 = 8) → ((x1 = 9) → (pb_Po_tell_136  K u i0)) ∧ (¬ (x1 = 9) → ((x1 = 10) → (pb_Po_tell_141  K u i0)) ∧ (¬ (x1 = 10) → ((x1 = 11) → (pb_Po_tell_146  K u i0)) ∧ (¬ (x1 = 11) → (pb_Po_tell_151  K u )))))))))))))
set_option maxHeartbeats 1000000 in
theorem pt_Po_tell_0 {g : pj_G} {b : Nat} (C : pj_X g c_Po_tell 2 R_Po (some .int) rm_Po_tell) {K : Int32 → pj_M → Prop} (hE : pj_E g b (pj_Ki K))   {u : pj_M} {i0 : Nat} {x1 : Int32}  (t0 : pj_T i0 = 9) (h : pb_Po_tell_0  K u i0 x1) : pj_J g (pj_N g b u) 0 [some (.ref (b + i0)), some (.int x1)] [] := by
  unfold pb_Po_tell_0 at h
  refine pj_iload_n C d_Po_tell_0 (pc' := 1) (i := 1) (x := x1) rfl rfl rfl ?_
  by_cases e0 : x1 = 0
  · have h := h.1 e0
    refine pj_tsIn C d_Po_tell_1 (kv := 0) (by rw [e0]; decide) (by decide) (by decide) (tgt := 64) rfl (by decide) ?_
    exact pj_cut (pj_le_s (pj_le_n pj_le_e)) (pt_Po_tell_64 C hE  t0 h)
  have h := h.2 e0
  by_cases e1 : x1 = 1
  · have h := h.1 e1
    refine pj_tsIn C d_Po_tell_1 (kv := 1) (by rw [e1]; decide) (by decide) (by decide) (tgt := 69) rfl (by decide) ?_
    exact pj_cut (pj_le_s (pj_le_n pj_le_e)) (pt_Po_tell_69 C hE  t0 h)
  have h := h.2 e1
  by_cases e2 : x1 = 2
  · have h := h.1 e2
    refine pj_tsIn C d_Po_tell_1 (kv := 2) (by rw [e2]; decide) (by decide) (by decide) (tgt := 82) rfl (by decide) ?_
    exact pj_cut (pj_le_s (pj_le_n pj_le_e)) (pt_Po_tell_82 C hE  t0 h)
  have h := h.2 e2
  by_cases e3 : x1 = 3
  · have h := h.1 e3
    refine pj_tsIn C d_Po_tell_1 (kv := 3) (by rw [e3]; decide) (by decide) (by decide) (tgt := 95) rfl (by decide) ?_
    exact pj_cut (pj_le_s (pj_le_n pj_le_e)) (pt_Po_tell_95 C hE  t0 h)
  have h := h.2 e3
  by_cases e4 : x1 = 4
  · have h := h.1 e4
    refine pj_tsIn C d_Po_tell_1 (kv := 4) (by rw [e4]; decide) (by decide) (by decide) (tgt := 100) rfl (by decide) ?_
    exact pj_cut (pj_le_s (pj_le_n pj_le_e)) (pt_Po_tell_100 C hE  t0 h)
  have h := h.2 e4
  by_cases e5 : x1 = 5
  · have h := h.1 e5
    refine pj_tsIn C d_Po_tell_1 (kv := 5) (by rw [e5]; decide) (by decide) (by decide) (tgt := 105) rfl (by decide) ?_
    exact pj_cut (pj_le_s (pj_le_n pj_le_e)) (pt_Po_tell_105 C hE  t0 h)
  have h := h.2 e5
  by_cases e6 : x1 = 6
  · have h := h.1 e6
    refine pj_tsIn C d_Po_tell_1 (kv := 6) (by rw [e6]; decide) (by decide) (by decide) (tgt := 121) rfl (by decide) ?_
    exact pj_cut (pj_le_s (pj_le_n pj_le_e)) (pt_Po_tell_121 C hE  t0 h)
  have h := h.2 e6
  by_cases e7 : x1 = 7
  · have h := h.1 e7
    refine pj_tsIn C d_Po_tell_1 (kv := 7) (by rw [e7]; decide) (by decide) (by decide) (tgt := 126) rfl (by decide) ?_
    exact pj_cut (pj_le_s (pj_le_n pj_le_e)) (pt_Po_tell_126 C hE  t0 h)
  have h := h.2 e7
  by_cases e8 : x1 = 8
  · have h := h.1 e8
    refine pj_tsIn C d_Po_tell_1 (kv := 8) (by rw [e8]; decide) (by decide) (by decide) (tgt := 131) rfl (by decide) ?_
    exact pj_cut (pj_le_s (pj_le_n pj_le_e)) (pt_Po_tell_131 C hE  t0 h)
  have h := h.2 e8
  by_cases e9 : x1 = 9
  · have h := h.1 e9
    refine pj_tsIn C d_Po_tell_1 (kv := 9) (by rw [e9]; decide) (by decide) (by decide) (tgt := 136) rfl (by decide) ?_
    exact pj_cut (pj_le_s (pj_le_n pj_le_e)) (pt_Po_tell_136 C hE  t0 h)
  have h := h.2 e9
  by_cases e10 : x1 = 10
  · have h := h.1 e10
    refine pj_tsIn C d_Po_tell_1 (kv := 10) (by rw [e10]; decide) (by decide) (by decide) (tgt := 141) rfl (by decide) ?_
    exact pj_cut (pj_le_s (pj_le_n pj_le_e)) (pt_Po_tell_141 C hE  t0 h)
  have h := h.2 e10
  by_cases e11 : x1 = 11
  · have h := h.1 e11
    refine pj_tsIn C d_Po_tell_1 (kv := 11) (by rw [e11]; decide) (by decide) (by decide) (tgt := 146) rfl (by decide) ?_
    exact pj_cut (pj_le_s (pj_le_n pj_le_e)) (pt_Po_tell_146 C hE  t0 h)
  have h := h.2 e11
  have z0 := lv_neT (a := 0) e0 (by decide)
  have z1 := lv_neT (a := 1) e1 (by decide)
  have z2 := lv_neT (a := 2) e2 (by decide)
  have z3 := lv_neT (a := 3) e3 (by decide)
  have z4 := lv_neT (a := 4) e4 (by decide)
  have z5 := lv_neT (a := 5) e5 (by decide)
  have z6 := lv_neT (a := 6) e6 (by decide)
  have z7 := lv_neT (a := 7) e7 (by decide)
  have z8 := lv_neT (a := 8) e8 (by decide)
  have z9 := lv_neT (a := 9) e9 (by decide)
  have z10 := lv_neT (a := 10) e10 (by decide)
  have z11 := lv_neT (a := 11) e11 (by decide)
  refine pj_tsOut C d_Po_tell_1 (by omega) (tgt := 151) (by decide) ?_
  exact pj_cut (pj_le_n (pj_le_n pj_le_e)) (pt_Po_tell_151 C hE   h)
def pw_Po_tell (u : pj_M) (i0 : Nat) (x1 : Int32) (K : Int32 → pj_M → Prop) : Prop := pb_Po_tell_0  K u i0 x1
theorem pc_Po_tell (l : Launch) (D : va_G) (E : Nat → ClassId) {b : Nat} {u : pj_M} {i0 : Nat} {x1 : Int32} {K : Int32 → pj_M → Prop} (t0 : pj_T i0 = 9) (h : pw_Po_tell u i0 x1 K) : pj_C l y_Po_tell c_Po_tell 2 (some .int) rm_Po_tell D E b [.ref (b + i0), .int x1] u (pj_Ki K) := by
  refine pj_met (own := R_Po) (by decide +kernel) rfl (Nat.le_of_ble_eq_true rfl) (fun g hE C => ?_)
  unfold pw_Po_tell at h
  show pj_J g (pj_N g b u) 0 [some (.ref (b + i0)), some (.int x1)] []
  exact pj_cut (pj_le_s (pj_le_s pj_le_e)) (pt_Po_tell_0 C hE  t0 h)
