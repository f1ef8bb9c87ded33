/-! Server.turn(Z)V -/
theorem fp_Server_47_Server {g : pj_G} {b : Nat} {cc : ByteArray} {nL : Nat} {ret : Option FieldType} {rm : Room} {u : pj_M} {pc pc' : Nat} {vs : List (Option Value)} {st : List Value} (C : pj_X g cc nL R_Sv ret rm) {i : Nat} {x : Int32} {P : pj_M → Prop} (t : pj_T i = 8) (hb : pj_bi x) (hdg : decode cc pc = .ok (.putfield 47, 3)) (hp : pc + 3 = pc') (h : pj_put u i 13 x P) (kk : ∀ u', P u' → pj_J g (pj_N g b u') pc' vs st) : pj_J g (pj_N g b u) pc vs (.int x :: .ref (b + i) :: st) :=
  pj_putI C cl_Server hin_Server ty_Server tyok_Server nm_Server (k := 13) (Nat.le_of_ble_eq_true rfl) wm_342 (Or.inl rfl) rfl (ty := .boolean) (by decide +kernel) hb.nar hb.fit (pj_lt t (by decide)) (fun E u => ko_8 t) (F := fun f => [.int (f 0), .int (f 1), .ref (b + 1), .ref (b + 4), .ref (b + (i + 1)), .ref (b + (i + 2)), .ref (b + (i + 3)), .ref (b + (i + 4)), .ref (b + (i + 5)), .ref (b + (i + 10)), .ref (b + (i + 15)), .int (f 11), .int (f 12), .int (f 13), .int (f 14), .int (f 15), .int (f 16), .int (f 17), .int (f 18), .int (f 19)]) (fun _ => Nat.le_of_ble_eq_true rfl) (fun _ _ => rfl) hdg hp h kk
theorem fp_Server_68_Server {g : pj_G} {b : Nat} {cc : ByteArray} {nL : Nat} {ret : Option FieldType} {rm : Room} {u : pj_M} {pc pc' : Nat} {vs : List (Option Value)} {st : List Value} (C : pj_X g cc nL R_Sv ret rm) {i : Nat} {x : Int32} {P : pj_M → Prop} (t : pj_T i = 8)  (hdg : decode cc pc = .ok (.putfield 68, 3)) (hp : pc + 3 = pc') (h : pj_put u i 14 x P) (kk : ∀ u', P u' → pj_J g (pj_N g b u') pc' vs st) : pj_J g (pj_N g b u) pc vs (.int x :: .ref (b + i) :: st) :=
  pj_putI C cl_Server hin_Server ty_Server tyok_Server nm_Server (k := 14) (Nat.le_of_ble_eq_true rfl) wm_344 (Or.inl rfl) rfl (ty := .int) (by decide +kernel) rfl rfl (pj_lt t (by decide)) (fun E u => ko_8 t) (F := fun f => [.int (f 0), .int (f 1), .ref (b + 1), .ref (b + 4), .ref (b + (i + 1)), .ref (b + (i + 2)), .ref (b + (i + 3)), .ref (b + (i + 4)), .ref (b + (i + 5)), .ref (b + (i + 10)), .ref (b + (i + 15)), .int (f 11), .int (f 12), .int (f 13), .int (f 14), .int (f 15), .int (f 16), .int (f 17), .int (f 18), .int (f 19)]) (fun _ => Nat.le_of_ble_eq_true rfl) (fun _ _ => rfl) hdg hp h kk
theorem fp_Server_71_Server {g : pj_G} {b : Nat} {cc : ByteArray} {nL : Nat} {ret : Option FieldType} {rm : Room} {u : pj_M} {pc pc' : Nat} {vs : List (Option Value)} {st : List Value} (C : pj_X g cc nL R_Sv ret rm) {i : Nat} {x : Int32} {P : pj_M → Prop} (t : pj_T i = 8)  (hdg : decode cc pc = .ok (.putfield 71, 3)) (hp : pc + 3 = pc') (h : pj_put u i 17 x P) (kk : ∀ u', P u' → pj_J g (pj_N g b u') pc' vs st) : pj_J g (pj_N g b u) pc vs (.int x :: .ref (b + i) :: st) :=
  pj_putI C cl_Server hin_Server ty_Server tyok_Server nm_Server (k := 17) (Nat.le_of_ble_eq_true rfl) wm_347 (Or.inl rfl) rfl (ty := .int) (by decide +kernel) rfl rfl (pj_lt t (by decide)) (fun E u => ko_8 t) (F := fun f => [.int (f 0), .int (f 1), .ref (b + 1), .ref (b + 4), .ref (b + (i + 1)), .ref (b + (i + 2)), .ref (b + (i + 3)), .ref (b + (i + 4)), .ref (b + (i + 5)), .ref (b + (i + 10)), .ref (b + (i + 15)), .int (f 11), .int (f 12), .int (f 13), .int (f 14), .int (f 15), .int (f 16), .int (f 17), .int (f 18), .int (f 19)]) (fun _ => Nat.le_of_ble_eq_true rfl) (fun _ _ => rfl) hdg hp h kk
theorem fp_Server_74_Server {g : pj_G} {b : Nat} {cc : ByteArray} {nL : Nat} {ret : Option FieldType} {rm : Room} {u : pj_M} {pc pc' : Nat} {vs : List (Option Value)} {st : List Value} (C : pj_X g cc nL R_Sv ret rm) {i : Nat} {x : Int32} {P : pj_M → Prop} (t : pj_T i = 8)  (hdg : decode cc pc = .ok (.putfield 74, 3)) (hp : pc + 3 = pc') (h : pj_put u i 18 x P) (kk : ∀ u', P u' → pj_J g (pj_N g b u') pc' vs st) : pj_J g (pj_N g b u) pc vs (.int x :: .ref (b + i) :: st) :=
  pj_putI C cl_Server hin_Server ty_Server tyok_Server nm_Server (k := 18) (Nat.le_of_ble_eq_true rfl) wm_348 (Or.inl rfl) rfl (ty := .int) (by decide +kernel) rfl rfl (pj_lt t (by decide)) (fun E u => ko_8 t) (F := fun f => [.int (f 0), .int (f 1), .ref (b + 1), .ref (b + 4), .ref (b + (i + 1)), .ref (b + (i + 2)), .ref (b + (i + 3)), .ref (b + (i + 4)), .ref (b + (i + 5)), .ref (b + (i + 10)), .ref (b + (i + 15)), .int (f 11), .int (f 12), .int (f 13), .int (f 14), .int (f 15), .int (f 16), .int (f 17), .int (f 18), .int (f 19)]) (fun _ => Nat.le_of_ble_eq_true rfl) (fun _ _ => rfl) hdg hp h kk
def rm_Sv_turn : Room := { frames := 0, cells := 0, slots := 0, locals := 0 }
def pb_Sv_turn_0  (K : pj_M → Prop) (u : pj_M) (i0 : Nat) (x1 : Int32) : Prop := pj_bi x1 ∧ (pj_put u i0 13 x1 fun u1 => (pj_put u1 i0 14 0 fun u2 => (pj_put u2 i0 17 0 fun u3 => (pj_put u3 i0 18 0 fun u4 => (K u4)))))
set_option maxHeartbeats 1000000 in
theorem pt_Sv_turn_0 {g : pj_G} {b : Nat} (C : pj_X g c_Sv_turn 2 R_Sv none rm_Sv_turn) {K : pj_M → Prop} (hE : pj_E g b (pj_Kv K))   {u : pj_M} {i0 : Nat} {x1 : Int32}  (t0 : pj_T i0 = 8) (h : pb_Sv_turn_0  K u i0 x1) : pj_J g (pj_N g b u) 0 [some (.ref (b + i0)), some (.int x1)] [] := by
  unfold pb_Sv_turn_0 at h
  refine pj_aload_n C d_Sv_turn_0 (pc' := 1) (i := 0) (x := b + i0) rfl rfl rfl ?_
  refine pj_iload_n C d_Sv_turn_1 (pc' := 2) (i := 1) (x := x1) rfl rfl rfl ?_
  obtain ⟨hb, h⟩ := h
  refine fp_Server_47_Server C t0 hb d_Sv_turn_2 (pc' := 5) rfl h (fun u1 h => ?_)
  refine pj_aload_n C d_Sv_turn_5 (pc' := 6) (i := 0) (x := b + i0) rfl rfl rfl ?_
  refine pj_iconst C d_Sv_turn_6 (pc' := 7) rfl (v := 0) (by decide) ?_
  refine fp_Server_68_Server C t0  d_Sv_turn_7 (pc' := 10) rfl h (fun u2 h => ?_)
  refine pj_aload_n C d_Sv_turn_10 (pc' := 11) (i := 0) (x := b + i0) rfl rfl rfl ?_
  refine pj_iconst C d_Sv_turn_11 (pc' := 12) rfl (v := 0) (by decide) ?_
  refine fp_Server_71_Server C t0  d_Sv_turn_12 (pc' := 15) rfl h (fun u3 h => ?_)
  refine pj_aload_n C d_Sv_turn_15 (pc' := 16) (i := 0) (x := b + i0) rfl rfl rfl ?_
  refine pj_iconst C d_Sv_turn_16 (pc' := 17) rfl (v := 0) (by decide) ?_
  refine fp_Server_74_Server C t0  d_Sv_turn_17 (pc' := 20) rfl h (fun u4 h => ?_)
  exact pj_vret C hE d_Sv_turn_20 ⟨rfl, h⟩
def pw_Sv_turn (u : pj_M) (i0 : Nat) (x1 : Int32) (K : pj_M → Prop) : Prop := pb_Sv_turn_0  K u i0 x1
theorem pc_Sv_turn (l : Launch) (D : va_G) (E : Nat → ClassId) {b : Nat} {u : pj_M} {i0 : Nat} {x1 : Int32} {K : pj_M → Prop} (t0 : pj_T i0 = 8) (h : pw_Sv_turn u i0 x1 K) : pj_C l y_Sv_turn c_Sv_turn 2 none rm_Sv_turn D E b [.ref (b + i0), .int x1] u (pj_Kv K) := by
  refine pj_met (own := R_Sv) (by decide +kernel) rfl (Nat.le_of_ble_eq_true rfl) (fun g hE C => ?_)
  unfold pw_Sv_turn at h
  show pj_J g (pj_N g b u) 0 [some (.ref (b + i0)), some (.int x1)] []
  exact pj_cut (pj_le_s (pj_le_s pj_le_e)) (pt_Sv_turn_0 C hE  t0 h)
/-! Server.accepts(LPortGuard$Row;)Z -/
theorem fg_Server_33_Server {g : pj_G} {b : Nat} {cc : ByteArray} {nL : Nat} {ret : Option FieldType} {rm : Room} {u : pj_M} {pc pc' : Nat} {vs : List (Option Value)} {st : List Value} (C : pj_X g cc nL R_Sv ret rm) {i : Nat} (t : pj_T i = 8) (hdg : decode cc pc = .ok (.getfield 33, 3)) (hp : pc + 3 = pc') (kk : pj_J g (pj_N g b u) pc' vs (.ref (b + (i + 5)) :: st)) : pj_J g (pj_N g b u) pc vs (.ref (b + i) :: st) :=
  pj_get C cl_Server hin_Server (k := 8) (Nat.le_of_ble_eq_true rfl) wm_337 (Or.inl rfl) (pj_lt t (by decide)) (fun E => ko_8 t) rfl hdg hp kk
theorem fg_Server_110_Datagram {g : pj_G} {b : Nat} {cc : ByteArray} {nL : Nat} {ret : Option FieldType} {rm : Room} {u : pj_M} {pc pc' : Nat} {vs : List (Option Value)} {st : List Value} (C : pj_X g cc nL R_Sv ret rm) {i : Nat} (t : pj_T i = 5) (hdg : decode cc pc = .ok (.getfield 110, 3)) (hp : pc + 3 = pc') (kk : pj_J g (pj_N g b u) pc' vs (.int (u i 2) :: st)) : pj_J g (pj_N g b u) pc vs (.ref (b + i) :: st) :=
  pj_get C cl_Datagram hin_Datagram (k := 2) (Nat.le_of_ble_eq_true rfl) wm_273 (Or.inl rfl) (pj_lt t (by decide)) (fun E => ko_5 t) rfl hdg hp kk
theorem fg_Server_55_Server {g : pj_G} {b : Nat} {cc : ByteArray} {nL : Nat} {ret : Option FieldType} {rm : Room} {u : pj_M} {pc pc' : Nat} {vs : List (Option Value)} {st : List Value} (C : pj_X g cc nL R_Sv ret rm) {i : Nat} (t : pj_T i = 8) (hdg : decode cc pc = .ok (.getfield 55, 3)) (hp : pc + 3 = pc') (kk : pj_J g (pj_N g b u) pc' vs (.int (u i 1) :: st)) : pj_J g (pj_N g b u) pc vs (.ref (b + i) :: st) :=
  pj_get C cl_Server hin_Server (k := 1) (Nat.le_of_ble_eq_true rfl) wm_330 (Or.inl rfl) (pj_lt t (by decide)) (fun E => ko_8 t) rfl hdg hp kk
theorem fg_Server_113_Datagram {g : pj_G} {b : Nat} {cc : ByteArray} {nL : Nat} {ret : Option FieldType} {rm : Room} {u : pj_M} {pc pc' : Nat} {vs : List (Option Value)} {st : List Value} (C : pj_X g cc nL R_Sv ret rm) {i : Nat} (t : pj_T i = 5) (hdg : decode cc pc = .ok (.getfield 113, 3)) (hp : pc + 3 = pc') (kk : pj_J g (pj_N g b u) pc' vs (.int (u i 5) :: st)) : pj_J g (pj_N g b u) pc vs (.ref (b + i) :: st) :=
  pj_get C cl_Datagram hin_Datagram (k := 5) (Nat.le_of_ble_eq_true rfl) wm_278 (Or.inl rfl) (pj_lt t (by decide)) (fun E => ko_5 t) rfl hdg hp kk
theorem ck_Server_104_Datagram {g : pj_G} {b : Nat} {cc : ByteArray} {nL : Nat} {ret : Option FieldType} {rm : Room} {u : pj_M} {pc pc' : Nat} {vs : List (Option Value)} {st : List Value} (C : pj_X g cc nL R_Sv ret rm) {i0 : Nat} {i1 : Nat} {K : Int32 → pj_M → Prop} (t0 : pj_T i0 = 5) (t1 : pj_R i1) (h : pw_Da_read u i0 i1 K) (hdg : decode cc pc = .ok (.invokevirtual 104, 3)) (hp : pc + 3 = pc') (hR : rm_Da_read.frames + 1 ≤ rm.frames ∧ 8 + (2 + 11) + rm_Da_read.locals ≤ rm.locals) (h8 : (st.map fun v => v.category).sum ≤ 8) (kk : ∀ r u', K r u' → pj_J g (pj_N g b u') pc' vs (.int r :: st)) : pj_J g (pj_N g b u) pc vs (.ref (b + i1) :: .ref (b + i0) :: st) :=
  pj_callV C (As := [.ref (b + i1)]) (fun l D E => pc_Da_read l D E t0 t1 h) rfl rfl cl_Datagram (pj_lt t0 (by decide)) (fun E => ko_5 t0) wm_877 wm_878 wm_879 wm_98 wm_880 (by decide +kernel) (n := 1) rfl hR rfl h8 hdg hp (fun v u' hq => by obtain ⟨r, rfl, hk⟩ := hq; exact kk r u' hk)
theorem ck_Server_107_Datagram {g : pj_G} {b : Nat} {cc : ByteArray} {nL : Nat} {ret : Option FieldType} {rm : Room} {u : pj_M} {pc pc' : Nat} {vs : List (Option Value)} {st : List Value} (C : pj_X g cc nL R_Sv ret rm) {i0 : Nat} {K : Int32 → pj_M → Prop} (t0 : pj_T i0 = 5) (h : pw_Da_code u i0 K) (hdg : decode cc pc = .ok (.invokevirtual 107, 3)) (hp : pc + 3 = pc') (hR : rm_Da_code.frames + 1 ≤ rm.frames ∧ 8 + (1 + 11) + rm_Da_code.locals ≤ rm.locals) (h8 : (st.map fun v => v.category).sum ≤ 8) (kk : ∀ r u', K r u' → pj_J g (pj_N g b u') pc' vs (.int r :: st)) : pj_J g (pj_N g b u) pc vs (.ref (b + i0) :: st) :=
  pj_callV C (As := []) (fun l D E => pc_Da_code l D E t0 h) rfl rfl cl_Datagram (pj_lt t0 (by decide)) (fun E => ko_5 t0) wm_895 wm_896 wm_897 wm_98 wm_898 (by decide +kernel) (n := 0) rfl hR rfl h8 hdg hp (fun v u' hq => by obtain ⟨r, rfl, hk⟩ := hq; exact kk r u' hk)
theorem ck_Server_116_Datagram {g : pj_G} {b : Nat} {cc : ByteArray} {nL : Nat} {ret : Option FieldType} {rm : Room} {u : pj_M} {pc pc' : Nat} {vs : List (Option Value)} {st : List Value} (C : pj_X g cc nL R_Sv ret rm) {i0 : Nat} {x1 : Int32} {x2 : Int32} {K : Int32 → pj_M → Prop} (t0 : pj_T i0 = 5) (h : pw_Da_isSealed u i0 x1 x2 K) (hdg : decode cc pc = .ok (.invokevirtual 116, 3)) (hp : pc + 3 = pc') (hR : rm_Da_isSealed.frames + 1 ≤ rm.frames ∧ 8 + (4 + 11) + rm_Da_isSealed.locals ≤ rm.locals) (h8 : (st.map fun v => v.category).sum ≤ 8) (kk : ∀ r u', K r u' → pj_J g (pj_N g b u') pc' vs (.int r :: st)) : pj_J g (pj_N g b u) pc vs (.int x2 :: .int x1 :: .ref (b + i0) :: st) :=
  pj_callV C (As := [.int x1, .int x2]) (fun l D E => pc_Da_isSealed l D E t0 h) rfl rfl cl_Datagram (pj_lt t0 (by decide)) (fun E => ko_5 t0) wm_899 wm_900 wm_901 wm_98 wm_902 (by decide +kernel) (n := 2) rfl hR rfl h8 hdg hp (fun v u' hq => by obtain ⟨r, rfl, hk⟩ := hq; exact kk r u' hk)
def rm_Sv_accepts : Room := { frames := 4, cells := 0, slots := 0, locals := 102 }
def pb_Sv_accepts_58  (K : Int32 → pj_M → Prop) (u : pj_M) (s0 : Int32) : Prop := pj_bi s0 ∧ K s0 u
set_option maxHeartbeats 1000000 in
theorem pt_Sv_accepts_58 {g : pj_G} {b : Nat} (C : pj_X g c_Sv_accepts 2 R_Sv (some .boolean) rm_Sv_accepts) {K : Int32 → pj_M → Prop} (hE : pj_E g b (pj_Ki K))   {u : pj_M} {s0 : Int32}   (h : pb_Sv_accepts_58  K u s0) : pj_J g (pj_N g b u) 58 [none, none] [.int s0] := by
  unfold pb_Sv_accepts_58 at h
  exact pj_zret C hE d_Sv_accepts_58 h.1 ⟨_, rfl, h.2⟩
def pb_Sv_accepts_57  (K : Int32 → pj_M → Prop) (u : pj_M)  : Prop := pb_Sv_accepts_58  K u 0
set_option maxHeartbeats 1000000 in
theorem pt_Sv_accepts_57 {g : pj_G} {b : Nat} (C : pj_X g c_Sv_accepts 2 R_Sv (some .boolean) rm_Sv_accepts) {K : Int32 → pj_M → Prop} (hE : pj_E g b (pj_Ki K))   {u : pj_M}    (h : pb_Sv_accepts_57  K u ) : pj_J g (pj_N g b u) 57 [none, none] [] := by
  unfold pb_Sv_accepts_57 at h
  refine pj_iconst C d_Sv_accepts_57 (pc' := 58) rfl (v := 0) (by decide) ?_
  exact pj_cut (pj_le_n (pj_le_n pj_le_e)) (pt_Sv_accepts_58 C hE   h)
def pb_Sv_accepts_53  (K : Int32 → pj_M → Prop) (u : pj_M)  : Prop := pb_Sv_accepts_58  K u 1
set_option maxHeartbeats 1000000 in
theorem pt_Sv_accepts_53 {g : pj_G} {b : Nat} (C : pj_X g c_Sv_accepts 2 R_Sv (some .boolean) rm_Sv_accepts) {K : Int32 → pj_M → Prop} (hE : pj_E g b (pj_Ki K))   {u : pj_M}    (h : pb_Sv_accepts_53  K u ) : pj_J g (pj_N g b u) 53 [none, none] [] := by
  unfold pb_Sv_accepts_53 at h
  refine pj_iconst C d_Sv_accepts_53 (pc' := 54) rfl (v := 1) (by decide) ?_
  refine pj_goto C d_Sv_accepts_54 (tgt := 58) (by decide) ?_
  exact pj_cut (pj_le_n (pj_le_n pj_le_e)) (pt_Sv_accepts_58 C hE   h)
def pb_Sv_accepts_32  (K : Int32 → pj_M → Prop) (u : pj_M) (i0 : Nat) : Prop := pw_Da_isSealed u (i0 + 5) (u i0 1) (u (i0 + 5) 5) fun r2 u1 => (((r2 = 0) → (pb_Sv_accepts_57  K u1 )) ∧ (¬ (r2 = 0) → (pb_Sv_accepts_53  K u1 )))
set_option maxHeartbeats 1000000 in
theorem pt_Sv_accepts_32 {g : pj_G} {b : Nat} (C : pj_X g c_Sv_accepts 2 R_Sv (some .boolean) rm_Sv_accepts) {K : Int32 → pj_M → Prop} (hE : pj_E g b (pj_Ki K))   {u : pj_M} {i0 : Nat}  (t0 : pj_T i0 = 8) (h : pb_Sv_accepts_32  K u i0) : pj_J g (pj_N g b u) 32 [some (.ref (b + i0)), none] [] := by
  unfold pb_Sv_accepts_32 at h
  refine pj_aload_n C d_Sv_accepts_32 (pc' := 33) (i := 0) (x := b + i0) rfl rfl rfl ?_
  refine fg_Server_33_Server C t0 d_Sv_accepts_33 (pc' := 36) rfl ?_
  refine pj_aload_n C d_Sv_accepts_36 (pc' := 37) (i := 0) (x := b + i0) rfl rfl rfl ?_
  refine fg_Server_55_Server C t0 d_Sv_accepts_37 (pc' := 40) rfl ?_
  refine pj_aload_n C d_Sv_accepts_40 (pc' := 41) (i := 0) (x := b + i0) rfl rfl rfl ?_
  refine fg_Server_33_Server C t0 d_Sv_accepts_41 (pc' := 44) rfl ?_
  refine fg_Server_113_Datagram C (pl_Server_request t0) d_Sv_accepts_44 (pc' := 47) rfl ?_
  refine ck_Server_116_Datagram C (pl_Server_request t0) h d_Sv_accepts_47 (pc' := 50) rfl ⟨Nat.le_of_ble_eq_true rfl, Nat.le_of_ble_eq_true rfl⟩ (Nat.le_of_ble_eq_true rfl) (fun r2 u1 h => ?_)
  refine pj_if_eq C d_Sv_accepts_50 (pc' := 53) rfl (tgt := 57) (by decide) h (fun h => ?_) (fun h => ?_)
  · exact pj_cut (pj_le_n (pj_le_n pj_le_e)) (pt_Sv_accepts_57 C hE   h)
  · exact pj_cut (pj_le_n (pj_le_n pj_le_e)) (pt_Sv_accepts_53 C hE   h)
def pb_Sv_accepts_22  (K : Int32 → pj_M → Prop) (u : pj_M) (i0 : Nat) : Prop := (((u (i0 + 5) 2) = 0) → (pb_Sv_accepts_57  K u )) ∧ (¬ ((u (i0 + 5) 2) = 0) → (pb_Sv_accepts_32  K u i0))
set_option maxHeartbeats 1000000 in
theorem pt_Sv_accepts_22 {g : pj_G} {b : Nat} (C : pj_X g c_Sv_accepts 2 R_Sv (some .boolean) rm_Sv_accepts) {K : Int32 → pj_M → Prop} (hE : pj_E g b (pj_Ki K))   {u : pj_M} {i0 : Nat}  (t0 : pj_T i0 = 8) (h : pb_Sv_accepts_22  K u i0) : pj_J g (pj_N g b u) 22 [some (.ref (b + i0)), none] [] := by
  unfold pb_Sv_accepts_22 at h
  refine pj_aload_n C d_Sv_accepts_22 (pc' := 23) (i := 0) (x := b + i0) rfl rfl rfl ?_
  refine fg_Server_33_Server C t0 d_Sv_accepts_23 (pc' := 26) rfl ?_
  refine fg_Server_110_Datagram C (pl_Server_request t0) d_Sv_accepts_26 (pc' := 29) rfl ?_
  refine pj_if_eq C d_Sv_accepts_29 (pc' := 32) rfl (tgt := 57) (by decide) h (fun h => ?_) (fun h => ?_)
  · exact pj_cut (pj_le_n (pj_le_n pj_le_e)) (pt_Sv_accepts_57 C hE   h)
  · exact pj_cut (pj_le_s (pj_le_n pj_le_e)) (pt_Sv_accepts_32 C hE  t0 h)
def pb_Sv_accepts_11  (K : Int32 → pj_M → Prop) (u : pj_M) (i0 : Nat) : Prop := pw_Da_code u (i0 + 5) fun r2 u1 => (((r2 = 1) → (pb_Sv_accepts_22  K u1 i0)) ∧ (¬ (r2 = 1) → (pb_Sv_accepts_57  K u1 )))
set_option maxHeartbeats 1000000 in
theorem pt_Sv_accepts_11 {g : pj_G} {b : Nat} (C : pj_X g c_Sv_accepts 2 R_Sv (some .boolean) rm_Sv_accepts) {K : Int32 → pj_M → Prop} (hE : pj_E g b (pj_Ki K))   {u : pj_M} {i0 : Nat}  (t0 : pj_T i0 = 8) (h : pb_Sv_accepts_11  K u i0) : pj_J g (pj_N g b u) 11 [some (.ref (b + i0)), none] [] := by
  unfold pb_Sv_accepts_11 at h
  refine pj_aload_n C d_Sv_accepts_11 (pc' := 12) (i := 0) (x := b + i0) rfl rfl rfl ?_
  refine fg_Server_33_Server C t0 d_Sv_accepts_12 (pc' := 15) rfl ?_
  refine ck_Server_107_Datagram C (pl_Server_request t0) h d_Sv_accepts_15 (pc' := 18) rfl ⟨Nat.le_of_ble_eq_true rfl, Nat.le_of_ble_eq_true rfl⟩ (Nat.le_of_ble_eq_true rfl) (fun r2 u1 h => ?_)
  refine pj_iconst C d_Sv_accepts_18 (pc' := 19) rfl (v := 1) (by decide) ?_
  refine pj_icmp_ne C d_Sv_accepts_19 (pc' := 22) rfl (tgt := 57) (by decide) h (fun h => ?_) (fun h => ?_)
  · exact pj_cut (pj_le_n (pj_le_n pj_le_e)) (pt_Sv_accepts_57 C hE   h)
  · exact pj_cut (pj_le_s (pj_le_n pj_le_e)) (pt_Sv_accepts_22 C hE  t0 h)
def pb_Sv_accepts_0  (K : Int32 → pj_M → Prop) (u : pj_M) (i0 : Nat) (i1 : Nat) : Prop := pw_Da_read u (i0 + 5) i1 fun r2 u1 => (((r2 = 0) → (pb_Sv_accepts_57  K u1 )) ∧ (¬ (r2 = 0) → (pb_Sv_accepts_11  K u1 i0)))
set_option maxHeartbeats 1000000 in
theorem pt_Sv_accepts_0 {g : pj_G} {b : Nat} (C : pj_X g c_Sv_accepts 2 R_Sv (some .boolean) rm_Sv_accepts) {K : Int32 → pj_M → Prop} (hE : pj_E g b (pj_Ki K))   {u : pj_M} {i0 : Nat} {i1 : Nat}  (t0 : pj_T i0 = 8) (t1 : pj_R i1) (h : pb_Sv_accepts_0  K u i0 i1) : pj_J g (pj_N g b u) 0 [some (.ref (b + i0)), some (.ref (b + i1))] [] := by
  unfold pb_Sv_accepts_0 at h
  refine pj_aload_n C d_Sv_accepts_0 (pc' := 1) (i := 0) (x := b + i0) rfl rfl rfl ?_
  refine fg_Server_33_Server C t0 d_Sv_accepts_1 (pc' := 4) rfl ?_
  refine pj_aload_n C d_Sv_accepts_4 (pc' := 5) (i := 1) (x := b + i1) rfl rfl rfl ?_
  refine ck_Server_104_Datagram C (pl_Server_request t0) t1 h d_Sv_accepts_5 (pc' := 8) rfl ⟨Nat.le_of_ble_eq_true rfl, Nat.le_of_ble_eq_true rfl⟩ (Nat.le_of_ble_eq_true rfl) (fun r2 u1 h => ?_)
  refine pj_if_eq C d_Sv_accepts_8 (pc' := 11) rfl (tgt := 57) (by decide) h (fun h => ?_) (fun h => ?_)
  · exact pj_cut (pj_le_n (pj_le_n pj_le_e)) (pt_Sv_accepts_57 C hE   h)
  · exact pj_cut (pj_le_s (pj_le_n pj_le_e)) (pt_Sv_accepts_11 C hE  t0 h)
def pw_Sv_accepts (u : pj_M) (i0 : Nat) (i1 : Nat) (K : Int32 → pj_M → Prop) : Prop := pb_Sv_accepts_0  K u i0 i1
theorem pc_Sv_accepts (l : Launch) (D : va_G) (E : Nat → ClassId) {b : Nat} {u : pj_M} {i0 : Nat} {i1 : Nat} {K : Int32 → pj_M → Prop} (t0 : pj_T i0 = 8) (t1 : pj_R i1) (h : pw_Sv_accepts u i0 i1 K) : pj_C l y_Sv_accepts c_Sv_accepts 2 (some .boolean) rm_Sv_accepts D E b [.ref (b + i0), .ref (b + i1)] u (pj_Ki K) := by
  refine pj_met (own := R_Sv) (by decide +kernel) rfl (Nat.le_of_ble_eq_true rfl) (fun g hE C => ?_)
  unfold pw_Sv_accepts at h
  show pj_J g (pj_N g b u) 0 [some (.ref (b + i0)), some (.ref (b + i1))] []
  exact pj_cut (pj_le_s (pj_le_s pj_le_e)) (pt_Sv_accepts_0 C hE  t0 t1 h)
/-! Server.slotOfRequest()I -/
theorem fg_Server_71_Server {g : pj_G} {b : Nat} {cc : ByteArray} {nL : Nat} {ret : Option FieldType} {rm : Room} {u : pj_M} {pc pc' : Nat} {vs : List (Option Value)} {st : List Value} (C : pj_X g cc nL R_Sv ret rm) {i : Nat} (t : pj_T i = 8) (hdg : decode cc pc = .ok (.getfield 71, 3)) (hp : pc + 3 = pc') (kk : pj_J g (pj_N g b u) pc' vs (.int (u i 17) :: st)) : pj_J g (pj_N g b u) pc vs (.ref (b + i) :: st) :=
  pj_get C cl_Server hin_Server (k := 17) (Nat.le_of_ble_eq_true rfl) wm_347 (Or.inl rfl) (pj_lt t (by decide)) (fun E => ko_8 t) rfl hdg hp kk
theorem fg_Server_17_Server {g : pj_G} {b : Nat} {cc : ByteArray} {nL : Nat} {ret : Option FieldType} {rm : Room} {u : pj_M} {pc pc' : Nat} {vs : List (Option Value)} {st : List Value} (C : pj_X g cc nL R_Sv ret rm) {i : Nat} (t : pj_T i = 8) (hdg : decode cc pc = .ok (.getfield 17, 3)) (hp : pc + 3 = pc') (kk : pj_J g (pj_N g b u) pc' vs (.ref (b + (i + 2)) :: st)) : pj_J g (pj_N g b u) pc vs (.ref (b + i) :: st) :=
  pj_get C cl_Server hin_Server (k := 5) (Nat.le_of_ble_eq_true rfl) wm_334 (Or.inl rfl) (pj_lt t (by decide)) (fun E => ko_8 t) rfl hdg hp kk
theorem fg_Server_21_Server {g : pj_G} {b : Nat} {cc : ByteArray} {nL : Nat} {ret : Option FieldType} {rm : Room} {u : pj_M} {pc pc' : Nat} {vs : List (Option Value)} {st : List Value} (C : pj_X g cc nL R_Sv ret rm) {i : Nat} (t : pj_T i = 8) (hdg : decode cc pc = .ok (.getfield 21, 3)) (hp : pc + 3 = pc') (kk : pj_J g (pj_N g b u) pc' vs (.ref (b + (i + 3)) :: st)) : pj_J g (pj_N g b u) pc vs (.ref (b + i) :: st) :=
  pj_get C cl_Server hin_Server (k := 6) (Nat.le_of_ble_eq_true rfl) wm_335 (Or.inl rfl) (pj_lt t (by decide)) (fun E => ko_8 t) rfl hdg hp kk
theorem ck_Server_120_Datagram {g : pj_G} {b : Nat} {cc : ByteArray} {nL : Nat} {ret : Option FieldType} {rm : Room} {u : pj_M} {pc pc' : Nat} {vs : List (Option Value)} {st : List Value} (C : pj_X g cc nL R_Sv ret rm) {i0 : Nat} {K : Int32 → pj_M → Prop} (t0 : pj_T i0 = 5) (h : pw_Da_id u i0 K) (hdg : decode cc pc = .ok (.invokevirtual 120, 3)) (hp : pc + 3 = pc') (hR : rm_Da_id.frames + 1 ≤ rm.frames ∧ 8 + (1 + 11) + rm_Da_id.locals ≤ rm.locals) (h8 : (st.map fun v => v.category).sum ≤ 8) (kk : ∀ r u', K r u' → pj_J g (pj_N g b u') pc' vs (.int r :: st)) : pj_J g (pj_N g b u) pc vs (.ref (b + i0) :: st) :=
  pj_callV C (As := []) (fun l D E => pc_Da_id l D E t0 h) rfl rfl cl_Datagram (pj_lt t0 (by decide)) (fun E => ko_5 t0) wm_907 wm_908 wm_909 wm_98 wm_910 (by decide +kernel) (n := 0) rfl hR rfl h8 hdg hp (fun v u' hq => by obtain ⟨r, rfl, hk⟩ := hq; exact kk r u' hk)
def rm_Sv_slotOfRequest : Room := { frames := 2, cells := 0, slots := 0, locals := 41 }
def pb_Sv_slotOfRequest_50  (K : Int32 → pj_M → Prop) (u : pj_M)  : Prop := K ((-1)) u
set_option maxHeartbeats 1000000 in
theorem pt_Sv_slotOfRequest_50 {g : pj_G} {b : Nat} (C : pj_X g c_Sv_slotOfRequest 2 R_Sv (some .int) rm_Sv_slotOfRequest) {K : Int32 → pj_M → Prop} (hE : pj_E g b (pj_Ki K))   {u : pj_M}    (h : pb_Sv_slotOfRequest_50  K u ) : pj_J g (pj_N g b u) 50 [none, none] [] := by
  unfold pb_Sv_slotOfRequest_50 at h
  refine pj_iconst C d_Sv_slotOfRequest_50 (pc' := 51) rfl (v := (-1)) (by decide) ?_
  exact pj_iret C hE d_Sv_slotOfRequest_51 ⟨_, rfl, h⟩
def pb_Sv_slotOfRequest_44 (R2 : pj_M → Int32 → Prop) (K : Int32 → pj_M → Prop) (u : pj_M) (i0 : Nat) (x1 : Int32) : Prop := R2 u (x1 + 1)
set_option maxHeartbeats 1000000 in
theorem pt_Sv_slotOfRequest_44 {g : pj_G} {b : Nat} (C : pj_X g c_Sv_slotOfRequest 2 R_Sv (some .int) rm_Sv_slotOfRequest) {K : Int32 → pj_M → Prop} (hE : pj_E g b (pj_Ki K)) {R2 : pj_M → Int32 → Prop}  {u : pj_M} {i0 : Nat} {x1 : Int32} (hR2 : ∀ (u : pj_M) (x1 : Int32), R2 u x1 → pj_J g (pj_N g b u) 2 [some (.ref (b + i0)), some (.int x1)] []) (t0 : pj_T i0 = 8) (h : pb_Sv_slotOfRequest_44 R2 K u i0 x1) : pj_J g (pj_N g b u) 44 [some (.ref (b + i0)), some (.int x1)] [] := by
  unfold pb_Sv_slotOfRequest_44 at h
  refine pj_iinc C d_Sv_slotOfRequest_44 (pc' := 47) (x := x1) (d := 1) (vs' := [some (.ref (b + i0)), some (.int (x1 + 1))]) rfl rfl (Nat.le_of_ble_eq_true rfl) rfl (by decide) rfl ?_
  refine pj_goto C d_Sv_slotOfRequest_47 (tgt := 2) (by decide) ?_
  exact pj_cut (pj_le_s (pj_le_s pj_le_e)) (hR2 _ _ h)
def pb_Sv_slotOfRequest_42  (K : Int32 → pj_M → Prop) (u : pj_M) (x1 : Int32) : Prop := K x1 u
set_option maxHeartbeats 1000000 in
theorem pt_Sv_slotOfRequest_42 {g : pj_G} {b : Nat} (C : pj_X g c_Sv_slotOfRequest 2 R_Sv (some .int) rm_Sv_slotOfRequest) {K : Int32 → pj_M → Prop} (hE : pj_E g b (pj_Ki K))   {u : pj_M} {x1 : Int32}   (h : pb_Sv_slotOfRequest_42  K u x1) : pj_J g (pj_N g b u) 42 [none, some (.int x1)] [] := by
  unfold pb_Sv_slotOfRequest_42 at h
  refine pj_iload_n C d_Sv_slotOfRequest_42 (pc' := 43) (i := 1) (x := x1) rfl rfl rfl ?_
  exact pj_iret C hE d_Sv_slotOfRequest_43 ⟨_, rfl, h⟩
def pb_Sv_slotOfRequest_26 (R2 : pj_M → Int32 → Prop) (K : Int32 → pj_M → Prop) (u : pj_M) (i0 : Nat) (x1 : Int32) : Prop := vp_in x1 4 ∧ ((((u (i0 + 3) x1.toNatClampNeg) = (u (i0 + 5) 5)) → (pb_Sv_slotOfRequest_42  K u x1)) ∧ (¬ ((u (i0 + 3) x1.toNatClampNeg) = (u (i0 + 5) 5)) → (pb_Sv_slotOfRequest_44 R2 K u i0 x1)))
set_option maxHeartbeats 1000000 in
theorem pt_Sv_slotOfRequest_26 {g : pj_G} {b : Nat} (C : pj_X g c_Sv_slotOfRequest 2 R_Sv (some .int) rm_Sv_slotOfRequest) {K : Int32 → pj_M → Prop} (hE : pj_E g b (pj_Ki K)) {R2 : pj_M → Int32 → Prop}  {u : pj_M} {i0 : Nat} {x1 : Int32} (hR2 : ∀ (u : pj_M) (x1 : Int32), R2 u x1 → pj_J g (pj_N g b u) 2 [some (.ref (b + i0)), some (.int x1)] []) (t0 : pj_T i0 = 8) (h : pb_Sv_slotOfRequest_26 R2 K u i0 x1) : pj_J g (pj_N g b u) 26 [some (.ref (b + i0)), some (.int x1)] [] := by
  unfold pb_Sv_slotOfRequest_26 at h
  refine pj_aload_n C d_Sv_slotOfRequest_26 (pc' := 27) (i := 0) (x := b + i0) rfl rfl rfl ?_
  refine fg_Server_21_Server C t0 d_Sv_slotOfRequest_27 (pc' := 30) rfl ?_
  refine pj_iload_n C d_Sv_slotOfRequest_30 (pc' := 31) (i := 1) (x := x1) rfl rfl rfl ?_
  refine pj_iald C (pj_lt (pl_Server_answeredAuthenticators t0) (by decide)) (fun E u => ka_23 (pl_Server_answeredAuthenticators t0)) d_Sv_slotOfRequest_31 (pc' := 32) rfl h (fun h => ?_)
  refine pj_aload_n C d_Sv_slotOfRequest_32 (pc' := 33) (i := 0) (x := b + i0) rfl rfl rfl ?_
  refine fg_Server_33_Server C t0 d_Sv_slotOfRequest_33 (pc' := 36) rfl ?_
  refine fg_Server_113_Datagram C (pl_Server_request t0) d_Sv_slotOfRequest_36 (pc' := 39) rfl ?_
  refine pj_icmp_ne C d_Sv_slotOfRequest_39 (pc' := 42) rfl (tgt := 44) (by decide) h (fun h => ?_) (fun h => ?_)
  · exact pj_cut (pj_le_s (pj_le_s pj_le_e)) (pt_Sv_slotOfRequest_44 C hE hR2 t0 h)
  · exact pj_cut (pj_le_n (pj_le_s pj_le_e)) (pt_Sv_slotOfRequest_42 C hE   h)
def pb_Sv_slotOfRequest_10 (R2 : pj_M → Int32 → Prop) (K : Int32 → pj_M → Prop) (u : pj_M) (i0 : Nat) (x1 : Int32) : Prop := vp_in x1 4 ∧ (pw_Da_id u (i0 + 5) fun r2 u1 => ((((u (i0 + 2) x1.toNatClampNeg) = r2) → (pb_Sv_slotOfRequest_26 R2 K u1 i0 x1)) ∧ (¬ ((u (i0 + 2) x1.toNatClampNeg) = r2) → (pb_Sv_slotOfRequest_44 R2 K u1 i0 x1))))
set_option maxHeartbeats 1000000 in
theorem pt_Sv_slotOfRequest_10 {g : pj_G} {b : Nat} (C : pj_X g c_Sv_slotOfRequest 2 R_Sv (some .int) rm_Sv_slotOfRequest) {K : Int32 → pj_M → Prop} (hE : pj_E g b (pj_Ki K)) {R2 : pj_M → Int32 → Prop}  {u : pj_M} {i0 : Nat} {x1 : Int32} (hR2 : ∀ (u : pj_M) (x1 : Int32), R2 u x1 → pj_J g (pj_N g b u) 2 [some (.ref (b + i0)), some (.int x1)] []) (t0 : pj_T i0 = 8) (h : pb_Sv_slotOfRequest_10 R2 K u i0 x1) : pj_J g (pj_N g b u) 10 [some (.ref (b + i0)), some (.int x1)] [] := by
  unfold pb_Sv_slotOfRequest_10 at h
  refine pj_aload_n C d_Sv_slotOfRequest_10 (pc' := 11) (i := 0) (x := b + i0) rfl rfl rfl ?_
  refine fg_Server_17_Server C t0 d_Sv_slotOfRequest_11 (pc' := 14) rfl ?_
  refine pj_iload_n C d_Sv_slotOfRequest_14 (pc' := 15) (i := 1) (x := x1) rfl rfl rfl ?_
  refine pj_iald C (pj_lt (pl_Server_answeredIds t0) (by decide)) (fun E u => ka_23 (pl_Server_answeredIds t0)) d_Sv_slotOfRequest_15 (pc' := 16) rfl h (fun h => ?_)
  refine pj_aload_n C d_Sv_slotOfRequest_16 (pc' := 17) (i := 0) (x := b + i0) rfl rfl rfl ?_
  refine fg_Server_33_Server C t0 d_Sv_slotOfRequest_17 (pc' := 20) rfl ?_
  refine ck_Server_120_Datagram C (pl_Server_request t0) h d_Sv_slotOfRequest_20 (pc' := 23) rfl ⟨Nat.le_of_ble_eq_true rfl, Nat.le_of_ble_eq_true rfl⟩ (Nat.le_of_ble_eq_true rfl) (fun r2 u1 h => ?_)
  refine pj_icmp_ne C d_Sv_slotOfRequest_23 (pc' := 26) rfl (tgt := 44) (by decide) h (fun h => ?_) (fun h => ?_)
  · exact pj_cut (pj_le_s (pj_le_s pj_le_e)) (pt_Sv_slotOfRequest_44 C hE hR2 t0 h)
  · exact pj_cut (pj_le_s (pj_le_s pj_le_e)) (pt_Sv_slotOfRequest_26 C hE hR2 t0 h)
def pb_Sv_slotOfRequest_2b (R2 : pj_M → Int32 → Prop) (K : Int32 → pj_M → Prop) (u : pj_M) (i0 : Nat) (x1 : Int32) : Prop := (((u i0 17) ≤ x1) → (pb_Sv_slotOfRequest_50  K u )) ∧ (¬ ((u i0 17) ≤ x1) → (pb_Sv_slotOfRequest_10 R2 K u i0 x1))
set_option maxHeartbeats 1000000 in
theorem pt_Sv_slotOfRequest_2b {g : pj_G} {b : Nat} (C : pj_X g c_Sv_slotOfRequest 2 R_Sv (some .int) rm_Sv_slotOfRequest) {K : Int32 → pj_M → Prop} (hE : pj_E g b (pj_Ki K)) {R2 : pj_M → Int32 → Prop}  {u : pj_M} {i0 : Nat} {x1 : Int32} (hR2 : ∀ (u : pj_M) (x1 : Int32), R2 u x1 → pj_J g (pj_N g b u) 2 [some (.ref (b + i0)), some (.int x1)] []) (t0 : pj_T i0 = 8) (h : pb_Sv_slotOfRequest_2b R2 K u i0 x1) : pj_J g (pj_N g b u) 2 [some (.ref (b + i0)), some (.int x1)] [] := by
  unfold pb_Sv_slotOfRequest_2b at h
  refine pj_iload_n C d_Sv_slotOfRequest_2 (pc' := 3) (i := 1) (x := x1) rfl rfl rfl ?_
  refine pj_aload_n C d_Sv_slotOfRequest_3 (pc' := 4) (i := 0) (x := b + i0) rfl rfl rfl ?_
  refine fg_Server_71_Server C t0 d_Sv_slotOfRequest_4 (pc' := 7) rfl ?_
  refine pj_icmp_ge C d_Sv_slotOfRequest_7 (pc' := 10) rfl (tgt := 50) (by decide) h (fun h => ?_) (fun h => ?_)
  · exact pj_cut (pj_le_n (pj_le_n pj_le_e)) (pt_Sv_slotOfRequest_50 C hE   h)
  · exact pj_cut (pj_le_s (pj_le_s pj_le_e)) (pt_Sv_slotOfRequest_10 C hE hR2 t0 h)
def pb_Sv_slotOfRequest_2  (K : Int32 → pj_M → Prop) (i0 : Nat) : Nat → pj_M → Int32 → Prop
  | 0 => fun _ _ => False
  | n + 1 => fun u x1 => pb_Sv_slotOfRequest_2b (pb_Sv_slotOfRequest_2  K i0 n) K u i0 x1
theorem pt_Sv_slotOfRequest_2 {g : pj_G} {b : Nat} (C : pj_X g c_Sv_slotOfRequest 2 R_Sv (some .int) rm_Sv_slotOfRequest) {K : Int32 → pj_M → Prop} (hE : pj_E g b (pj_Ki K))  {i0 : Nat}  (t0 : pj_T i0 = 8) : ∀ (n : Nat) (u : pj_M) (x1 : Int32), pb_Sv_slotOfRequest_2  K i0 n u x1 → pj_J g (pj_N g b u) 2 [some (.ref (b + i0)), some (.int x1)] [] := by
  intro n
  induction n with
  | zero => intro u x1 h; exact False.elim h
  | succ n ih =>
    intro u x1 h
    exact (pt_Sv_slotOfRequest_2b C hE ih t0 h)
def pb_Sv_slotOfRequest_0  (K : Int32 → pj_M → Prop) (u : pj_M) (i0 : Nat) : Prop := ∃ n, pb_Sv_slotOfRequest_2  K i0 n u 0
set_option maxHeartbeats 1000000 in
theorem pt_Sv_slotOfRequest_0 {g : pj_G} {b : Nat} (C : pj_X g c_Sv_slotOfRequest 2 R_Sv (some .int) rm_Sv_slotOfRequest) {K : Int32 → pj_M → Prop} (hE : pj_E g b (pj_Ki K))   {u : pj_M} {i0 : Nat}  (t0 : pj_T i0 = 8) (h : pb_Sv_slotOfRequest_0  K u i0) : pj_J g (pj_N g b u) 0 [some (.ref (b + i0)), none] [] := by
  unfold pb_Sv_slotOfRequest_0 at h
  refine pj_iconst C d_Sv_slotOfRequest_0 (pc' := 1) rfl (v := 0) (by decide) ?_
  refine pj_istore_n C d_Sv_slotOfRequest_1 (pc' := 2) (i := 1) (vs' := [some (.ref (b + i0)), some (.int 0)]) rfl rfl (Nat.le_of_ble_eq_true rfl) (Nat.le_of_ble_eq_true rfl) rfl rfl ?_
  obtain ⟨n, h⟩ := h
  exact pj_cut (pj_le_s (pj_le_s pj_le_e)) (pt_Sv_slotOfRequest_2 C hE  t0 n _ _ h)
def pw_Sv_slotOfRequest (u : pj_M) (i0 : Nat) (K : Int32 → pj_M → Prop) : Prop := pb_Sv_slotOfRequest_0  K u i0
theorem pc_Sv_slotOfRequest (l : Launch) (D : va_G) (E : Nat → ClassId) {b : Nat} {u : pj_M} {i0 : Nat} {K : Int32 → pj_M → Prop} (t0 : pj_T i0 = 8) (h : pw_Sv_slotOfRequest u i0 K) : pj_C l y_Sv_slotOfRequest c_Sv_slotOfRequest 2 (some .int) rm_Sv_slotOfRequest D E b [.ref (b + i0)] u (pj_Ki K) := by
  refine pj_met (own := R_Sv) (by decide +kernel) rfl (Nat.le_of_ble_eq_true rfl) (fun g hE C => ?_)
  unfold pw_Sv_slotOfRequest at h
  show pj_J g (pj_N g b u) 0 [some (.ref (b + i0)), none] []
  exact pj_cut (pj_le_s (pj_le_n pj_le_e)) (pt_Sv_slotOfRequest_0 C hE  t0 h)
/-! Server.sessionNumbered(I)LPortGuard$Session; -/
theorem fg_Server_68_Server {g : pj_G} {b : Nat} {cc : ByteArray} {nL : Nat} {ret : Option FieldType} {rm : Room} {u : pj_M} {pc pc' : Nat} {vs : List (Option Value)} {st : List Value} (C : pj_X g cc nL R_Sv ret rm) {i : Nat} (t : pj_T i = 8) (hdg : decode cc pc = .ok (.getfield 68, 3)) (hp : pc + 3 = pc') (kk : pj_J g (pj_N g b u) pc' vs (.int (u i 14) :: st)) : pj_J g (pj_N g b u) pc vs (.ref (b + i) :: st) :=
  pj_get C cl_Server hin_Server (k := 14) (Nat.le_of_ble_eq_true rfl) wm_344 (Or.inl rfl) (pj_lt t (by decide)) (fun E => ko_8 t) rfl hdg hp kk
theorem fg_Server_13_Server {g : pj_G} {b : Nat} {cc : ByteArray} {nL : Nat} {ret : Option FieldType} {rm : Room} {u : pj_M} {pc pc' : Nat} {vs : List (Option Value)} {st : List Value} (C : pj_X g cc nL R_Sv ret rm) {i : Nat} (t : pj_T i = 8) (hdg : decode cc pc = .ok (.getfield 13, 3)) (hp : pc + 3 = pc') (kk : pj_J g (pj_N g b u) pc' vs (.ref (b + (i + 1)) :: st)) : pj_J g (pj_N g b u) pc vs (.ref (b + i) :: st) :=
  pj_get C cl_Server hin_Server (k := 4) (Nat.le_of_ble_eq_true rfl) wm_333 (Or.inl rfl) (pj_lt t (by decide)) (fun E => ko_8 t) rfl hdg hp kk
theorem fg_Server_178_Session {g : pj_G} {b : Nat} {cc : ByteArray} {nL : Nat} {ret : Option FieldType} {rm : Room} {u : pj_M} {pc pc' : Nat} {vs : List (Option Value)} {st : List Value} (C : pj_X g cc nL R_Sv ret rm) {i : Nat} (t : pj_T i = 7) (hdg : decode cc pc = .ok (.getfield 178, 3)) (hp : pc + 3 = pc') (kk : pj_J g (pj_N g b u) pc' vs (.int (u i 0) :: st)) : pj_J g (pj_N g b u) pc vs (.ref (b + i) :: st) :=
  pj_get C cl_Session hin_Session (k := 0) (Nat.le_of_ble_eq_true rfl) wm_303 (Or.inl rfl) (pj_lt t (by decide)) (fun E => ko_7 t) rfl hdg hp kk
def rm_Sv_sessionNumbered : Room := { frames := 0, cells := 0, slots := 0, locals := 0 }
def pb_Sv_sessionNumbered_36  (K : Option Nat → pj_M → Prop) (u : pj_M)  : Prop := K none u
set_option maxHeartbeats 1000000 in
theorem pt_Sv_sessionNumbered_36 {g : pj_G} {b : Nat} (C : pj_X g c_Sv_sessionNumbered 3 R_Sv (some (.object "PortGuard$Session")) rm_Sv_sessionNumbered) {K : Option Nat → pj_M → Prop} (hE : pj_E g b (pj_Ko b K))   {u : pj_M}    (h : pb_Sv_sessionNumbered_36  K u ) : pj_J g (pj_N g b u) 36 [none, none, none] [] := by
  unfold pb_Sv_sessionNumbered_36 at h
  refine pj_null C d_Sv_sessionNumbered_36 (pc' := 37) rfl ?_
  exact pj_aret C hE d_Sv_sessionNumbered_37 (Or.inl ⟨_, rfl⟩) (Or.inl rfl) ⟨none, rfl, h⟩
def pb_Sv_sessionNumbered_30 (R2 : pj_M → Int32 → Prop) (K : Option Nat → pj_M → Prop) (u : pj_M) (i0 : Nat) (x1 : Int32) (x2 : Int32) : Prop := R2 u (x2 + 1)
set_option maxHeartbeats 1000000 in
theorem pt_Sv_sessionNumbered_30 {g : pj_G} {b : Nat} (C : pj_X g c_Sv_sessionNumbered 3 R_Sv (some (.object "PortGuard$Session")) rm_Sv_sessionNumbered) {K : Option Nat → pj_M → Prop} (hE : pj_E g b (pj_Ko b K)) {R2 : pj_M → Int32 → Prop}  {u : pj_M} {i0 : Nat} {x1 : Int32} {x2 : Int32} (hR2 : ∀ (u : pj_M) (x2 : Int32), R2 u x2 → pj_J g (pj_N g b u) 2 [some (.ref (b + i0)), some (.int x1), some (.int x2)] []) (t0 : pj_T i0 = 8) (h : pb_Sv_sessionNumbered_30 R2 K u i0 x1 x2) : pj_J g (pj_N g b u) 30 [some (.ref (b + i0)), some (.int x1), some (.int x2)] [] := by
  unfold pb_Sv_sessionNumbered_30 at h
  refine pj_iinc C d_Sv_sessionNumbered_30 (pc' := 33) (x := x2) (d := 1) (vs' := [some (.ref (b + i0)), some (.int x1), some (.int (x2 + 1))]) rfl rfl (Nat.le_of_ble_eq_true rfl) rfl (by decide) rfl ?_
  refine pj_goto C d_Sv_sessionNumbered_33 (tgt := 2) (by decide) ?_
  exact pj_cut (pj_le_s (pj_le_s (pj_le_s pj_le_e))) (hR2 _ _ h)
def pb_Sv_sessionNumbered_23  (K : Option Nat → pj_M → Prop) (u : pj_M) (i0 : Nat) (x2 : Int32) : Prop := vp_in x2 4 ∧ pj_let (u (i0 + 1) x2.toNatClampNeg).toNatClampNeg fun i101 => pj_T i101 = 7 ∧ (K (some i101) u)
set_option maxHeartbeats 1000000 in
theorem pt_Sv_sessionNumbered_23 {g : pj_G} {b : Nat} (C : pj_X g c_Sv_sessionNumbered 3 R_Sv (some (.object "PortGuard$Session")) rm_Sv_sessionNumbered) {K : Option Nat → pj_M → Prop} (hE : pj_E g b (pj_Ko b K))   {u : pj_M} {i0 : Nat} {x2 : Int32}  (t0 : pj_T i0 = 8) (h : pb_Sv_sessionNumbered_23  K u i0 x2) : pj_J g (pj_N g b u) 23 [some (.ref (b + i0)), none, some (.int x2)] [] := by
  unfold pb_Sv_sessionNumbered_23 at h
  refine pj_aload_n C d_Sv_sessionNumbered_23 (pc' := 24) (i := 0) (x := b + i0) rfl rfl rfl ?_
  refine fg_Server_13_Server C t0 d_Sv_sessionNumbered_24 (pc' := 27) rfl ?_
  refine pj_iload_n C d_Sv_sessionNumbered_27 (pc' := 28) (i := 2) (x := x2) rfl rfl rfl ?_
  refine pj_aldM C (pj_lt (pl_Server_sessions t0) (by decide)) (fun E u => ka_27 (pl_Server_sessions t0)) (fun E => rfl) d_Sv_sessionNumbered_28 (pc' := 29) rfl h (fun h => ?_)
  refine pj_nameR h (fun i101 h => ?_)
  obtain ⟨ti101, h⟩ := h
  exact pj_aret C hE d_Sv_sessionNumbered_29 (Or.inl ⟨_, rfl⟩) (Or.inr ⟨_, rfl⟩) ⟨some i101, rfl, h⟩
def pb_Sv_sessionNumbered_10 (R2 : pj_M → Int32 → Prop) (K : Option Nat → pj_M → Prop) (u : pj_M) (i0 : Nat) (x1 : Int32) (x2 : Int32) : Prop := vp_in x2 4 ∧ pj_let (u (i0 + 1) x2.toNatClampNeg).toNatClampNeg fun i101 => pj_T i101 = 7 ∧ ((((u i101 0) = x1) → (pb_Sv_sessionNumbered_23  K u i0 x2)) ∧ (¬ ((u i101 0) = x1) → (pb_Sv_sessionNumbered_30 R2 K u i0 x1 x2)))
set_option maxHeartbeats 1000000 in
theorem pt_Sv_sessionNumbered_10 {g : pj_G} {b : Nat} (C : pj_X g c_Sv_sessionNumbered 3 R_Sv (some (.object "PortGuard$Session")) rm_Sv_sessionNumbered) {K : Option Nat → pj_M → Prop} (hE : pj_E g b (pj_Ko b K)) {R2 : pj_M → Int32 → Prop}  {u : pj_M} {i0 : Nat} {x1 : Int32} {x2 : Int32} (hR2 : ∀ (u : pj_M) (x2 : Int32), R2 u x2 → pj_J g (pj_N g b u) 2 [some (.ref (b + i0)), some (.int x1), some (.int x2)] []) (t0 : pj_T i0 = 8) (h : pb_Sv_sessionNumbered_10 R2 K u i0 x1 x2) : pj_J g (pj_N g b u) 10 [some (.ref (b + i0)), some (.int x1), some (.int x2)] [] := by
  unfold pb_Sv_sessionNumbered_10 at h
  refine pj_aload_n C d_Sv_sessionNumbered_10 (pc' := 11) (i := 0) (x := b + i0) rfl rfl rfl ?_
  refine fg_Server_13_Server C t0 d_Sv_sessionNumbered_11 (pc' := 14) rfl ?_
  refine pj_iload_n C d_Sv_sessionNumbered_14 (pc' := 15) (i := 2) (x := x2) rfl rfl rfl ?_
  refine pj_aldM C (pj_lt (pl_Server_sessions t0) (by decide)) (fun E u => ka_27 (pl_Server_sessions t0)) (fun E => rfl) d_Sv_sessionNumbered_15 (pc' := 16) rfl h (fun h => ?_)
  refine pj_nameR h (fun i101 h => ?_)
  obtain ⟨ti101, h⟩ := h
  refine fg_Server_178_Session C ti101 d_Sv_sessionNumbered_16 (pc' := 19) rfl ?_
  refine pj_iload_n C d_Sv_sessionNumbered_19 (pc' := 20) (i := 1) (x := x1) rfl rfl rfl ?_
  refine pj_icmp_ne C d_Sv_sessionNumbered_20 (pc' := 23) rfl (tgt := 30) (by decide) h (fun h => ?_) (fun h => ?_)
  · exact pj_cut (pj_le_s (pj_le_s (pj_le_s pj_le_e))) (pt_Sv_sessionNumbered_30 C hE hR2 t0 h)
  · exact pj_cut (pj_le_s (pj_le_n (pj_le_s pj_le_e))) (pt_Sv_sessionNumbered_23 C hE  t0 h)
def pb_Sv_sessionNumbered_2b (R2 : pj_M → Int32 → Prop) (K : Option Nat → pj_M → Prop) (u : pj_M) (i0 : Nat) (x1 : Int32) (x2 : Int32) : Prop := (((u i0 14) ≤ x2) → (pb_Sv_sessionNumbered_36  K u )) ∧ (¬ ((u i0 14) ≤ x2) → (pb_Sv_sessionNumbered_10 R2 K u i0 x1 x2))
set_option maxHeartbeats 1000000 in
theorem pt_Sv_sessionNumbered_2b {g : pj_G} {b : Nat} (C : pj_X g c_Sv_sessionNumbered 3 R_Sv (some (.object "PortGuard$Session")) rm_Sv_sessionNumbered) {K : Option Nat → pj_M → Prop} (hE : pj_E g b (pj_Ko b K)) {R2 : pj_M → Int32 → Prop}  {u : pj_M} {i0 : Nat} {x1 : Int32} {x2 : Int32} (hR2 : ∀ (u : pj_M) (x2 : Int32), R2 u x2 → pj_J g (pj_N g b u) 2 [some (.ref (b + i0)), some (.int x1), some (.int x2)] []) (t0 : pj_T i0 = 8) (h : pb_Sv_sessionNumbered_2b R2 K u i0 x1 x2) : pj_J g (pj_N g b u) 2 [some (.ref (b + i0)), some (.int x1), some (.int x2)] [] := by
  unfold pb_Sv_sessionNumbered_2b at h
  refine pj_iload_n C d_Sv_sessionNumbered_2 (pc' := 3) (i := 2) (x := x2) rfl rfl rfl ?_
  refine pj_aload_n C d_Sv_sessionNumbered_3 (pc' := 4) (i := 0) (x := b + i0) rfl rfl rfl ?_
  refine fg_Server_68_Server C t0 d_Sv_sessionNumbered_4 (pc' := 7) rfl ?_
  refine pj_icmp_ge C d_Sv_sessionNumbered_7 (pc' := 10) rfl (tgt := 36) (by decide) h (fun h => ?_) (fun h => ?_)
  · exact pj_cut (pj_le_n (pj_le_n (pj_le_n pj_le_e))) (pt_Sv_sessionNumbered_36 C hE   h)
  · exact pj_cut (pj_le_s (pj_le_s (pj_le_s pj_le_e))) (pt_Sv_sessionNumbered_10 C hE hR2 t0 h)
def pb_Sv_sessionNumbered_2  (K : Option Nat → pj_M → Prop) (i0 : Nat) (x1 : Int32) : Nat → pj_M → Int32 → Prop
  | 0 => fun _ _ => False
  | n + 1 => fun u x2 => pb_Sv_sessionNumbered_2b (pb_Sv_sessionNumbered_2  K i0 x1 n) K u i0 x1 x2
theorem pt_Sv_sessionNumbered_2 {g : pj_G} {b : Nat} (C : pj_X g c_Sv_sessionNumbered 3 R_Sv (some (.object "PortGuard$Session")) rm_Sv_sessionNumbered) {K : Option Nat → pj_M → Prop} (hE : pj_E g b (pj_Ko b K))  {i0 : Nat} {x1 : Int32}  (t0 : pj_T i0 = 8) : ∀ (n : Nat) (u : pj_M) (x2 : Int32), pb_Sv_sessionNumbered_2  K i0 x1 n u x2 → pj_J g (pj_N g b u) 2 [some (.ref (b + i0)), some (.int x1), some (.int x2)] [] := by
  intro n
  induction n with
  | zero => intro u x2 h; exact False.elim h
  | succ n ih =>
    intro u x2 h
    exact (pt_Sv_sessionNumbered_2b C hE ih t0 h)
def pb_Sv_sessionNumbered_0  (K : Option Nat → pj_M → Prop) (u : pj_M) (i0 : Nat) (x1 : Int32) : Prop := ∃ n, pb_Sv_sessionNumbered_2  K i0 x1 n u 0
set_option maxHeartbeats 1000000 in
theorem pt_Sv_sessionNumbered_0 {g : pj_G} {b : Nat} (C : pj_X g c_Sv_sessionNumbered 3 R_Sv (some (.object "PortGuard$Session")) rm_Sv_sessionNumbered) {K : Option Nat → pj_M → Prop} (hE : pj_E g b (pj_Ko b K))   {u : pj_M} {i0 : Nat} {x1 : Int32}  (t0 : pj_T i0 = 8) (h : pb_Sv_sessionNumbered_0  K u i0 x1) : pj_J g (pj_N g b u) 0 [some (.ref (b + i0)), some (.int x1), none] [] := by
  unfold pb_Sv_sessionNumbered_0 at h
  refine pj_iconst C d_Sv_sessionNumbered_0 (pc' := 1) rfl (v := 0) (by decide) ?_
  refine pj_istore_n C d_Sv_sessionNumbered_1 (pc' := 2) (i := 2) (vs' := [some (.ref (b + i0)), some (.int x1), some (.int 0)]) rfl rfl (Nat.le_of_ble_eq_true rfl) (Nat.le_of_ble_eq_true rfl) rfl rfl ?_
  obtain ⟨n, h⟩ := h
  exact pj_cut (pj_le_s (pj_le_s (pj_le_s pj_le_e))) (pt_Sv_sessionNumbered_2 C hE  t0 n _ _ h)
def pw_Sv_sessionNumbered (u : pj_M) (i0 : Nat) (x1 : Int32) (K : Option Nat → pj_M → Prop) : Prop := pb_Sv_sessionNumbered_0  K u i0 x1
theorem pc_Sv_sessionNumbered (l : Launch) (D : va_G) (E : Nat → ClassId) {b : Nat} {u : pj_M} {i0 : Nat} {x1 : Int32} {K : Option Nat → pj_M → Prop} (t0 : pj_T i0 = 8) (h : pw_Sv_sessionNumbered u i0 x1 K) : pj_C l y_Sv_sessionNumbered c_Sv_sessionNumbered 3 (some (.object "PortGuard$Session")) rm_Sv_sessionNumbered D E b [.ref (b + i0), .int x1] u (pj_Ko b K) := by
  refine pj_met (own := R_Sv) (by decide +kernel) rfl (Nat.le_of_ble_eq_true rfl) (fun g hE C => ?_)
  unfold pw_Sv_sessionNumbered at h
  show pj_J g (pj_N g b u) 0 [some (.ref (b + i0)), some (.int x1), none] []
  exact pj_cut (pj_le_s (pj_le_s (pj_le_n pj_le_e))) (pt_Sv_sessionNumbered_0 C hE  t0 h)
/-! Server.dropSession(LPortGuard$Session;)V -/
def rm_Sv_dropSession : Room := { frames := 0, cells := 0, slots := 0, locals := 0 }
def pb_Sv_dropSession_90  (K : pj_M → Prop) (u : pj_M)  : Prop := K u
set_option maxHeartbeats 1000000 in
theorem pt_Sv_dropSession_90 {g : pj_G} {b : Nat} (C : pj_X g c_Sv_dropSession 4 R_Sv none rm_Sv_dropSession) {K : pj_M → Prop} (hE : pj_E g b (pj_Kv K))   {u : pj_M}    (h : pb_Sv_dropSession_90  K u ) : pj_J g (pj_N g b u) 90 [none, none, none, none] [] := by
  unfold pb_Sv_dropSession_90 at h
  exact pj_vret C hE d_Sv_dropSession_90 ⟨rfl, h⟩
def pb_Sv_dropSession_70  (K : pj_M → Prop) (u : pj_M) (i0 : Nat) (i1 : Nat) : Prop := pj_put u i0 14 ((u i0 14) - 1) fun u1 => (vp_in (u1 i0 14) 4 ∧ pj_put u1 (i0 + 1) (u1 i0 14).toNatClampNeg (nI i1) fun u2 => (pb_Sv_dropSession_90  K u2 ))
set_option maxHeartbeats 1000000 in
theorem pt_Sv_dropSession_70 {g : pj_G} {b : Nat} (C : pj_X g c_Sv_dropSession 4 R_Sv none rm_Sv_dropSession) {K : pj_M → Prop} (hE : pj_E g b (pj_Kv K))   {u : pj_M} {i0 : Nat} {i1 : Nat}  (t0 : pj_T i0 = 8) (t1 : pj_T i1 = 7) (h : pb_Sv_dropSession_70  K u i0 i1) : pj_J g (pj_N g b u) 70 [some (.ref (b + i0)), some (.ref (b + i1)), none, none] [] := by
  unfold pb_Sv_dropSession_70 at h
  refine pj_aload_n C d_Sv_dropSession_70 (pc' := 71) (i := 0) (x := b + i0) rfl rfl rfl ?_
  refine pj_dup C d_Sv_dropSession_71 (pc' := 72) rfl rfl ?_
  refine fg_Server_68_Server C t0 d_Sv_dropSession_72 (pc' := 75) rfl ?_
  refine pj_iconst C d_Sv_dropSession_75 (pc' := 76) rfl (v := 1) (by decide) ?_
  refine pj_isub C d_Sv_dropSession_76 (pc' := 77) rfl ?_
  refine fp_Server_68_Server C t0  d_Sv_dropSession_77 (pc' := 80) rfl h (fun u1 h => ?_)
  refine pj_aload_n C d_Sv_dropSession_80 (pc' := 81) (i := 0) (x := b + i0) rfl rfl rfl ?_
  refine fg_Server_13_Server C t0 d_Sv_dropSession_81 (pc' := 84) rfl ?_
  refine pj_aload_n C d_Sv_dropSession_84 (pc' := 85) (i := 0) (x := b + i0) rfl rfl rfl ?_
  refine fg_Server_68_Server C t0 d_Sv_dropSession_85 (pc' := 88) rfl ?_
  refine pj_aload_n C d_Sv_dropSession_88 (pc' := 89) (i := 1) (x := b + i1) rfl rfl rfl ?_
  refine pj_astM C (pj_lt (pl_Server_sessions t0) (by decide)) (fun E u => ka_27 (pl_Server_sessions t0)) (fun E => rfl) (pj_lt t1 (by decide)) (by decide) (fun E => ko_7 t1) rfl d_Sv_dropSession_89 (pc' := 90) rfl h (fun u2 h => ?_)
  exact pj_cut (pj_le_n (pj_le_n (pj_le_n (pj_le_n pj_le_e)))) (pt_Sv_dropSession_90 C hE   h)
def pb_Sv_dropSession_66  (K : pj_M → Prop) (u : pj_M) (i0 : Nat) (i1 : Nat) (x2 : Int32) : Prop := ((x2 = 0) → (pb_Sv_dropSession_90  K u )) ∧ (¬ (x2 = 0) → (pb_Sv_dropSession_70  K u i0 i1))
set_option maxHeartbeats 1000000 in
theorem pt_Sv_dropSession_66 {g : pj_G} {b : Nat} (C : pj_X g c_Sv_dropSession 4 R_Sv none rm_Sv_dropSession) {K : pj_M → Prop} (hE : pj_E g b (pj_Kv K))   {u : pj_M} {i0 : Nat} {i1 : Nat} {x2 : Int32}  (t0 : pj_T i0 = 8) (t1 : pj_T i1 = 7) (h : pb_Sv_dropSession_66  K u i0 i1 x2) : pj_J g (pj_N g b u) 66 [some (.ref (b + i0)), some (.ref (b + i1)), some (.int x2), none] [] := by
  unfold pb_Sv_dropSession_66 at h
  refine pj_iload_n C d_Sv_dropSession_66 (pc' := 67) (i := 2) (x := x2) rfl rfl rfl ?_
  refine pj_if_eq C d_Sv_dropSession_67 (pc' := 70) rfl (tgt := 90) (by decide) h (fun h => ?_) (fun h => ?_)
  · exact pj_cut (pj_le_n (pj_le_n (pj_le_n (pj_le_n pj_le_e)))) (pt_Sv_dropSession_90 C hE   h)
  · exact pj_cut (pj_le_s (pj_le_s (pj_le_n (pj_le_n pj_le_e)))) (pt_Sv_dropSession_70 C hE  t0 t1 h)
def pb_Sv_dropSession_60 (R4 : pj_M → Int32 → Int32 → Prop) (K : pj_M → Prop) (u : pj_M) (i0 : Nat) (i1 : Nat) (x2 : Int32) (x3 : Int32) : Prop := R4 u x2 (x3 + 1)
set_option maxHeartbeats 1000000 in
theorem pt_Sv_dropSession_60 {g : pj_G} {b : Nat} (C : pj_X g c_Sv_dropSession 4 R_Sv none rm_Sv_dropSession) {K : pj_M → Prop} (hE : pj_E g b (pj_Kv K)) {R4 : pj_M → Int32 → Int32 → Prop}  {u : pj_M} {i0 : Nat} {i1 : Nat} {x2 : Int32} {x3 : Int32} (hR4 : ∀ (u : pj_M) (x2 : Int32) (x3 : Int32), R4 u x2 x3 → pj_J g (pj_N g b u) 4 [some (.ref (b + i0)), some (.ref (b + i1)), some (.int x2), some (.int x3)] []) (t0 : pj_T i0 = 8) (t1 : pj_T i1 = 7) (h : pb_Sv_dropSession_60 R4 K u i0 i1 x2 x3) : pj_J g (pj_N g b u) 60 [some (.ref (b + i0)), some (.ref (b + i1)), some (.int x2), some (.int x3)] [] := by
  unfold pb_Sv_dropSession_60 at h
  refine pj_iinc C d_Sv_dropSession_60 (pc' := 63) (x := x3) (d := 1) (vs' := [some (.ref (b + i0)), some (.ref (b + i1)), some (.int x2), some (.int (x3 + 1))]) rfl rfl (Nat.le_of_ble_eq_true rfl) rfl (by decide) rfl ?_
  refine pj_goto C d_Sv_dropSession_63 (tgt := 4) (by decide) ?_
  exact pj_cut (pj_le_s (pj_le_s (pj_le_s (pj_le_s pj_le_e)))) (hR4 _ _ _ h)
def pb_Sv_dropSession_46 (R4 : pj_M → Int32 → Int32 → Prop) (K : pj_M → Prop) (u : pj_M) (i0 : Nat) (i1 : Nat) (x2 : Int32) (x3 : Int32) : Prop := vp_in (x3 + 1) 4 ∧ pj_let (u (i0 + 1) (x3 + 1).toNatClampNeg).toNatClampNeg fun i101 => pj_T i101 = 7 ∧ (vp_in x3 4 ∧ pj_put u (i0 + 1) x3.toNatClampNeg (nI i101) fun u2 => (pb_Sv_dropSession_60 R4 K u2 i0 i1 x2 x3))
set_option maxHeartbeats 1000000 in
theorem pt_Sv_dropSession_46 {g : pj_G} {b : Nat} (C : pj_X g c_Sv_dropSession 4 R_Sv none rm_Sv_dropSession) {K : pj_M → Prop} (hE : pj_E g b (pj_Kv K)) {R4 : pj_M → Int32 → Int32 → Prop}  {u : pj_M} {i0 : Nat} {i1 : Nat} {x2 : Int32} {x3 : Int32} (hR4 : ∀ (u : pj_M) (x2 : Int32) (x3 : Int32), R4 u x2 x3 → pj_J g (pj_N g b u) 4 [some (.ref (b + i0)), some (.ref (b + i1)), some (.int x2), some (.int x3)] []) (t0 : pj_T i0 = 8) (t1 : pj_T i1 = 7) (h : pb_Sv_dropSession_46 R4 K u i0 i1 x2 x3) : pj_J g (pj_N g b u) 46 [some (.ref (b + i0)), some (.ref (b + i1)), some (.int x2), some (.int x3)] [] := by
  unfold pb_Sv_dropSession_46 at h
  refine pj_aload_n C d_Sv_dropSession_46 (pc' := 47) (i := 0) (x := b + i0) rfl rfl rfl ?_
  refine fg_Server_13_Server C t0 d_Sv_dropSession_47 (pc' := 50) rfl ?_
  refine pj_iload_n C d_Sv_dropSession_50 (pc' := 51) (i := 3) (x := x3) rfl rfl rfl ?_
  refine pj_aload_n C d_Sv_dropSession_51 (pc' := 52) (i := 0) (x := b + i0) rfl rfl rfl ?_
  refine fg_Server_13_Server C t0 d_Sv_dropSession_52 (pc' := 55) rfl ?_
  refine pj_iload_n C d_Sv_dropSession_55 (pc' := 56) (i := 3) (x := x3) rfl rfl rfl ?_
  refine pj_iconst C d_Sv_dropSession_56 (pc' := 57) rfl (v := 1) (by decide) ?_
  refine pj_iadd C d_Sv_dropSession_57 (pc' := 58) rfl ?_
  refine pj_aldM C (pj_lt (pl_Server_sessions t0) (by decide)) (fun E u => ka_27 (pl_Server_sessions t0)) (fun E => rfl) d_Sv_dropSession_58 (pc' := 59) rfl h (fun h => ?_)
  refine pj_nameR h (fun i101 h => ?_)
  obtain ⟨ti101, h⟩ := h
  refine pj_astM C (pj_lt (pl_Server_sessions t0) (by decide)) (fun E u => ka_27 (pl_Server_sessions t0)) (fun E => rfl) (pj_lt ti101 (by decide)) (by decide) (fun E => ko_7 ti101) rfl d_Sv_dropSession_59 (pc' := 60) rfl h (fun u2 h => ?_)
  exact pj_cut (pj_le_s (pj_le_s (pj_le_s (pj_le_s pj_le_e)))) (pt_Sv_dropSession_60 C hE hR4 t0 t1 h)
def pb_Sv_dropSession_36 (R4 : pj_M → Int32 → Int32 → Prop) (K : pj_M → Prop) (u : pj_M) (i0 : Nat) (i1 : Nat) (x2 : Int32) (x3 : Int32) : Prop := (((u i0 14) ≤ (x3 + 1)) → (pb_Sv_dropSession_60 R4 K u i0 i1 x2 x3)) ∧ (¬ ((u i0 14) ≤ (x3 + 1)) → (pb_Sv_dropSession_46 R4 K u i0 i1 x2 x3))
set_option maxHeartbeats 1000000 in
theorem pt_Sv_dropSession_36 {g : pj_G} {b : Nat} (C : pj_X g c_Sv_dropSession 4 R_Sv none rm_Sv_dropSession) {K : pj_M → Prop} (hE : pj_E g b (pj_Kv K)) {R4 : pj_M → Int32 → Int32 → Prop}  {u : pj_M} {i0 : Nat} {i1 : Nat} {x2 : Int32} {x3 : Int32} (hR4 : ∀ (u : pj_M) (x2 : Int32) (x3 : Int32), R4 u x2 x3 → pj_J g (pj_N g b u) 4 [some (.ref (b + i0)), some (.ref (b + i1)), some (.int x2), some (.int x3)] []) (t0 : pj_T i0 = 8) (t1 : pj_T i1 = 7) (h : pb_Sv_dropSession_36 R4 K u i0 i1 x2 x3) : pj_J g (pj_N g b u) 36 [some (.ref (b + i0)), some (.ref (b + i1)), some (.int x2), some (.int x3)] [] := by
  unfold pb_Sv_dropSession_36 at h
  refine pj_iload_n C d_Sv_dropSession_36 (pc' := 37) (i := 3) (x := x3) rfl rfl rfl ?_
  refine pj_iconst C d_Sv_dropSession_37 (pc' := 38) rfl (v := 1) (by decide) ?_
  refine pj_iadd C d_Sv_dropSession_38 (pc' := 39) rfl ?_
  refine pj_aload_n C d_Sv_dropSession_39 (pc' := 40) (i := 0) (x := b + i0) rfl rfl rfl ?_
  refine fg_Server_68_Server C t0 d_Sv_dropSession_40 (pc' := 43) rfl ?_
  refine pj_icmp_ge C d_Sv_dropSession_43 (pc' := 46) rfl (tgt := 60) (by decide) h (fun h => ?_) (fun h => ?_)
  · exact pj_cut (pj_le_s (pj_le_s (pj_le_s (pj_le_s pj_le_e)))) (pt_Sv_dropSession_60 C hE hR4 t0 t1 h)
  · exact pj_cut (pj_le_s (pj_le_s (pj_le_s (pj_le_s pj_le_e)))) (pt_Sv_dropSession_46 C hE hR4 t0 t1 h)
def pb_Sv_dropSession_31 (R4 : pj_M → Int32 → Int32 → Prop) (K : pj_M → Prop) (u : pj_M) (i0 : Nat) (i1 : Nat) (x3 : Int32) (s0 : Int32) : Prop := ((s0 = 0) → (pb_Sv_dropSession_60 R4 K u i0 i1 s0 x3)) ∧ (¬ (s0 = 0) → (pb_Sv_dropSession_36 R4 K u i0 i1 s0 x3))
set_option maxHeartbeats 1000000 in
theorem pt_Sv_dropSession_31 {g : pj_G} {b : Nat} (C : pj_X g c_Sv_dropSession 4 R_Sv none rm_Sv_dropSession) {K : pj_M → Prop} (hE : pj_E g b (pj_Kv K)) {R4 : pj_M → Int32 → Int32 → Prop}  {u : pj_M} {i0 : Nat} {i1 : Nat} {x3 : Int32} {s0 : Int32} (hR4 : ∀ (u : pj_M) (x2 : Int32) (x3 : Int32), R4 u x2 x3 → pj_J g (pj_N g b u) 4 [some (.ref (b + i0)), some (.ref (b + i1)), some (.int x2), some (.int x3)] []) (t0 : pj_T i0 = 8) (t1 : pj_T i1 = 7) (h : pb_Sv_dropSession_31 R4 K u i0 i1 x3 s0) : pj_J g (pj_N g b u) 31 [some (.ref (b + i0)), some (.ref (b + i1)), none, some (.int x3)] [.int s0] := by
  unfold pb_Sv_dropSession_31 at h
  refine pj_istore_n C d_Sv_dropSession_31 (pc' := 32) (i := 2) (vs' := [some (.ref (b + i0)), some (.ref (b + i1)), some (.int s0), some (.int x3)]) rfl rfl (Nat.le_of_ble_eq_true rfl) (Nat.le_of_ble_eq_true rfl) rfl rfl ?_
  refine pj_iload_n C d_Sv_dropSession_32 (pc' := 33) (i := 2) (x := s0) rfl rfl rfl ?_
  refine pj_if_eq C d_Sv_dropSession_33 (pc' := 36) rfl (tgt := 60) (by decide) h (fun h => ?_) (fun h => ?_)
  · exact pj_cut (pj_le_s (pj_le_s (pj_le_s (pj_le_s pj_le_e)))) (pt_Sv_dropSession_60 C hE hR4 t0 t1 h)
  · exact pj_cut (pj_le_s (pj_le_s (pj_le_s (pj_le_s pj_le_e)))) (pt_Sv_dropSession_36 C hE hR4 t0 t1 h)
def pb_Sv_dropSession_26 (R4 : pj_M → Int32 → Int32 → Prop) (K : pj_M → Prop) (u : pj_M) (i0 : Nat) (i1 : Nat) (x3 : Int32) : Prop := pb_Sv_dropSession_31 R4 K u i0 i1 x3 1
set_option maxHeartbeats 1000000 in
theorem pt_Sv_dropSession_26 {g : pj_G} {b : Nat} (C : pj_X g c_Sv_dropSession 4 R_Sv none rm_Sv_dropSession) {K : pj_M → Prop} (hE : pj_E g b (pj_Kv K)) {R4 : pj_M → Int32 → Int32 → Prop}  {u : pj_M} {i0 : Nat} {i1 : Nat} {x3 : Int32} (hR4 : ∀ (u : pj_M) (x2 : Int32) (x3 : Int32), R4 u x2 x3 → pj_J g (pj_N g b u) 4 [some (.ref (b + i0)), some (.ref (b + i1)), some (.int x2), some (.int x3)] []) (t0 : pj_T i0 = 8) (t1 : pj_T i1 = 7) (h : pb_Sv_dropSession_26 R4 K u i0 i1 x3) : pj_J g (pj_N g b u) 26 [some (.ref (b + i0)), some (.ref (b + i1)), none, some (.int x3)] [] := by
  unfold pb_Sv_dropSession_26 at h
  refine pj_iconst C d_Sv_dropSession_26 (pc' := 27) rfl (v := 1) (by decide) ?_
  refine pj_goto C d_Sv_dropSession_27 (tgt := 31) (by decide) ?_
  exact pj_cut (pj_le_s (pj_le_s (pj_le_n (pj_le_s pj_le_e)))) (pt_Sv_dropSession_31 C hE hR4 t0 t1 h)
def pb_Sv_dropSession_30 (R4 : pj_M → Int32 → Int32 → Prop) (K : pj_M → Prop) (u : pj_M) (i0 : Nat) (i1 : Nat) (x3 : Int32) : Prop := pb_Sv_dropSession_31 R4 K u i0 i1 x3 0
set_option maxHeartbeats 1000000 in
theorem pt_Sv_dropSession_30 {g : pj_G} {b : Nat} (C : pj_X g c_Sv_dropSession 4 R_Sv none rm_Sv_dropSession) {K : pj_M → Prop} (hE : pj_E g b (pj_Kv K)) {R4 : pj_M → Int32 → Int32 → Prop}  {u : pj_M} {i0 : Nat} {i1 : Nat} {x3 : Int32} (hR4 : ∀ (u : pj_M) (x2 : Int32) (x3 : Int32), R4 u x2 x3 → pj_J g (pj_N g b u) 4 [some (.ref (b + i0)), some (.ref (b + i1)), some (.int x2), some (.int x3)] []) (t0 : pj_T i0 = 8) (t1 : pj_T i1 = 7) (h : pb_Sv_dropSession_30 R4 K u i0 i1 x3) : pj_J g (pj_N g b u) 30 [some (.ref (b + i0)), some (.ref (b + i1)), none, some (.int x3)] [] := by
  unfold pb_Sv_dropSession_30 at h
  refine pj_iconst C d_Sv_dropSession_30 (pc' := 31) rfl (v := 0) (by decide) ?_
  exact pj_cut (pj_le_s (pj_le_s (pj_le_n (pj_le_s pj_le_e)))) (pt_Sv_dropSession_31 C hE hR4 t0 t1 h)
def pb_Sv_dropSession_16 (R4 : pj_M → Int32 → Int32 → Prop) (K : pj_M → Prop) (u : pj_M) (i0 : Nat) (i1 : Nat) (x3 : Int32) : Prop := vp_in x3 4 ∧ pj_let (u (i0 + 1) x3.toNatClampNeg).toNatClampNeg fun i101 => pj_T i101 = 7 ∧ (((i101 = i1) → (pb_Sv_dropSession_26 R4 K u i0 i1 x3)) ∧ (¬ (i101 = i1) → (pb_Sv_dropSession_30 R4 K u i0 i1 x3)))
set_option maxHeartbeats 1000000 in
theorem pt_Sv_dropSession_16 {g : pj_G} {b : Nat} (C : pj_X g c_Sv_dropSession 4 R_Sv none rm_Sv_dropSession) {K : pj_M → Prop} (hE : pj_E g b (pj_Kv K)) {R4 : pj_M → Int32 → Int32 → Prop}  {u : pj_M} {i0 : Nat} {i1 : Nat} {x3 : Int32} (hR4 : ∀ (u : pj_M) (x2 : Int32) (x3 : Int32), R4 u x2 x3 → pj_J g (pj_N g b u) 4 [some (.ref (b + i0)), some (.ref (b + i1)), some (.int x2), some (.int x3)] []) (t0 : pj_T i0 = 8) (t1 : pj_T i1 = 7) (h : pb_Sv_dropSession_16 R4 K u i0 i1 x3) : pj_J g (pj_N g b u) 16 [some (.ref (b + i0)), some (.ref (b + i1)), none, some (.int x3)] [] := by
  unfold pb_Sv_dropSession_16 at h
  refine pj_aload_n C d_Sv_dropSession_16 (pc' := 17) (i := 0) (x := b + i0) rfl rfl rfl ?_
  refine fg_Server_13_Server C t0 d_Sv_dropSession_17 (pc' := 20) rfl ?_
  refine pj_iload_n C d_Sv_dropSession_20 (pc' := 21) (i := 3) (x := x3) rfl rfl rfl ?_
  refine pj_aldM C (pj_lt (pl_Server_sessions t0) (by decide)) (fun E u => ka_27 (pl_Server_sessions t0)) (fun E => rfl) d_Sv_dropSession_21 (pc' := 22) rfl h (fun h => ?_)
  refine pj_nameR h (fun i101 h => ?_)
  obtain ⟨ti101, h⟩ := h
  refine pj_aload_n C d_Sv_dropSession_22 (pc' := 23) (i := 1) (x := b + i1) rfl rfl rfl ?_
  refine pj_acmp_ne C d_Sv_dropSession_23 (pc' := 26) rfl (tgt := 30) (by decide) h (fun h => ?_) (fun h => ?_)
  · exact pj_cut (pj_le_s (pj_le_s (pj_le_n (pj_le_s pj_le_e)))) (pt_Sv_dropSession_30 C hE hR4 t0 t1 h)
  · exact pj_cut (pj_le_s (pj_le_s (pj_le_n (pj_le_s pj_le_e)))) (pt_Sv_dropSession_26 C hE hR4 t0 t1 h)
def pb_Sv_dropSession_12 (R4 : pj_M → Int32 → Int32 → Prop) (K : pj_M → Prop) (u : pj_M) (i0 : Nat) (i1 : Nat) (x2 : Int32) (x3 : Int32) : Prop := ((x2 = 0) → (pb_Sv_dropSession_16 R4 K u i0 i1 x3)) ∧ (¬ (x2 = 0) → (pb_Sv_dropSession_26 R4 K u i0 i1 x3))
set_option maxHeartbeats 1000000 in
theorem pt_Sv_dropSession_12 {g : pj_G} {b : Nat} (C : pj_X g c_Sv_dropSession 4 R_Sv none rm_Sv_dropSession) {K : pj_M → Prop} (hE : pj_E g b (pj_Kv K)) {R4 : pj_M → Int32 → Int32 → Prop}  {u : pj_M} {i0 : Nat} {i1 : Nat} {x2 : Int32} {x3 : Int32} (hR4 : ∀ (u : pj_M) (x2 : Int32) (x3 : Int32), R4 u x2 x3 → pj_J g (pj_N g b u) 4 [some (.ref (b + i0)), some (.ref (b + i1)), some (.int x2), some (.int x3)] []) (t0 : pj_T i0 = 8) (t1 : pj_T i1 = 7) (h : pb_Sv_dropSession_12 R4 K u i0 i1 x2 x3) : pj_J g (pj_N g b u) 12 [some (.ref (b + i0)), some (.ref (b + i1)), some (.int x2), some (.int x3)] [] := by
  unfold pb_Sv_dropSession_12 at h
  refine pj_iload_n C d_Sv_dropSession_12 (pc' := 13) (i := 2) (x := x2) rfl rfl rfl ?_
  refine pj_if_ne C d_Sv_dropSession_13 (pc' := 16) rfl (tgt := 26) (by decide) h (fun h => ?_) (fun h => ?_)
  · exact pj_cut (pj_le_s (pj_le_s (pj_le_n (pj_le_s pj_le_e)))) (pt_Sv_dropSession_26 C hE hR4 t0 t1 h)
  · exact pj_cut (pj_le_s (pj_le_s (pj_le_n (pj_le_s pj_le_e)))) (pt_Sv_dropSession_16 C hE hR4 t0 t1 h)
def pb_Sv_dropSession_4b (R4 : pj_M → Int32 → Int32 → Prop) (K : pj_M → Prop) (u : pj_M) (i0 : Nat) (i1 : Nat) (x2 : Int32) (x3 : Int32) : Prop := (((u i0 14) ≤ x3) → (pb_Sv_dropSession_66  K u i0 i1 x2)) ∧ (¬ ((u i0 14) ≤ x3) → (pb_Sv_dropSession_12 R4 K u i0 i1 x2 x3))
set_option maxHeartbeats 1000000 in
theorem pt_Sv_dropSession_4b {g : pj_G} {b : Nat} (C : pj_X g c_Sv_dropSession 4 R_Sv none rm_Sv_dropSession) {K : pj_M → Prop} (hE : pj_E g b (pj_Kv K)) {R4 : pj_M → Int32 → Int32 → Prop}  {u : pj_M} {i0 : Nat} {i1 : Nat} {x2 : Int32} {x3 : Int32} (hR4 : ∀ (u : pj_M) (x2 : Int32) (x3 : Int32), R4 u x2 x3 → pj_J g (pj_N g b u) 4 [some (.ref (b + i0)), some (.ref (b + i1)), some (.int x2), some (.int x3)] []) (t0 : pj_T i0 = 8) (t1 : pj_T i1 = 7) (h : pb_Sv_dropSession_4b R4 K u i0 i1 x2 x3) : pj_J g (pj_N g b u) 4 [some (.ref (b + i0)), some (.ref (b + i1)), some (.int x2), some (.int x3)] [] := by
  unfold pb_Sv_dropSession_4b at h
  refine pj_iload_n C d_Sv_dropSession_4 (pc' := 5) (i := 3) (x := x3) rfl rfl rfl ?_
  refine pj_aload_n C d_Sv_dropSession_5 (pc' := 6) (i := 0) (x := b + i0) rfl rfl rfl ?_
  refine fg_Server_68_Server C t0 d_Sv_dropSession_6 (pc' := 9) rfl ?_
  refine pj_icmp_ge C d_Sv_dropSession_9 (pc' := 12) rfl (tgt := 66) (by decide) h (fun h => ?_) (fun h => ?_)
  · exact pj_cut (pj_le_s (pj_le_s (pj_le_s (pj_le_n pj_le_e)))) (pt_Sv_dropSession_66 C hE  t0 t1 h)
  · exact pj_cut (pj_le_s (pj_le_s (pj_le_s (pj_le_s pj_le_e)))) (pt_Sv_dropSession_12 C hE hR4 t0 t1 h)
def pb_Sv_dropSession_4  (K : pj_M → Prop) (i0 : Nat) (i1 : Nat) : Nat → pj_M → Int32 → Int32 → Prop
  | 0 => fun _ _ _ => False
  | n + 1 => fun u x2 x3 => pb_Sv_dropSession_4b (pb_Sv_dropSession_4  K i0 i1 n) K u i0 i1 x2 x3
theorem pt_Sv_dropSession_4 {g : pj_G} {b : Nat} (C : pj_X g c_Sv_dropSession 4 R_Sv none rm_Sv_dropSession) {K : pj_M → Prop} (hE : pj_E g b (pj_Kv K))  {i0 : Nat} {i1 : Nat}  (t0 : pj_T i0 = 8) (t1 : pj_T i1 = 7) : ∀ (n : Nat) (u : pj_M) (x2 : Int32) (x3 : Int32), pb_Sv_dropSession_4  K i0 i1 n u x2 x3 → pj_J g (pj_N g b u) 4 [some (.ref (b + i0)), some (.ref (b + i1)), some (.int x2), some (.int x3)] [] := by
  intro n
  induction n with
  | zero => intro u x2 x3 h; exact False.elim h
  | succ n ih =>
    intro u x2 x3 h
    exact (pt_Sv_dropSession_4b C hE ih t0 t1 h)
def pb_Sv_dropSession_0  (K : pj_M → Prop) (u : pj_M) (i0 : Nat) (i1 : Nat) : Prop := ∃ n, pb_Sv_dropSession_4  K i0 i1 n u 0 0
set_option maxHeartbeats 1000000 in
theorem pt_Sv_dropSession_0 {g : pj_G} {b : Nat} (C : pj_X g c_Sv_dropSession 4 R_Sv none rm_Sv_dropSession) {K : pj_M → Prop} (hE : pj_E g b (pj_Kv K))   {u : pj_M} {i0 : Nat} {i1 : Nat}  (t0 : pj_T i0 = 8) (t1 : pj_T i1 = 7) (h : pb_Sv_dropSession_0  K u i0 i1) : pj_J g (pj_N g b u) 0 [some (.ref (b + i0)), some (.ref (b + i1)), none, none] [] := by
  unfold pb_Sv_dropSession_0 at h
  refine pj_iconst C d_Sv_dropSession_0 (pc' := 1) rfl (v := 0) (by decide) ?_
  refine pj_istore_n C d_Sv_dropSession_1 (pc' := 2) (i := 2) (vs' := [some (.ref (b + i0)), some (.ref (b + i1)), some (.int 0), none]) rfl rfl (Nat.le_of_ble_eq_true rfl) (Nat.le_of_ble_eq_true rfl) rfl rfl ?_
  refine pj_iconst C d_Sv_dropSession_2 (pc' := 3) rfl (v := 0) (by decide) ?_
  refine pj_istore_n C d_Sv_dropSession_3 (pc' := 4) (i := 3) (vs' := [some (.ref (b + i0)), some (.ref (b + i1)), some (.int 0), some (.int 0)]) rfl rfl (Nat.le_of_ble_eq_true rfl) (Nat.le_of_ble_eq_true rfl) rfl rfl ?_
  obtain ⟨n, h⟩ := h
  exact pj_cut (pj_le_s (pj_le_s (pj_le_s (pj_le_s pj_le_e)))) (pt_Sv_dropSession_4 C hE  t0 t1 n _ _ _ h)
def pw_Sv_dropSession (u : pj_M) (i0 : Nat) (i1 : Nat) (K : pj_M → Prop) : Prop := pb_Sv_dropSession_0  K u i0 i1
theorem pc_Sv_dropSession (l : Launch) (D : va_G) (E : Nat → ClassId) {b : Nat} {u : pj_M} {i0 : Nat} {i1 : Nat} {K : pj_M → Prop} (t0 : pj_T i0 = 8) (t1 : pj_T i1 = 7) (h : pw_Sv_dropSession u i0 i1 K) : pj_C l y_Sv_dropSession c_Sv_dropSession 4 none rm_Sv_dropSession D E b [.ref (b + i0), .ref (b + i1)] u (pj_Kv K) := by
  refine pj_met (own := R_Sv) (by decide +kernel) rfl (Nat.le_of_ble_eq_true rfl) (fun g hE C => ?_)
  unfold pw_Sv_dropSession at h
  show pj_J g (pj_N g b u) 0 [some (.ref (b + i0)), some (.ref (b + i1)), none, none] []
  exact pj_cut (pj_le_s (pj_le_s (pj_le_n (pj_le_n pj_le_e)))) (pt_Sv_dropSession_0 C hE  t0 t1 h)
/-! Server.openRequest(LPortGuard$Session;I)V -/
theorem fp_Server_123_Server {g : pj_G} {b : Nat} {cc : ByteArray} {nL : Nat} {ret : Option FieldType} {rm : Room} {u : pj_M} {pc pc' : Nat} {vs : List (Option Value)} {st : List Value} (C : pj_X g cc nL R_Sv ret rm) {i : Nat} {x : Int32} {P : pj_M → Prop} (t : pj_T i = 8)  (hdg : decode cc pc = .ok (.putfield 123, 3)) (hp : pc + 3 = pc') (h : pj_put u i 11 x P) (kk : ∀ u', P u' → pj_J g (pj_N g b u') pc' vs st) : pj_J g (pj_N g b u) pc vs (.int x :: .ref (b + i) :: st) :=
  pj_putI C cl_Server hin_Server ty_Server tyok_Server nm_Server (k := 11) (Nat.le_of_ble_eq_true rfl) wm_340 (Or.inl rfl) rfl (ty := .int) (by decide +kernel) rfl rfl (pj_lt t (by decide)) (fun E u => ko_8 t) (F := fun f => [.int (f 0), .int (f 1), .ref (b + 1), .ref (b + 4), .ref (b + (i + 1)), .ref (b + (i + 2)), .ref (b + (i + 3)), .ref (b + (i + 4)), .ref (b + (i + 5)), .ref (b + (i + 10)), .ref (b + (i + 15)), .int (f 11), .int (f 12), .int (f 13), .int (f 14), .int (f 15), .int (f 16), .int (f 17), .int (f 18), .int (f 19)]) (fun _ => Nat.le_of_ble_eq_true rfl) (fun _ _ => rfl) hdg hp h kk
theorem fp_Server_126_Server {g : pj_G} {b : Nat} {cc : ByteArray} {nL : Nat} {ret : Option FieldType} {rm : Room} {u : pj_M} {pc pc' : Nat} {vs : List (Option Value)} {st : List Value} (C : pj_X g cc nL R_Sv ret rm) {i : Nat} {x : Int32} {P : pj_M → Prop} (t : pj_T i = 8)  (hdg : decode cc pc = .ok (.putfield 126, 3)) (hp : pc + 3 = pc') (h : pj_put u i 12 x P) (kk : ∀ u', P u' → pj_J g (pj_N g b u') pc' vs st) : pj_J g (pj_N g b u) pc vs (.int x :: .ref (b + i) :: st) :=
  pj_putI C cl_Server hin_Server ty_Server tyok_Server nm_Server (k := 12) (Nat.le_of_ble_eq_true rfl) wm_341 (Or.inl rfl) rfl (ty := .int) (by decide +kernel) rfl rfl (pj_lt t (by decide)) (fun E u => ko_8 t) (F := fun f => [.int (f 0), .int (f 1), .ref (b + 1), .ref (b + 4), .ref (b + (i + 1)), .ref (b + (i + 2)), .ref (b + (i + 3)), .ref (b + (i + 4)), .ref (b + (i + 5)), .ref (b + (i + 10)), .ref (b + (i + 15)), .int (f 11), .int (f 12), .int (f 13), .int (f 14), .int (f 15), .int (f 16), .int (f 17), .int (f 18), .int (f 19)]) (fun _ => Nat.le_of_ble_eq_true rfl) (fun _ _ => rfl) hdg hp h kk
theorem fg_Server_88_Datagram {g : pj_G} {b : Nat} {cc : ByteArray} {nL : Nat} {ret : Option FieldType} {rm : Room} {u : pj_M} {pc pc' : Nat} {vs : List (Option Value)} {st : List Value} (C : pj_X g cc nL R_Sv ret rm) {i : Nat} (t : pj_T i = 5) (hdg : decode cc pc = .ok (.getfield 88, 3)) (hp : pc + 3 = pc') (kk : pj_J g (pj_N g b u) pc' vs (.ref (b + (i + 3)) :: st)) : pj_J g (pj_N g b u) pc vs (.ref (b + i) :: st) :=
  pj_get C cl_Datagram hin_Datagram (k := 1) (Nat.le_of_ble_eq_true rfl) wm_270 (Or.inl rfl) (pj_lt t (by decide)) (fun E => ko_5 t) rfl hdg hp kk
theorem fp_Server_167_Session {g : pj_G} {b : Nat} {cc : ByteArray} {nL : Nat} {ret : Option FieldType} {rm : Room} {u : pj_M} {pc pc' : Nat} {vs : List (Option Value)} {st : List Value} (C : pj_X g cc nL R_Sv ret rm) {i : Nat} {x : Int32} {P : pj_M → Prop} (t : pj_T i = 7)  (hdg : decode cc pc = .ok (.putfield 167, 3)) (hp : pc + 3 = pc') (h : pj_put u i 4 x P) (kk : ∀ u', P u' → pj_J g (pj_N g b u') pc' vs st) : pj_J g (pj_N g b u) pc vs (.int x :: .ref (b + i) :: st) :=
  pj_putI C cl_Session hin_Session ty_Session tyok_Session nm_Session (k := 4) (Nat.le_of_ble_eq_true rfl) wm_307 (Or.inl rfl) rfl (ty := .int) (by decide +kernel) rfl rfl (pj_lt t (by decide)) (fun E u => ko_7 t) (F := fun f => [.int (f 0), .int (f 1), .int (f 2), .int (f 3), .int (f 4), .int (f 5), .int (f 6), .int (f 7)]) (fun _ => Nat.le_of_ble_eq_true rfl) (fun _ _ => rfl) hdg hp h kk
theorem fg_Server_43_Server {g : pj_G} {b : Nat} {cc : ByteArray} {nL : Nat} {ret : Option FieldType} {rm : Room} {u : pj_M} {pc pc' : Nat} {vs : List (Option Value)} {st : List Value} (C : pj_X g cc nL R_Sv ret rm) {i : Nat} (t : pj_T i = 8) (hdg : decode cc pc = .ok (.getfield 43, 3)) (hp : pc + 3 = pc') (kk : pj_J g (pj_N g b u) pc' vs (.ref (b + (i + 15)) :: st)) : pj_J g (pj_N g b u) pc vs (.ref (b + i) :: st) :=
  pj_get C cl_Server hin_Server (k := 10) (Nat.le_of_ble_eq_true rfl) wm_339 (Or.inl rfl) (pj_lt t (by decide)) (fun E => ko_8 t) rfl hdg hp kk
theorem fg_Server_167_Session {g : pj_G} {b : Nat} {cc : ByteArray} {nL : Nat} {ret : Option FieldType} {rm : Room} {u : pj_M} {pc pc' : Nat} {vs : List (Option Value)} {st : List Value} (C : pj_X g cc nL R_Sv ret rm) {i : Nat} (t : pj_T i = 7) (hdg : decode cc pc = .ok (.getfield 167, 3)) (hp : pc + 3 = pc') (kk : pj_J g (pj_N g b u) pc' vs (.int (u i 4) :: st)) : pj_J g (pj_N g b u) pc vs (.ref (b + i) :: st) :=
  pj_get C cl_Session hin_Session (k := 4) (Nat.le_of_ble_eq_true rfl) wm_307 (Or.inl rfl) (pj_lt t (by decide)) (fun E => ko_7 t) rfl hdg hp kk
theorem ck_Server_166_Packet {g : pj_G} {b : Nat} {cc : ByteArray} {nL : Nat} {ret : Option FieldType} {rm : Room} {u : pj_M} {pc pc' : Nat} {vs : List (Option Value)} {st : List Value} (C : pj_X g cc nL R_Sv ret rm) {i0 : Nat} {K : Int32 → pj_M → Prop} (t0 : pj_T i0 = 4) (h : pw_Pa_id u i0 K) (hdg : decode cc pc = .ok (.invokevirtual 166, 3)) (hp : pc + 3 = pc') (hR : rm_Pa_id.frames + 1 ≤ rm.frames ∧ 8 + (1 + 11) + rm_Pa_id.locals ≤ rm.locals) (h8 : (st.map fun v => v.category).sum ≤ 8) (kk : ∀ r u', K r u' → pj_J g (pj_N g b u') pc' vs (.int r :: st)) : pj_J g (pj_N g b u) pc vs (.ref (b + i0) :: st) :=
  pj_callV C (As := []) (fun l D E => pc_Pa_id l D E t0 h) rfl rfl cl_Packet (pj_lt t0 (by decide)) (fun E => ko_4 t0) wm_945 wm_643 wm_644 wm_96 wm_645 (by decide +kernel) (n := 0) rfl hR rfl h8 hdg hp (fun v u' hq => by obtain ⟨r, rfl, hk⟩ := hq; exact kk r u' hk)
theorem ck_Server_244_Packet {g : pj_G} {b : Nat} {cc : ByteArray} {nL : Nat} {ret : Option FieldType} {rm : Room} {u : pj_M} {pc pc' : Nat} {vs : List (Option Value)} {st : List Value} (C : pj_X g cc nL R_Sv ret rm) {i0 : Nat} {x1 : Int32} {x2 : Int32} {x3 : Int32} {K : pj_M → Prop} (t0 : pj_T i0 = 4) (h : pw_Pa_open u i0 x1 x2 x3 K) (hdg : decode cc pc = .ok (.invokevirtual 244, 3)) (hp : pc + 3 = pc') (hR : rm_Pa_open.frames + 1 ≤ rm.frames ∧ 8 + (4 + 11) + rm_Pa_open.locals ≤ rm.locals) (h8 : (st.map fun v => v.category).sum ≤ 8) (kk : ∀ u', K u' → pj_J g (pj_N g b u') pc' vs st) : pj_J g (pj_N g b u) pc vs (.int x3 :: .int x2 :: .int x1 :: .ref (b + i0) :: st) :=
  pj_callV C (As := [.int x1, .int x2, .int x3]) (fun l D E => pc_Pa_open l D E t0 h) rfl rfl cl_Packet (pj_lt t0 (by decide)) (fun E => ko_4 t0) wm_946 wm_607 wm_608 wm_96 wm_609 (by decide +kernel) (n := 3) rfl hR rfl h8 hdg hp (fun v u' hq => by obtain ⟨rfl, hk⟩ := hq; exact kk u' hk)
def rm_Sv_openRequest : Room := { frames := 2, cells := 0, slots := 0, locals := 44 }
def pb_Sv_openRequest_0  (K : pj_M → Prop) (u : pj_M) (i0 : Nat) (i1 : Nat) (x2 : Int32) : Prop := pj_put u i0 11 11 fun u1 => (pj_put u1 i0 12 (u1 i1 0) fun u2 => (pw_Pa_id u2 ((i0 + 5) + 3) fun r4 u3 => (pj_put u3 i1 4 ((r4 + 1) &&& 255) fun u5 => (pw_Pa_open u5 (i0 + 15) 1 (u5 i1 4) x2 fun u6 => (K u6)))))
set_option maxHeartbeats 1000000 in
theorem pt_Sv_openRequest_0 {g : pj_G} {b : Nat} (C : pj_X g c_Sv_openRequest 3 R_Sv none rm_Sv_openRequest) {K : pj_M → Prop} (hE : pj_E g b (pj_Kv K))   {u : pj_M} {i0 : Nat} {i1 : Nat} {x2 : Int32}  (t0 : pj_T i0 = 8) (t1 : pj_T i1 = 7) (h : pb_Sv_openRequest_0  K u i0 i1 x2) : pj_J g (pj_N g b u) 0 [some (.ref (b + i0)), some (.ref (b + i1)), some (.int x2)] [] := by
  unfold pb_Sv_openRequest_0 at h
  refine pj_aload_n C d_Sv_openRequest_0 (pc' := 1) (i := 0) (x := b + i0) rfl rfl rfl ?_
  refine pj_bipush C d_Sv_openRequest_1 (pc' := 3) rfl (v := 11) (by decide) ?_
  refine fp_Server_123_Server C t0  d_Sv_openRequest_3 (pc' := 6) rfl h (fun u1 h => ?_)
  refine pj_aload_n C d_Sv_openRequest_6 (pc' := 7) (i := 0) (x := b + i0) rfl rfl rfl ?_
  refine pj_aload_n C d_Sv_openRequest_7 (pc' := 8) (i := 1) (x := b + i1) rfl rfl rfl ?_
  refine fg_Server_178_Session C t1 d_Sv_openRequest_8 (pc' := 11) rfl ?_
  refine fp_Server_126_Server C t0  d_Sv_openRequest_11 (pc' := 14) rfl h (fun u2 h => ?_)
  refine pj_aload_n C d_Sv_openRequest_14 (pc' := 15) (i := 1) (x := b + i1) rfl rfl rfl ?_
  refine pj_aload_n C d_Sv_openRequest_15 (pc' := 16) (i := 0) (x := b + i0) rfl rfl rfl ?_
  refine fg_Server_33_Server C t0 d_Sv_openRequest_16 (pc' := 19) rfl ?_
  refine fg_Server_88_Datagram C (pl_Server_request t0) d_Sv_openRequest_19 (pc' := 22) rfl ?_
  refine ck_Server_166_Packet C (pl_Datagram_packet (pl_Server_request t0)) h d_Sv_openRequest_22 (pc' := 25) rfl ⟨Nat.le_of_ble_eq_true rfl, Nat.le_of_ble_eq_true rfl⟩ (Nat.le_of_ble_eq_true rfl) (fun r4 u3 h => ?_)
  refine pj_iconst C d_Sv_openRequest_25 (pc' := 26) rfl (v := 1) (by decide) ?_
  refine pj_iadd C d_Sv_openRequest_26 (pc' := 27) rfl ?_
  refine pj_sipush C d_Sv_openRequest_27 (pc' := 30) rfl (v := 255) (by decide) ?_
  refine pj_iand C d_Sv_openRequest_30 (pc' := 31) rfl ?_
  refine fp_Server_167_Session C t1  d_Sv_openRequest_31 (pc' := 34) rfl h (fun u5 h => ?_)
  refine pj_aload_n C d_Sv_openRequest_34 (pc' := 35) (i := 0) (x := b + i0) rfl rfl rfl ?_
  refine fg_Server_43_Server C t0 d_Sv_openRequest_35 (pc' := 38) rfl ?_
  refine pj_iconst C d_Sv_openRequest_38 (pc' := 39) rfl (v := 1) (by decide) ?_
  refine pj_aload_n C d_Sv_openRequest_39 (pc' := 40) (i := 1) (x := b + i1) rfl rfl rfl ?_
  refine fg_Server_167_Session C t1 d_Sv_openRequest_40 (pc' := 43) rfl ?_
  refine pj_iload_n C d_Sv_openRequest_43 (pc' := 44) (i := 2) (x := x2) rfl rfl rfl ?_
  refine ck_Server_244_Packet C (pl_Server_content t0) h d_Sv_openRequest_44 (pc' := 47) rfl ⟨Nat.le_of_ble_eq_true rfl, Nat.le_of_ble_eq_true rfl⟩ (Nat.le_of_ble_eq_true rfl) (fun u6 h => ?_)
  exact pj_vret C hE d_Sv_openRequest_47 ⟨rfl, h⟩
def pw_Sv_openRequest (u : pj_M) (i0 : Nat) (i1 : Nat) (x2 : Int32) (K : pj_M → Prop) : Prop := pb_Sv_openRequest_0  K u i0 i1 x2
theorem pc_Sv_openRequest (l : Launch) (D : va_G) (E : Nat → ClassId) {b : Nat} {u : pj_M} {i0 : Nat} {i1 : Nat} {x2 : Int32} {K : pj_M → Prop} (t0 : pj_T i0 = 8) (t1 : pj_T i1 = 7) (h : pw_Sv_openRequest u i0 i1 x2 K) : pj_C l y_Sv_openRequest c_Sv_openRequest 3 none rm_Sv_openRequest D E b [.ref (b + i0), .ref (b + i1), .int x2] u (pj_Kv K) := by
  refine pj_met (own := R_Sv) (by decide +kernel) rfl (Nat.le_of_ble_eq_true rfl) (fun g hE C => ?_)
  unfold pw_Sv_openRequest at h
  show pj_J g (pj_N g b u) 0 [some (.ref (b + i0)), some (.ref (b + i1)), some (.int x2)] []
  exact pj_cut (pj_le_s (pj_le_s (pj_le_s pj_le_e))) (pt_Sv_openRequest_0 C hE  t0 t1 h)
/-! Server.beginMethod(LPortGuard$Session;I)V -/
theorem fp_Server_215_Session {g : pj_G} {b : Nat} {cc : ByteArray} {nL : Nat} {ret : Option FieldType} {rm : Room} {u : pj_M} {pc pc' : Nat} {vs : List (Option Value)} {st : List Value} (C : pj_X g cc nL R_Sv ret rm) {i : Nat} {x : Int32} {P : pj_M → Prop} (t : pj_T i = 7)  (hdg : decode cc pc = .ok (.putfield 215, 3)) (hp : pc + 3 = pc') (h : pj_put u i 2 x P) (kk : ∀ u', P u' → pj_J g (pj_N g b u') pc' vs st) : pj_J g (pj_N g b u) pc vs (.int x :: .ref (b + i) :: st) :=
  pj_putI C cl_Session hin_Session ty_Session tyok_Session nm_Session (k := 2) (Nat.le_of_ble_eq_true rfl) wm_305 (Or.inl rfl) rfl (ty := .int) (by decide +kernel) rfl rfl (pj_lt t (by decide)) (fun E u => ko_7 t) (F := fun f => [.int (f 0), .int (f 1), .int (f 2), .int (f 3), .int (f 4), .int (f 5), .int (f 6), .int (f 7)]) (fun _ => Nat.le_of_ble_eq_true rfl) (fun _ _ => rfl) hdg hp h kk
theorem fg_Server_202_Session {g : pj_G} {b : Nat} {cc : ByteArray} {nL : Nat} {ret : Option FieldType} {rm : Room} {u : pj_M} {pc pc' : Nat} {vs : List (Option Value)} {st : List Value} (C : pj_X g cc nL R_Sv ret rm) {i : Nat} (t : pj_T i = 7) (hdg : decode cc pc = .ok (.getfield 202, 3)) (hp : pc + 3 = pc') (kk : pj_J g (pj_N g b u) pc' vs (.int (u i 3) :: st)) : pj_J g (pj_N g b u) pc vs (.ref (b + i) :: st) :=
  pj_get C cl_Session hin_Session (k := 3) (Nat.le_of_ble_eq_true rfl) wm_306 (Or.inl rfl) (pj_lt t (by decide)) (fun E => ko_7 t) rfl hdg hp kk
theorem fp_Server_202_Session {g : pj_G} {b : Nat} {cc : ByteArray} {nL : Nat} {ret : Option FieldType} {rm : Room} {u : pj_M} {pc pc' : Nat} {vs : List (Option Value)} {st : List Value} (C : pj_X g cc nL R_Sv ret rm) {i : Nat} {x : Int32} {P : pj_M → Prop} (t : pj_T i = 7)  (hdg : decode cc pc = .ok (.putfield 202, 3)) (hp : pc + 3 = pc') (h : pj_put u i 3 x P) (kk : ∀ u', P u' → pj_J g (pj_N g b u') pc' vs st) : pj_J g (pj_N g b u) pc vs (.int x :: .ref (b + i) :: st) :=
  pj_putI C cl_Session hin_Session ty_Session tyok_Session nm_Session (k := 3) (Nat.le_of_ble_eq_true rfl) wm_306 (Or.inl rfl) rfl (ty := .int) (by decide +kernel) rfl rfl (pj_lt t (by decide)) (fun E u => ko_7 t) (F := fun f => [.int (f 0), .int (f 1), .int (f 2), .int (f 3), .int (f 4), .int (f 5), .int (f 6), .int (f 7)]) (fun _ => Nat.le_of_ble_eq_true rfl) (fun _ _ => rfl) hdg hp h kk
theorem fg_Server_58_Server {g : pj_G} {b : Nat} {cc : ByteArray} {nL : Nat} {ret : Option FieldType} {rm : Room} {u : pj_M} {pc pc' : Nat} {vs : List (Option Value)} {st : List Value} (C : pj_X g cc nL R_Sv ret rm) {i : Nat} (t : pj_T i = 8) (hdg : decode cc pc = .ok (.getfield 58, 3)) (hp : pc + 3 = pc') (kk : pj_J g (pj_N g b u) pc' vs (.ref (b + 1) :: st)) : pj_J g (pj_N g b u) pc vs (.ref (b + i) :: st) :=
  pj_get C cl_Server hin_Server (k := 2) (Nat.le_of_ble_eq_true rfl) wm_331 (Or.inl rfl) (pj_lt t (by decide)) (fun E => ko_8 t) rfl hdg hp kk
theorem fg_Server_218_Users {g : pj_G} {b : Nat} {cc : ByteArray} {nL : Nat} {ret : Option FieldType} {rm : Room} {u : pj_M} {pc pc' : Nat} {vs : List (Option Value)} {st : List Value} (C : pj_X g cc nL R_Sv ret rm) {i : Nat} (t : pj_T i = 1) (hdg : decode cc pc = .ok (.getfield 218, 3)) (hp : pc + 3 = pc') (kk : pj_J g (pj_N g b u) pc' vs (.ref (b + 2) :: st)) : pj_J g (pj_N g b u) pc vs (.ref (b + i) :: st) :=
  pj_get C cl_Users hin_Users (k := 0) (Nat.le_of_ble_eq_true rfl) wm_123 (Or.inl rfl) (pj_lt t (by decide)) (fun E => ko_1 t) rfl hdg hp kk
theorem fg_Server_199_Session {g : pj_G} {b : Nat} {cc : ByteArray} {nL : Nat} {ret : Option FieldType} {rm : Room} {u : pj_M} {pc pc' : Nat} {vs : List (Option Value)} {st : List Value} (C : pj_X g cc nL R_Sv ret rm) {i : Nat} (t : pj_T i = 7) (hdg : decode cc pc = .ok (.getfield 199, 3)) (hp : pc + 3 = pc') (kk : pj_J g (pj_N g b u) pc' vs (.int (u i 1) :: st)) : pj_J g (pj_N g b u) pc vs (.ref (b + i) :: st) :=
  pj_get C cl_Session hin_Session (k := 1) (Nat.le_of_ble_eq_true rfl) wm_304 (Or.inl rfl) (pj_lt t (by decide)) (fun E => ko_7 t) rfl hdg hp kk
theorem fg_Server_51_Server {g : pj_G} {b : Nat} {cc : ByteArray} {nL : Nat} {ret : Option FieldType} {rm : Room} {u : pj_M} {pc pc' : Nat} {vs : List (Option Value)} {st : List Value} (C : pj_X g cc nL R_Sv ret rm) {i : Nat} (t : pj_T i = 8) (hdg : decode cc pc = .ok (.getfield 51, 3)) (hp : pc + 3 = pc') (kk : pj_J g (pj_N g b u) pc' vs (.int (u i 0) :: st)) : pj_J g (pj_N g b u) pc vs (.ref (b + i) :: st) :=
  pj_get C cl_Server hin_Server (k := 0) (Nat.le_of_ble_eq_true rfl) wm_329 (Or.inl rfl) (pj_lt t (by decide)) (fun E => ko_8 t) rfl hdg hp kk
theorem fg_Server_221_Server {g : pj_G} {b : Nat} {cc : ByteArray} {nL : Nat} {ret : Option FieldType} {rm : Room} {u : pj_M} {pc pc' : Nat} {vs : List (Option Value)} {st : List Value} (C : pj_X g cc nL R_Sv ret rm) {i : Nat} (t : pj_T i = 8) (hdg : decode cc pc = .ok (.getfield 221, 3)) (hp : pc + 3 = pc') (kk : pj_J g (pj_N g b u) pc' vs (.int (u i 16) :: st)) : pj_J g (pj_N g b u) pc vs (.ref (b + i) :: st) :=
  pj_get C cl_Server hin_Server (k := 16) (Nat.le_of_ble_eq_true rfl) wm_346 (Or.inl rfl) (pj_lt t (by decide)) (fun E => ko_8 t) rfl hdg hp kk
theorem fp_Server_230_Session {g : pj_G} {b : Nat} {cc : ByteArray} {nL : Nat} {ret : Option FieldType} {rm : Room} {u : pj_M} {pc pc' : Nat} {vs : List (Option Value)} {st : List Value} (C : pj_X g cc nL R_Sv ret rm) {i : Nat} {x : Int32} {P : pj_M → Prop} (t : pj_T i = 7)  (hdg : decode cc pc = .ok (.putfield 230, 3)) (hp : pc + 3 = pc') (h : pj_put u i 5 x P) (kk : ∀ u', P u' → pj_J g (pj_N g b u') pc' vs st) : pj_J g (pj_N g b u) pc vs (.int x :: .ref (b + i) :: st) :=
  pj_putI C cl_Session hin_Session ty_Session tyok_Session nm_Session (k := 5) (Nat.le_of_ble_eq_true rfl) wm_308 (Or.inl rfl) rfl (ty := .int) (by decide +kernel) rfl rfl (pj_lt t (by decide)) (fun E u => ko_7 t) (F := fun f => [.int (f 0), .int (f 1), .int (f 2), .int (f 3), .int (f 4), .int (f 5), .int (f 6), .int (f 7)]) (fun _ => Nat.le_of_ble_eq_true rfl) (fun _ _ => rfl) hdg hp h kk
theorem fp_Server_221_Server {g : pj_G} {b : Nat} {cc : ByteArray} {nL : Nat} {ret : Option FieldType} {rm : Room} {u : pj_M} {pc pc' : Nat} {vs : List (Option Value)} {st : List Value} (C : pj_X g cc nL R_Sv ret rm) {i : Nat} {x : Int32} {P : pj_M → Prop} (t : pj_T i = 8)  (hdg : decode cc pc = .ok (.putfield 221, 3)) (hp : pc + 3 = pc') (h : pj_put u i 16 x P) (kk : ∀ u', P u' → pj_J g (pj_N g b u') pc' vs st) : pj_J g (pj_N g b u) pc vs (.int x :: .ref (b + i) :: st) :=
  pj_putI C cl_Server hin_Server ty_Server tyok_Server nm_Server (k := 16) (Nat.le_of_ble_eq_true rfl) wm_346 (Or.inl rfl) rfl (ty := .int) (by decide +kernel) rfl rfl (pj_lt t (by decide)) (fun E u => ko_8 t) (F := fun f => [.int (f 0), .int (f 1), .ref (b + 1), .ref (b + 4), .ref (b + (i + 1)), .ref (b + (i + 2)), .ref (b + (i + 3)), .ref (b + (i + 4)), .ref (b + (i + 5)), .ref (b + (i + 10)), .ref (b + (i + 15)), .int (f 11), .int (f 12), .int (f 13), .int (f 14), .int (f 15), .int (f 16), .int (f 17), .int (f 18), .int (f 19)]) (fun _ => Nat.le_of_ble_eq_true rfl) (fun _ _ => rfl) hdg hp h kk
theorem fg_Server_230_Session {g : pj_G} {b : Nat} {cc : ByteArray} {nL : Nat} {ret : Option FieldType} {rm : Room} {u : pj_M} {pc pc' : Nat} {vs : List (Option Value)} {st : List Value} (C : pj_X g cc nL R_Sv ret rm) {i : Nat} (t : pj_T i = 7) (hdg : decode cc pc = .ok (.getfield 230, 3)) (hp : pc + 3 = pc') (kk : pj_J g (pj_N g b u) pc' vs (.int (u i 5) :: st)) : pj_J g (pj_N g b u) pc vs (.ref (b + i) :: st) :=
  pj_get C cl_Session hin_Session (k := 5) (Nat.le_of_ble_eq_true rfl) wm_308 (Or.inl rfl) (pj_lt t (by decide)) (fun E => ko_7 t) rfl hdg hp kk
theorem ck_Server_224 {g : pj_G} {b : Nat} {cc : ByteArray} {nL : Nat} {ret : Option FieldType} {rm : Room} {u : pj_M} {pc pc' : Nat} {vs : List (Option Value)} {st : List Value} (C : pj_X g cc nL R_Sv ret rm) {x0 : Int32} {x1 : Int32} {x2 : Int32} {K : Int32 → pj_M → Prop}  (h : pw_Di_random u x0 x1 x2 K) (hdg : decode cc pc = .ok (.invokestatic 224, 3)) (hp : pc + 3 = pc') (hR : rm_Di_random.frames + 1 ≤ rm.frames ∧ 8 + (3 + 11) + rm_Di_random.locals ≤ rm.locals) (h8 : (st.map fun v => v.category).sum ≤ 8) (kk : ∀ r u', K r u' → pj_J g (pj_N g b u') pc' vs (.int r :: st)) : pj_J g (pj_N g b u) pc vs (.int x2 :: .int x1 :: .int x0 :: st) :=
  pj_callS C (As := [.int x0, .int x1, .int x2]) (fun l D E => pc_Di_random l D E  h) rfl rfl wm_940 wm_859 wm_105 wm_860 (by decide +kernel) (n := 3) rfl hR rfl h8 hdg hp (fun v u' hq => by obtain ⟨r, rfl, hk⟩ := hq; exact kk r u' hk)
theorem ck_Server_232_Server {g : pj_G} {b : Nat} {cc : ByteArray} {nL : Nat} {ret : Option FieldType} {rm : Room} {u : pj_M} {pc pc' : Nat} {vs : List (Option Value)} {st : List Value} (C : pj_X g cc nL R_Sv ret rm) {i0 : Nat} {i1 : Nat} {x2 : Int32} {K : pj_M → Prop} (t0 : pj_T i0 = 8) (t1 : pj_T i1 = 7) (h : pw_Sv_openRequest u i0 i1 x2 K) (hdg : decode cc pc = .ok (.invokevirtual 232, 3)) (hp : pc + 3 = pc') (hR : rm_Sv_openRequest.frames + 1 ≤ rm.frames ∧ 8 + (3 + 11) + rm_Sv_openRequest.locals ≤ rm.locals) (h8 : (st.map fun v => v.category).sum ≤ 8) (kk : ∀ u', K u' → pj_J g (pj_N g b u') pc' vs st) : pj_J g (pj_N g b u) pc vs (.int x2 :: .ref (b + i1) :: .ref (b + i0) :: st) :=
  pj_callV C (As := [.ref (b + i1), .int x2]) (fun l D E => pc_Sv_openRequest l D E t0 t1 h) rfl rfl cl_Server (pj_lt t0 (by decide)) (fun E => ko_8 t0) wm_941 wm_943 wm_24 wm_97 wm_944 (by decide +kernel) (n := 2) rfl hR rfl h8 hdg hp (fun v u' hq => by obtain ⟨rfl, hk⟩ := hq; exact kk u' hk)
theorem ck_Server_238_Packet {g : pj_G} {b : Nat} {cc : ByteArray} {nL : Nat} {ret : Option FieldType} {rm : Room} {u : pj_M} {pc pc' : Nat} {vs : List (Option Value)} {st : List Value} (C : pj_X g cc nL R_Sv ret rm) {i0 : Nat} {x1 : Int32} {K : pj_M → Prop} (t : pj_T i0 = 4) (h : pw_Ro_putInt u i0 x1 K) (hdg : decode cc pc = .ok (.invokevirtual 238, 3)) (hp : pc + 3 = pc') (hR : rm_Ro_putInt.frames + 1 ≤ rm.frames ∧ 8 + (2 + 11) + rm_Ro_putInt.locals ≤ rm.locals) (h8 : (st.map fun v => v.category).sum ≤ 8) (kk : ∀ u', K u' → pj_J g (pj_N g b u') pc' vs st) : pj_J g (pj_N g b u) pc vs (.int x1 :: .ref (b + i0) :: st) := by
  have t0 : pj_R i0 := Or.inr t
  exact pj_callU C (x := ⟨"PortGuard$Packet", "putInt", "(I)V"⟩) (owner := "PortGuard$Row") (As := [.int x1]) (fun l D E => pc_Ro_putInt l D E t0 h) rfl rfl cl_Packet (pj_lt t (by decide)) (fun E => ko_4 t) rfl wm_948 wm_766 wm_848 wm_94 wm_770 wm_846 (by decide +kernel) (n := 1) rfl hR rfl h8 hdg hp (fun v u' hq => by obtain ⟨rfl, hk⟩ := hq; exact kk u' hk)
theorem ck_Server_241_Packet {g : pj_G} {b : Nat} {cc : ByteArray} {nL : Nat} {ret : Option FieldType} {rm : Room} {u : pj_M} {pc pc' : Nat} {vs : List (Option Value)} {st : List Value} (C : pj_X g cc nL R_Sv ret rm) {i0 : Nat} {K : pj_M → Prop} (t0 : pj_T i0 = 4) (h : pw_Pa_setLength u i0 K) (hdg : decode cc pc = .ok (.invokevirtual 241, 3)) (hp : pc + 3 = pc') (hR : rm_Pa_setLength.frames + 1 ≤ rm.frames ∧ 8 + (1 + 11) + rm_Pa_setLength.locals ≤ rm.locals) (h8 : (st.map fun v => v.category).sum ≤ 8) (kk : ∀ u', K u' → pj_J g (pj_N g b u') pc' vs st) : pj_J g (pj_N g b u) pc vs (.ref (b + i0) :: st) :=
  pj_callV C (As := []) (fun l D E => pc_Pa_setLength l D E t0 h) rfl rfl cl_Packet (pj_lt t0 (by decide)) (fun E => ko_4 t0) wm_949 wm_619 wm_620 wm_96 wm_621 (by decide +kernel) (n := 0) rfl hR rfl h8 hdg hp (fun v u' hq => by obtain ⟨rfl, hk⟩ := hq; exact kk u' hk)
theorem ck_Server_235_Packet {g : pj_G} {b : Nat} {cc : ByteArray} {nL : Nat} {ret : Option FieldType} {rm : Room} {u : pj_M} {pc pc' : Nat} {vs : List (Option Value)} {st : List Value} (C : pj_X g cc nL R_Sv ret rm) {i0 : Nat} {x1 : Int32} {K : pj_M → Prop} (t : pj_T i0 = 4) (h : pw_Ro_put u i0 x1 K) (hdg : decode cc pc = .ok (.invokevirtual 235, 3)) (hp : pc + 3 = pc') (hR : rm_Ro_put.frames + 1 ≤ rm.frames ∧ 8 + (2 + 11) + rm_Ro_put.locals ≤ rm.locals) (h8 : (st.map fun v => v.category).sum ≤ 8) (kk : ∀ u', K u' → pj_J g (pj_N g b u') pc' vs st) : pj_J g (pj_N g b u) pc vs (.int x1 :: .ref (b + i0) :: st) := by
  have t0 : pj_R i0 := Or.inr t
  exact pj_callU C (x := ⟨"PortGuard$Packet", "put", "(I)V"⟩) (owner := "PortGuard$Row") (As := [.int x1]) (fun l D E => pc_Ro_put l D E t0 h) rfl rfl cl_Packet (pj_lt t (by decide)) (fun E => ko_4 t) rfl wm_947 wm_589 wm_617 wm_94 wm_593 wm_615 (by decide +kernel) (n := 1) rfl hR rfl h8 hdg hp (fun v u' hq => by obtain ⟨rfl, hk⟩ := hq; exact kk u' hk)
def rm_Sv_beginMethod : Room := { frames := 3, cells := 0, slots := 0, locals := 66 }
def pb_Sv_beginMethod_81  (K : pj_M → Prop) (u : pj_M) (i0 : Nat) (i1 : Nat) : Prop := pw_Ro_putInt u (i0 + 15) (u i1 5) fun u1 => (pw_Pa_setLength u1 (i0 + 15) fun u2 => (K u2))
set_option maxHeartbeats 1000000 in
theorem pt_Sv_beginMethod_81 {g : pj_G} {b : Nat} (C : pj_X g c_Sv_beginMethod 3 R_Sv none rm_Sv_beginMethod) {K : pj_M → Prop} (hE : pj_E g b (pj_Kv K))   {u : pj_M} {i0 : Nat} {i1 : Nat}  (t0 : pj_T i0 = 8) (t1 : pj_T i1 = 7) (h : pb_Sv_beginMethod_81  K u i0 i1) : pj_J g (pj_N g b u) 81 [some (.ref (b + i0)), some (.ref (b + i1)), none] [] := by
  unfold pb_Sv_beginMethod_81 at h
  refine pj_aload_n C d_Sv_beginMethod_81 (pc' := 82) (i := 0) (x := b + i0) rfl rfl rfl ?_
  refine fg_Server_43_Server C t0 d_Sv_beginMethod_82 (pc' := 85) rfl ?_
  refine pj_aload_n C d_Sv_beginMethod_85 (pc' := 86) (i := 1) (x := b + i1) rfl rfl rfl ?_
  refine fg_Server_230_Session C t1 d_Sv_beginMethod_86 (pc' := 89) rfl ?_
  refine ck_Server_238_Packet C (pl_Server_content t0) h d_Sv_beginMethod_89 (pc' := 92) rfl ⟨Nat.le_of_ble_eq_true rfl, Nat.le_of_ble_eq_true rfl⟩ (Nat.le_of_ble_eq_true rfl) (fun u1 h => ?_)
  refine pj_aload_n C d_Sv_beginMethod_92 (pc' := 93) (i := 0) (x := b + i0) rfl rfl rfl ?_
  refine fg_Server_43_Server C t0 d_Sv_beginMethod_93 (pc' := 96) rfl ?_
  refine ck_Server_241_Packet C (pl_Server_content t0) h d_Sv_beginMethod_96 (pc' := 99) rfl ⟨Nat.le_of_ble_eq_true rfl, Nat.le_of_ble_eq_true rfl⟩ (Nat.le_of_ble_eq_true rfl) (fun u2 h => ?_)
  exact pj_vret C hE d_Sv_beginMethod_99 ⟨rfl, h⟩
def pb_Sv_beginMethod_66  (K : pj_M → Prop) (u : pj_M) (i0 : Nat) (i1 : Nat) : Prop := pw_Sv_openRequest u i0 i1 51 fun u1 => (pw_Ro_put u1 (i0 + 15) 1 fun u2 => (pb_Sv_beginMethod_81  K u2 i0 i1))
set_option maxHeartbeats 1000000 in
theorem pt_Sv_beginMethod_66 {g : pj_G} {b : Nat} (C : pj_X g c_Sv_beginMethod 3 R_Sv none rm_Sv_beginMethod) {K : pj_M → Prop} (hE : pj_E g b (pj_Kv K))   {u : pj_M} {i0 : Nat} {i1 : Nat}  (t0 : pj_T i0 = 8) (t1 : pj_T i1 = 7) (h : pb_Sv_beginMethod_66  K u i0 i1) : pj_J g (pj_N g b u) 66 [some (.ref (b + i0)), some (.ref (b + i1)), none] [] := by
  unfold pb_Sv_beginMethod_66 at h
  refine pj_aload_n C d_Sv_beginMethod_66 (pc' := 67) (i := 0) (x := b + i0) rfl rfl rfl ?_
  refine pj_aload_n C d_Sv_beginMethod_67 (pc' := 68) (i := 1) (x := b + i1) rfl rfl rfl ?_
  refine pj_bipush C d_Sv_beginMethod_68 (pc' := 70) rfl (v := 51) (by decide) ?_
  refine ck_Server_232_Server C t0 t1 h d_Sv_beginMethod_70 (pc' := 73) rfl ⟨Nat.le_of_ble_eq_true rfl, Nat.le_of_ble_eq_true rfl⟩ (Nat.le_of_ble_eq_true rfl) (fun u1 h => ?_)
  refine pj_aload_n C d_Sv_beginMethod_73 (pc' := 74) (i := 0) (x := b + i0) rfl rfl rfl ?_
  refine fg_Server_43_Server C t0 d_Sv_beginMethod_74 (pc' := 77) rfl ?_
  refine pj_iconst C d_Sv_beginMethod_77 (pc' := 78) rfl (v := 1) (by decide) ?_
  refine ck_Server_235_Packet C (pl_Server_content t0) h d_Sv_beginMethod_78 (pc' := 81) rfl ⟨Nat.le_of_ble_eq_true rfl, Nat.le_of_ble_eq_true rfl⟩ (Nat.le_of_ble_eq_true rfl) (fun u2 h => ?_)
  exact pj_cut (pj_le_s (pj_le_s (pj_le_n pj_le_e))) (pt_Sv_beginMethod_81 C hE  t0 t1 h)
def pb_Sv_beginMethod_57  (K : pj_M → Prop) (u : pj_M) (i0 : Nat) (i1 : Nat) : Prop := pw_Sv_openRequest u i0 i1 4 fun u1 => (pb_Sv_beginMethod_81  K u1 i0 i1)
set_option maxHeartbeats 1000000 in
theorem pt_Sv_beginMethod_57 {g : pj_G} {b : Nat} (C : pj_X g c_Sv_beginMethod 3 R_Sv none rm_Sv_beginMethod) {K : pj_M → Prop} (hE : pj_E g b (pj_Kv K))   {u : pj_M} {i0 : Nat} {i1 : Nat}  (t0 : pj_T i0 = 8) (t1 : pj_T i1 = 7) (h : pb_Sv_beginMethod_57  K u i0 i1) : pj_J g (pj_N g b u) 57 [some (.ref (b + i0)), some (.ref (b + i1)), none] [] := by
  unfold pb_Sv_beginMethod_57 at h
  refine pj_aload_n C d_Sv_beginMethod_57 (pc' := 58) (i := 0) (x := b + i0) rfl rfl rfl ?_
  refine pj_aload_n C d_Sv_beginMethod_58 (pc' := 59) (i := 1) (x := b + i1) rfl rfl rfl ?_
  refine pj_iconst C d_Sv_beginMethod_59 (pc' := 60) rfl (v := 4) (by decide) ?_
  refine ck_Server_232_Server C t0 t1 h d_Sv_beginMethod_60 (pc' := 63) rfl ⟨Nat.le_of_ble_eq_true rfl, Nat.le_of_ble_eq_true rfl⟩ (Nat.le_of_ble_eq_true rfl) (fun u1 h => ?_)
  refine pj_goto C d_Sv_beginMethod_63 (tgt := 81) (by decide) ?_
  exact pj_cut (pj_le_s (pj_le_s (pj_le_n pj_le_e))) (pt_Sv_beginMethod_81 C hE  t0 t1 h)
def pb_Sv_beginMethod_0  (K : pj_M → Prop) (u : pj_M) (i0 : Nat) (i1 : Nat) (x2 : Int32) : Prop := pj_put u i1 2 x2 fun u1 => (pj_put u1 i1 3 ((u1 i1 3) ||| x2) fun u2 => (vp_in (u2 i1 1) 8 ∧ (pw_Di_random u2 (u2 2 (u2 i1 1).toNatClampNeg) (u2 i0 0) (u2 i0 16) fun r4 u3 => (pj_put u3 i1 5 r4 fun u5 => (pj_put u5 i0 16 ((u5 i0 16) + 1) fun u6 => (((x2 = 1) → (pb_Sv_beginMethod_57  K u6 i0 i1)) ∧ (¬ (x2 = 1) → (pb_Sv_beginMethod_66  K u6 i0 i1))))))))
set_option maxHeartbeats 1000000 in
theorem pt_Sv_beginMethod_0 {g : pj_G} {b : Nat} (C : pj_X g c_Sv_beginMethod 3 R_Sv none rm_Sv_beginMethod) {K : pj_M → Prop} (hE : pj_E g b (pj_Kv K))   {u : pj_M} {i0 : Nat} {i1 : Nat} {x2 : Int32}  (t0 : pj_T i0 = 8) (t1 : pj_T i1 = 7) (h : pb_Sv_beginMethod_0  K u i0 i1 x2) : pj_J g (pj_N g b u) 0 [some (.ref (b + i0)), some (.ref (b + i1)), some (.int x2)] [] := by
  unfold pb_Sv_beginMethod_0 at h
  refine pj_aload_n C d_Sv_beginMethod_0 (pc' := 1) (i := 1) (x := b + i1) rfl rfl rfl ?_
  refine pj_iload_n C d_Sv_beginMethod_1 (pc' := 2) (i := 2) (x := x2) rfl rfl rfl ?_
  refine fp_Server_215_Session C t1  d_Sv_beginMethod_2 (pc' := 5) rfl h (fun u1 h => ?_)
  refine pj_aload_n C d_Sv_beginMethod_5 (pc' := 6) (i := 1) (x := b + i1) rfl rfl rfl ?_
  refine pj_dup C d_Sv_beginMethod_6 (pc' := 7) rfl rfl ?_
  refine fg_Server_202_Session C t1 d_Sv_beginMethod_7 (pc' := 10) rfl ?_
  refine pj_iload_n C d_Sv_beginMethod_10 (pc' := 11) (i := 2) (x := x2) rfl rfl rfl ?_
  refine pj_ior C d_Sv_beginMethod_11 (pc' := 12) rfl ?_
  refine fp_Server_202_Session C t1  d_Sv_beginMethod_12 (pc' := 15) rfl h (fun u2 h => ?_)
  refine pj_aload_n C d_Sv_beginMethod_15 (pc' := 16) (i := 1) (x := b + i1) rfl rfl rfl ?_
  refine pj_aload_n C d_Sv_beginMethod_16 (pc' := 17) (i := 0) (x := b + i0) rfl rfl rfl ?_
  refine fg_Server_58_Server C t0 d_Sv_beginMethod_17 (pc' := 20) rfl ?_
  refine fg_Server_218_Users C tk_1 d_Sv_beginMethod_20 (pc' := 23) rfl ?_
  refine pj_aload_n C d_Sv_beginMethod_23 (pc' := 24) (i := 1) (x := b + i1) rfl rfl rfl ?_
  refine fg_Server_199_Session C t1 d_Sv_beginMethod_24 (pc' := 27) rfl ?_
  refine pj_iald C (pj_lt tk_2 (by decide)) (fun E u => ka_20 tk_2) d_Sv_beginMethod_27 (pc' := 28) rfl h (fun h => ?_)
  refine pj_aload_n C d_Sv_beginMethod_28 (pc' := 29) (i := 0) (x := b + i0) rfl rfl rfl ?_
  refine fg_Server_51_Server C t0 d_Sv_beginMethod_29 (pc' := 32) rfl ?_
  refine pj_aload_n C d_Sv_beginMethod_32 (pc' := 33) (i := 0) (x := b + i0) rfl rfl rfl ?_
  refine fg_Server_221_Server C t0 d_Sv_beginMethod_33 (pc' := 36) rfl ?_
  refine ck_Server_224 C  h d_Sv_beginMethod_36 (pc' := 39) rfl ⟨Nat.le_of_ble_eq_true rfl, Nat.le_of_ble_eq_true rfl⟩ (Nat.le_of_ble_eq_true rfl) (fun r4 u3 h => ?_)
  refine fp_Server_230_Session C t1  d_Sv_beginMethod_39 (pc' := 42) rfl h (fun u5 h => ?_)
  refine pj_aload_n C d_Sv_beginMethod_42 (pc' := 43) (i := 0) (x := b + i0) rfl rfl rfl ?_
  refine pj_dup C d_Sv_beginMethod_43 (pc' := 44) rfl rfl ?_
  refine fg_Server_221_Server C t0 d_Sv_beginMethod_44 (pc' := 47) rfl ?_
  refine pj_iconst C d_Sv_beginMethod_47 (pc' := 48) rfl (v := 1) (by decide) ?_
  refine pj_iadd C d_Sv_beginMethod_48 (pc' := 49) rfl ?_
  refine fp_Server_221_Server C t0  d_Sv_beginMethod_49 (pc' := 52) rfl h (fun u6 h => ?_)
  refine pj_iload_n C d_Sv_beginMethod_52 (pc' := 53) (i := 2) (x := x2) rfl rfl rfl ?_
  refine pj_iconst C d_Sv_beginMethod_53 (pc' := 54) rfl (v := 1) (by decide) ?_
  refine pj_icmp_ne C d_Sv_beginMethod_54 (pc' := 57) rfl (tgt := 66) (by decide) h (fun h => ?_) (fun h => ?_)
  · exact pj_cut (pj_le_s (pj_le_s (pj_le_n pj_le_e))) (pt_Sv_beginMethod_66 C hE  t0 t1 h)
  · exact pj_cut (pj_le_s (pj_le_s (pj_le_n pj_le_e))) (pt_Sv_beginMethod_57 C hE  t0 t1 h)
def pw_Sv_beginMethod (u : pj_M) (i0 : Nat) (i1 : Nat) (x2 : Int32) (K : pj_M → Prop) : Prop := pb_Sv_beginMethod_0  K u i0 i1 x2
theorem pc_Sv_beginMethod (l : Launch) (D : va_G) (E : Nat → ClassId) {b : Nat} {u : pj_M} {i0 : Nat} {i1 : Nat} {x2 : Int32} {K : pj_M → Prop} (t0 : pj_T i0 = 8) (t1 : pj_T i1 = 7) (h : pw_Sv_beginMethod u i0 i1 x2 K) : pj_C l y_Sv_beginMethod c_Sv_beginMethod 3 none rm_Sv_beginMethod D E b [.ref (b + i0), .ref (b + i1), .int x2] u (pj_Kv K) := by
  refine pj_met (own := R_Sv) (by decide +kernel) rfl (Nat.le_of_ble_eq_true rfl) (fun g hE C => ?_)
  unfold pw_Sv_beginMethod at h
  show pj_J g (pj_N g b u) 0 [some (.ref (b + i0)), some (.ref (b + i1)), some (.int x2)] []
  exact pj_cut (pj_le_s (pj_le_s (pj_le_s pj_le_e))) (pt_Sv_beginMethod_0 C hE  t0 t1 h)
/-! Server.openSession(LPortGuard$Packet;)Z -/
theorem fg_Server_195_Server {g : pj_G} {b : Nat} {cc : ByteArray} {nL : Nat} {ret : Option FieldType} {rm : Room} {u : pj_M} {pc pc' : Nat} {vs : List (Option Value)} {st : List Value} (C : pj_X g cc nL R_Sv ret rm) {i : Nat} (t : pj_T i = 8) (hdg : decode cc pc = .ok (.getfield 195, 3)) (hp : pc + 3 = pc') (kk : pj_J g (pj_N g b u) pc' vs (.int (u i 15) :: st)) : pj_J g (pj_N g b u) pc vs (.ref (b + i) :: st) :=
  pj_get C cl_Server hin_Server (k := 15) (Nat.le_of_ble_eq_true rfl) wm_345 (Or.inl rfl) (pj_lt t (by decide)) (fun E => ko_8 t) rfl hdg hp kk
theorem fp_Server_178_Session {g : pj_G} {b : Nat} {cc : ByteArray} {nL : Nat} {ret : Option FieldType} {rm : Room} {u : pj_M} {pc pc' : Nat} {vs : List (Option Value)} {st : List Value} (C : pj_X g cc nL R_Sv ret rm) {i : Nat} {x : Int32} {P : pj_M → Prop} (t : pj_T i = 7)  (hdg : decode cc pc = .ok (.putfield 178, 3)) (hp : pc + 3 = pc') (h : pj_put u i 0 x P) (kk : ∀ u', P u' → pj_J g (pj_N g b u') pc' vs st) : pj_J g (pj_N g b u) pc vs (.int x :: .ref (b + i) :: st) :=
  pj_putI C cl_Session hin_Session ty_Session tyok_Session nm_Session (k := 0) (Nat.le_of_ble_eq_true rfl) wm_303 (Or.inl rfl) rfl (ty := .int) (by decide +kernel) rfl rfl (pj_lt t (by decide)) (fun E u => ko_7 t) (F := fun f => [.int (f 0), .int (f 1), .int (f 2), .int (f 3), .int (f 4), .int (f 5), .int (f 6), .int (f 7)]) (fun _ => Nat.le_of_ble_eq_true rfl) (fun _ _ => rfl) hdg hp h kk
theorem fp_Server_195_Server {g : pj_G} {b : Nat} {cc : ByteArray} {nL : Nat} {ret : Option FieldType} {rm : Room} {u : pj_M} {pc pc' : Nat} {vs : List (Option Value)} {st : List Value} (C : pj_X g cc nL R_Sv ret rm) {i : Nat} {x : Int32} {P : pj_M → Prop} (t : pj_T i = 8)  (hdg : decode cc pc = .ok (.putfield 195, 3)) (hp : pc + 3 = pc') (h : pj_put u i 15 x P) (kk : ∀ u', P u' → pj_J g (pj_N g b u') pc' vs st) : pj_J g (pj_N g b u) pc vs (.int x :: .ref (b + i) :: st) :=
  pj_putI C cl_Server hin_Server ty_Server tyok_Server nm_Server (k := 15) (Nat.le_of_ble_eq_true rfl) wm_345 (Or.inl rfl) rfl (ty := .int) (by decide +kernel) rfl rfl (pj_lt t (by decide)) (fun E u => ko_8 t) (F := fun f => [.int (f 0), .int (f 1), .ref (b + 1), .ref (b + 4), .ref (b + (i + 1)), .ref (b + (i + 2)), .ref (b + (i + 3)), .ref (b + (i + 4)), .ref (b + (i + 5)), .ref (b + (i + 10)), .ref (b + (i + 15)), .int (f 11), .int (f 12), .int (f 13), .int (f 14), .int (f 15), .int (f 16), .int (f 17), .int (f 18), .int (f 19)]) (fun _ => Nat.le_of_ble_eq_true rfl) (fun _ _ => rfl) hdg hp h kk
theorem fp_Server_199_Session {g : pj_G} {b : Nat} {cc : ByteArray} {nL : Nat} {ret : Option FieldType} {rm : Room} {u : pj_M} {pc pc' : Nat} {vs : List (Option Value)} {st : List Value} (C : pj_X g cc nL R_Sv ret rm) {i : Nat} {x : Int32} {P : pj_M → Prop} (t : pj_T i = 7)  (hdg : decode cc pc = .ok (.putfield 199, 3)) (hp : pc + 3 = pc') (h : pj_put u i 1 x P) (kk : ∀ u', P u' → pj_J g (pj_N g b u') pc' vs st) : pj_J g (pj_N g b u) pc vs (.int x :: .ref (b + i) :: st) :=
  pj_putI C cl_Session hin_Session ty_Session tyok_Session nm_Session (k := 1) (Nat.le_of_ble_eq_true rfl) wm_304 (Or.inl rfl) rfl (ty := .int) (by decide +kernel) rfl rfl (pj_lt t (by decide)) (fun E u => ko_7 t) (F := fun f => [.int (f 0), .int (f 1), .int (f 2), .int (f 3), .int (f 4), .int (f 5), .int (f 6), .int (f 7)]) (fun _ => Nat.le_of_ble_eq_true rfl) (fun _ _ => rfl) hdg hp h kk
theorem fp_Server_205_Session {g : pj_G} {b : Nat} {cc : ByteArray} {nL : Nat} {ret : Option FieldType} {rm : Room} {u : pj_M} {pc pc' : Nat} {vs : List (Option Value)} {st : List Value} (C : pj_X g cc nL R_Sv ret rm) {i : Nat} {x : Int32} {P : pj_M → Prop} (t : pj_T i = 7) (hb : pj_bi x) (hdg : decode cc pc = .ok (.putfield 205, 3)) (hp : pc + 3 = pc') (h : pj_put u i 7 x P) (kk : ∀ u', P u' → pj_J g (pj_N g b u') pc' vs st) : pj_J g (pj_N g b u) pc vs (.int x :: .ref (b + i) :: st) :=
  pj_putI C cl_Session hin_Session ty_Session tyok_Session nm_Session (k := 7) (Nat.le_of_ble_eq_true rfl) wm_310 (Or.inl rfl) rfl (ty := .boolean) (by decide +kernel) hb.nar hb.fit (pj_lt t (by decide)) (fun E u => ko_7 t) (F := fun f => [.int (f 0), .int (f 1), .int (f 2), .int (f 3), .int (f 4), .int (f 5), .int (f 6), .int (f 7)]) (fun _ => Nat.le_of_ble_eq_true rfl) (fun _ _ => rfl) hdg hp h kk
theorem fg_Server_208_Users {g : pj_G} {b : Nat} {cc : ByteArray} {nL : Nat} {ret : Option FieldType} {rm : Room} {u : pj_M} {pc pc' : Nat} {vs : List (Option Value)} {st : List Value} (C : pj_X g cc nL R_Sv ret rm) {i : Nat} (t : pj_T i = 1) (hdg : decode cc pc = .ok (.getfield 208, 3)) (hp : pc + 3 = pc') (kk : pj_J g (pj_N g b u) pc' vs (.ref (b + 3) :: st)) : pj_J g (pj_N g b u) pc vs (.ref (b + i) :: st) :=
  pj_get C cl_Users hin_Users (k := 1) (Nat.le_of_ble_eq_true rfl) wm_126 (Or.inl rfl) (pj_lt t (by decide)) (fun E => ko_1 t) rfl hdg hp kk
theorem ck_Server_179_Packet {g : pj_G} {b : Nat} {cc : ByteArray} {nL : Nat} {ret : Option FieldType} {rm : Room} {u : pj_M} {pc pc' : Nat} {vs : List (Option Value)} {st : List Value} (C : pj_X g cc nL R_Sv ret rm) {i0 : Nat} {K : Int32 → pj_M → Prop} (t0 : pj_T i0 = 4) (h : pw_Pa_firstData u i0 K) (hdg : decode cc pc = .ok (.invokevirtual 179, 3)) (hp : pc + 3 = pc') (hR : rm_Pa_firstData.frames + 1 ≤ rm.frames ∧ 8 + (1 + 11) + rm_Pa_firstData.locals ≤ rm.locals) (h8 : (st.map fun v => v.category).sum ≤ 8) (kk : ∀ r u', K r u' → pj_J g (pj_N g b u') pc' vs (.int r :: st)) : pj_J g (pj_N g b u) pc vs (.ref (b + i0) :: st) :=
  pj_callV C (As := []) (fun l D E => pc_Pa_firstData l D E t0 h) rfl rfl cl_Packet (pj_lt t0 (by decide)) (fun E => ko_4 t0) wm_925 wm_737 wm_738 wm_96 wm_739 (by decide +kernel) (n := 0) rfl hR rfl h8 hdg hp (fun v u' hq => by obtain ⟨r, rfl, hk⟩ := hq; exact kk r u' hk)
theorem ck_Server_182_Packet {g : pj_G} {b : Nat} {cc : ByteArray} {nL : Nat} {ret : Option FieldType} {rm : Room} {u : pj_M} {pc pc' : Nat} {vs : List (Option Value)} {st : List Value} (C : pj_X g cc nL R_Sv ret rm) {i0 : Nat} {K : Int32 → pj_M → Prop} (t0 : pj_T i0 = 4) (h : pw_Pa_dataSize u i0 K) (hdg : decode cc pc = .ok (.invokevirtual 182, 3)) (hp : pc + 3 = pc') (hR : rm_Pa_dataSize.frames + 1 ≤ rm.frames ∧ 8 + (1 + 11) + rm_Pa_dataSize.locals ≤ rm.locals) (h8 : (st.map fun v => v.category).sum ≤ 8) (kk : ∀ r u', K r u' → pj_J g (pj_N g b u') pc' vs (.int r :: st)) : pj_J g (pj_N g b u) pc vs (.ref (b + i0) :: st) :=
  pj_callV C (As := []) (fun l D E => pc_Pa_dataSize l D E t0 h) rfl rfl cl_Packet (pj_lt t0 (by decide)) (fun E => ko_4 t0) wm_926 wm_733 wm_734 wm_96 wm_735 (by decide +kernel) (n := 0) rfl hR rfl h8 hdg hp (fun v u' hq => by obtain ⟨r, rfl, hk⟩ := hq; exact kk r u' hk)
theorem ck_Server_185_Users {g : pj_G} {b : Nat} {cc : ByteArray} {nL : Nat} {ret : Option FieldType} {rm : Room} {u : pj_M} {pc pc' : Nat} {vs : List (Option Value)} {st : List Value} (C : pj_X g cc nL R_Sv ret rm) {x1 : Int32} {K : Int32 → pj_M → Prop}  (h : pw_Us_knows u x1 K) (hdg : decode cc pc = .ok (.invokevirtual 185, 3)) (hp : pc + 3 = pc') (hR : rm_Us_knows.frames + 1 ≤ rm.frames ∧ 8 + (2 + 11) + rm_Us_knows.locals ≤ rm.locals) (h8 : (st.map fun v => v.category).sum ≤ 8) (kk : ∀ r u', K r u' → pj_J g (pj_N g b u') pc' vs (.int r :: st)) : pj_J g (pj_N g b u) pc vs (.int x1 :: .ref (b + 1) :: st) :=
  pj_callV C (As := [.int x1]) (fun l D E => pc_Us_knows l D E  h) rfl rfl cl_Users (pj_lt tk_1 (by decide)) (fun E => ko_1 tk_1) wm_927 wm_928 wm_929 wm_92 wm_930 (by decide +kernel) (n := 1) rfl hR rfl h8 hdg hp (fun v u' hq => by obtain ⟨r, rfl, hk⟩ := hq; exact kk r u' hk)
theorem ck_Server_191_Server {g : pj_G} {b : Nat} {cc : ByteArray} {nL : Nat} {ret : Option FieldType} {rm : Room} {u : pj_M} {pc pc' : Nat} {vs : List (Option Value)} {st : List Value} (C : pj_X g cc nL R_Sv ret rm) {i0 : Nat} {i1 : Nat} {K : pj_M → Prop} (t0 : pj_T i0 = 8) (t1 : pj_T i1 = 7) (h : pw_Sv_dropSession u i0 i1 K) (hdg : decode cc pc = .ok (.invokevirtual 191, 3)) (hp : pc + 3 = pc') (hR : rm_Sv_dropSession.frames + 1 ≤ rm.frames ∧ 8 + (4 + 11) + rm_Sv_dropSession.locals ≤ rm.locals) (h8 : (st.map fun v => v.category).sum ≤ 8) (kk : ∀ u', K u' → pj_J g (pj_N g b u') pc' vs st) : pj_J g (pj_N g b u) pc vs (.ref (b + i1) :: .ref (b + i0) :: st) :=
  pj_callV C (As := [.ref (b + i1)]) (fun l D E => pc_Sv_dropSession l D E t0 t1 h) rfl rfl cl_Server (pj_lt t0 (by decide)) (fun E => ko_8 t0) wm_931 wm_933 wm_22 wm_97 wm_934 (by decide +kernel) (n := 1) rfl hR rfl h8 hdg hp (fun v u' hq => by obtain ⟨rfl, hk⟩ := hq; exact kk u' hk)
theorem ck_Server_211_Server {g : pj_G} {b : Nat} {cc : ByteArray} {nL : Nat} {ret : Option FieldType} {rm : Room} {u : pj_M} {pc pc' : Nat} {vs : List (Option Value)} {st : List Value} (C : pj_X g cc nL R_Sv ret rm) {i0 : Nat} {i1 : Nat} {x2 : Int32} {K : pj_M → Prop} (t0 : pj_T i0 = 8) (t1 : pj_T i1 = 7) (h : pw_Sv_beginMethod u i0 i1 x2 K) (hdg : decode cc pc = .ok (.invokevirtual 211, 3)) (hp : pc + 3 = pc') (hR : rm_Sv_beginMethod.frames + 1 ≤ rm.frames ∧ 8 + (3 + 11) + rm_Sv_beginMethod.locals ≤ rm.locals) (h8 : (st.map fun v => v.category).sum ≤ 8) (kk : ∀ u', K u' → pj_J g (pj_N g b u') pc' vs st) : pj_J g (pj_N g b u) pc vs (.int x2 :: .ref (b + i1) :: .ref (b + i0) :: st) :=
  pj_callV C (As := [.ref (b + i1), .int x2]) (fun l D E => pc_Sv_beginMethod l D E t0 t1 h) rfl rfl cl_Server (pj_lt t0 (by decide)) (fun E => ko_8 t0) wm_936 wm_938 wm_23 wm_97 wm_939 (by decide +kernel) (n := 2) rfl hR rfl h8 hdg hp (fun v u' hq => by obtain ⟨rfl, hk⟩ := hq; exact kk u' hk)
def rm_Sv_openSession : Room := { frames := 4, cells := 0, slots := 0, locals := 88 }
def pb_Sv_openSession_24  (K : Int32 → pj_M → Prop) (u : pj_M)  : Prop := K 0 u
set_option maxHeartbeats 1000000 in
theorem pt_Sv_openSession_24 {g : pj_G} {b : Nat} (C : pj_X g c_Sv_openSession 4 R_Sv (some .boolean) rm_Sv_openSession) {K : Int32 → pj_M → Prop} (hE : pj_E g b (pj_Ki K))   {u : pj_M}    (h : pb_Sv_openSession_24  K u ) : pj_J g (pj_N g b u) 24 [none, none, none, none] [] := by
  unfold pb_Sv_openSession_24 at h
  refine pj_iconst C d_Sv_openSession_24 (pc' := 25) rfl (v := 0) (by decide) ?_
  exact pj_zret C hE d_Sv_openSession_25 pj_bi0 ⟨_, rfl, h⟩
def pb_Sv_openSession_121  (K : Int32 → pj_M → Prop) (u : pj_M) (s0 : Int32) (j1 : Nat) (j2 : Nat) : Prop := pw_Sv_beginMethod u j2 j1 s0 fun u1 => (K 1 u1)
set_option maxHeartbeats 1000000 in
theorem pt_Sv_openSession_121 {g : pj_G} {b : Nat} (C : pj_X g c_Sv_openSession 4 R_Sv (some .boolean) rm_Sv_openSession) {K : Int32 → pj_M → Prop} (hE : pj_E g b (pj_Ki K))   {u : pj_M} {s0 : Int32} {j1 : Nat} {j2 : Nat}  (ts1 : pj_T j1 = 7) (ts2 : pj_T j2 = 8) (h : pb_Sv_openSession_121  K u s0 j1 j2) : pj_J g (pj_N g b u) 121 [none, none, none, none] [.int s0, .ref (b + j1), .ref (b + j2)] := by
  unfold pb_Sv_openSession_121 at h
  refine ck_Server_211_Server C ts2 ts1 h d_Sv_openSession_121 (pc' := 124) rfl ⟨Nat.le_of_ble_eq_true rfl, Nat.le_of_ble_eq_true rfl⟩ (Nat.le_of_ble_eq_true rfl) (fun u1 h => ?_)
  refine pj_iconst C d_Sv_openSession_124 (pc' := 125) rfl (v := 1) (by decide) ?_
  exact pj_zret C hE d_Sv_openSession_125 pj_bi1 ⟨_, rfl, h⟩
def pb_Sv_openSession_120  (K : Int32 → pj_M → Prop) (u : pj_M) (j0 : Nat) (j1 : Nat) : Prop := pb_Sv_openSession_121  K u 2 j0 j1
set_option maxHeartbeats 1000000 in
theorem pt_Sv_openSession_120 {g : pj_G} {b : Nat} (C : pj_X g c_Sv_openSession 4 R_Sv (some .boolean) rm_Sv_openSession) {K : Int32 → pj_M → Prop} (hE : pj_E g b (pj_Ki K))   {u : pj_M} {j0 : Nat} {j1 : Nat}  (ts0 : pj_T j0 = 7) (ts1 : pj_T j1 = 8) (h : pb_Sv_openSession_120  K u j0 j1) : pj_J g (pj_N g b u) 120 [none, none, none, none] [.ref (b + j0), .ref (b + j1)] := by
  unfold pb_Sv_openSession_120 at h
  refine pj_iconst C d_Sv_openSession_120 (pc' := 121) rfl (v := 2) (by decide) ?_
  exact pj_cut (pj_le_n (pj_le_n (pj_le_n (pj_le_n pj_le_e)))) (pt_Sv_openSession_121 C hE  ts0 ts1 h)
def pb_Sv_openSession_116  (K : Int32 → pj_M → Prop) (u : pj_M) (j0 : Nat) (j1 : Nat) : Prop := pb_Sv_openSession_121  K u 1 j0 j1
set_option maxHeartbeats 1000000 in
theorem pt_Sv_openSession_116 {g : pj_G} {b : Nat} (C : pj_X g c_Sv_openSession 4 R_Sv (some .boolean) rm_Sv_openSession) {K : Int32 → pj_M → Prop} (hE : pj_E g b (pj_Ki K))   {u : pj_M} {j0 : Nat} {j1 : Nat}  (ts0 : pj_T j0 = 7) (ts1 : pj_T j1 = 8) (h : pb_Sv_openSession_116  K u j0 j1) : pj_J g (pj_N g b u) 116 [none, none, none, none] [.ref (b + j0), .ref (b + j1)] := by
  unfold pb_Sv_openSession_116 at h
  refine pj_iconst C d_Sv_openSession_116 (pc' := 117) rfl (v := 1) (by decide) ?_
  refine pj_goto C d_Sv_openSession_117 (tgt := 121) (by decide) ?_
  exact pj_cut (pj_le_n (pj_le_n (pj_le_n (pj_le_n pj_le_e)))) (pt_Sv_openSession_121 C hE  ts0 ts1 h)
def pb_Sv_openSession_44  (K : Int32 → pj_M → Prop) (u : pj_M) (i0 : Nat) (x2 : Int32) : Prop := vp_in (u i0 14) 4 ∧ pj_let (u (i0 + 1) (u i0 14).toNatClampNeg).toNatClampNeg fun i101 => pj_T i101 = 7 ∧ (pj_put u i0 14 ((u i0 14) + 1) fun u2 => (pj_put u2 i101 0 ((u2 i0 15) &&& 65535) fun u3 => (pj_put u3 i0 15 ((u3 i0 15) + 1) fun u4 => (pj_put u4 i101 1 x2 fun u5 => (pj_put u5 i101 3 0 fun u6 => (pj_put u6 i101 7 0 fun u7 => (vp_in x2 8 ∧ (((((u7 3 x2.toNatClampNeg) &&& 1) = 0) → (pb_Sv_openSession_120  K u7 i101 i0)) ∧ (¬ (((u7 3 x2.toNatClampNeg) &&& 1) = 0) → (pb_Sv_openSession_116  K u7 i101 i0))))))))))
set_option maxHeartbeats 1000000 in
theorem pt_Sv_openSession_44 {g : pj_G} {b : Nat} (C : pj_X g c_Sv_openSession 4 R_Sv (some .boolean) rm_Sv_openSession) {K : Int32 → pj_M → Prop} (hE : pj_E g b (pj_Ki K))   {u : pj_M} {i0 : Nat} {x2 : Int32}  (t0 : pj_T i0 = 8) (h : pb_Sv_openSession_44  K u i0 x2) : pj_J g (pj_N g b u) 44 [some (.ref (b + i0)), none, some (.int x2), none] [] := by
  unfold pb_Sv_openSession_44 at h
  refine pj_aload_n C d_Sv_openSession_44 (pc' := 45) (i := 0) (x := b + i0) rfl rfl rfl ?_
  refine fg_Server_13_Server C t0 d_Sv_openSession_45 (pc' := 48) rfl ?_
  refine pj_aload_n C d_Sv_openSession_48 (pc' := 49) (i := 0) (x := b + i0) rfl rfl rfl ?_
  refine fg_Server_68_Server C t0 d_Sv_openSession_49 (pc' := 52) rfl ?_
  refine pj_aldM C (pj_lt (pl_Server_sessions t0) (by decide)) (fun E u => ka_27 (pl_Server_sessions t0)) (fun E => rfl) d_Sv_openSession_52 (pc' := 53) rfl h (fun h => ?_)
  refine pj_nameR h (fun i101 h => ?_)
  obtain ⟨ti101, h⟩ := h
  refine pj_astore_n C d_Sv_openSession_53 (pc' := 54) (i := 3) (vs' := [some (.ref (b + i0)), none, some (.int x2), some (.ref (b + i101))]) rfl rfl (Nat.le_of_ble_eq_true rfl) (Nat.le_of_ble_eq_true rfl) rfl rfl ?_
  refine pj_aload_n C d_Sv_openSession_54 (pc' := 55) (i := 0) (x := b + i0) rfl rfl rfl ?_
  refine pj_dup C d_Sv_openSession_55 (pc' := 56) rfl rfl ?_
  refine fg_Server_68_Server C t0 d_Sv_openSession_56 (pc' := 59) rfl ?_
  refine pj_iconst C d_Sv_openSession_59 (pc' := 60) rfl (v := 1) (by decide) ?_
  refine pj_iadd C d_Sv_openSession_60 (pc' := 61) rfl ?_
  refine fp_Server_68_Server C t0  d_Sv_openSession_61 (pc' := 64) rfl h (fun u2 h => ?_)
  refine pj_aload_n C d_Sv_openSession_64 (pc' := 65) (i := 3) (x := b + i101) rfl rfl rfl ?_
  refine pj_aload_n C d_Sv_openSession_65 (pc' := 66) (i := 0) (x := b + i0) rfl rfl rfl ?_
  refine fg_Server_195_Server C t0 d_Sv_openSession_66 (pc' := 69) rfl ?_
  refine pj_ldc C d_Sv_openSession_69 (pc' := 71) rfl (v := 65535) wm_935 ?_
  refine pj_iand C d_Sv_openSession_71 (pc' := 72) rfl ?_
  refine fp_Server_178_Session C ti101  d_Sv_openSession_72 (pc' := 75) rfl h (fun u3 h => ?_)
  refine pj_aload_n C d_Sv_openSession_75 (pc' := 76) (i := 0) (x := b + i0) rfl rfl rfl ?_
  refine pj_dup C d_Sv_openSession_76 (pc' := 77) rfl rfl ?_
  refine fg_Server_195_Server C t0 d_Sv_openSession_77 (pc' := 80) rfl ?_
  refine pj_iconst C d_Sv_openSession_80 (pc' := 81) rfl (v := 1) (by decide) ?_
  refine pj_iadd C d_Sv_openSession_81 (pc' := 82) rfl ?_
  refine fp_Server_195_Server C t0  d_Sv_openSession_82 (pc' := 85) rfl h (fun u4 h => ?_)
  refine pj_aload_n C d_Sv_openSession_85 (pc' := 86) (i := 3) (x := b + i101) rfl rfl rfl ?_
  refine pj_iload_n C d_Sv_openSession_86 (pc' := 87) (i := 2) (x := x2) rfl rfl rfl ?_
  refine fp_Server_199_Session C ti101  d_Sv_openSession_87 (pc' := 90) rfl h (fun u5 h => ?_)
  refine pj_aload_n C d_Sv_openSession_90 (pc' := 91) (i := 3) (x := b + i101) rfl rfl rfl ?_
  refine pj_iconst C d_Sv_openSession_91 (pc' := 92) rfl (v := 0) (by decide) ?_
  refine fp_Server_202_Session C ti101  d_Sv_openSession_92 (pc' := 95) rfl h (fun u6 h => ?_)
  refine pj_aload_n C d_Sv_openSession_95 (pc' := 96) (i := 3) (x := b + i101) rfl rfl rfl ?_
  refine pj_iconst C d_Sv_openSession_96 (pc' := 97) rfl (v := 0) (by decide) ?_
  refine fp_Server_205_Session C ti101 pj_bi0 d_Sv_openSession_97 (pc' := 100) rfl h (fun u7 h => ?_)
  refine pj_aload_n C d_Sv_openSession_100 (pc' := 101) (i := 0) (x := b + i0) rfl rfl rfl ?_
  refine pj_aload_n C d_Sv_openSession_101 (pc' := 102) (i := 3) (x := b + i101) rfl rfl rfl ?_
  refine pj_aload_n C d_Sv_openSession_102 (pc' := 103) (i := 0) (x := b + i0) rfl rfl rfl ?_
  refine fg_Server_58_Server C t0 d_Sv_openSession_103 (pc' := 106) rfl ?_
  refine fg_Server_208_Users C tk_1 d_Sv_openSession_106 (pc' := 109) rfl ?_
  refine pj_iload_n C d_Sv_openSession_109 (pc' := 110) (i := 2) (x := x2) rfl rfl rfl ?_
  refine pj_iald C (pj_lt tk_3 (by decide)) (fun E u => ka_20 tk_3) d_Sv_openSession_110 (pc' := 111) rfl h (fun h => ?_)
  refine pj_iconst C d_Sv_openSession_111 (pc' := 112) rfl (v := 1) (by decide) ?_
  refine pj_iand C d_Sv_openSession_112 (pc' := 113) rfl ?_
  refine pj_if_eq C d_Sv_openSession_113 (pc' := 116) rfl (tgt := 120) (by decide) h (fun h => ?_) (fun h => ?_)
  · exact pj_cut (pj_le_n (pj_le_n (pj_le_n (pj_le_n pj_le_e)))) (pt_Sv_openSession_120 C hE  ti101 t0 h)
  · exact pj_cut (pj_le_n (pj_le_n (pj_le_n (pj_le_n pj_le_e)))) (pt_Sv_openSession_116 C hE  ti101 t0 h)
def pb_Sv_openSession_34  (K : Int32 → pj_M → Prop) (u : pj_M) (i0 : Nat) (x2 : Int32) : Prop := vp_in 0 4 ∧ pj_let (u (i0 + 1) (0 : Int32).toNatClampNeg).toNatClampNeg fun i101 => pj_T i101 = 7 ∧ (pw_Sv_dropSession u i0 i101 fun u2 => (pb_Sv_openSession_44  K u2 i0 x2))
set_option maxHeartbeats 1000000 in
theorem pt_Sv_openSession_34 {g : pj_G} {b : Nat} (C : pj_X g c_Sv_openSession 4 R_Sv (some .boolean) rm_Sv_openSession) {K : Int32 → pj_M → Prop} (hE : pj_E g b (pj_Ki K))   {u : pj_M} {i0 : Nat} {x2 : Int32}  (t0 : pj_T i0 = 8) (h : pb_Sv_openSession_34  K u i0 x2) : pj_J g (pj_N g b u) 34 [some (.ref (b + i0)), none, some (.int x2), none] [] := by
  unfold pb_Sv_openSession_34 at h
  refine pj_aload_n C d_Sv_openSession_34 (pc' := 35) (i := 0) (x := b + i0) rfl rfl rfl ?_
  refine pj_aload_n C d_Sv_openSession_35 (pc' := 36) (i := 0) (x := b + i0) rfl rfl rfl ?_
  refine fg_Server_13_Server C t0 d_Sv_openSession_36 (pc' := 39) rfl ?_
  refine pj_iconst C d_Sv_openSession_39 (pc' := 40) rfl (v := 0) (by decide) ?_
  refine pj_aldM C (pj_lt (pl_Server_sessions t0) (by decide)) (fun E u => ka_27 (pl_Server_sessions t0)) (fun E => rfl) d_Sv_openSession_40 (pc' := 41) rfl h (fun h => ?_)
  refine pj_nameR h (fun i101 h => ?_)
  obtain ⟨ti101, h⟩ := h
  refine ck_Server_191_Server C t0 ti101 h d_Sv_openSession_41 (pc' := 44) rfl ⟨Nat.le_of_ble_eq_true rfl, Nat.le_of_ble_eq_true rfl⟩ (Nat.le_of_ble_eq_true rfl) (fun u2 h => ?_)
  exact pj_cut (pj_le_s (pj_le_n (pj_le_s (pj_le_n pj_le_e)))) (pt_Sv_openSession_44 C hE  t0 h)
def pb_Sv_openSession_26  (K : Int32 → pj_M → Prop) (u : pj_M) (i0 : Nat) (x2 : Int32) : Prop := (((u i0 14) = 4) → (pb_Sv_openSession_34  K u i0 x2)) ∧ (¬ ((u i0 14) = 4) → (pb_Sv_openSession_44  K u i0 x2))
set_option maxHeartbeats 1000000 in
theorem pt_Sv_openSession_26 {g : pj_G} {b : Nat} (C : pj_X g c_Sv_openSession 4 R_Sv (some .boolean) rm_Sv_openSession) {K : Int32 → pj_M → Prop} (hE : pj_E g b (pj_Ki K))   {u : pj_M} {i0 : Nat} {x2 : Int32}  (t0 : pj_T i0 = 8) (h : pb_Sv_openSession_26  K u i0 x2) : pj_J g (pj_N g b u) 26 [some (.ref (b + i0)), none, some (.int x2), none] [] := by
  unfold pb_Sv_openSession_26 at h
  refine pj_aload_n C d_Sv_openSession_26 (pc' := 27) (i := 0) (x := b + i0) rfl rfl rfl ?_
  refine fg_Server_68_Server C t0 d_Sv_openSession_27 (pc' := 30) rfl ?_
  refine pj_iconst C d_Sv_openSession_30 (pc' := 31) rfl (v := 4) (by decide) ?_
  refine pj_icmp_ne C d_Sv_openSession_31 (pc' := 34) rfl (tgt := 44) (by decide) h (fun h => ?_) (fun h => ?_)
  · exact pj_cut (pj_le_s (pj_le_n (pj_le_s (pj_le_n pj_le_e)))) (pt_Sv_openSession_44 C hE  t0 h)
  · exact pj_cut (pj_le_s (pj_le_n (pj_le_s (pj_le_n pj_le_e)))) (pt_Sv_openSession_34 C hE  t0 h)
def pb_Sv_openSession_13  (K : Int32 → pj_M → Prop) (u : pj_M) (i0 : Nat) (x2 : Int32) : Prop := pw_Us_knows u x2 fun r2 u1 => (((r2 = 0) → (pb_Sv_openSession_24  K u1 )) ∧ (¬ (r2 = 0) → (pb_Sv_openSession_26  K u1 i0 x2)))
set_option maxHeartbeats 1000000 in
theorem pt_Sv_openSession_13 {g : pj_G} {b : Nat} (C : pj_X g c_Sv_openSession 4 R_Sv (some .boolean) rm_Sv_openSession) {K : Int32 → pj_M → Prop} (hE : pj_E g b (pj_Ki K))   {u : pj_M} {i0 : Nat} {x2 : Int32}  (t0 : pj_T i0 = 8) (h : pb_Sv_openSession_13  K u i0 x2) : pj_J g (pj_N g b u) 13 [some (.ref (b + i0)), none, some (.int x2), none] [] := by
  unfold pb_Sv_openSession_13 at h
  refine pj_aload_n C d_Sv_openSession_13 (pc' := 14) (i := 0) (x := b + i0) rfl rfl rfl ?_
  refine fg_Server_58_Server C t0 d_Sv_openSession_14 (pc' := 17) rfl ?_
  refine pj_iload_n C d_Sv_openSession_17 (pc' := 18) (i := 2) (x := x2) rfl rfl rfl ?_
  refine ck_Server_185_Users C  h d_Sv_openSession_18 (pc' := 21) rfl ⟨Nat.le_of_ble_eq_true rfl, Nat.le_of_ble_eq_true rfl⟩ (Nat.le_of_ble_eq_true rfl) (fun r2 u1 h => ?_)
  refine pj_if_ne C d_Sv_openSession_21 (pc' := 24) rfl (tgt := 26) (by decide) h (fun h => ?_) (fun h => ?_)
  · exact pj_cut (pj_le_s (pj_le_n (pj_le_s (pj_le_n pj_le_e)))) (pt_Sv_openSession_26 C hE  t0 h)
  · exact pj_cut (pj_le_n (pj_le_n (pj_le_n (pj_le_n pj_le_e)))) (pt_Sv_openSession_24 C hE   h)
def pb_Sv_openSession_0  (K : Int32 → pj_M → Prop) (u : pj_M) (i0 : Nat) (i1 : Nat) : Prop := pw_Pa_firstData u i1 fun r2 u1 => (pw_Pa_dataSize u1 i1 fun r4 u3 => (((r4 = 1) → (pb_Sv_openSession_13  K u3 i0 r2)) ∧ (¬ (r4 = 1) → (pb_Sv_openSession_24  K u3 ))))
set_option maxHeartbeats 1000000 in
theorem pt_Sv_openSession_0 {g : pj_G} {b : Nat} (C : pj_X g c_Sv_openSession 4 R_Sv (some .boolean) rm_Sv_openSession) {K : Int32 → pj_M → Prop} (hE : pj_E g b (pj_Ki K))   {u : pj_M} {i0 : Nat} {i1 : Nat}  (t0 : pj_T i0 = 8) (t1 : pj_T i1 = 4) (h : pb_Sv_openSession_0  K u i0 i1) : pj_J g (pj_N g b u) 0 [some (.ref (b + i0)), some (.ref (b + i1)), none, none] [] := by
  unfold pb_Sv_openSession_0 at h
  refine pj_aload_n C d_Sv_openSession_0 (pc' := 1) (i := 1) (x := b + i1) rfl rfl rfl ?_
  refine ck_Server_179_Packet C t1 h d_Sv_openSession_1 (pc' := 4) rfl ⟨Nat.le_of_ble_eq_true rfl, Nat.le_of_ble_eq_true rfl⟩ (Nat.le_of_ble_eq_true rfl) (fun r2 u1 h => ?_)
  refine pj_istore_n C d_Sv_openSession_4 (pc' := 5) (i := 2) (vs' := [some (.ref (b + i0)), some (.ref (b + i1)), some (.int r2), none]) rfl rfl (Nat.le_of_ble_eq_true rfl) (Nat.le_of_ble_eq_true rfl) rfl rfl ?_
  refine pj_aload_n C d_Sv_openSession_5 (pc' := 6) (i := 1) (x := b + i1) rfl rfl rfl ?_
  refine ck_Server_182_Packet C t1 h d_Sv_openSession_6 (pc' := 9) rfl ⟨Nat.le_of_ble_eq_true rfl, Nat.le_of_ble_eq_true rfl⟩ (Nat.le_of_ble_eq_true rfl) (fun r4 u3 h => ?_)
  refine pj_iconst C d_Sv_openSession_9 (pc' := 10) rfl (v := 1) (by decide) ?_
  refine pj_icmp_ne C d_Sv_openSession_10 (pc' := 13) rfl (tgt := 24) (by decide) h (fun h => ?_) (fun h => ?_)
  · exact pj_cut (pj_le_n (pj_le_n (pj_le_n (pj_le_n pj_le_e)))) (pt_Sv_openSession_24 C hE   h)
  · exact pj_cut (pj_le_s (pj_le_n (pj_le_s (pj_le_n pj_le_e)))) (pt_Sv_openSession_13 C hE  t0 h)
def pw_Sv_openSession (u : pj_M) (i0 : Nat) (i1 : Nat) (K : Int32 → pj_M → Prop) : Prop := pb_Sv_openSession_0  K u i0 i1
theorem pc_Sv_openSession (l : Launch) (D : va_G) (E : Nat → ClassId) {b : Nat} {u : pj_M} {i0 : Nat} {i1 : Nat} {K : Int32 → pj_M → Prop} (t0 : pj_T i0 = 8) (t1 : pj_T i1 = 4) (h : pw_Sv_openSession u i0 i1 K) : pj_C l y_Sv_openSession c_Sv_openSession 4 (some .boolean) rm_Sv_openSession D E b [.ref (b + i0), .ref (b + i1)] u (pj_Ki K) := by
  refine pj_met (own := R_Sv) (by decide +kernel) rfl (Nat.le_of_ble_eq_true rfl) (fun g hE C => ?_)
  unfold pw_Sv_openSession at h
  show pj_J g (pj_N g b u) 0 [some (.ref (b + i0)), some (.ref (b + i1)), none, none] []
  exact pj_cut (pj_le_s (pj_le_s (pj_le_n (pj_le_n pj_le_e)))) (pt_Sv_openSession_0 C hE  t0 t1 h)
/-! Server.methodWanted(LPortGuard$Session;LPortGuard$Packet;)I -/
def rm_Sv_methodWanted : Room := { frames := 2, cells := 0, slots := 0, locals := 41 }
def pb_Sv_methodWanted_60  (K : Int32 → pj_M → Prop) (u : pj_M) (x3 : Int32) : Prop := K (x3 &&& 1) u
set_option maxHeartbeats 1000000 in
theorem pt_Sv_methodWanted_60 {g : pj_G} {b : Nat} (C : pj_X g c_Sv_methodWanted 4 R_Sv (some .int) rm_Sv_methodWanted) {K : Int32 → pj_M → Prop} (hE : pj_E g b (pj_Ki K))   {u : pj_M} {x3 : Int32}   (h : pb_Sv_methodWanted_60  K u x3) : pj_J g (pj_N g b u) 60 [none, none, none, some (.int x3)] [] := by
  unfold pb_Sv_methodWanted_60 at h
  refine pj_iload_n C d_Sv_methodWanted_60 (pc' := 61) (i := 3) (x := x3) rfl rfl rfl ?_
  refine pj_iconst C d_Sv_methodWanted_61 (pc' := 62) rfl (v := 1) (by decide) ?_
  refine pj_iand C d_Sv_methodWanted_62 (pc' := 63) rfl ?_
  exact pj_iret C hE d_Sv_methodWanted_63 ⟨_, rfl, h⟩
def pb_Sv_methodWanted_64  (K : Int32 → pj_M → Prop) (u : pj_M) (x3 : Int32) : Prop := K (x3 &&& 2) u
set_option maxHeartbeats 1000000 in
theorem pt_Sv_methodWanted_64 {g : pj_G} {b : Nat} (C : pj_X g c_Sv_methodWanted 4 R_Sv (some .int) rm_Sv_methodWanted) {K : Int32 → pj_M → Prop} (hE : pj_E g b (pj_Ki K))   {u : pj_M} {x3 : Int32}   (h : pb_Sv_methodWanted_64  K u x3) : pj_J g (pj_N g b u) 64 [none, none, none, some (.int x3)] [] := by
  unfold pb_Sv_methodWanted_64 at h
  refine pj_iload_n C d_Sv_methodWanted_64 (pc' := 65) (i := 3) (x := x3) rfl rfl rfl ?_
  refine pj_iconst C d_Sv_methodWanted_65 (pc' := 66) rfl (v := 2) (by decide) ?_
  refine pj_iand C d_Sv_methodWanted_66 (pc' := 67) rfl ?_
  exact pj_iret C hE d_Sv_methodWanted_67 ⟨_, rfl, h⟩
def pb_Sv_methodWanted_68  (K : Int32 → pj_M → Prop) (u : pj_M)  : Prop := K 0 u
set_option maxHeartbeats 1000000 in
theorem pt_Sv_methodWanted_68 {g : pj_G} {b : Nat} (C : pj_X g c_Sv_methodWanted 4 R_Sv (some .int) rm_Sv_methodWanted) {K : Int32 → pj_M → Prop} (hE : pj_E g b (pj_Ki K))   {u : pj_M}    (h : pb_Sv_methodWanted_68  K u ) : pj_J g (pj_N g b u) 68 [none, none, none, none] [] := by
  unfold pb_Sv_methodWanted_68 at h
  refine pj_iconst C d_Sv_methodWanted_68 (pc' := 69) rfl (v := 0) (by decide) ?_
  exact pj_iret C hE d_Sv_methodWanted_69 ⟨_, rfl, h⟩
def pb_Sv_methodWanted_10  (K : Int32 → pj_M → Prop) (u : pj_M) (i0 : Nat) (i1 : Nat) (i2 : Nat) : Prop := vp_in (u i1 1) 8 ∧ (pj_let ((u 3 (u i1 1).toNatClampNeg) &&& ((u i1 3) ^^^ ((-1)))) fun y1 => (pw_Pa_firstData u i2 fun r3 u2 => (((r3 = 4) → (pb_Sv_methodWanted_60  K u2 y1)) ∧ (¬ (r3 = 4) → ((r3 = 51) → (pb_Sv_methodWanted_64  K u2 y1)) ∧ (¬ (r3 = 51) → (pb_Sv_methodWanted_68  K u2 ))))))
set_option maxHeartbeats 1000000 in
theorem pt_Sv_methodWanted_10 {g : pj_G} {b : Nat} (C : pj_X g c_Sv_methodWanted 4 R_Sv (some .int) rm_Sv_methodWanted) {K : Int32 → pj_M → Prop} (hE : pj_E g b (pj_Ki K))   {u : pj_M} {i0 : Nat} {i1 : Nat} {i2 : Nat}  (t0 : pj_T i0 = 8) (t1 : pj_T i1 = 7) (t2 : pj_T i2 = 4) (h : pb_Sv_methodWanted_10  K u i0 i1 i2) : pj_J g (pj_N g b u) 10 [some (.ref (b + i0)), some (.ref (b + i1)), some (.ref (b + i2)), none] [] := by
  unfold pb_Sv_methodWanted_10 at h
  refine pj_aload_n C d_Sv_methodWanted_10 (pc' := 11) (i := 0) (x := b + i0) rfl rfl rfl ?_
  refine fg_Server_58_Server C t0 d_Sv_methodWanted_11 (pc' := 14) rfl ?_
  refine fg_Server_208_Users C tk_1 d_Sv_methodWanted_14 (pc' := 17) rfl ?_
  refine pj_aload_n C d_Sv_methodWanted_17 (pc' := 18) (i := 1) (x := b + i1) rfl rfl rfl ?_
  refine fg_Server_199_Session C t1 d_Sv_methodWanted_18 (pc' := 21) rfl ?_
  refine pj_iald C (pj_lt tk_3 (by decide)) (fun E u => ka_20 tk_3) d_Sv_methodWanted_21 (pc' := 22) rfl h (fun h => ?_)
  refine pj_aload_n C d_Sv_methodWanted_22 (pc' := 23) (i := 1) (x := b + i1) rfl rfl rfl ?_
  refine fg_Server_202_Session C t1 d_Sv_methodWanted_23 (pc' := 26) rfl ?_
  refine pj_iconst C d_Sv_methodWanted_26 (pc' := 27) rfl (v := (-1)) (by decide) ?_
  refine pj_ixor C d_Sv_methodWanted_27 (pc' := 28) rfl ?_
  refine pj_iand C d_Sv_methodWanted_28 (pc' := 29) rfl ?_
  refine pj_name h (fun y1 h => ?_)
  refine pj_istore_n C d_Sv_methodWanted_29 (pc' := 30) (i := 3) (vs' := [some (.ref (b + i0)), some (.ref (b + i1)), some (.ref (b + i2)), some (.int y1)]) rfl rfl (Nat.le_of_ble_eq_true rfl) (Nat.le_of_ble_eq_true rfl) rfl rfl ?_
  refine pj_aload_n C d_Sv_methodWanted_30 (pc' := 31) (i := 2) (x := b + i2) rfl rfl rfl ?_
  refine ck_Server_179_Packet C t2 h d_Sv_methodWanted_31 (pc' := 34) rfl ⟨Nat.le_of_ble_eq_true rfl, Nat.le_of_ble_eq_true rfl⟩ (Nat.le_of_ble_eq_true rfl) (fun r3 u2 h => ?_)
  by_cases e0 : r3 = 4
  · have h := h.1 e0
    refine pj_lk C d_Sv_methodWanted_34 (by decide) (tgt := 60) (off := 26) (by rw [e0]; decide) (by decide) ?_
    exact pj_cut (pj_le_n (pj_le_n (pj_le_n (pj_le_s pj_le_e)))) (pt_Sv_methodWanted_60 C hE   h)
  have h := h.2 e0
  by_cases e1 : r3 = 51
  · have h := h.1 e1
    refine pj_lk C d_Sv_methodWanted_34 (by decide) (tgt := 64) (off := 30) (by rw [e1]; decide) (by decide) ?_
    exact pj_cut (pj_le_n (pj_le_n (pj_le_n (pj_le_s pj_le_e)))) (pt_Sv_methodWanted_64 C hE   h)
  have h := h.2 e1
  have z0 := lv_neT (a := 4) e0 (by decide)
  have z1 := lv_neT (a := 51) e1 (by decide)
  refine pj_lk C d_Sv_methodWanted_34 (by decide) (tgt := 68) (off := 34) (by rw [lv_osw e0 (by decide), lv_osw e1 (by decide)]; rfl) (by decide) ?_
  exact pj_cut (pj_le_n (pj_le_n (pj_le_n (pj_le_n pj_le_e)))) (pt_Sv_methodWanted_68 C hE   h)
def pb_Sv_methodWanted_8  (K : Int32 → pj_M → Prop) (u : pj_M)  : Prop := K 0 u
set_option maxHeartbeats 1000000 in
theorem pt_Sv_methodWanted_8 {g : pj_G} {b : Nat} (C : pj_X g c_Sv_methodWanted 4 R_Sv (some .int) rm_Sv_methodWanted) {K : Int32 → pj_M → Prop} (hE : pj_E g b (pj_Ki K))   {u : pj_M}    (h : pb_Sv_methodWanted_8  K u ) : pj_J g (pj_N g b u) 8 [none, none, none, none] [] := by
  unfold pb_Sv_methodWanted_8 at h
  refine pj_iconst C d_Sv_methodWanted_8 (pc' := 9) rfl (v := 0) (by decide) ?_
  exact pj_iret C hE d_Sv_methodWanted_9 ⟨_, rfl, h⟩
def pb_Sv_methodWanted_0  (K : Int32 → pj_M → Prop) (u : pj_M) (i0 : Nat) (i1 : Nat) (i2 : Nat) : Prop := pw_Pa_dataSize u i2 fun r2 u1 => (((r2 = 1) → (pb_Sv_methodWanted_10  K u1 i0 i1 i2)) ∧ (¬ (r2 = 1) → (pb_Sv_methodWanted_8  K u1 )))
set_option maxHeartbeats 1000000 in
theorem pt_Sv_methodWanted_0 {g : pj_G} {b : Nat} (C : pj_X g c_Sv_methodWanted 4 R_Sv (some .int) rm_Sv_methodWanted) {K : Int32 → pj_M → Prop} (hE : pj_E g b (pj_Ki K))   {u : pj_M} {i0 : Nat} {i1 : Nat} {i2 : Nat}  (t0 : pj_T i0 = 8) (t1 : pj_T i1 = 7) (t2 : pj_T i2 = 4) (h : pb_Sv_methodWanted_0  K u i0 i1 i2) : pj_J g (pj_N g b u) 0 [some (.ref (b + i0)), some (.ref (b + i1)), some (.ref (b + i2)), none] [] := by
  unfold pb_Sv_methodWanted_0 at h
  refine pj_aload_n C d_Sv_methodWanted_0 (pc' := 1) (i := 2) (x := b + i2) rfl rfl rfl ?_
  refine ck_Server_182_Packet C t2 h d_Sv_methodWanted_1 (pc' := 4) rfl ⟨Nat.le_of_ble_eq_true rfl, Nat.le_of_ble_eq_true rfl⟩ (Nat.le_of_ble_eq_true rfl) (fun r2 u1 h => ?_)
  refine pj_iconst C d_Sv_methodWanted_4 (pc' := 5) rfl (v := 1) (by decide) ?_
  refine pj_icmp_eq C d_Sv_methodWanted_5 (pc' := 8) rfl (tgt := 10) (by decide) h (fun h => ?_) (fun h => ?_)
  · exact pj_cut (pj_le_s (pj_le_s (pj_le_s (pj_le_n pj_le_e)))) (pt_Sv_methodWanted_10 C hE  t0 t1 t2 h)
  · exact pj_cut (pj_le_n (pj_le_n (pj_le_n (pj_le_n pj_le_e)))) (pt_Sv_methodWanted_8 C hE   h)
def pw_Sv_methodWanted (u : pj_M) (i0 : Nat) (i1 : Nat) (i2 : Nat) (K : Int32 → pj_M → Prop) : Prop := pb_Sv_methodWanted_0  K u i0 i1 i2
theorem pc_Sv_methodWanted (l : Launch) (D : va_G) (E : Nat → ClassId) {b : Nat} {u : pj_M} {i0 : Nat} {i1 : Nat} {i2 : Nat} {K : Int32 → pj_M → Prop} (t0 : pj_T i0 = 8) (t1 : pj_T i1 = 7) (t2 : pj_T i2 = 4) (h : pw_Sv_methodWanted u i0 i1 i2 K) : pj_C l y_Sv_methodWanted c_Sv_methodWanted 4 (some .int) rm_Sv_methodWanted D E b [.ref (b + i0), .ref (b + i1), .ref (b + i2)] u (pj_Ki K) := by
  refine pj_met (own := R_Sv) (by decide +kernel) rfl (Nat.le_of_ble_eq_true rfl) (fun g hE C => ?_)
  unfold pw_Sv_methodWanted at h
  show pj_J g (pj_N g b u) 0 [some (.ref (b + i0)), some (.ref (b + i1)), some (.ref (b + i2)), none] []
  exact pj_cut (pj_le_s (pj_le_s (pj_le_s (pj_le_n pj_le_e)))) (pt_Sv_methodWanted_0 C hE  t0 t1 t2 h)
/-! Server.finish(IILPortGuard$Session;)V -/
theorem ck_Server_248_Packet {g : pj_G} {b : Nat} {cc : ByteArray} {nL : Nat} {ret : Option FieldType} {rm : Room} {u : pj_M} {pc pc' : Nat} {vs : List (Option Value)} {st : List Value} (C : pj_X g cc nL R_Sv ret rm) {i0 : Nat} {x1 : Int32} {x2 : Int32} {K : pj_M → Prop} (t0 : pj_T i0 = 4) (h : pw_Pa_make u i0 x1 x2 K) (hdg : decode cc pc = .ok (.invokevirtual 248, 3)) (hp : pc + 3 = pc') (hR : rm_Pa_make.frames + 1 ≤ rm.frames ∧ 8 + (3 + 11) + rm_Pa_make.locals ≤ rm.locals) (h8 : (st.map fun v => v.category).sum ≤ 8) (kk : ∀ u', K u' → pj_J g (pj_N g b u') pc' vs st) : pj_J g (pj_N g b u) pc vs (.int x2 :: .int x1 :: .ref (b + i0) :: st) :=
  pj_callV C (As := [.int x1, .int x2]) (fun l D E => pc_Pa_make l D E t0 h) rfl rfl cl_Packet (pj_lt t0 (by decide)) (fun E => ko_4 t0) wm_968 wm_969 wm_970 wm_96 wm_971 (by decide +kernel) (n := 2) rfl hR rfl h8 hdg hp (fun v u' hq => by obtain ⟨rfl, hk⟩ := hq; exact kk u' hk)
def rm_Sv_finish : Room := { frames := 2, cells := 0, slots := 0, locals := 43 }
def pb_Sv_finish_37  (K : pj_M → Prop) (u : pj_M)  : Prop := K u
set_option maxHeartbeats 1000000 in
theorem pt_Sv_finish_37 {g : pj_G} {b : Nat} (C : pj_X g c_Sv_finish 4 R_Sv none rm_Sv_finish) {K : pj_M → Prop} (hE : pj_E g b (pj_Kv K))   {u : pj_M}    (h : pb_Sv_finish_37  K u ) : pj_J g (pj_N g b u) 37 [none, none, none, none] [] := by
  unfold pb_Sv_finish_37 at h
  exact pj_vret C hE d_Sv_finish_37 ⟨rfl, h⟩
def pb_Sv_finish_32  (K : pj_M → Prop) (u : pj_M) (i0 : Nat) (i3 : Nat) : Prop := pw_Sv_dropSession u i0 i3 fun u1 => (pb_Sv_finish_37  K u1 )
set_option maxHeartbeats 1000000 in
theorem pt_Sv_finish_32 {g : pj_G} {b : Nat} (C : pj_X g c_Sv_finish 4 R_Sv none rm_Sv_finish) {K : pj_M → Prop} (hE : pj_E g b (pj_Kv K))   {u : pj_M} {i0 : Nat} {i3 : Nat}  (t0 : pj_T i0 = 8) (t3 : pj_T i3 = 7) (h : pb_Sv_finish_32  K u i0 i3) : pj_J g (pj_N g b u) 32 [some (.ref (b + i0)), none, none, some (.ref (b + i3))] [] := by
  unfold pb_Sv_finish_32 at h
  refine pj_aload_n C d_Sv_finish_32 (pc' := 33) (i := 0) (x := b + i0) rfl rfl rfl ?_
  refine pj_aload_n C d_Sv_finish_33 (pc' := 34) (i := 3) (x := b + i3) rfl rfl rfl ?_
  refine ck_Server_191_Server C t0 t3 h d_Sv_finish_34 (pc' := 37) rfl ⟨Nat.le_of_ble_eq_true rfl, Nat.le_of_ble_eq_true rfl⟩ (Nat.le_of_ble_eq_true rfl) (fun u1 h => ?_)
  exact pj_cut (pj_le_n (pj_le_n (pj_le_n (pj_le_n pj_le_e)))) (pt_Sv_finish_37 C hE   h)
def pb_Sv_finish_0  (K : pj_M → Prop) (u : pj_M) (i0 : Nat) (x1 : Int32) (x2 : Int32) (o3 : Option Nat) : Prop := pj_put u i0 11 x1 fun u1 => (pj_put u1 i0 12 ((-1)) fun u2 => (pw_Pa_id u2 ((i0 + 5) + 3) fun r4 u3 => (pw_Pa_make u3 (i0 + 15) x2 r4 fun u5 => ((o3 = none → (pb_Sv_finish_37  K u5 )) ∧ (∀ i106, o3 = some i106 → pj_T i106 = 7 ∧ (pb_Sv_finish_32  K u5 i0 i106))))))
set_option maxHeartbeats 1000000 in
theorem pt_Sv_finish_0 {g : pj_G} {b : Nat} (C : pj_X g c_Sv_finish 4 R_Sv none rm_Sv_finish) {K : pj_M → Prop} (hE : pj_E g b (pj_Kv K))   {u : pj_M} {i0 : Nat} {x1 : Int32} {x2 : Int32} {o3 : Option Nat}  (t0 : pj_T i0 = 8) (h : pb_Sv_finish_0  K u i0 x1 x2 o3) : pj_J g (pj_N g b u) 0 [some (.ref (b + i0)), some (.int x1), some (.int x2), some (va_rf (o3.map (b + ·)))] [] := by
  unfold pb_Sv_finish_0 at h
  refine pj_aload_n C d_Sv_finish_0 (pc' := 1) (i := 0) (x := b + i0) rfl rfl rfl ?_
  refine pj_iload_n C d_Sv_finish_1 (pc' := 2) (i := 1) (x := x1) rfl rfl rfl ?_
  refine fp_Server_123_Server C t0  d_Sv_finish_2 (pc' := 5) rfl h (fun u1 h => ?_)
  refine pj_aload_n C d_Sv_finish_5 (pc' := 6) (i := 0) (x := b + i0) rfl rfl rfl ?_
  refine pj_iconst C d_Sv_finish_6 (pc' := 7) rfl (v := (-1)) (by decide) ?_
  refine fp_Server_126_Server C t0  d_Sv_finish_7 (pc' := 10) rfl h (fun u2 h => ?_)
  refine pj_aload_n C d_Sv_finish_10 (pc' := 11) (i := 0) (x := b + i0) rfl rfl rfl ?_
  refine fg_Server_43_Server C t0 d_Sv_finish_11 (pc' := 14) rfl ?_
  refine pj_iload_n C d_Sv_finish_14 (pc' := 15) (i := 2) (x := x2) rfl rfl rfl ?_
  refine pj_aload_n C d_Sv_finish_15 (pc' := 16) (i := 0) (x := b + i0) rfl rfl rfl ?_
  refine fg_Server_33_Server C t0 d_Sv_finish_16 (pc' := 19) rfl ?_
  refine fg_Server_88_Datagram C (pl_Server_request t0) d_Sv_finish_19 (pc' := 22) rfl ?_
  refine ck_Server_166_Packet C (pl_Datagram_packet (pl_Server_request t0)) h d_Sv_finish_22 (pc' := 25) rfl ⟨Nat.le_of_ble_eq_true rfl, Nat.le_of_ble_eq_true rfl⟩ (Nat.le_of_ble_eq_true rfl) (fun r4 u3 h => ?_)
  refine ck_Server_248_Packet C (pl_Server_content t0) h d_Sv_finish_25 (pc' := 28) rfl ⟨Nat.le_of_ble_eq_true rfl, Nat.le_of_ble_eq_true rfl⟩ (Nat.le_of_ble_eq_true rfl) (fun u5 h => ?_)
  refine pj_aload_nO C d_Sv_finish_28 (pc' := 29) (i := 3) (o := o3) rfl rfl rfl ?_
  rcases o3 with _ | i106
  · have h := h.1 rfl
    refine pj_ifnullN C d_Sv_finish_29 (tgt := 37) (by decide) ?_
    exact pj_cut (pj_le_n (pj_le_n (pj_le_n (pj_le_n pj_le_e)))) (pt_Sv_finish_37 C hE   h)
  · obtain ⟨ti106, h⟩ := h.2 i106 rfl
    refine pj_ifnull C d_Sv_finish_29 (pc' := 32) rfl ?_
    exact pj_cut (pj_le_s (pj_le_n (pj_le_n (pj_le_s pj_le_e)))) (pt_Sv_finish_32 C hE  t0 ti106 h)
def pw_Sv_finish (u : pj_M) (i0 : Nat) (x1 : Int32) (x2 : Int32) (o3 : Option Nat) (K : pj_M → Prop) : Prop := pb_Sv_finish_0  K u i0 x1 x2 o3
theorem pc_Sv_finish (l : Launch) (D : va_G) (E : Nat → ClassId) {b : Nat} {u : pj_M} {i0 : Nat} {x1 : Int32} {x2 : Int32} {o3 : Option Nat} {K : pj_M → Prop} (t0 : pj_T i0 = 8) (h : pw_Sv_finish u i0 x1 x2 o3 K) : pj_C l y_Sv_finish c_Sv_finish 4 none rm_Sv_finish D E b [.ref (b + i0), .int x1, .int x2, va_rf (o3.map (b + ·))] u (pj_Kv K) := by
  rcases o3 with _ | j
  · refine pj_met (own := R_Sv) (by decide +kernel) rfl (Nat.le_of_ble_eq_true rfl) (fun g hE C => ?_)
    unfold pw_Sv_finish at h
    exact pj_cut (pj_le_s (pj_le_s (pj_le_s (pj_le_s pj_le_e)))) (pt_Sv_finish_0 C hE  t0 h)
  · refine pj_met (own := R_Sv) (by decide +kernel) rfl (Nat.le_of_ble_eq_true rfl) (fun g hE C => ?_)
    unfold pw_Sv_finish at h
    exact pj_cut (pj_le_s (pj_le_s (pj_le_s (pj_le_s pj_le_e)))) (pt_Sv_finish_0 C hE  t0 h)
/-! Server.takeChallengeResponse(LPortGuard$Session;LPortGuard$Packet;)Z -/
theorem ck_Server_265 {g : pj_G} {b : Nat} {cc : ByteArray} {nL : Nat} {ret : Option FieldType} {rm : Room} {u : pj_M} {pc pc' : Nat} {vs : List (Option Value)} {st : List Value} (C : pj_X g cc nL R_Sv ret rm) {x0 : Int32} {x1 : Int32} {x2 : Int32} {K : Int32 → pj_M → Prop}  (h : pw_Di_challengeResponse u x0 x1 x2 K) (hdg : decode cc pc = .ok (.invokestatic 265, 3)) (hp : pc + 3 = pc') (hR : rm_Di_challengeResponse.frames + 1 ≤ rm.frames ∧ 8 + (3 + 11) + rm_Di_challengeResponse.locals ≤ rm.locals) (h8 : (st.map fun v => v.category).sum ≤ 8) (kk : ∀ r u', K r u' → pj_J g (pj_N g b u') pc' vs (.int r :: st)) : pj_J g (pj_N g b u) pc vs (.int x2 :: .int x1 :: .int x0 :: st) :=
  pj_callS C (As := [.int x0, .int x1, .int x2]) (fun l D E => pc_Di_challengeResponse l D E  h) rfl rfl wm_962 wm_843 wm_105 wm_844 (by decide +kernel) (n := 3) rfl hR rfl h8 hdg hp (fun v u' hq => by obtain ⟨r, rfl, hk⟩ := hq; exact kk r u' hk)
theorem ck_Server_268_Packet {g : pj_G} {b : Nat} {cc : ByteArray} {nL : Nat} {ret : Option FieldType} {rm : Room} {u : pj_M} {pc pc' : Nat} {vs : List (Option Value)} {st : List Value} (C : pj_X g cc nL R_Sv ret rm) {i0 : Nat} {x1 : Int32} {K : Int32 → pj_M → Prop} (t0 : pj_T i0 = 4) (h : pw_Pa_dataIntAt u i0 x1 K) (hdg : decode cc pc = .ok (.invokevirtual 268, 3)) (hp : pc + 3 = pc') (hR : rm_Pa_dataIntAt.frames + 1 ≤ rm.frames ∧ 8 + (2 + 11) + rm_Pa_dataIntAt.locals ≤ rm.locals) (h8 : (st.map fun v => v.category).sum ≤ 8) (kk : ∀ r u', K r u' → pj_J g (pj_N g b u') pc' vs (.int r :: st)) : pj_J g (pj_N g b u) pc vs (.int x1 :: .ref (b + i0) :: st) :=
  pj_callV C (As := [.int x1]) (fun l D E => pc_Pa_dataIntAt l D E t0 h) rfl rfl cl_Packet (pj_lt t0 (by decide)) (fun E => ko_4 t0) wm_963 wm_832 wm_833 wm_96 wm_834 (by decide +kernel) (n := 1) rfl hR rfl h8 hdg hp (fun v u' hq => by obtain ⟨r, rfl, hk⟩ := hq; exact kk r u' hk)
theorem ck_Server_174_Server {g : pj_G} {b : Nat} {cc : ByteArray} {nL : Nat} {ret : Option FieldType} {rm : Room} {u : pj_M} {pc pc' : Nat} {vs : List (Option Value)} {st : List Value} (C : pj_X g cc nL R_Sv ret rm) {i0 : Nat} {x1 : Int32} {x2 : Int32} {o3 : Option Nat} {K : pj_M → Prop} (t0 : pj_T i0 = 8) (h : pw_Sv_finish u i0 x1 x2 o3 K) (hdg : decode cc pc = .ok (.invokevirtual 174, 3)) (hp : pc + 3 = pc') (hR : rm_Sv_finish.frames + 1 ≤ rm.frames ∧ 8 + (4 + 11) + rm_Sv_finish.locals ≤ rm.locals) (h8 : (st.map fun v => v.category).sum ≤ 8) (kk : ∀ u', K u' → pj_J g (pj_N g b u') pc' vs st) : pj_J g (pj_N g b u) pc vs (va_rf (o3.map (b + ·)) :: .int x2 :: .int x1 :: .ref (b + i0) :: st) :=
  pj_callV C (As := [.int x1, .int x2, va_rf (o3.map (b + ·))]) (fun l D E => pc_Sv_finish l D E t0 h) rfl rfl cl_Server (pj_lt t0 (by decide)) (fun E => ko_8 t0) wm_964 wm_966 wm_28 wm_97 wm_967 (by decide +kernel) (n := 3) rfl hR rfl h8 hdg hp (fun v u' hq => by obtain ⟨rfl, hk⟩ := hq; exact kk u' hk)
def rm_Sv_takeChallengeResponse : Room := { frames := 3, cells := 0, slots := 0, locals := 66 }
def pb_Sv_takeChallengeResponse_41  (K : Int32 → pj_M → Prop) (u : pj_M)  : Prop := K 0 u
set_option maxHeartbeats 1000000 in
theorem pt_Sv_takeChallengeResponse_41 {g : pj_G} {b : Nat} (C : pj_X g c_Sv_takeChallengeResponse 4 R_Sv (some .boolean) rm_Sv_takeChallengeResponse) {K : Int32 → pj_M → Prop} (hE : pj_E g b (pj_Ki K))   {u : pj_M}    (h : pb_Sv_takeChallengeResponse_41  K u ) : pj_J g (pj_N g b u) 41 [none, none, none, none] [] := by
  unfold pb_Sv_takeChallengeResponse_41 at h
  refine pj_iconst C d_Sv_takeChallengeResponse_41 (pc' := 42) rfl (v := 0) (by decide) ?_
  exact pj_zret C hE d_Sv_takeChallengeResponse_42 pj_bi0 ⟨_, rfl, h⟩
def pb_Sv_takeChallengeResponse_43  (K : Int32 → pj_M → Prop) (u : pj_M) (i0 : Nat) (i1 : Nat) : Prop := pw_Sv_finish u i0 2 3 (some i1) fun u1 => (K 1 u1)
set_option maxHeartbeats 1000000 in
theorem pt_Sv_takeChallengeResponse_43 {g : pj_G} {b : Nat} (C : pj_X g c_Sv_takeChallengeResponse 4 R_Sv (some .boolean) rm_Sv_takeChallengeResponse) {K : Int32 → pj_M → Prop} (hE : pj_E g b (pj_Ki K))   {u : pj_M} {i0 : Nat} {i1 : Nat}  (t0 : pj_T i0 = 8) (t1 : pj_T i1 = 7) (h : pb_Sv_takeChallengeResponse_43  K u i0 i1) : pj_J g (pj_N g b u) 43 [some (.ref (b + i0)), some (.ref (b + i1)), none, none] [] := by
  unfold pb_Sv_takeChallengeResponse_43 at h
  refine pj_aload_n C d_Sv_takeChallengeResponse_43 (pc' := 44) (i := 0) (x := b + i0) rfl rfl rfl ?_
  refine pj_iconst C d_Sv_takeChallengeResponse_44 (pc' := 45) rfl (v := 2) (by decide) ?_
  refine pj_iconst C d_Sv_takeChallengeResponse_45 (pc' := 46) rfl (v := 3) (by decide) ?_
  refine pj_aload_n C d_Sv_takeChallengeResponse_46 (pc' := 47) (i := 1) (x := b + i1) rfl rfl rfl ?_
  refine ck_Server_174_Server C t0 h d_Sv_takeChallengeResponse_47 (pc' := 50) rfl ⟨Nat.le_of_ble_eq_true rfl, Nat.le_of_ble_eq_true rfl⟩ (Nat.le_of_ble_eq_true rfl) (fun u1 h => ?_)
  refine pj_iconst C d_Sv_takeChallengeResponse_50 (pc' := 51) rfl (v := 1) (by decide) ?_
  exact pj_zret C hE d_Sv_takeChallengeResponse_51 pj_bi1 ⟨_, rfl, h⟩
def pb_Sv_takeChallengeResponse_32  (K : Int32 → pj_M → Prop) (u : pj_M) (i0 : Nat) (i1 : Nat) (i2 : Nat) (x3 : Int32) : Prop := pw_Pa_dataIntAt u i2 0 fun r2 u1 => (((r2 = x3) → (pb_Sv_takeChallengeResponse_43  K u1 i0 i1)) ∧ (¬ (r2 = x3) → (pb_Sv_takeChallengeResponse_41  K u1 )))
set_option maxHeartbeats 1000000 in
theorem pt_Sv_takeChallengeResponse_32 {g : pj_G} {b : Nat} (C : pj_X g c_Sv_takeChallengeResponse 4 R_Sv (some .boolean) rm_Sv_takeChallengeResponse) {K : Int32 → pj_M → Prop} (hE : pj_E g b (pj_Ki K))   {u : pj_M} {i0 : Nat} {i1 : Nat} {i2 : Nat} {x3 : Int32}  (t0 : pj_T i0 = 8) (t1 : pj_T i1 = 7) (t2 : pj_T i2 = 4) (h : pb_Sv_takeChallengeResponse_32  K u i0 i1 i2 x3) : pj_J g (pj_N g b u) 32 [some (.ref (b + i0)), some (.ref (b + i1)), some (.ref (b + i2)), some (.int x3)] [] := by
  unfold pb_Sv_takeChallengeResponse_32 at h
  refine pj_aload_n C d_Sv_takeChallengeResponse_32 (pc' := 33) (i := 2) (x := b + i2) rfl rfl rfl ?_
  refine pj_iconst C d_Sv_takeChallengeResponse_33 (pc' := 34) rfl (v := 0) (by decide) ?_
  refine ck_Server_268_Packet C t2 h d_Sv_takeChallengeResponse_34 (pc' := 37) rfl ⟨Nat.le_of_ble_eq_true rfl, Nat.le_of_ble_eq_true rfl⟩ (Nat.le_of_ble_eq_true rfl) (fun r2 u1 h => ?_)
  refine pj_iload_n C d_Sv_takeChallengeResponse_37 (pc' := 38) (i := 3) (x := x3) rfl rfl rfl ?_
  refine pj_icmp_eq C d_Sv_takeChallengeResponse_38 (pc' := 41) rfl (tgt := 43) (by decide) h (fun h => ?_) (fun h => ?_)
  · exact pj_cut (pj_le_s (pj_le_s (pj_le_n (pj_le_n pj_le_e)))) (pt_Sv_takeChallengeResponse_43 C hE  t0 t1 h)
  · exact pj_cut (pj_le_n (pj_le_n (pj_le_n (pj_le_n pj_le_e)))) (pt_Sv_takeChallengeResponse_41 C hE   h)
def pb_Sv_takeChallengeResponse_0  (K : Int32 → pj_M → Prop) (u : pj_M) (i0 : Nat) (i1 : Nat) (i2 : Nat) : Prop := pw_Pa_id u i2 fun r2 u1 => (vp_in (u1 i1 1) 8 ∧ (pw_Di_challengeResponse u1 r2 (u1 2 (u1 i1 1).toNatClampNeg) (u1 i1 5) fun r4 u3 => (pw_Pa_dataSize u3 i2 fun r6 u5 => (((r6 = 4) → (pb_Sv_takeChallengeResponse_32  K u5 i0 i1 i2 r4)) ∧ (¬ (r6 = 4) → (pb_Sv_takeChallengeResponse_41  K u5 ))))))
set_option maxHeartbeats 1000000 in
theorem pt_Sv_takeChallengeResponse_0 {g : pj_G} {b : Nat} (C : pj_X g c_Sv_takeChallengeResponse 4 R_Sv (some .boolean) rm_Sv_takeChallengeResponse) {K : Int32 → pj_M → Prop} (hE : pj_E g b (pj_Ki K))   {u : pj_M} {i0 : Nat} {i1 : Nat} {i2 : Nat}  (t0 : pj_T i0 = 8) (t1 : pj_T i1 = 7) (t2 : pj_T i2 = 4) (h : pb_Sv_takeChallengeResponse_0  K u i0 i1 i2) : pj_J g (pj_N g b u) 0 [some (.ref (b + i0)), some (.ref (b + i1)), some (.ref (b + i2)), none] [] := by
  unfold pb_Sv_takeChallengeResponse_0 at h
  refine pj_aload_n C d_Sv_takeChallengeResponse_0 (pc' := 1) (i := 2) (x := b + i2) rfl rfl rfl ?_
  refine ck_Server_166_Packet C t2 h d_Sv_takeChallengeResponse_1 (pc' := 4) rfl ⟨Nat.le_of_ble_eq_true rfl, Nat.le_of_ble_eq_true rfl⟩ (Nat.le_of_ble_eq_true rfl) (fun r2 u1 h => ?_)
  refine pj_aload_n C d_Sv_takeChallengeResponse_4 (pc' := 5) (i := 0) (x := b + i0) rfl rfl rfl ?_
  refine fg_Server_58_Server C t0 d_Sv_takeChallengeResponse_5 (pc' := 8) rfl ?_
  refine fg_Server_218_Users C tk_1 d_Sv_takeChallengeResponse_8 (pc' := 11) rfl ?_
  refine pj_aload_n C d_Sv_takeChallengeResponse_11 (pc' := 12) (i := 1) (x := b + i1) rfl rfl rfl ?_
  refine fg_Server_199_Session C t1 d_Sv_takeChallengeResponse_12 (pc' := 15) rfl ?_
  refine pj_iald C (pj_lt tk_2 (by decide)) (fun E u => ka_20 tk_2) d_Sv_takeChallengeResponse_15 (pc' := 16) rfl h (fun h => ?_)
  refine pj_aload_n C d_Sv_takeChallengeResponse_16 (pc' := 17) (i := 1) (x := b + i1) rfl rfl rfl ?_
  refine fg_Server_230_Session C t1 d_Sv_takeChallengeResponse_17 (pc' := 20) rfl ?_
  refine ck_Server_265 C  h d_Sv_takeChallengeResponse_20 (pc' := 23) rfl ⟨Nat.le_of_ble_eq_true rfl, Nat.le_of_ble_eq_true rfl⟩ (Nat.le_of_ble_eq_true rfl) (fun r4 u3 h => ?_)
  refine pj_istore_n C d_Sv_takeChallengeResponse_23 (pc' := 24) (i := 3) (vs' := [some (.ref (b + i0)), some (.ref (b + i1)), some (.ref (b + i2)), some (.int r4)]) rfl rfl (Nat.le_of_ble_eq_true rfl) (Nat.le_of_ble_eq_true rfl) rfl rfl ?_
  refine pj_aload_n C d_Sv_takeChallengeResponse_24 (pc' := 25) (i := 2) (x := b + i2) rfl rfl rfl ?_
  refine ck_Server_182_Packet C t2 h d_Sv_takeChallengeResponse_25 (pc' := 28) rfl ⟨Nat.le_of_ble_eq_true rfl, Nat.le_of_ble_eq_true rfl⟩ (Nat.le_of_ble_eq_true rfl) (fun r6 u5 h => ?_)
  refine pj_iconst C d_Sv_takeChallengeResponse_28 (pc' := 29) rfl (v := 4) (by decide) ?_
  refine pj_icmp_ne C d_Sv_takeChallengeResponse_29 (pc' := 32) rfl (tgt := 41) (by decide) h (fun h => ?_) (fun h => ?_)
  · exact pj_cut (pj_le_n (pj_le_n (pj_le_n (pj_le_n pj_le_e)))) (pt_Sv_takeChallengeResponse_41 C hE   h)
  · exact pj_cut (pj_le_s (pj_le_s (pj_le_s (pj_le_s pj_le_e)))) (pt_Sv_takeChallengeResponse_32 C hE  t0 t1 t2 h)
def pw_Sv_takeChallengeResponse (u : pj_M) (i0 : Nat) (i1 : Nat) (i2 : Nat) (K : Int32 → pj_M → Prop) : Prop := pb_Sv_takeChallengeResponse_0  K u i0 i1 i2
theorem pc_Sv_takeChallengeResponse (l : Launch) (D : va_G) (E : Nat → ClassId) {b : Nat} {u : pj_M} {i0 : Nat} {i1 : Nat} {i2 : Nat} {K : Int32 → pj_M → Prop} (t0 : pj_T i0 = 8) (t1 : pj_T i1 = 7) (t2 : pj_T i2 = 4) (h : pw_Sv_takeChallengeResponse u i0 i1 i2 K) : pj_C l y_Sv_takeChallengeResponse c_Sv_takeChallengeResponse 4 (some .boolean) rm_Sv_takeChallengeResponse D E b [.ref (b + i0), .ref (b + i1), .ref (b + i2)] u (pj_Ki K) := by
  refine pj_met (own := R_Sv) (by decide +kernel) rfl (Nat.le_of_ble_eq_true rfl) (fun g hE C => ?_)
  unfold pw_Sv_takeChallengeResponse at h
  show pj_J g (pj_N g b u) 0 [some (.ref (b + i0)), some (.ref (b + i1)), some (.ref (b + i2)), none] []
  exact pj_cut (pj_le_s (pj_le_s (pj_le_s (pj_le_n pj_le_e)))) (pt_Sv_takeChallengeResponse_0 C hE  t0 t1 t2 h)
/-! Server.takeLastProof(LPortGuard$Session;LPortGuard$Packet;)Z -/
theorem fg_Server_276_Session {g : pj_G} {b : Nat} {cc : ByteArray} {nL : Nat} {ret : Option FieldType} {rm : Room} {u : pj_M} {pc pc' : Nat} {vs : List (Option Value)} {st : List Value} (C : pj_X g cc nL R_Sv ret rm) {i : Nat} (t : pj_T i = 7) (hdg : decode cc pc = .ok (.getfield 276, 3)) (hp : pc + 3 = pc') (kk : pj_J g (pj_N g b u) pc' vs (.int (u i 6) :: st)) : pj_J g (pj_N g b u) pc vs (.ref (b + i) :: st) :=
  pj_get C cl_Session hin_Session (k := 6) (Nat.le_of_ble_eq_true rfl) wm_309 (Or.inl rfl) (pj_lt t (by decide)) (fun E => ko_7 t) rfl hdg hp kk
theorem ck_Server_272 {g : pj_G} {b : Nat} {cc : ByteArray} {nL : Nat} {ret : Option FieldType} {rm : Room} {u : pj_M} {pc pc' : Nat} {vs : List (Option Value)} {st : List Value} (C : pj_X g cc nL R_Sv ret rm) {x0 : Int32} {x1 : Int32} {x2 : Int32} {x3 : Int32} {K : Int32 → pj_M → Prop}  (h : pw_Di_macOfProof u x0 x1 x2 x3 K) (hdg : decode cc pc = .ok (.invokestatic 272, 3)) (hp : pc + 3 = pc') (hR : rm_Di_macOfProof.frames + 1 ≤ rm.frames ∧ 8 + (6 + 11) + rm_Di_macOfProof.locals ≤ rm.locals) (h8 : (st.map fun v => v.category).sum ≤ 8) (kk : ∀ r u', K r u' → pj_J g (pj_N g b u') pc' vs (.int r :: st)) : pj_J g (pj_N g b u) pc vs (.int x3 :: .int x2 :: .int x1 :: .int x0 :: st) :=
  pj_callS C (As := [.int x0, .int x1, .int x2, .int x3]) (fun l D E => pc_Di_macOfProof l D E  h) rfl rfl wm_976 wm_862 wm_105 wm_863 (by decide +kernel) (n := 4) rfl hR rfl h8 hdg hp (fun v u' hq => by obtain ⟨r, rfl, hk⟩ := hq; exact kk r u' hk)
def rm_Sv_takeLastProof : Room := { frames := 3, cells := 0, slots := 0, locals := 66 }
def pb_Sv_takeLastProof_50  (K : Int32 → pj_M → Prop) (u : pj_M)  : Prop := K 0 u
set_option maxHeartbeats 1000000 in
theorem pt_Sv_takeLastProof_50 {g : pj_G} {b : Nat} (C : pj_X g c_Sv_takeLastProof 4 R_Sv (some .boolean) rm_Sv_takeLastProof) {K : Int32 → pj_M → Prop} (hE : pj_E g b (pj_Ki K))   {u : pj_M}    (h : pb_Sv_takeLastProof_50  K u ) : pj_J g (pj_N g b u) 50 [none, none, none, none] [] := by
  unfold pb_Sv_takeLastProof_50 at h
  refine pj_iconst C d_Sv_takeLastProof_50 (pc' := 51) rfl (v := 0) (by decide) ?_
  exact pj_zret C hE d_Sv_takeLastProof_51 pj_bi0 ⟨_, rfl, h⟩
def pb_Sv_takeLastProof_52  (K : Int32 → pj_M → Prop) (u : pj_M) (i0 : Nat) (i1 : Nat) : Prop := pw_Sv_finish u i0 2 3 (some i1) fun u1 => (K 1 u1)
set_option maxHeartbeats 1000000 in
theorem pt_Sv_takeLastProof_52 {g : pj_G} {b : Nat} (C : pj_X g c_Sv_takeLastProof 4 R_Sv (some .boolean) rm_Sv_takeLastProof) {K : Int32 → pj_M → Prop} (hE : pj_E g b (pj_Ki K))   {u : pj_M} {i0 : Nat} {i1 : Nat}  (t0 : pj_T i0 = 8) (t1 : pj_T i1 = 7) (h : pb_Sv_takeLastProof_52  K u i0 i1) : pj_J g (pj_N g b u) 52 [some (.ref (b + i0)), some (.ref (b + i1)), none, none] [] := by
  unfold pb_Sv_takeLastProof_52 at h
  refine pj_aload_n C d_Sv_takeLastProof_52 (pc' := 53) (i := 0) (x := b + i0) rfl rfl rfl ?_
  refine pj_iconst C d_Sv_takeLastProof_53 (pc' := 54) rfl (v := 2) (by decide) ?_
  refine pj_iconst C d_Sv_takeLastProof_54 (pc' := 55) rfl (v := 3) (by decide) ?_
  refine pj_aload_n C d_Sv_takeLastProof_55 (pc' := 56) (i := 1) (x := b + i1) rfl rfl rfl ?_
  refine ck_Server_174_Server C t0 h d_Sv_takeLastProof_56 (pc' := 59) rfl ⟨Nat.le_of_ble_eq_true rfl, Nat.le_of_ble_eq_true rfl⟩ (Nat.le_of_ble_eq_true rfl) (fun u1 h => ?_)
  refine pj_iconst C d_Sv_takeLastProof_59 (pc' := 60) rfl (v := 1) (by decide) ?_
  exact pj_zret C hE d_Sv_takeLastProof_60 pj_bi1 ⟨_, rfl, h⟩
def pb_Sv_takeLastProof_41  (K : Int32 → pj_M → Prop) (u : pj_M) (i0 : Nat) (i1 : Nat) (i2 : Nat) (x3 : Int32) : Prop := pw_Pa_dataIntAt u i2 1 fun r2 u1 => (((r2 = x3) → (pb_Sv_takeLastProof_52  K u1 i0 i1)) ∧ (¬ (r2 = x3) → (pb_Sv_takeLastProof_50  K u1 )))
set_option maxHeartbeats 1000000 in
theorem pt_Sv_takeLastProof_41 {g : pj_G} {b : Nat} (C : pj_X g c_Sv_takeLastProof 4 R_Sv (some .boolean) rm_Sv_takeLastProof) {K : Int32 → pj_M → Prop} (hE : pj_E g b (pj_Ki K))   {u : pj_M} {i0 : Nat} {i1 : Nat} {i2 : Nat} {x3 : Int32}  (t0 : pj_T i0 = 8) (t1 : pj_T i1 = 7) (t2 : pj_T i2 = 4) (h : pb_Sv_takeLastProof_41  K u i0 i1 i2 x3) : pj_J g (pj_N g b u) 41 [some (.ref (b + i0)), some (.ref (b + i1)), some (.ref (b + i2)), some (.int x3)] [] := by
  unfold pb_Sv_takeLastProof_41 at h
  refine pj_aload_n C d_Sv_takeLastProof_41 (pc' := 42) (i := 2) (x := b + i2) rfl rfl rfl ?_
  refine pj_iconst C d_Sv_takeLastProof_42 (pc' := 43) rfl (v := 1) (by decide) ?_
  refine ck_Server_268_Packet C t2 h d_Sv_takeLastProof_43 (pc' := 46) rfl ⟨Nat.le_of_ble_eq_true rfl, Nat.le_of_ble_eq_true rfl⟩ (Nat.le_of_ble_eq_true rfl) (fun r2 u1 h => ?_)
  refine pj_iload_n C d_Sv_takeLastProof_46 (pc' := 47) (i := 3) (x := x3) rfl rfl rfl ?_
  refine pj_icmp_eq C d_Sv_takeLastProof_47 (pc' := 50) rfl (tgt := 52) (by decide) h (fun h => ?_) (fun h => ?_)
  · exact pj_cut (pj_le_s (pj_le_s (pj_le_n (pj_le_n pj_le_e)))) (pt_Sv_takeLastProof_52 C hE  t0 t1 h)
  · exact pj_cut (pj_le_n (pj_le_n (pj_le_n (pj_le_n pj_le_e)))) (pt_Sv_takeLastProof_50 C hE   h)
def pb_Sv_takeLastProof_33  (K : Int32 → pj_M → Prop) (u : pj_M) (i0 : Nat) (i1 : Nat) (i2 : Nat) (x3 : Int32) : Prop := pw_Pa_firstData u i2 fun r2 u1 => (((r2 = 4) → (pb_Sv_takeLastProof_41  K u1 i0 i1 i2 x3)) ∧ (¬ (r2 = 4) → (pb_Sv_takeLastProof_50  K u1 )))
set_option maxHeartbeats 1000000 in
theorem pt_Sv_takeLastProof_33 {g : pj_G} {b : Nat} (C : pj_X g c_Sv_takeLastProof 4 R_Sv (some .boolean) rm_Sv_takeLastProof) {K : Int32 → pj_M → Prop} (hE : pj_E g b (pj_Ki K))   {u : pj_M} {i0 : Nat} {i1 : Nat} {i2 : Nat} {x3 : Int32}  (t0 : pj_T i0 = 8) (t1 : pj_T i1 = 7) (t2 : pj_T i2 = 4) (h : pb_Sv_takeLastProof_33  K u i0 i1 i2 x3) : pj_J g (pj_N g b u) 33 [some (.ref (b + i0)), some (.ref (b + i1)), some (.ref (b + i2)), some (.int x3)] [] := by
  unfold pb_Sv_takeLastProof_33 at h
  refine pj_aload_n C d_Sv_takeLastProof_33 (pc' := 34) (i := 2) (x := b + i2) rfl rfl rfl ?_
  refine ck_Server_179_Packet C t2 h d_Sv_takeLastProof_34 (pc' := 37) rfl ⟨Nat.le_of_ble_eq_true rfl, Nat.le_of_ble_eq_true rfl⟩ (Nat.le_of_ble_eq_true rfl) (fun r2 u1 h => ?_)
  refine pj_iconst C d_Sv_takeLastProof_37 (pc' := 38) rfl (v := 4) (by decide) ?_
  refine pj_icmp_ne C d_Sv_takeLastProof_38 (pc' := 41) rfl (tgt := 50) (by decide) h (fun h => ?_) (fun h => ?_)
  · exact pj_cut (pj_le_n (pj_le_n (pj_le_n (pj_le_n pj_le_e)))) (pt_Sv_takeLastProof_50 C hE   h)
  · exact pj_cut (pj_le_s (pj_le_s (pj_le_s (pj_le_s pj_le_e)))) (pt_Sv_takeLastProof_41 C hE  t0 t1 t2 h)
def pb_Sv_takeLastProof_0  (K : Int32 → pj_M → Prop) (u : pj_M) (i0 : Nat) (i1 : Nat) (i2 : Nat) : Prop := vp_in (u i1 1) 8 ∧ (pw_Di_macOfProof u (u 2 (u i1 1).toNatClampNeg) 4 (u i1 5) (u i1 6) fun r2 u1 => (pw_Pa_dataSize u1 i2 fun r4 u3 => (((r4 = 5) → (pb_Sv_takeLastProof_33  K u3 i0 i1 i2 r2)) ∧ (¬ (r4 = 5) → (pb_Sv_takeLastProof_50  K u3 )))))
set_option maxHeartbeats 1000000 in
theorem pt_Sv_takeLastProof_0 {g : pj_G} {b : Nat} (C : pj_X g c_Sv_takeLastProof 4 R_Sv (some .boolean) rm_Sv_takeLastProof) {K : Int32 → pj_M → Prop} (hE : pj_E g b (pj_Ki K))   {u : pj_M} {i0 : Nat} {i1 : Nat} {i2 : Nat}  (t0 : pj_T i0 = 8) (t1 : pj_T i1 = 7) (t2 : pj_T i2 = 4) (h : pb_Sv_takeLastProof_0  K u i0 i1 i2) : pj_J g (pj_N g b u) 0 [some (.ref (b + i0)), some (.ref (b + i1)), some (.ref (b + i2)), none] [] := by
  unfold pb_Sv_takeLastProof_0 at h
  refine pj_aload_n C d_Sv_takeLastProof_0 (pc' := 1) (i := 0) (x := b + i0) rfl rfl rfl ?_
  refine fg_Server_58_Server C t0 d_Sv_takeLastProof_1 (pc' := 4) rfl ?_
  refine fg_Server_218_Users C tk_1 d_Sv_takeLastProof_4 (pc' := 7) rfl ?_
  refine pj_aload_n C d_Sv_takeLastProof_7 (pc' := 8) (i := 1) (x := b + i1) rfl rfl rfl ?_
  refine fg_Server_199_Session C t1 d_Sv_takeLastProof_8 (pc' := 11) rfl ?_
  refine pj_iald C (pj_lt tk_2 (by decide)) (fun E u => ka_20 tk_2) d_Sv_takeLastProof_11 (pc' := 12) rfl h (fun h => ?_)
  refine pj_iconst C d_Sv_takeLastProof_12 (pc' := 13) rfl (v := 4) (by decide) ?_
  refine pj_aload_n C d_Sv_takeLastProof_13 (pc' := 14) (i := 1) (x := b + i1) rfl rfl rfl ?_
  refine fg_Server_230_Session C t1 d_Sv_takeLastProof_14 (pc' := 17) rfl ?_
  refine pj_aload_n C d_Sv_takeLastProof_17 (pc' := 18) (i := 1) (x := b + i1) rfl rfl rfl ?_
  refine fg_Server_276_Session C t1 d_Sv_takeLastProof_18 (pc' := 21) rfl ?_
  refine ck_Server_272 C  h d_Sv_takeLastProof_21 (pc' := 24) rfl ⟨Nat.le_of_ble_eq_true rfl, Nat.le_of_ble_eq_true rfl⟩ (Nat.le_of_ble_eq_true rfl) (fun r2 u1 h => ?_)
  refine pj_istore_n C d_Sv_takeLastProof_24 (pc' := 25) (i := 3) (vs' := [some (.ref (b + i0)), some (.ref (b + i1)), some (.ref (b + i2)), some (.int r2)]) rfl rfl (Nat.le_of_ble_eq_true rfl) (Nat.le_of_ble_eq_true rfl) rfl rfl ?_
  refine pj_aload_n C d_Sv_takeLastProof_25 (pc' := 26) (i := 2) (x := b + i2) rfl rfl rfl ?_
  refine ck_Server_182_Packet C t2 h d_Sv_takeLastProof_26 (pc' := 29) rfl ⟨Nat.le_of_ble_eq_true rfl, Nat.le_of_ble_eq_true rfl⟩ (Nat.le_of_ble_eq_true rfl) (fun r4 u3 h => ?_)
  refine pj_iconst C d_Sv_takeLastProof_29 (pc' := 30) rfl (v := 5) (by decide) ?_
  refine pj_icmp_ne C d_Sv_takeLastProof_30 (pc' := 33) rfl (tgt := 50) (by decide) h (fun h => ?_) (fun h => ?_)
  · exact pj_cut (pj_le_n (pj_le_n (pj_le_n (pj_le_n pj_le_e)))) (pt_Sv_takeLastProof_50 C hE   h)
  · exact pj_cut (pj_le_s (pj_le_s (pj_le_s (pj_le_s pj_le_e)))) (pt_Sv_takeLastProof_33 C hE  t0 t1 t2 h)
def pw_Sv_takeLastProof (u : pj_M) (i0 : Nat) (i1 : Nat) (i2 : Nat) (K : Int32 → pj_M → Prop) : Prop := pb_Sv_takeLastProof_0  K u i0 i1 i2
theorem pc_Sv_takeLastProof (l : Launch) (D : va_G) (E : Nat → ClassId) {b : Nat} {u : pj_M} {i0 : Nat} {i1 : Nat} {i2 : Nat} {K : Int32 → pj_M → Prop} (t0 : pj_T i0 = 8) (t1 : pj_T i1 = 7) (t2 : pj_T i2 = 4) (h : pw_Sv_takeLastProof u i0 i1 i2 K) : pj_C l y_Sv_takeLastProof c_Sv_takeLastProof 4 (some .boolean) rm_Sv_takeLastProof D E b [.ref (b + i0), .ref (b + i1), .ref (b + i2)] u (pj_Ki K) := by
  refine pj_met (own := R_Sv) (by decide +kernel) rfl (Nat.le_of_ble_eq_true rfl) (fun g hE C => ?_)
  unfold pw_Sv_takeLastProof at h
  show pj_J g (pj_N g b u) 0 [some (.ref (b + i0)), some (.ref (b + i1)), some (.ref (b + i2)), none] []
  exact pj_cut (pj_le_s (pj_le_s (pj_le_s (pj_le_n pj_le_e)))) (pt_Sv_takeLastProof_0 C hE  t0 t1 t2 h)
/-! Server.takeFirstProof(LPortGuard$Session;LPortGuard$Packet;)Z -/
theorem fp_Server_276_Session {g : pj_G} {b : Nat} {cc : ByteArray} {nL : Nat} {ret : Option FieldType} {rm : Room} {u : pj_M} {pc pc' : Nat} {vs : List (Option Value)} {st : List Value} (C : pj_X g cc nL R_Sv ret rm) {i : Nat} {x : Int32} {P : pj_M → Prop} (t : pj_T i = 7)  (hdg : decode cc pc = .ok (.putfield 276, 3)) (hp : pc + 3 = pc') (h : pj_put u i 6 x P) (kk : ∀ u', P u' → pj_J g (pj_N g b u') pc' vs st) : pj_J g (pj_N g b u) pc vs (.int x :: .ref (b + i) :: st) :=
  pj_putI C cl_Session hin_Session ty_Session tyok_Session nm_Session (k := 6) (Nat.le_of_ble_eq_true rfl) wm_309 (Or.inl rfl) rfl (ty := .int) (by decide +kernel) rfl rfl (pj_lt t (by decide)) (fun E u => ko_7 t) (F := fun f => [.int (f 0), .int (f 1), .int (f 2), .int (f 3), .int (f 4), .int (f 5), .int (f 6), .int (f 7)]) (fun _ => Nat.le_of_ble_eq_true rfl) (fun _ _ => rfl) hdg hp h kk
def rm_Sv_takeFirstProof : Room := { frames := 3, cells := 0, slots := 0, locals := 66 }
def pb_Sv_takeFirstProof_56  (K : Int32 → pj_M → Prop) (u : pj_M)  : Prop := K 0 u
set_option maxHeartbeats 1000000 in
theorem pt_Sv_takeFirstProof_56 {g : pj_G} {b : Nat} (C : pj_X g c_Sv_takeFirstProof 5 R_Sv (some .boolean) rm_Sv_takeFirstProof) {K : Int32 → pj_M → Prop} (hE : pj_E g b (pj_Ki K))   {u : pj_M}    (h : pb_Sv_takeFirstProof_56  K u ) : pj_J g (pj_N g b u) 56 [none, none, none, none, none] [] := by
  unfold pb_Sv_takeFirstProof_56 at h
  refine pj_iconst C d_Sv_takeFirstProof_56 (pc' := 57) rfl (v := 0) (by decide) ?_
  exact pj_zret C hE d_Sv_takeFirstProof_57 pj_bi0 ⟨_, rfl, h⟩
def pb_Sv_takeFirstProof_58  (K : Int32 → pj_M → Prop) (u : pj_M) (i0 : Nat) (i1 : Nat) (x3 : Int32) (x4 : Int32) : Prop := pj_put u i1 6 x4 fun u1 => (pj_put u1 i1 7 1 fun u2 => (pw_Sv_openRequest u2 i0 i1 51 fun u3 => (pw_Ro_put u3 (i0 + 15) 3 fun u4 => (pw_Di_macOfProof u4 x3 3 x4 (u4 i1 5) fun r6 u5 => (pw_Ro_putInt u5 (i0 + 15) r6 fun u7 => (pw_Pa_setLength u7 (i0 + 15) fun u8 => (K 1 u8)))))))
set_option maxHeartbeats 1000000 in
theorem pt_Sv_takeFirstProof_58 {g : pj_G} {b : Nat} (C : pj_X g c_Sv_takeFirstProof 5 R_Sv (some .boolean) rm_Sv_takeFirstProof) {K : Int32 → pj_M → Prop} (hE : pj_E g b (pj_Ki K))   {u : pj_M} {i0 : Nat} {i1 : Nat} {x3 : Int32} {x4 : Int32}  (t0 : pj_T i0 = 8) (t1 : pj_T i1 = 7) (h : pb_Sv_takeFirstProof_58  K u i0 i1 x3 x4) : pj_J g (pj_N g b u) 58 [some (.ref (b + i0)), some (.ref (b + i1)), none, some (.int x3), some (.int x4)] [] := by
  unfold pb_Sv_takeFirstProof_58 at h
  refine pj_aload_n C d_Sv_takeFirstProof_58 (pc' := 59) (i := 1) (x := b + i1) rfl rfl rfl ?_
  refine pj_iload C d_Sv_takeFirstProof_59 (pc' := 61) (i := 4) (x := x4) rfl rfl ?_
  refine fp_Server_276_Session C t1  d_Sv_takeFirstProof_61 (pc' := 64) rfl h (fun u1 h => ?_)
  refine pj_aload_n C d_Sv_takeFirstProof_64 (pc' := 65) (i := 1) (x := b + i1) rfl rfl rfl ?_
  refine pj_iconst C d_Sv_takeFirstProof_65 (pc' := 66) rfl (v := 1) (by decide) ?_
  refine fp_Server_205_Session C t1 pj_bi1 d_Sv_takeFirstProof_66 (pc' := 69) rfl h (fun u2 h => ?_)
  refine pj_aload_n C d_Sv_takeFirstProof_69 (pc' := 70) (i := 0) (x := b + i0) rfl rfl rfl ?_
  refine pj_aload_n C d_Sv_takeFirstProof_70 (pc' := 71) (i := 1) (x := b + i1) rfl rfl rfl ?_
  refine pj_bipush C d_Sv_takeFirstProof_71 (pc' := 73) rfl (v := 51) (by decide) ?_
  refine ck_Server_232_Server C t0 t1 h d_Sv_takeFirstProof_73 (pc' := 76) rfl ⟨Nat.le_of_ble_eq_true rfl, Nat.le_of_ble_eq_true rfl⟩ (Nat.le_of_ble_eq_true rfl) (fun u3 h => ?_)
  refine pj_aload_n C d_Sv_takeFirstProof_76 (pc' := 77) (i := 0) (x := b + i0) rfl rfl rfl ?_
  refine fg_Server_43_Server C t0 d_Sv_takeFirstProof_77 (pc' := 80) rfl ?_
  refine pj_iconst C d_Sv_takeFirstProof_80 (pc' := 81) rfl (v := 3) (by decide) ?_
  refine ck_Server_235_Packet C (pl_Server_content t0) h d_Sv_takeFirstProof_81 (pc' := 84) rfl ⟨Nat.le_of_ble_eq_true rfl, Nat.le_of_ble_eq_true rfl⟩ (Nat.le_of_ble_eq_true rfl) (fun u4 h => ?_)
  refine pj_aload_n C d_Sv_takeFirstProof_84 (pc' := 85) (i := 0) (x := b + i0) rfl rfl rfl ?_
  refine fg_Server_43_Server C t0 d_Sv_takeFirstProof_85 (pc' := 88) rfl ?_
  refine pj_iload_n C d_Sv_takeFirstProof_88 (pc' := 89) (i := 3) (x := x3) rfl rfl rfl ?_
  refine pj_iconst C d_Sv_takeFirstProof_89 (pc' := 90) rfl (v := 3) (by decide) ?_
  refine pj_iload C d_Sv_takeFirstProof_90 (pc' := 92) (i := 4) (x := x4) rfl rfl ?_
  refine pj_aload_n C d_Sv_takeFirstProof_92 (pc' := 93) (i := 1) (x := b + i1) rfl rfl rfl ?_
  refine fg_Server_230_Session C t1 d_Sv_takeFirstProof_93 (pc' := 96) rfl ?_
  refine ck_Server_272 C  h d_Sv_takeFirstProof_96 (pc' := 99) rfl ⟨Nat.le_of_ble_eq_true rfl, Nat.le_of_ble_eq_true rfl⟩ (Nat.le_of_ble_eq_true rfl) (fun r6 u5 h => ?_)
  refine ck_Server_238_Packet C (pl_Server_content t0) h d_Sv_takeFirstProof_99 (pc' := 102) rfl ⟨Nat.le_of_ble_eq_true rfl, Nat.le_of_ble_eq_true rfl⟩ (Nat.le_of_ble_eq_true rfl) (fun u7 h => ?_)
  refine pj_aload_n C d_Sv_takeFirstProof_102 (pc' := 103) (i := 0) (x := b + i0) rfl rfl rfl ?_
  refine fg_Server_43_Server C t0 d_Sv_takeFirstProof_103 (pc' := 106) rfl ?_
  refine ck_Server_241_Packet C (pl_Server_content t0) h d_Sv_takeFirstProof_106 (pc' := 109) rfl ⟨Nat.le_of_ble_eq_true rfl, Nat.le_of_ble_eq_true rfl⟩ (Nat.le_of_ble_eq_true rfl) (fun u8 h => ?_)
  refine pj_iconst C d_Sv_takeFirstProof_109 (pc' := 110) rfl (v := 1) (by decide) ?_
  exact pj_zret C hE d_Sv_takeFirstProof_110 pj_bi1 ⟨_, rfl, h⟩
def pb_Sv_takeFirstProof_37  (K : Int32 → pj_M → Prop) (u : pj_M) (i0 : Nat) (i1 : Nat) (i2 : Nat) (x3 : Int32) (x4 : Int32) : Prop := pw_Pa_dataIntAt u i2 5 fun r2 u1 => (pw_Di_macOfProof u1 x3 2 (u1 i1 5) x4 fun r4 u3 => (((r2 = r4) → (pb_Sv_takeFirstProof_58  K u3 i0 i1 x3 x4)) ∧ (¬ (r2 = r4) → (pb_Sv_takeFirstProof_56  K u3 ))))
set_option maxHeartbeats 1000000 in
theorem pt_Sv_takeFirstProof_37 {g : pj_G} {b : Nat} (C : pj_X g c_Sv_takeFirstProof 5 R_Sv (some .boolean) rm_Sv_takeFirstProof) {K : Int32 → pj_M → Prop} (hE : pj_E g b (pj_Ki K))   {u : pj_M} {i0 : Nat} {i1 : Nat} {i2 : Nat} {x3 : Int32} {x4 : Int32}  (t0 : pj_T i0 = 8) (t1 : pj_T i1 = 7) (t2 : pj_T i2 = 4) (h : pb_Sv_takeFirstProof_37  K u i0 i1 i2 x3 x4) : pj_J g (pj_N g b u) 37 [some (.ref (b + i0)), some (.ref (b + i1)), some (.ref (b + i2)), some (.int x3), some (.int x4)] [] := by
  unfold pb_Sv_takeFirstProof_37 at h
  refine pj_aload_n C d_Sv_takeFirstProof_37 (pc' := 38) (i := 2) (x := b + i2) rfl rfl rfl ?_
  refine pj_iconst C d_Sv_takeFirstProof_38 (pc' := 39) rfl (v := 5) (by decide) ?_
  refine ck_Server_268_Packet C t2 h d_Sv_takeFirstProof_39 (pc' := 42) rfl ⟨Nat.le_of_ble_eq_true rfl, Nat.le_of_ble_eq_true rfl⟩ (Nat.le_of_ble_eq_true rfl) (fun r2 u1 h => ?_)
  refine pj_iload_n C d_Sv_takeFirstProof_42 (pc' := 43) (i := 3) (x := x3) rfl rfl rfl ?_
  refine pj_iconst C d_Sv_takeFirstProof_43 (pc' := 44) rfl (v := 2) (by decide) ?_
  refine pj_aload_n C d_Sv_takeFirstProof_44 (pc' := 45) (i := 1) (x := b + i1) rfl rfl rfl ?_
  refine fg_Server_230_Session C t1 d_Sv_takeFirstProof_45 (pc' := 48) rfl ?_
  refine pj_iload C d_Sv_takeFirstProof_48 (pc' := 50) (i := 4) (x := x4) rfl rfl ?_
  refine ck_Server_272 C  h d_Sv_takeFirstProof_50 (pc' := 53) rfl ⟨Nat.le_of_ble_eq_true rfl, Nat.le_of_ble_eq_true rfl⟩ (Nat.le_of_ble_eq_true rfl) (fun r4 u3 h => ?_)
  refine pj_icmp_eq C d_Sv_takeFirstProof_53 (pc' := 56) rfl (tgt := 58) (by decide) h (fun h => ?_) (fun h => ?_)
  · exact pj_cut (pj_le_s (pj_le_s (pj_le_n (pj_le_s (pj_le_s pj_le_e))))) (pt_Sv_takeFirstProof_58 C hE  t0 t1 h)
  · exact pj_cut (pj_le_n (pj_le_n (pj_le_n (pj_le_n (pj_le_n pj_le_e))))) (pt_Sv_takeFirstProof_56 C hE   h)
def pb_Sv_takeFirstProof_29  (K : Int32 → pj_M → Prop) (u : pj_M) (i0 : Nat) (i1 : Nat) (i2 : Nat) (x3 : Int32) (x4 : Int32) : Prop := pw_Pa_firstData u i2 fun r2 u1 => (((r2 = 2) → (pb_Sv_takeFirstProof_37  K u1 i0 i1 i2 x3 x4)) ∧ (¬ (r2 = 2) → (pb_Sv_takeFirstProof_56  K u1 )))
set_option maxHeartbeats 1000000 in
theorem pt_Sv_takeFirstProof_29 {g : pj_G} {b : Nat} (C : pj_X g c_Sv_takeFirstProof 5 R_Sv (some .boolean) rm_Sv_takeFirstProof) {K : Int32 → pj_M → Prop} (hE : pj_E g b (pj_Ki K))   {u : pj_M} {i0 : Nat} {i1 : Nat} {i2 : Nat} {x3 : Int32} {x4 : Int32}  (t0 : pj_T i0 = 8) (t1 : pj_T i1 = 7) (t2 : pj_T i2 = 4) (h : pb_Sv_takeFirstProof_29  K u i0 i1 i2 x3 x4) : pj_J g (pj_N g b u) 29 [some (.ref (b + i0)), some (.ref (b + i1)), some (.ref (b + i2)), some (.int x3), some (.int x4)] [] := by
  unfold pb_Sv_takeFirstProof_29 at h
  refine pj_aload_n C d_Sv_takeFirstProof_29 (pc' := 30) (i := 2) (x := b + i2) rfl rfl rfl ?_
  refine ck_Server_179_Packet C t2 h d_Sv_takeFirstProof_30 (pc' := 33) rfl ⟨Nat.le_of_ble_eq_true rfl, Nat.le_of_ble_eq_true rfl⟩ (Nat.le_of_ble_eq_true rfl) (fun r2 u1 h => ?_)
  refine pj_iconst C d_Sv_takeFirstProof_33 (pc' := 34) rfl (v := 2) (by decide) ?_
  refine pj_icmp_ne C d_Sv_takeFirstProof_34 (pc' := 37) rfl (tgt := 56) (by decide) h (fun h => ?_) (fun h => ?_)
  · exact pj_cut (pj_le_n (pj_le_n (pj_le_n (pj_le_n (pj_le_n pj_le_e))))) (pt_Sv_takeFirstProof_56 C hE   h)
  · exact pj_cut (pj_le_s (pj_le_s (pj_le_s (pj_le_s (pj_le_s pj_le_e))))) (pt_Sv_takeFirstProof_37 C hE  t0 t1 t2 h)
def pb_Sv_takeFirstProof_0  (K : Int32 → pj_M → Prop) (u : pj_M) (i0 : Nat) (i1 : Nat) (i2 : Nat) : Prop := vp_in (u i1 1) 8 ∧ (pj_let (u 2 (u i1 1).toNatClampNeg) fun y1 => (pw_Pa_dataIntAt u i2 1 fun r3 u2 => (pw_Pa_dataSize u2 i2 fun r5 u4 => (((r5 = 9) → (pb_Sv_takeFirstProof_29  K u4 i0 i1 i2 y1 r3)) ∧ (¬ (r5 = 9) → (pb_Sv_takeFirstProof_56  K u4 ))))))
set_option maxHeartbeats 1000000 in
theorem pt_Sv_takeFirstProof_0 {g : pj_G} {b : Nat} (C : pj_X g c_Sv_takeFirstProof 5 R_Sv (some .boolean) rm_Sv_takeFirstProof) {K : Int32 → pj_M → Prop} (hE : pj_E g b (pj_Ki K))   {u : pj_M} {i0 : Nat} {i1 : Nat} {i2 : Nat}  (t0 : pj_T i0 = 8) (t1 : pj_T i1 = 7) (t2 : pj_T i2 = 4) (h : pb_Sv_takeFirstProof_0  K u i0 i1 i2) : pj_J g (pj_N g b u) 0 [some (.ref (b + i0)), some (.ref (b + i1)), some (.ref (b + i2)), none, none] [] := by
  unfold pb_Sv_takeFirstProof_0 at h
  refine pj_aload_n C d_Sv_takeFirstProof_0 (pc' := 1) (i := 0) (x := b + i0) rfl rfl rfl ?_
  refine fg_Server_58_Server C t0 d_Sv_takeFirstProof_1 (pc' := 4) rfl ?_
  refine fg_Server_218_Users C tk_1 d_Sv_takeFirstProof_4 (pc' := 7) rfl ?_
  refine pj_aload_n C d_Sv_takeFirstProof_7 (pc' := 8) (i := 1) (x := b + i1) rfl rfl rfl ?_
  refine fg_Server_199_Session C t1 d_Sv_takeFirstProof_8 (pc' := 11) rfl ?_
  refine pj_iald C (pj_lt tk_2 (by decide)) (fun E u => ka_20 tk_2) d_Sv_takeFirstProof_11 (pc' := 12) rfl h (fun h => ?_)
  refine pj_name h (fun y1 h => ?_)
  refine pj_istore_n C d_Sv_takeFirstProof_12 (pc' := 13) (i := 3) (vs' := [some (.ref (b + i0)), some (.ref (b + i1)), some (.ref (b + i2)), some (.int y1), none]) rfl rfl (Nat.le_of_ble_eq_true rfl) (Nat.le_of_ble_eq_true rfl) rfl rfl ?_
  refine pj_aload_n C d_Sv_takeFirstProof_13 (pc' := 14) (i := 2) (x := b + i2) rfl rfl rfl ?_
  refine pj_iconst C d_Sv_takeFirstProof_14 (pc' := 15) rfl (v := 1) (by decide) ?_
  refine ck_Server_268_Packet C t2 h d_Sv_takeFirstProof_15 (pc' := 18) rfl ⟨Nat.le_of_ble_eq_true rfl, Nat.le_of_ble_eq_true rfl⟩ (Nat.le_of_ble_eq_true rfl) (fun r3 u2 h => ?_)
  refine pj_istore C d_Sv_takeFirstProof_18 (pc' := 20) (i := 4) (vs' := [some (.ref (b + i0)), some (.ref (b + i1)), some (.ref (b + i2)), some (.int y1), some (.int r3)]) rfl (Nat.le_of_ble_eq_true rfl) (Nat.le_of_ble_eq_true rfl) rfl rfl ?_
  refine pj_aload_n C d_Sv_takeFirstProof_20 (pc' := 21) (i := 2) (x := b + i2) rfl rfl rfl ?_
  refine ck_Server_182_Packet C t2 h d_Sv_takeFirstProof_21 (pc' := 24) rfl ⟨Nat.le_of_ble_eq_true rfl, Nat.le_of_ble_eq_true rfl⟩ (Nat.le_of_ble_eq_true rfl) (fun r5 u4 h => ?_)
  refine pj_bipush C d_Sv_takeFirstProof_24 (pc' := 26) rfl (v := 9) (by decide) ?_
  refine pj_icmp_ne C d_Sv_takeFirstProof_26 (pc' := 29) rfl (tgt := 56) (by decide) h (fun h => ?_) (fun h => ?_)
  · exact pj_cut (pj_le_n (pj_le_n (pj_le_n (pj_le_n (pj_le_n pj_le_e))))) (pt_Sv_takeFirstProof_56 C hE   h)
  · exact pj_cut (pj_le_s (pj_le_s (pj_le_s (pj_le_s (pj_le_s pj_le_e))))) (pt_Sv_takeFirstProof_29 C hE  t0 t1 t2 h)
def pw_Sv_takeFirstProof (u : pj_M) (i0 : Nat) (i1 : Nat) (i2 : Nat) (K : Int32 → pj_M → Prop) : Prop := pb_Sv_takeFirstProof_0  K u i0 i1 i2
theorem pc_Sv_takeFirstProof (l : Launch) (D : va_G) (E : Nat → ClassId) {b : Nat} {u : pj_M} {i0 : Nat} {i1 : Nat} {i2 : Nat} {K : Int32 → pj_M → Prop} (t0 : pj_T i0 = 8) (t1 : pj_T i1 = 7) (t2 : pj_T i2 = 4) (h : pw_Sv_takeFirstProof u i0 i1 i2 K) : pj_C l y_Sv_takeFirstProof c_Sv_takeFirstProof 5 (some .boolean) rm_Sv_takeFirstProof D E b [.ref (b + i0), .ref (b + i1), .ref (b + i2)] u (pj_Ki K) := by
  refine pj_met (own := R_Sv) (by decide +kernel) rfl (Nat.le_of_ble_eq_true rfl) (fun g hE C => ?_)
  unfold pw_Sv_takeFirstProof at h
  show pj_J g (pj_N g b u) 0 [some (.ref (b + i0)), some (.ref (b + i1)), some (.ref (b + i2)), none, none] []
  exact pj_cut (pj_le_s (pj_le_s (pj_le_s (pj_le_n (pj_le_n pj_le_e))))) (pt_Sv_takeFirstProof_0 C hE  t0 t1 t2 h)
/-! Server.proceed(LPortGuard$Session;LPortGuard$Packet;)Z -/
theorem fg_Server_215_Session {g : pj_G} {b : Nat} {cc : ByteArray} {nL : Nat} {ret : Option FieldType} {rm : Room} {u : pj_M} {pc pc' : Nat} {vs : List (Option Value)} {st : List Value} (C : pj_X g cc nL R_Sv ret rm) {i : Nat} (t : pj_T i = 7) (hdg : decode cc pc = .ok (.getfield 215, 3)) (hp : pc + 3 = pc') (kk : pj_J g (pj_N g b u) pc' vs (.int (u i 2) :: st)) : pj_J g (pj_N g b u) pc vs (.ref (b + i) :: st) :=
  pj_get C cl_Session hin_Session (k := 2) (Nat.le_of_ble_eq_true rfl) wm_305 (Or.inl rfl) (pj_lt t (by decide)) (fun E => ko_7 t) rfl hdg hp kk
theorem fg_Server_205_Session {g : pj_G} {b : Nat} {cc : ByteArray} {nL : Nat} {ret : Option FieldType} {rm : Room} {u : pj_M} {pc pc' : Nat} {vs : List (Option Value)} {st : List Value} (C : pj_X g cc nL R_Sv ret rm) {i : Nat} (t : pj_T i = 7) (hdg : decode cc pc = .ok (.getfield 205, 3)) (hp : pc + 3 = pc') (kk : pj_J g (pj_N g b u) pc' vs (.int (u i 7) :: st)) : pj_J g (pj_N g b u) pc vs (.ref (b + i) :: st) :=
  pj_get C cl_Session hin_Session (k := 7) (Nat.le_of_ble_eq_true rfl) wm_310 (Or.inl rfl) (pj_lt t (by decide)) (fun E => ko_7 t) rfl hdg hp kk
theorem ck_Server_159_Packet {g : pj_G} {b : Nat} {cc : ByteArray} {nL : Nat} {ret : Option FieldType} {rm : Room} {u : pj_M} {pc pc' : Nat} {vs : List (Option Value)} {st : List Value} (C : pj_X g cc nL R_Sv ret rm) {i0 : Nat} {K : Int32 → pj_M → Prop} (t0 : pj_T i0 = 4) (h : pw_Pa_type u i0 K) (hdg : decode cc pc = .ok (.invokevirtual 159, 3)) (hp : pc + 3 = pc') (hR : rm_Pa_type.frames + 1 ≤ rm.frames ∧ 8 + (1 + 11) + rm_Pa_type.locals ≤ rm.locals) (h8 : (st.map fun v => v.category).sum ≤ 8) (kk : ∀ r u', K r u' → pj_J g (pj_N g b u') pc' vs (.int r :: st)) : pj_J g (pj_N g b u) pc vs (.ref (b + i0) :: st) :=
  pj_callV C (As := []) (fun l D E => pc_Pa_type l D E t0 h) rfl rfl cl_Packet (pj_lt t0 (by decide)) (fun E => ko_4 t0) wm_920 wm_729 wm_730 wm_96 wm_731 (by decide +kernel) (n := 0) rfl hR rfl h8 hdg hp (fun v u' hq => by obtain ⟨r, rfl, hk⟩ := hq; exact kk r u' hk)
theorem ck_Server_259_Server {g : pj_G} {b : Nat} {cc : ByteArray} {nL : Nat} {ret : Option FieldType} {rm : Room} {u : pj_M} {pc pc' : Nat} {vs : List (Option Value)} {st : List Value} (C : pj_X g cc nL R_Sv ret rm) {i0 : Nat} {i1 : Nat} {i2 : Nat} {K : Int32 → pj_M → Prop} (t0 : pj_T i0 = 8) (t1 : pj_T i1 = 7) (t2 : pj_T i2 = 4) (h : pw_Sv_takeLastProof u i0 i1 i2 K) (hdg : decode cc pc = .ok (.invokevirtual 259, 3)) (hp : pc + 3 = pc') (hR : rm_Sv_takeLastProof.frames + 1 ≤ rm.frames ∧ 8 + (4 + 11) + rm_Sv_takeLastProof.locals ≤ rm.locals) (h8 : (st.map fun v => v.category).sum ≤ 8) (kk : ∀ r u', K r u' → pj_J g (pj_N g b u') pc' vs (.int r :: st)) : pj_J g (pj_N g b u) pc vs (.ref (b + i2) :: .ref (b + i1) :: .ref (b + i0) :: st) :=
  pj_callV C (As := [.ref (b + i1), .ref (b + i2)]) (fun l D E => pc_Sv_takeLastProof l D E t0 t1 t2 h) rfl rfl cl_Server (pj_lt t0 (by decide)) (fun E => ko_8 t0) wm_972 wm_974 wm_29 wm_97 wm_975 (by decide +kernel) (n := 2) rfl hR rfl h8 hdg hp (fun v u' hq => by obtain ⟨r, rfl, hk⟩ := hq; exact kk r u' hk)
theorem ck_Server_262_Server {g : pj_G} {b : Nat} {cc : ByteArray} {nL : Nat} {ret : Option FieldType} {rm : Room} {u : pj_M} {pc pc' : Nat} {vs : List (Option Value)} {st : List Value} (C : pj_X g cc nL R_Sv ret rm) {i0 : Nat} {i1 : Nat} {i2 : Nat} {K : Int32 → pj_M → Prop} (t0 : pj_T i0 = 8) (t1 : pj_T i1 = 7) (t2 : pj_T i2 = 4) (h : pw_Sv_takeFirstProof u i0 i1 i2 K) (hdg : decode cc pc = .ok (.invokevirtual 262, 3)) (hp : pc + 3 = pc') (hR : rm_Sv_takeFirstProof.frames + 1 ≤ rm.frames ∧ 8 + (5 + 11) + rm_Sv_takeFirstProof.locals ≤ rm.locals) (h8 : (st.map fun v => v.category).sum ≤ 8) (kk : ∀ r u', K r u' → pj_J g (pj_N g b u') pc' vs (.int r :: st)) : pj_J g (pj_N g b u) pc vs (.ref (b + i2) :: .ref (b + i1) :: .ref (b + i0) :: st) :=
  pj_callV C (As := [.ref (b + i1), .ref (b + i2)]) (fun l D E => pc_Sv_takeFirstProof l D E t0 t1 t2 h) rfl rfl cl_Server (pj_lt t0 (by decide)) (fun E => ko_8 t0) wm_977 wm_979 wm_30 wm_97 wm_980 (by decide +kernel) (n := 2) rfl hR rfl h8 hdg hp (fun v u' hq => by obtain ⟨r, rfl, hk⟩ := hq; exact kk r u' hk)
theorem ck_Server_256_Server {g : pj_G} {b : Nat} {cc : ByteArray} {nL : Nat} {ret : Option FieldType} {rm : Room} {u : pj_M} {pc pc' : Nat} {vs : List (Option Value)} {st : List Value} (C : pj_X g cc nL R_Sv ret rm) {i0 : Nat} {i1 : Nat} {i2 : Nat} {K : Int32 → pj_M → Prop} (t0 : pj_T i0 = 8) (t1 : pj_T i1 = 7) (t2 : pj_T i2 = 4) (h : pw_Sv_takeChallengeResponse u i0 i1 i2 K) (hdg : decode cc pc = .ok (.invokevirtual 256, 3)) (hp : pc + 3 = pc') (hR : rm_Sv_takeChallengeResponse.frames + 1 ≤ rm.frames ∧ 8 + (4 + 11) + rm_Sv_takeChallengeResponse.locals ≤ rm.locals) (h8 : (st.map fun v => v.category).sum ≤ 8) (kk : ∀ r u', K r u' → pj_J g (pj_N g b u') pc' vs (.int r :: st)) : pj_J g (pj_N g b u) pc vs (.ref (b + i2) :: .ref (b + i1) :: .ref (b + i0) :: st) :=
  pj_callV C (As := [.ref (b + i1), .ref (b + i2)]) (fun l D E => pc_Sv_takeChallengeResponse l D E t0 t1 t2 h) rfl rfl cl_Server (pj_lt t0 (by decide)) (fun E => ko_8 t0) wm_958 wm_960 wm_27 wm_97 wm_961 (by decide +kernel) (n := 2) rfl hR rfl h8 hdg hp (fun v u' hq => by obtain ⟨r, rfl, hk⟩ := hq; exact kk r u' hk)
theorem ck_Server_252_Server {g : pj_G} {b : Nat} {cc : ByteArray} {nL : Nat} {ret : Option FieldType} {rm : Room} {u : pj_M} {pc pc' : Nat} {vs : List (Option Value)} {st : List Value} (C : pj_X g cc nL R_Sv ret rm) {i0 : Nat} {i1 : Nat} {i2 : Nat} {K : Int32 → pj_M → Prop} (t0 : pj_T i0 = 8) (t1 : pj_T i1 = 7) (t2 : pj_T i2 = 4) (h : pw_Sv_methodWanted u i0 i1 i2 K) (hdg : decode cc pc = .ok (.invokevirtual 252, 3)) (hp : pc + 3 = pc') (hR : rm_Sv_methodWanted.frames + 1 ≤ rm.frames ∧ 8 + (4 + 11) + rm_Sv_methodWanted.locals ≤ rm.locals) (h8 : (st.map fun v => v.category).sum ≤ 8) (kk : ∀ r u', K r u' → pj_J g (pj_N g b u') pc' vs (.int r :: st)) : pj_J g (pj_N g b u) pc vs (.ref (b + i2) :: .ref (b + i1) :: .ref (b + i0) :: st) :=
  pj_callV C (As := [.ref (b + i1), .ref (b + i2)]) (fun l D E => pc_Sv_methodWanted l D E t0 t1 t2 h) rfl rfl cl_Server (pj_lt t0 (by decide)) (fun E => ko_8 t0) wm_954 wm_956 wm_26 wm_97 wm_957 (by decide +kernel) (n := 2) rfl hR rfl h8 hdg hp (fun v u' hq => by obtain ⟨r, rfl, hk⟩ := hq; exact kk r u' hk)
def rm_Sv_proceed : Room := { frames := 4, cells := 0, slots := 0, locals := 90 }
def pb_Sv_proceed_66  (K : Int32 → pj_M → Prop) (u : pj_M) (s0 : Int32) : Prop := pj_bi s0 ∧ K s0 u
set_option maxHeartbeats 1000000 in
theorem pt_Sv_proceed_66 {g : pj_G} {b : Nat} (C : pj_X g c_Sv_proceed 4 R_Sv (some .boolean) rm_Sv_proceed) {K : Int32 → pj_M → Prop} (hE : pj_E g b (pj_Ki K))   {u : pj_M} {s0 : Int32}   (h : pb_Sv_proceed_66  K u s0) : pj_J g (pj_N g b u) 66 [none, none, none, none] [.int s0] := by
  unfold pb_Sv_proceed_66 at h
  exact pj_zret C hE d_Sv_proceed_66 h.1 ⟨_, rfl, h.2⟩
def pb_Sv_proceed_65  (K : Int32 → pj_M → Prop) (u : pj_M)  : Prop := pb_Sv_proceed_66  K u 0
set_option maxHeartbeats 1000000 in
theorem pt_Sv_proceed_65 {g : pj_G} {b : Nat} (C : pj_X g c_Sv_proceed 4 R_Sv (some .boolean) rm_Sv_proceed) {K : Int32 → pj_M → Prop} (hE : pj_E g b (pj_Ki K))   {u : pj_M}    (h : pb_Sv_proceed_65  K u ) : pj_J g (pj_N g b u) 65 [none, none, none, none] [] := by
  unfold pb_Sv_proceed_65 at h
  refine pj_iconst C d_Sv_proceed_65 (pc' := 66) rfl (v := 0) (by decide) ?_
  exact pj_cut (pj_le_n (pj_le_n (pj_le_n (pj_le_n pj_le_e)))) (pt_Sv_proceed_66 C hE   h)
def pb_Sv_proceed_61  (K : Int32 → pj_M → Prop) (u : pj_M)  : Prop := pb_Sv_proceed_66  K u 1
set_option maxHeartbeats 1000000 in
theorem pt_Sv_proceed_61 {g : pj_G} {b : Nat} (C : pj_X g c_Sv_proceed 4 R_Sv (some .boolean) rm_Sv_proceed) {K : Int32 → pj_M → Prop} (hE : pj_E g b (pj_Ki K))   {u : pj_M}    (h : pb_Sv_proceed_61  K u ) : pj_J g (pj_N g b u) 61 [none, none, none, none] [] := by
  unfold pb_Sv_proceed_61 at h
  refine pj_iconst C d_Sv_proceed_61 (pc' := 62) rfl (v := 1) (by decide) ?_
  refine pj_goto C d_Sv_proceed_62 (tgt := 66) (by decide) ?_
  exact pj_cut (pj_le_n (pj_le_n (pj_le_n (pj_le_n pj_le_e)))) (pt_Sv_proceed_66 C hE   h)
def pb_Sv_proceed_57  (K : Int32 → pj_M → Prop) (u : pj_M) (x3 : Int32) : Prop := ((x3 = 0) → (pb_Sv_proceed_65  K u )) ∧ (¬ (x3 = 0) → (pb_Sv_proceed_61  K u ))
set_option maxHeartbeats 1000000 in
theorem pt_Sv_proceed_57 {g : pj_G} {b : Nat} (C : pj_X g c_Sv_proceed 4 R_Sv (some .boolean) rm_Sv_proceed) {K : Int32 → pj_M → Prop} (hE : pj_E g b (pj_Ki K))   {u : pj_M} {x3 : Int32}   (h : pb_Sv_proceed_57  K u x3) : pj_J g (pj_N g b u) 57 [none, none, none, some (.int x3)] [] := by
  unfold pb_Sv_proceed_57 at h
  refine pj_iload_n C d_Sv_proceed_57 (pc' := 58) (i := 3) (x := x3) rfl rfl rfl ?_
  refine pj_if_eq C d_Sv_proceed_58 (pc' := 61) rfl (tgt := 65) (by decide) h (fun h => ?_) (fun h => ?_)
  · exact pj_cut (pj_le_n (pj_le_n (pj_le_n (pj_le_n pj_le_e)))) (pt_Sv_proceed_65 C hE   h)
  · exact pj_cut (pj_le_n (pj_le_n (pj_le_n (pj_le_n pj_le_e)))) (pt_Sv_proceed_61 C hE   h)
def pb_Sv_proceed_51  (K : Int32 → pj_M → Prop) (u : pj_M) (i0 : Nat) (i1 : Nat) (x3 : Int32) : Prop := pw_Sv_beginMethod u i0 i1 x3 fun u1 => (pb_Sv_proceed_57  K u1 x3)
set_option maxHeartbeats 1000000 in
theorem pt_Sv_proceed_51 {g : pj_G} {b : Nat} (C : pj_X g c_Sv_proceed 4 R_Sv (some .boolean) rm_Sv_proceed) {K : Int32 → pj_M → Prop} (hE : pj_E g b (pj_Ki K))   {u : pj_M} {i0 : Nat} {i1 : Nat} {x3 : Int32}  (t0 : pj_T i0 = 8) (t1 : pj_T i1 = 7) (h : pb_Sv_proceed_51  K u i0 i1 x3) : pj_J g (pj_N g b u) 51 [some (.ref (b + i0)), some (.ref (b + i1)), none, some (.int x3)] [] := by
  unfold pb_Sv_proceed_51 at h
  refine pj_aload_n C d_Sv_proceed_51 (pc' := 52) (i := 0) (x := b + i0) rfl rfl rfl ?_
  refine pj_aload_n C d_Sv_proceed_52 (pc' := 53) (i := 1) (x := b + i1) rfl rfl rfl ?_
  refine pj_iload_n C d_Sv_proceed_53 (pc' := 54) (i := 3) (x := x3) rfl rfl rfl ?_
  refine ck_Server_211_Server C t0 t1 h d_Sv_proceed_54 (pc' := 57) rfl ⟨Nat.le_of_ble_eq_true rfl, Nat.le_of_ble_eq_true rfl⟩ (Nat.le_of_ble_eq_true rfl) (fun u1 h => ?_)
  exact pj_cut (pj_le_n (pj_le_n (pj_le_n (pj_le_s pj_le_e)))) (pt_Sv_proceed_57 C hE   h)
def pb_Sv_proceed_40  (K : Int32 → pj_M → Prop) (u : pj_M) (i0 : Nat) (i1 : Nat) (i2 : Nat) : Prop := pw_Sv_methodWanted u i0 i1 i2 fun r2 u1 => (((r2 = 0) → (pb_Sv_proceed_57  K u1 r2)) ∧ (¬ (r2 = 0) → (pb_Sv_proceed_51  K u1 i0 i1 r2)))
set_option maxHeartbeats 1000000 in
theorem pt_Sv_proceed_40 {g : pj_G} {b : Nat} (C : pj_X g c_Sv_proceed 4 R_Sv (some .boolean) rm_Sv_proceed) {K : Int32 → pj_M → Prop} (hE : pj_E g b (pj_Ki K))   {u : pj_M} {i0 : Nat} {i1 : Nat} {i2 : Nat}  (t0 : pj_T i0 = 8) (t1 : pj_T i1 = 7) (t2 : pj_T i2 = 4) (h : pb_Sv_proceed_40  K u i0 i1 i2) : pj_J g (pj_N g b u) 40 [some (.ref (b + i0)), some (.ref (b + i1)), some (.ref (b + i2)), none] [] := by
  unfold pb_Sv_proceed_40 at h
  refine pj_aload_n C d_Sv_proceed_40 (pc' := 41) (i := 0) (x := b + i0) rfl rfl rfl ?_
  refine pj_aload_n C d_Sv_proceed_41 (pc' := 42) (i := 1) (x := b + i1) rfl rfl rfl ?_
  refine pj_aload_n C d_Sv_proceed_42 (pc' := 43) (i := 2) (x := b + i2) rfl rfl rfl ?_
  refine ck_Server_252_Server C t0 t1 t2 h d_Sv_proceed_43 (pc' := 46) rfl ⟨Nat.le_of_ble_eq_true rfl, Nat.le_of_ble_eq_true rfl⟩ (Nat.le_of_ble_eq_true rfl) (fun r2 u1 h => ?_)
  refine pj_istore_n C d_Sv_proceed_46 (pc' := 47) (i := 3) (vs' := [some (.ref (b + i0)), some (.ref (b + i1)), some (.ref (b + i2)), some (.int r2)]) rfl rfl (Nat.le_of_ble_eq_true rfl) (Nat.le_of_ble_eq_true rfl) rfl rfl ?_
  refine pj_iload_n C d_Sv_proceed_47 (pc' := 48) (i := 3) (x := r2) rfl rfl rfl ?_
  refine pj_if_eq C d_Sv_proceed_48 (pc' := 51) rfl (tgt := 57) (by decide) h (fun h => ?_) (fun h => ?_)
  · exact pj_cut (pj_le_n (pj_le_n (pj_le_n (pj_le_s pj_le_e)))) (pt_Sv_proceed_57 C hE   h)
  · exact pj_cut (pj_le_s (pj_le_s (pj_le_n (pj_le_s pj_le_e)))) (pt_Sv_proceed_51 C hE  t0 t1 h)
def pb_Sv_proceed_89  (K : Int32 → pj_M → Prop) (u : pj_M) (s0 : Int32) : Prop := pj_bi s0 ∧ K s0 u
set_option maxHeartbeats 1000000 in
theorem pt_Sv_proceed_89 {g : pj_G} {b : Nat} (C : pj_X g c_Sv_proceed 4 R_Sv (some .boolean) rm_Sv_proceed) {K : Int32 → pj_M → Prop} (hE : pj_E g b (pj_Ki K))   {u : pj_M} {s0 : Int32}   (h : pb_Sv_proceed_89  K u s0) : pj_J g (pj_N g b u) 89 [none, none, none, none] [.int s0] := by
  unfold pb_Sv_proceed_89 at h
  exact pj_zret C hE d_Sv_proceed_89 h.1 ⟨_, rfl, h.2⟩
def pb_Sv_proceed_88  (K : Int32 → pj_M → Prop) (u : pj_M)  : Prop := pb_Sv_proceed_89  K u 0
set_option maxHeartbeats 1000000 in
theorem pt_Sv_proceed_88 {g : pj_G} {b : Nat} (C : pj_X g c_Sv_proceed 4 R_Sv (some .boolean) rm_Sv_proceed) {K : Int32 → pj_M → Prop} (hE : pj_E g b (pj_Ki K))   {u : pj_M}    (h : pb_Sv_proceed_88  K u ) : pj_J g (pj_N g b u) 88 [none, none, none, none] [] := by
  unfold pb_Sv_proceed_88 at h
  refine pj_iconst C d_Sv_proceed_88 (pc' := 89) rfl (v := 0) (by decide) ?_
  exact pj_cut (pj_le_n (pj_le_n (pj_le_n (pj_le_n pj_le_e)))) (pt_Sv_proceed_89 C hE   h)
def pb_Sv_proceed_84  (K : Int32 → pj_M → Prop) (u : pj_M)  : Prop := pb_Sv_proceed_89  K u 1
set_option maxHeartbeats 1000000 in
theorem pt_Sv_proceed_84 {g : pj_G} {b : Nat} (C : pj_X g c_Sv_proceed 4 R_Sv (some .boolean) rm_Sv_proceed) {K : Int32 → pj_M → Prop} (hE : pj_E g b (pj_Ki K))   {u : pj_M}    (h : pb_Sv_proceed_84  K u ) : pj_J g (pj_N g b u) 84 [none, none, none, none] [] := by
  unfold pb_Sv_proceed_84 at h
  refine pj_iconst C d_Sv_proceed_84 (pc' := 85) rfl (v := 1) (by decide) ?_
  refine pj_goto C d_Sv_proceed_85 (tgt := 89) (by decide) ?_
  exact pj_cut (pj_le_n (pj_le_n (pj_le_n (pj_le_n pj_le_e)))) (pt_Sv_proceed_89 C hE   h)
def pb_Sv_proceed_75  (K : Int32 → pj_M → Prop) (u : pj_M) (i0 : Nat) (i1 : Nat) (i2 : Nat) : Prop := pw_Sv_takeChallengeResponse u i0 i1 i2 fun r2 u1 => (((r2 = 0) → (pb_Sv_proceed_88  K u1 )) ∧ (¬ (r2 = 0) → (pb_Sv_proceed_84  K u1 )))
set_option maxHeartbeats 1000000 in
theorem pt_Sv_proceed_75 {g : pj_G} {b : Nat} (C : pj_X g c_Sv_proceed 4 R_Sv (some .boolean) rm_Sv_proceed) {K : Int32 → pj_M → Prop} (hE : pj_E g b (pj_Ki K))   {u : pj_M} {i0 : Nat} {i1 : Nat} {i2 : Nat}  (t0 : pj_T i0 = 8) (t1 : pj_T i1 = 7) (t2 : pj_T i2 = 4) (h : pb_Sv_proceed_75  K u i0 i1 i2) : pj_J g (pj_N g b u) 75 [some (.ref (b + i0)), some (.ref (b + i1)), some (.ref (b + i2)), none] [] := by
  unfold pb_Sv_proceed_75 at h
  refine pj_aload_n C d_Sv_proceed_75 (pc' := 76) (i := 0) (x := b + i0) rfl rfl rfl ?_
  refine pj_aload_n C d_Sv_proceed_76 (pc' := 77) (i := 1) (x := b + i1) rfl rfl rfl ?_
  refine pj_aload_n C d_Sv_proceed_77 (pc' := 78) (i := 2) (x := b + i2) rfl rfl rfl ?_
  refine ck_Server_256_Server C t0 t1 t2 h d_Sv_proceed_78 (pc' := 81) rfl ⟨Nat.le_of_ble_eq_true rfl, Nat.le_of_ble_eq_true rfl⟩ (Nat.le_of_ble_eq_true rfl) (fun r2 u1 h => ?_)
  refine pj_if_eq C d_Sv_proceed_81 (pc' := 84) rfl (tgt := 88) (by decide) h (fun h => ?_) (fun h => ?_)
  · exact pj_cut (pj_le_n (pj_le_n (pj_le_n (pj_le_n pj_le_e)))) (pt_Sv_proceed_88 C hE   h)
  · exact pj_cut (pj_le_n (pj_le_n (pj_le_n (pj_le_n pj_le_e)))) (pt_Sv_proceed_84 C hE   h)
def pb_Sv_proceed_67  (K : Int32 → pj_M → Prop) (u : pj_M) (i0 : Nat) (i1 : Nat) (i2 : Nat) : Prop := (((u i1 2) = 1) → (pb_Sv_proceed_75  K u i0 i1 i2)) ∧ (¬ ((u i1 2) = 1) → (pb_Sv_proceed_88  K u ))
set_option maxHeartbeats 1000000 in
theorem pt_Sv_proceed_67 {g : pj_G} {b : Nat} (C : pj_X g c_Sv_proceed 4 R_Sv (some .boolean) rm_Sv_proceed) {K : Int32 → pj_M → Prop} (hE : pj_E g b (pj_Ki K))   {u : pj_M} {i0 : Nat} {i1 : Nat} {i2 : Nat}  (t0 : pj_T i0 = 8) (t1 : pj_T i1 = 7) (t2 : pj_T i2 = 4) (h : pb_Sv_proceed_67  K u i0 i1 i2) : pj_J g (pj_N g b u) 67 [some (.ref (b + i0)), some (.ref (b + i1)), some (.ref (b + i2)), none] [] := by
  unfold pb_Sv_proceed_67 at h
  refine pj_aload_n C d_Sv_proceed_67 (pc' := 68) (i := 1) (x := b + i1) rfl rfl rfl ?_
  refine fg_Server_215_Session C t1 d_Sv_proceed_68 (pc' := 71) rfl ?_
  refine pj_iconst C d_Sv_proceed_71 (pc' := 72) rfl (v := 1) (by decide) ?_
  refine pj_icmp_ne C d_Sv_proceed_72 (pc' := 75) rfl (tgt := 88) (by decide) h (fun h => ?_) (fun h => ?_)
  · exact pj_cut (pj_le_n (pj_le_n (pj_le_n (pj_le_n pj_le_e)))) (pt_Sv_proceed_88 C hE   h)
  · exact pj_cut (pj_le_s (pj_le_s (pj_le_s (pj_le_n pj_le_e)))) (pt_Sv_proceed_75 C hE  t0 t1 t2 h)
def pb_Sv_proceed_122  (K : Int32 → pj_M → Prop) (u : pj_M) (s0 : Int32) : Prop := pj_bi s0 ∧ K s0 u
set_option maxHeartbeats 1000000 in
theorem pt_Sv_proceed_122 {g : pj_G} {b : Nat} (C : pj_X g c_Sv_proceed 4 R_Sv (some .boolean) rm_Sv_proceed) {K : Int32 → pj_M → Prop} (hE : pj_E g b (pj_Ki K))   {u : pj_M} {s0 : Int32}   (h : pb_Sv_proceed_122  K u s0) : pj_J g (pj_N g b u) 122 [none, none, none, none] [.int s0] := by
  unfold pb_Sv_proceed_122 at h
  exact pj_zret C hE d_Sv_proceed_122 h.1 ⟨_, rfl, h.2⟩
def pb_Sv_proceed_116  (K : Int32 → pj_M → Prop) (u : pj_M) (i0 : Nat) (i1 : Nat) (i2 : Nat) : Prop := pw_Sv_takeFirstProof u i0 i1 i2 fun r2 u1 => (pb_Sv_proceed_122  K u1 r2)
set_option maxHeartbeats 1000000 in
theorem pt_Sv_proceed_116 {g : pj_G} {b : Nat} (C : pj_X g c_Sv_proceed 4 R_Sv (some .boolean) rm_Sv_proceed) {K : Int32 → pj_M → Prop} (hE : pj_E g b (pj_Ki K))   {u : pj_M} {i0 : Nat} {i1 : Nat} {i2 : Nat}  (t0 : pj_T i0 = 8) (t1 : pj_T i1 = 7) (t2 : pj_T i2 = 4) (h : pb_Sv_proceed_116  K u i0 i1 i2) : pj_J g (pj_N g b u) 116 [some (.ref (b + i0)), some (.ref (b + i1)), some (.ref (b + i2)), none] [] := by
  unfold pb_Sv_proceed_116 at h
  refine pj_aload_n C d_Sv_proceed_116 (pc' := 117) (i := 0) (x := b + i0) rfl rfl rfl ?_
  refine pj_aload_n C d_Sv_proceed_117 (pc' := 118) (i := 1) (x := b + i1) rfl rfl rfl ?_
  refine pj_aload_n C d_Sv_proceed_118 (pc' := 119) (i := 2) (x := b + i2) rfl rfl rfl ?_
  refine ck_Server_262_Server C t0 t1 t2 h d_Sv_proceed_119 (pc' := 122) rfl ⟨Nat.le_of_ble_eq_true rfl, Nat.le_of_ble_eq_true rfl⟩ (Nat.le_of_ble_eq_true rfl) (fun r2 u1 h => ?_)
  exact pj_cut (pj_le_n (pj_le_n (pj_le_n (pj_le_n pj_le_e)))) (pt_Sv_proceed_122 C hE   h)
def pb_Sv_proceed_107  (K : Int32 → pj_M → Prop) (u : pj_M) (i0 : Nat) (i1 : Nat) (i2 : Nat) : Prop := pw_Sv_takeLastProof u i0 i1 i2 fun r2 u1 => (pb_Sv_proceed_122  K u1 r2)
set_option maxHeartbeats 1000000 in
theorem pt_Sv_proceed_107 {g : pj_G} {b : Nat} (C : pj_X g c_Sv_proceed 4 R_Sv (some .boolean) rm_Sv_proceed) {K : Int32 → pj_M → Prop} (hE : pj_E g b (pj_Ki K))   {u : pj_M} {i0 : Nat} {i1 : Nat} {i2 : Nat}  (t0 : pj_T i0 = 8) (t1 : pj_T i1 = 7) (t2 : pj_T i2 = 4) (h : pb_Sv_proceed_107  K u i0 i1 i2) : pj_J g (pj_N g b u) 107 [some (.ref (b + i0)), some (.ref (b + i1)), some (.ref (b + i2)), none] [] := by
  unfold pb_Sv_proceed_107 at h
  refine pj_aload_n C d_Sv_proceed_107 (pc' := 108) (i := 0) (x := b + i0) rfl rfl rfl ?_
  refine pj_aload_n C d_Sv_proceed_108 (pc' := 109) (i := 1) (x := b + i1) rfl rfl rfl ?_
  refine pj_aload_n C d_Sv_proceed_109 (pc' := 110) (i := 2) (x := b + i2) rfl rfl rfl ?_
  refine ck_Server_259_Server C t0 t1 t2 h d_Sv_proceed_110 (pc' := 113) rfl ⟨Nat.le_of_ble_eq_true rfl, Nat.le_of_ble_eq_true rfl⟩ (Nat.le_of_ble_eq_true rfl) (fun r2 u1 h => ?_)
  refine pj_goto C d_Sv_proceed_113 (tgt := 122) (by decide) ?_
  exact pj_cut (pj_le_n (pj_le_n (pj_le_n (pj_le_n pj_le_e)))) (pt_Sv_proceed_122 C hE   h)
def pb_Sv_proceed_100  (K : Int32 → pj_M → Prop) (u : pj_M) (i0 : Nat) (i1 : Nat) (i2 : Nat) : Prop := (((u i1 7) = 0) → (pb_Sv_proceed_116  K u i0 i1 i2)) ∧ (¬ ((u i1 7) = 0) → (pb_Sv_proceed_107  K u i0 i1 i2))
set_option maxHeartbeats 1000000 in
theorem pt_Sv_proceed_100 {g : pj_G} {b : Nat} (C : pj_X g c_Sv_proceed 4 R_Sv (some .boolean) rm_Sv_proceed) {K : Int32 → pj_M → Prop} (hE : pj_E g b (pj_Ki K))   {u : pj_M} {i0 : Nat} {i1 : Nat} {i2 : Nat}  (t0 : pj_T i0 = 8) (t1 : pj_T i1 = 7) (t2 : pj_T i2 = 4) (h : pb_Sv_proceed_100  K u i0 i1 i2) : pj_J g (pj_N g b u) 100 [some (.ref (b + i0)), some (.ref (b + i1)), some (.ref (b + i2)), none] [] := by
  unfold pb_Sv_proceed_100 at h
  refine pj_aload_n C d_Sv_proceed_100 (pc' := 101) (i := 1) (x := b + i1) rfl rfl rfl ?_
  refine fg_Server_205_Session C t1 d_Sv_proceed_101 (pc' := 104) rfl ?_
  refine pj_if_eq C d_Sv_proceed_104 (pc' := 107) rfl (tgt := 116) (by decide) h (fun h => ?_) (fun h => ?_)
  · exact pj_cut (pj_le_s (pj_le_s (pj_le_s (pj_le_n pj_le_e)))) (pt_Sv_proceed_116 C hE  t0 t1 t2 h)
  · exact pj_cut (pj_le_s (pj_le_s (pj_le_s (pj_le_n pj_le_e)))) (pt_Sv_proceed_107 C hE  t0 t1 t2 h)
def pb_Sv_proceed_98  (K : Int32 → pj_M → Prop) (u : pj_M)  : Prop := K 0 u
set_option maxHeartbeats 1000000 in
theorem pt_Sv_proceed_98 {g : pj_G} {b : Nat} (C : pj_X g c_Sv_proceed 4 R_Sv (some .boolean) rm_Sv_proceed) {K : Int32 → pj_M → Prop} (hE : pj_E g b (pj_Ki K))   {u : pj_M}    (h : pb_Sv_proceed_98  K u ) : pj_J g (pj_N g b u) 98 [none, none, none, none] [] := by
  unfold pb_Sv_proceed_98 at h
  refine pj_iconst C d_Sv_proceed_98 (pc' := 99) rfl (v := 0) (by decide) ?_
  exact pj_zret C hE d_Sv_proceed_99 pj_bi0 ⟨_, rfl, h⟩
def pb_Sv_proceed_90  (K : Int32 → pj_M → Prop) (u : pj_M) (i0 : Nat) (i1 : Nat) (i2 : Nat) : Prop := (((u i1 2) = 2) → (pb_Sv_proceed_100  K u i0 i1 i2)) ∧ (¬ ((u i1 2) = 2) → (pb_Sv_proceed_98  K u ))
set_option maxHeartbeats 1000000 in
theorem pt_Sv_proceed_90 {g : pj_G} {b : Nat} (C : pj_X g c_Sv_proceed 4 R_Sv (some .boolean) rm_Sv_proceed) {K : Int32 → pj_M → Prop} (hE : pj_E g b (pj_Ki K))   {u : pj_M} {i0 : Nat} {i1 : Nat} {i2 : Nat}  (t0 : pj_T i0 = 8) (t1 : pj_T i1 = 7) (t2 : pj_T i2 = 4) (h : pb_Sv_proceed_90  K u i0 i1 i2) : pj_J g (pj_N g b u) 90 [some (.ref (b + i0)), some (.ref (b + i1)), some (.ref (b + i2)), none] [] := by
  unfold pb_Sv_proceed_90 at h
  refine pj_aload_n C d_Sv_proceed_90 (pc' := 91) (i := 1) (x := b + i1) rfl rfl rfl ?_
  refine fg_Server_215_Session C t1 d_Sv_proceed_91 (pc' := 94) rfl ?_
  refine pj_iconst C d_Sv_proceed_94 (pc' := 95) rfl (v := 2) (by decide) ?_
  refine pj_icmp_eq C d_Sv_proceed_95 (pc' := 98) rfl (tgt := 100) (by decide) h (fun h => ?_) (fun h => ?_)
  · exact pj_cut (pj_le_s (pj_le_s (pj_le_s (pj_le_n pj_le_e)))) (pt_Sv_proceed_100 C hE  t0 t1 t2 h)
  · exact pj_cut (pj_le_n (pj_le_n (pj_le_n (pj_le_n pj_le_e)))) (pt_Sv_proceed_98 C hE   h)
def pb_Sv_proceed_123  (K : Int32 → pj_M → Prop) (u : pj_M)  : Prop := K 0 u
set_option maxHeartbeats 1000000 in
theorem pt_Sv_proceed_123 {g : pj_G} {b : Nat} (C : pj_X g c_Sv_proceed 4 R_Sv (some .boolean) rm_Sv_proceed) {K : Int32 → pj_M → Prop} (hE : pj_E g b (pj_Ki K))   {u : pj_M}    (h : pb_Sv_proceed_123  K u ) : pj_J g (pj_N g b u) 123 [none, none, none, none] [] := by
  unfold pb_Sv_proceed_123 at h
  refine pj_iconst C d_Sv_proceed_123 (pc' := 124) rfl (v := 0) (by decide) ?_
  exact pj_zret C hE d_Sv_proceed_124 pj_bi0 ⟨_, rfl, h⟩
def pb_Sv_proceed_0  (K : Int32 → pj_M → Prop) (u : pj_M) (i0 : Nat) (i1 : Nat) (i2 : Nat) : Prop := pw_Pa_type u i2 fun r2 u1 => (((r2 = 3) → (pb_Sv_proceed_40  K u1 i0 i1 i2)) ∧ (¬ (r2 = 3) → ((r2 = 4) → (pb_Sv_proceed_67  K u1 i0 i1 i2)) ∧ (¬ (r2 = 4) → ((r2 = 51) → (pb_Sv_proceed_90  K u1 i0 i1 i2)) ∧ (¬ (r2 = 51) → (pb_Sv_proceed_123  K u1 )))))
set_option maxHeartbeats 1000000 in
theorem pt_Sv_proceed_0 {g : pj_G} {b : Nat} (C : pj_X g c_Sv_proceed 4 R_Sv (some .boolean) rm_Sv_proceed) {K : Int32 → pj_M → Prop} (hE : pj_E g b (pj_Ki K))   {u : pj_M} {i0 : Nat} {i1 : Nat} {i2 : Nat}  (t0 : pj_T i0 = 8) (t1 : pj_T i1 = 7) (t2 : pj_T i2 = 4) (h : pb_Sv_proceed_0  K u i0 i1 i2) : pj_J g (pj_N g b u) 0 [some (.ref (b + i0)), some (.ref (b + i1)), some (.ref (b + i2)), none] [] := by
  unfold pb_Sv_proceed_0 at h
  refine pj_aload_n C d_Sv_proceed_0 (pc' := 1) (i := 2) (x := b + i2) rfl rfl rfl ?_
  refine ck_Server_159_Packet C t2 h d_Sv_proceed_1 (pc' := 4) rfl ⟨Nat.le_of_ble_eq_true rfl, Nat.le_of_ble_eq_true rfl⟩ (Nat.le_of_ble_eq_true rfl) (fun r2 u1 h => ?_)
  by_cases e0 : r2 = 3
  · have h := h.1 e0
    refine pj_lk C d_Sv_proceed_4 (by decide) (tgt := 40) (off := 36) (by rw [e0]; decide) (by decide) ?_
    exact pj_cut (pj_le_s (pj_le_s (pj_le_s (pj_le_n pj_le_e)))) (pt_Sv_proceed_40 C hE  t0 t1 t2 h)
  have h := h.2 e0
  by_cases e1 : r2 = 4
  · have h := h.1 e1
    refine pj_lk C d_Sv_proceed_4 (by decide) (tgt := 67) (off := 63) (by rw [e1]; decide) (by decide) ?_
    exact pj_cut (pj_le_s (pj_le_s (pj_le_s (pj_le_n pj_le_e)))) (pt_Sv_proceed_67 C hE  t0 t1 t2 h)
  have h := h.2 e1
  by_cases e2 : r2 = 51
  · have h := h.1 e2
    refine pj_lk C d_Sv_proceed_4 (by decide) (tgt := 90) (off := 86) (by rw [e2]; decide) (by decide) ?_
    exact pj_cut (pj_le_s (pj_le_s (pj_le_s (pj_le_n pj_le_e)))) (pt_Sv_proceed_90 C hE  t0 t1 t2 h)
  have h := h.2 e2
  have z0 := lv_neT (a := 3) e0 (by decide)
  have z1 := lv_neT (a := 4) e1 (by decide)
  have z2 := lv_neT (a := 51) e2 (by decide)
  refine pj_lk C d_Sv_proceed_4 (by decide) (tgt := 123) (off := 119) (by rw [lv_osw e0 (by decide), lv_osw e1 (by decide), lv_osw e2 (by decide)]; rfl) (by decide) ?_
  exact pj_cut (pj_le_n (pj_le_n (pj_le_n (pj_le_n pj_le_e)))) (pt_Sv_proceed_123 C hE   h)
def pw_Sv_proceed (u : pj_M) (i0 : Nat) (i1 : Nat) (i2 : Nat) (K : Int32 → pj_M → Prop) : Prop := pb_Sv_proceed_0  K u i0 i1 i2
theorem pc_Sv_proceed (l : Launch) (D : va_G) (E : Nat → ClassId) {b : Nat} {u : pj_M} {i0 : Nat} {i1 : Nat} {i2 : Nat} {K : Int32 → pj_M → Prop} (t0 : pj_T i0 = 8) (t1 : pj_T i1 = 7) (t2 : pj_T i2 = 4) (h : pw_Sv_proceed u i0 i1 i2 K) : pj_C l y_Sv_proceed c_Sv_proceed 4 (some .boolean) rm_Sv_proceed D E b [.ref (b + i0), .ref (b + i1), .ref (b + i2)] u (pj_Ki K) := by
  refine pj_met (own := R_Sv) (by decide +kernel) rfl (Nat.le_of_ble_eq_true rfl) (fun g hE C => ?_)
  unfold pw_Sv_proceed at h
  show pj_J g (pj_N g b u) 0 [some (.ref (b + i0)), some (.ref (b + i1)), some (.ref (b + i2)), none] []
  exact pj_cut (pj_le_s (pj_le_s (pj_le_s (pj_le_n pj_le_e)))) (pt_Sv_proceed_0 C hE  t0 t1 t2 h)
/-! Server.decide(LPortGuard$Packet;)V -/
theorem fg_Server_151_Datagram {g : pj_G} {b : Nat} {cc : ByteArray} {nL : Nat} {ret : Option FieldType} {rm : Room} {u : pj_M} {pc pc' : Nat} {vs : List (Option Value)} {st : List Value} (C : pj_X g cc nL R_Sv ret rm) {i : Nat} (t : pj_T i = 5) (hdg : decode cc pc = .ok (.getfield 151, 3)) (hp : pc + 3 = pc') (kk : pj_J g (pj_N g b u) pc' vs (.int (u i 3) :: st)) : pj_J g (pj_N g b u) pc vs (.ref (b + i) :: st) :=
  pj_get C cl_Datagram hin_Datagram (k := 3) (Nat.le_of_ble_eq_true rfl) wm_275 (Or.inl rfl) (pj_lt t (by decide)) (fun E => ko_5 t) rfl hdg hp kk
theorem ck_Server_154_Server {g : pj_G} {b : Nat} {cc : ByteArray} {nL : Nat} {ret : Option FieldType} {rm : Room} {u : pj_M} {pc pc' : Nat} {vs : List (Option Value)} {st : List Value} (C : pj_X g cc nL R_Sv ret rm) {i0 : Nat} {x1 : Int32} {K : Option Nat → pj_M → Prop} (t0 : pj_T i0 = 8) (h : pw_Sv_sessionNumbered u i0 x1 K) (hdg : decode cc pc = .ok (.invokevirtual 154, 3)) (hp : pc + 3 = pc') (hR : rm_Sv_sessionNumbered.frames + 1 ≤ rm.frames ∧ 8 + (3 + 11) + rm_Sv_sessionNumbered.locals ≤ rm.locals) (h8 : (st.map fun v => v.category).sum ≤ 8) (kk : ∀ o u', K o u' → pj_J g (pj_N g b u') pc' vs (va_rf (o.map (b + ·)) :: st)) : pj_J g (pj_N g b u) pc vs (.int x1 :: .ref (b + i0) :: st) :=
  pj_callV C (As := [.int x1]) (fun l D E => pc_Sv_sessionNumbered l D E t0 h) rfl rfl cl_Server (pj_lt t0 (by decide)) (fun E => ko_8 t0) wm_915 wm_917 wm_20 wm_97 wm_918 (by decide +kernel) (n := 1) rfl hR rfl h8 hdg hp (fun v u' hq => by obtain ⟨r, rfl, hk⟩ := hq; exact kk r u' hk)
theorem ck_Server_158_Packet {g : pj_G} {b : Nat} {cc : ByteArray} {nL : Nat} {ret : Option FieldType} {rm : Room} {u : pj_M} {pc pc' : Nat} {vs : List (Option Value)} {st : List Value} (C : pj_X g cc nL R_Sv ret rm) {i0 : Nat} {K : Int32 → pj_M → Prop} (t0 : pj_T i0 = 4) (h : pw_Pa_code u i0 K) (hdg : decode cc pc = .ok (.invokevirtual 158, 3)) (hp : pc + 3 = pc') (hR : rm_Pa_code.frames + 1 ≤ rm.frames ∧ 8 + (1 + 11) + rm_Pa_code.locals ≤ rm.locals) (h8 : (st.map fun v => v.category).sum ≤ 8) (kk : ∀ r u', K r u' → pj_J g (pj_N g b u') pc' vs (.int r :: st)) : pj_J g (pj_N g b u) pc vs (.ref (b + i0) :: st) :=
  pj_callV C (As := []) (fun l D E => pc_Pa_code l D E t0 h) rfl rfl cl_Packet (pj_lt t0 (by decide)) (fun E => ko_4 t0) wm_919 wm_720 wm_721 wm_96 wm_722 (by decide +kernel) (n := 0) rfl hR rfl h8 hdg hp (fun v u' hq => by obtain ⟨r, rfl, hk⟩ := hq; exact kk r u' hk)
theorem ck_Server_162_Server {g : pj_G} {b : Nat} {cc : ByteArray} {nL : Nat} {ret : Option FieldType} {rm : Room} {u : pj_M} {pc pc' : Nat} {vs : List (Option Value)} {st : List Value} (C : pj_X g cc nL R_Sv ret rm) {i0 : Nat} {i1 : Nat} {K : Int32 → pj_M → Prop} (t0 : pj_T i0 = 8) (t1 : pj_T i1 = 4) (h : pw_Sv_openSession u i0 i1 K) (hdg : decode cc pc = .ok (.invokevirtual 162, 3)) (hp : pc + 3 = pc') (hR : rm_Sv_openSession.frames + 1 ≤ rm.frames ∧ 8 + (4 + 11) + rm_Sv_openSession.locals ≤ rm.locals) (h8 : (st.map fun v => v.category).sum ≤ 8) (kk : ∀ r u', K r u' → pj_J g (pj_N g b u') pc' vs (.int r :: st)) : pj_J g (pj_N g b u) pc vs (.ref (b + i1) :: .ref (b + i0) :: st) :=
  pj_callV C (As := [.ref (b + i1)]) (fun l D E => pc_Sv_openSession l D E t0 t1 h) rfl rfl cl_Server (pj_lt t0 (by decide)) (fun E => ko_8 t0) wm_921 wm_923 wm_21 wm_97 wm_924 (by decide +kernel) (n := 1) rfl hR rfl h8 hdg hp (fun v u' hq => by obtain ⟨r, rfl, hk⟩ := hq; exact kk r u' hk)
theorem ck_Server_170_Server {g : pj_G} {b : Nat} {cc : ByteArray} {nL : Nat} {ret : Option FieldType} {rm : Room} {u : pj_M} {pc pc' : Nat} {vs : List (Option Value)} {st : List Value} (C : pj_X g cc nL R_Sv ret rm) {i0 : Nat} {i1 : Nat} {i2 : Nat} {K : Int32 → pj_M → Prop} (t0 : pj_T i0 = 8) (t1 : pj_T i1 = 7) (t2 : pj_T i2 = 4) (h : pw_Sv_proceed u i0 i1 i2 K) (hdg : decode cc pc = .ok (.invokevirtual 170, 3)) (hp : pc + 3 = pc') (hR : rm_Sv_proceed.frames + 1 ≤ rm.frames ∧ 8 + (4 + 11) + rm_Sv_proceed.locals ≤ rm.locals) (h8 : (st.map fun v => v.category).sum ≤ 8) (kk : ∀ r u', K r u' → pj_J g (pj_N g b u') pc' vs (.int r :: st)) : pj_J g (pj_N g b u) pc vs (.ref (b + i2) :: .ref (b + i1) :: .ref (b + i0) :: st) :=
  pj_callV C (As := [.ref (b + i1), .ref (b + i2)]) (fun l D E => pc_Sv_proceed l D E t0 t1 t2 h) rfl rfl cl_Server (pj_lt t0 (by decide)) (fun E => ko_8 t0) wm_950 wm_952 wm_25 wm_97 wm_953 (by decide +kernel) (n := 2) rfl hR rfl h8 hdg hp (fun v u' hq => by obtain ⟨r, rfl, hk⟩ := hq; exact kk r u' hk)
def rm_Sv_decide : Room := { frames := 5, cells := 0, slots := 0, locals := 113 }
def pb_Sv_decide_80  (K : pj_M → Prop) (u : pj_M)  : Prop := K u
set_option maxHeartbeats 1000000 in
theorem pt_Sv_decide_80 {g : pj_G} {b : Nat} (C : pj_X g c_Sv_decide 4 R_Sv none rm_Sv_decide) {K : pj_M → Prop} (hE : pj_E g b (pj_Kv K))   {u : pj_M}    (h : pb_Sv_decide_80  K u ) : pj_J g (pj_N g b u) 80 [none, none, none, none] [] := by
  unfold pb_Sv_decide_80 at h
  exact pj_vret C hE d_Sv_decide_80 ⟨rfl, h⟩
def pb_Sv_decide_73  (K : pj_M → Prop) (u : pj_M) (i0 : Nat) (o2 : Option Nat) : Prop := pw_Sv_finish u i0 3 4 o2 fun u1 => (pb_Sv_decide_80  K u1 )
set_option maxHeartbeats 1000000 in
theorem pt_Sv_decide_73 {g : pj_G} {b : Nat} (C : pj_X g c_Sv_decide 4 R_Sv none rm_Sv_decide) {K : pj_M → Prop} (hE : pj_E g b (pj_Kv K))   {u : pj_M} {i0 : Nat} {o2 : Option Nat}  (t0 : pj_T i0 = 8) (h : pb_Sv_decide_73  K u i0 o2) : pj_J g (pj_N g b u) 73 [some (.ref (b + i0)), none, some (va_rf (o2.map (b + ·))), none] [] := by
  unfold pb_Sv_decide_73 at h
  refine pj_aload_n C d_Sv_decide_73 (pc' := 74) (i := 0) (x := b + i0) rfl rfl rfl ?_
  refine pj_iconst C d_Sv_decide_74 (pc' := 75) rfl (v := 3) (by decide) ?_
  refine pj_iconst C d_Sv_decide_75 (pc' := 76) rfl (v := 4) (by decide) ?_
  refine pj_aload_nO C d_Sv_decide_76 (pc' := 77) (i := 2) (o := o2) rfl rfl rfl ?_
  refine ck_Server_174_Server C t0 h d_Sv_decide_77 (pc' := 80) rfl ⟨Nat.le_of_ble_eq_true rfl, Nat.le_of_ble_eq_true rfl⟩ (Nat.le_of_ble_eq_true rfl) (fun u1 h => ?_)
  exact pj_cut (pj_le_n (pj_le_n (pj_le_n (pj_le_n pj_le_e)))) (pt_Sv_decide_80 C hE   h)
def pb_Sv_decide_69  (K : pj_M → Prop) (u : pj_M) (i0 : Nat) (o2 : Option Nat) (x3 : Int32) : Prop := ((x3 = 0) → (pb_Sv_decide_73  K u i0 o2)) ∧ (¬ (x3 = 0) → (pb_Sv_decide_80  K u ))
set_option maxHeartbeats 1000000 in
theorem pt_Sv_decide_69 {g : pj_G} {b : Nat} (C : pj_X g c_Sv_decide 4 R_Sv none rm_Sv_decide) {K : pj_M → Prop} (hE : pj_E g b (pj_Kv K))   {u : pj_M} {i0 : Nat} {o2 : Option Nat} {x3 : Int32}  (t0 : pj_T i0 = 8) (h : pb_Sv_decide_69  K u i0 o2 x3) : pj_J g (pj_N g b u) 69 [some (.ref (b + i0)), none, some (va_rf (o2.map (b + ·))), some (.int x3)] [] := by
  unfold pb_Sv_decide_69 at h
  refine pj_iload_n C d_Sv_decide_69 (pc' := 70) (i := 3) (x := x3) rfl rfl rfl ?_
  refine pj_if_ne C d_Sv_decide_70 (pc' := 73) rfl (tgt := 80) (by decide) h (fun h => ?_) (fun h => ?_)
  · exact pj_cut (pj_le_n (pj_le_n (pj_le_n (pj_le_n pj_le_e)))) (pt_Sv_decide_80 C hE   h)
  · exact pj_cut (pj_le_s (pj_le_n (pj_le_s (pj_le_n pj_le_e)))) (pt_Sv_decide_73 C hE  t0 h)
def pb_Sv_decide_62  (K : pj_M → Prop) (u : pj_M) (i0 : Nat) (i1 : Nat) (i2 : Nat) : Prop := pw_Sv_proceed u i0 i2 i1 fun r2 u1 => (pb_Sv_decide_69  K u1 i0 (some i2) r2)
set_option maxHeartbeats 1000000 in
theorem pt_Sv_decide_62 {g : pj_G} {b : Nat} (C : pj_X g c_Sv_decide 4 R_Sv none rm_Sv_decide) {K : pj_M → Prop} (hE : pj_E g b (pj_Kv K))   {u : pj_M} {i0 : Nat} {i1 : Nat} {i2 : Nat}  (t0 : pj_T i0 = 8) (t1 : pj_T i1 = 4) (t2 : pj_T i2 = 7) (h : pb_Sv_decide_62  K u i0 i1 i2) : pj_J g (pj_N g b u) 62 [some (.ref (b + i0)), some (.ref (b + i1)), some (.ref (b + i2)), none] [] := by
  unfold pb_Sv_decide_62 at h
  refine pj_aload_n C d_Sv_decide_62 (pc' := 63) (i := 0) (x := b + i0) rfl rfl rfl ?_
  refine pj_aload_n C d_Sv_decide_63 (pc' := 64) (i := 2) (x := b + i2) rfl rfl rfl ?_
  refine pj_aload_n C d_Sv_decide_64 (pc' := 65) (i := 1) (x := b + i1) rfl rfl rfl ?_
  refine ck_Server_170_Server C t0 t2 t1 h d_Sv_decide_65 (pc' := 68) rfl ⟨Nat.le_of_ble_eq_true rfl, Nat.le_of_ble_eq_true rfl⟩ (Nat.le_of_ble_eq_true rfl) (fun r2 u1 h => ?_)
  refine pj_istore_n C d_Sv_decide_68 (pc' := 69) (i := 3) (vs' := [some (.ref (b + i0)), some (.ref (b + i1)), some (.ref (b + i2)), some (.int r2)]) rfl rfl (Nat.le_of_ble_eq_true rfl) (Nat.le_of_ble_eq_true rfl) rfl rfl ?_
  exact pj_cut (pj_le_s (pj_le_n (pj_le_s (pj_le_s pj_le_e)))) (pt_Sv_decide_69 C hE  t0 h)
def pb_Sv_decide_51  (K : pj_M → Prop) (u : pj_M) (i0 : Nat) (i1 : Nat) (i2 : Nat) (x3 : Int32) : Prop := pw_Pa_id u i1 fun r2 u1 => (((r2 = (u1 i2 4)) → (pb_Sv_decide_62  K u1 i0 i1 i2)) ∧ (¬ (r2 = (u1 i2 4)) → (pb_Sv_decide_69  K u1 i0 (some i2) x3)))
set_option maxHeartbeats 1000000 in
theorem pt_Sv_decide_51 {g : pj_G} {b : Nat} (C : pj_X g c_Sv_decide 4 R_Sv none rm_Sv_decide) {K : pj_M → Prop} (hE : pj_E g b (pj_Kv K))   {u : pj_M} {i0 : Nat} {i1 : Nat} {i2 : Nat} {x3 : Int32}  (t0 : pj_T i0 = 8) (t1 : pj_T i1 = 4) (t2 : pj_T i2 = 7) (h : pb_Sv_decide_51  K u i0 i1 i2 x3) : pj_J g (pj_N g b u) 51 [some (.ref (b + i0)), some (.ref (b + i1)), some (.ref (b + i2)), some (.int x3)] [] := by
  unfold pb_Sv_decide_51 at h
  refine pj_aload_n C d_Sv_decide_51 (pc' := 52) (i := 1) (x := b + i1) rfl rfl rfl ?_
  refine ck_Server_166_Packet C t1 h d_Sv_decide_52 (pc' := 55) rfl ⟨Nat.le_of_ble_eq_true rfl, Nat.le_of_ble_eq_true rfl⟩ (Nat.le_of_ble_eq_true rfl) (fun r2 u1 h => ?_)
  refine pj_aload_n C d_Sv_decide_55 (pc' := 56) (i := 2) (x := b + i2) rfl rfl rfl ?_
  refine fg_Server_167_Session C t2 d_Sv_decide_56 (pc' := 59) rfl ?_
  refine pj_icmp_ne C d_Sv_decide_59 (pc' := 62) rfl (tgt := 69) (by decide) h (fun h => ?_) (fun h => ?_)
  · exact pj_cut (pj_le_s (pj_le_n (pj_le_s (pj_le_s pj_le_e)))) (pt_Sv_decide_69 C hE  t0 h)
  · exact pj_cut (pj_le_s (pj_le_s (pj_le_s (pj_le_n pj_le_e)))) (pt_Sv_decide_62 C hE  t0 t1 t2 h)
def pb_Sv_decide_47  (K : pj_M → Prop) (u : pj_M) (i0 : Nat) (i1 : Nat) (o2 : Option Nat) (x3 : Int32) : Prop := (o2 = none → (pb_Sv_decide_69  K u i0 none x3)) ∧ (∀ i101, o2 = some i101 → pj_T i101 = 7 ∧ (pb_Sv_decide_51  K u i0 i1 i101 x3))
set_option maxHeartbeats 1000000 in
theorem pt_Sv_decide_47 {g : pj_G} {b : Nat} (C : pj_X g c_Sv_decide 4 R_Sv none rm_Sv_decide) {K : pj_M → Prop} (hE : pj_E g b (pj_Kv K))   {u : pj_M} {i0 : Nat} {i1 : Nat} {o2 : Option Nat} {x3 : Int32}  (t0 : pj_T i0 = 8) (t1 : pj_T i1 = 4) (h : pb_Sv_decide_47  K u i0 i1 o2 x3) : pj_J g (pj_N g b u) 47 [some (.ref (b + i0)), some (.ref (b + i1)), some (va_rf (o2.map (b + ·))), some (.int x3)] [] := by
  unfold pb_Sv_decide_47 at h
  refine pj_aload_nO C d_Sv_decide_47 (pc' := 48) (i := 2) (o := o2) rfl rfl rfl ?_
  rcases o2 with _ | i101
  · have h := h.1 rfl
    refine pj_ifnullN C d_Sv_decide_48 (tgt := 69) (by decide) ?_
    exact pj_cut (pj_le_s (pj_le_n (pj_le_s (pj_le_s pj_le_e)))) (pt_Sv_decide_69 C hE  t0 h)
  · obtain ⟨ti101, h⟩ := h.2 i101 rfl
    refine pj_ifnull C d_Sv_decide_48 (pc' := 51) rfl ?_
    exact pj_cut (pj_le_s (pj_le_s (pj_le_s (pj_le_s pj_le_e)))) (pt_Sv_decide_51 C hE  t0 t1 ti101 h)
def pb_Sv_decide_39  (K : pj_M → Prop) (u : pj_M) (i0 : Nat) (i1 : Nat) (o2 : Option Nat) (x3 : Int32) : Prop := pw_Pa_code u i1 fun r2 u1 => (((r2 = 2) → (pb_Sv_decide_47  K u1 i0 i1 o2 x3)) ∧ (¬ (r2 = 2) → (pb_Sv_decide_69  K u1 i0 o2 x3)))
set_option maxHeartbeats 1000000 in
theorem pt_Sv_decide_39 {g : pj_G} {b : Nat} (C : pj_X g c_Sv_decide 4 R_Sv none rm_Sv_decide) {K : pj_M → Prop} (hE : pj_E g b (pj_Kv K))   {u : pj_M} {i0 : Nat} {i1 : Nat} {o2 : Option Nat} {x3 : Int32}  (t0 : pj_T i0 = 8) (t1 : pj_T i1 = 4) (h : pb_Sv_decide_39  K u i0 i1 o2 x3) : pj_J g (pj_N g b u) 39 [some (.ref (b + i0)), some (.ref (b + i1)), some (va_rf (o2.map (b + ·))), some (.int x3)] [] := by
  unfold pb_Sv_decide_39 at h
  refine pj_aload_n C d_Sv_decide_39 (pc' := 40) (i := 1) (x := b + i1) rfl rfl rfl ?_
  refine ck_Server_158_Packet C t1 h d_Sv_decide_40 (pc' := 43) rfl ⟨Nat.le_of_ble_eq_true rfl, Nat.le_of_ble_eq_true rfl⟩ (Nat.le_of_ble_eq_true rfl) (fun r2 u1 h => ?_)
  refine pj_iconst C d_Sv_decide_43 (pc' := 44) rfl (v := 2) (by decide) ?_
  refine pj_icmp_ne C d_Sv_decide_44 (pc' := 47) rfl (tgt := 69) (by decide) h (fun h => ?_) (fun h => ?_)
  · exact pj_cut (pj_le_s (pj_le_n (pj_le_s (pj_le_s pj_le_e)))) (pt_Sv_decide_69 C hE  t0 h)
  · exact pj_cut (pj_le_s (pj_le_s (pj_le_s (pj_le_s pj_le_e)))) (pt_Sv_decide_47 C hE  t0 t1 h)
def pb_Sv_decide_30  (K : pj_M → Prop) (u : pj_M) (i0 : Nat) (i1 : Nat) (o2 : Option Nat) : Prop := pw_Sv_openSession u i0 i1 fun r2 u1 => (pb_Sv_decide_69  K u1 i0 o2 r2)
set_option maxHeartbeats 1000000 in
theorem pt_Sv_decide_30 {g : pj_G} {b : Nat} (C : pj_X g c_Sv_decide 4 R_Sv none rm_Sv_decide) {K : pj_M → Prop} (hE : pj_E g b (pj_Kv K))   {u : pj_M} {i0 : Nat} {i1 : Nat} {o2 : Option Nat}  (t0 : pj_T i0 = 8) (t1 : pj_T i1 = 4) (h : pb_Sv_decide_30  K u i0 i1 o2) : pj_J g (pj_N g b u) 30 [some (.ref (b + i0)), some (.ref (b + i1)), some (va_rf (o2.map (b + ·))), none] [] := by
  unfold pb_Sv_decide_30 at h
  refine pj_aload_n C d_Sv_decide_30 (pc' := 31) (i := 0) (x := b + i0) rfl rfl rfl ?_
  refine pj_aload_n C d_Sv_decide_31 (pc' := 32) (i := 1) (x := b + i1) rfl rfl rfl ?_
  refine ck_Server_162_Server C t0 t1 h d_Sv_decide_32 (pc' := 35) rfl ⟨Nat.le_of_ble_eq_true rfl, Nat.le_of_ble_eq_true rfl⟩ (Nat.le_of_ble_eq_true rfl) (fun r2 u1 h => ?_)
  refine pj_istore_n C d_Sv_decide_35 (pc' := 36) (i := 3) (vs' := [some (.ref (b + i0)), some (.ref (b + i1)), some (va_rf (o2.map (b + ·))), some (.int r2)]) rfl rfl (Nat.le_of_ble_eq_true rfl) (Nat.le_of_ble_eq_true rfl) (by cases o2 <;> rfl) rfl ?_
  refine pj_goto C d_Sv_decide_36 (tgt := 69) (by decide) ?_
  exact pj_cut (pj_le_s (pj_le_n (pj_le_s (pj_le_s pj_le_e)))) (pt_Sv_decide_69 C hE  t0 h)
def pb_Sv_decide_22  (K : pj_M → Prop) (u : pj_M) (i0 : Nat) (i1 : Nat) (o2 : Option Nat) (x3 : Int32) : Prop := pw_Pa_type u i1 fun r2 u1 => (((r2 = 1) → (pb_Sv_decide_30  K u1 i0 i1 o2)) ∧ (¬ (r2 = 1) → (pb_Sv_decide_39  K u1 i0 i1 o2 x3)))
set_option maxHeartbeats 1000000 in
theorem pt_Sv_decide_22 {g : pj_G} {b : Nat} (C : pj_X g c_Sv_decide 4 R_Sv none rm_Sv_decide) {K : pj_M → Prop} (hE : pj_E g b (pj_Kv K))   {u : pj_M} {i0 : Nat} {i1 : Nat} {o2 : Option Nat} {x3 : Int32}  (t0 : pj_T i0 = 8) (t1 : pj_T i1 = 4) (h : pb_Sv_decide_22  K u i0 i1 o2 x3) : pj_J g (pj_N g b u) 22 [some (.ref (b + i0)), some (.ref (b + i1)), some (va_rf (o2.map (b + ·))), some (.int x3)] [] := by
  unfold pb_Sv_decide_22 at h
  refine pj_aload_n C d_Sv_decide_22 (pc' := 23) (i := 1) (x := b + i1) rfl rfl rfl ?_
  refine ck_Server_159_Packet C t1 h d_Sv_decide_23 (pc' := 26) rfl ⟨Nat.le_of_ble_eq_true rfl, Nat.le_of_ble_eq_true rfl⟩ (Nat.le_of_ble_eq_true rfl) (fun r2 u1 h => ?_)
  refine pj_iconst C d_Sv_decide_26 (pc' := 27) rfl (v := 1) (by decide) ?_
  refine pj_icmp_ne C d_Sv_decide_27 (pc' := 30) rfl (tgt := 39) (by decide) h (fun h => ?_) (fun h => ?_)
  · exact pj_cut (pj_le_s (pj_le_s (pj_le_s (pj_le_s pj_le_e)))) (pt_Sv_decide_39 C hE  t0 t1 h)
  · exact pj_cut (pj_le_s (pj_le_s (pj_le_s (pj_le_n pj_le_e)))) (pt_Sv_decide_30 C hE  t0 t1 h)
def pb_Sv_decide_0  (K : pj_M → Prop) (u : pj_M) (i0 : Nat) (i1 : Nat) : Prop := pw_Sv_sessionNumbered u i0 (u (i0 + 5) 3) fun o102 u1 => (pw_Pa_code u1 i1 fun r4 u3 => (((r4 = 2) → (pb_Sv_decide_22  K u3 i0 i1 o102 0)) ∧ (¬ (r4 = 2) → (pb_Sv_decide_39  K u3 i0 i1 o102 0))))
set_option maxHeartbeats 1000000 in
theorem pt_Sv_decide_0 {g : pj_G} {b : Nat} (C : pj_X g c_Sv_decide 4 R_Sv none rm_Sv_decide) {K : pj_M → Prop} (hE : pj_E g b (pj_Kv K))   {u : pj_M} {i0 : Nat} {i1 : Nat}  (t0 : pj_T i0 = 8) (t1 : pj_T i1 = 4) (h : pb_Sv_decide_0  K u i0 i1) : pj_J g (pj_N g b u) 0 [some (.ref (b + i0)), some (.ref (b + i1)), none, none] [] := by
  unfold pb_Sv_decide_0 at h
  refine pj_aload_n C d_Sv_decide_0 (pc' := 1) (i := 0) (x := b + i0) rfl rfl rfl ?_
  refine pj_aload_n C d_Sv_decide_1 (pc' := 2) (i := 0) (x := b + i0) rfl rfl rfl ?_
  refine fg_Server_33_Server C t0 d_Sv_decide_2 (pc' := 5) rfl ?_
  refine fg_Server_151_Datagram C (pl_Server_request t0) d_Sv_decide_5 (pc' := 8) rfl ?_
  refine ck_Server_154_Server C t0 h d_Sv_decide_8 (pc' := 11) rfl ⟨Nat.le_of_ble_eq_true rfl, Nat.le_of_ble_eq_true rfl⟩ (Nat.le_of_ble_eq_true rfl) (fun o102 u1 h => ?_)
  refine pj_astore_nO C d_Sv_decide_11 (pc' := 12) (i := 2) (vs' := [some (.ref (b + i0)), some (.ref (b + i1)), some (va_rf (o102.map (b + ·))), none]) rfl rfl (Nat.le_of_ble_eq_true rfl) (Nat.le_of_ble_eq_true rfl) rfl rfl ?_
  refine pj_iconst C d_Sv_decide_12 (pc' := 13) rfl (v := 0) (by decide) ?_
  refine pj_istore_n C d_Sv_decide_13 (pc' := 14) (i := 3) (vs' := [some (.ref (b + i0)), some (.ref (b + i1)), some (va_rf (o102.map (b + ·))), some (.int 0)]) rfl rfl (Nat.le_of_ble_eq_true rfl) (Nat.le_of_ble_eq_true rfl) (by cases o102 <;> rfl) rfl ?_
  refine pj_aload_n C d_Sv_decide_14 (pc' := 15) (i := 1) (x := b + i1) rfl rfl rfl ?_
  refine ck_Server_158_Packet C t1 h d_Sv_decide_15 (pc' := 18) rfl ⟨Nat.le_of_ble_eq_true rfl, Nat.le_of_ble_eq_true rfl⟩ (Nat.le_of_ble_eq_true rfl) (fun r4 u3 h => ?_)
  refine pj_iconst C d_Sv_decide_18 (pc' := 19) rfl (v := 2) (by decide) ?_
  refine pj_icmp_ne C d_Sv_decide_19 (pc' := 22) rfl (tgt := 39) (by decide) h (fun h => ?_) (fun h => ?_)
  · exact pj_cut (pj_le_s (pj_le_s (pj_le_s (pj_le_s pj_le_e)))) (pt_Sv_decide_39 C hE  t0 t1 h)
  · exact pj_cut (pj_le_s (pj_le_s (pj_le_s (pj_le_s pj_le_e)))) (pt_Sv_decide_22 C hE  t0 t1 h)
def pw_Sv_decide (u : pj_M) (i0 : Nat) (i1 : Nat) (K : pj_M → Prop) : Prop := pb_Sv_decide_0  K u i0 i1
theorem pc_Sv_decide (l : Launch) (D : va_G) (E : Nat → ClassId) {b : Nat} {u : pj_M} {i0 : Nat} {i1 : Nat} {K : pj_M → Prop} (t0 : pj_T i0 = 8) (t1 : pj_T i1 = 4) (h : pw_Sv_decide u i0 i1 K) : pj_C l y_Sv_decide c_Sv_decide 4 none rm_Sv_decide D E b [.ref (b + i0), .ref (b + i1)] u (pj_Kv K) := by
  refine pj_met (own := R_Sv) (by decide +kernel) rfl (Nat.le_of_ble_eq_true rfl) (fun g hE C => ?_)
  unfold pw_Sv_decide at h
  show pj_J g (pj_N g b u) 0 [some (.ref (b + i0)), some (.ref (b + i1)), none, none] []
  exact pj_cut (pj_le_s (pj_le_s (pj_le_n (pj_le_n pj_le_e)))) (pt_Sv_decide_0 C hE  t0 t1 h)
/-! Server.keepAnswer()I -/
theorem fg_Server_74_Server {g : pj_G} {b : Nat} {cc : ByteArray} {nL : Nat} {ret : Option FieldType} {rm : Room} {u : pj_M} {pc pc' : Nat} {vs : List (Option Value)} {st : List Value} (C : pj_X g cc nL R_Sv ret rm) {i : Nat} (t : pj_T i = 8) (hdg : decode cc pc = .ok (.getfield 74, 3)) (hp : pc + 3 = pc') (kk : pj_J g (pj_N g b u) pc' vs (.int (u i 18) :: st)) : pj_J g (pj_N g b u) pc vs (.ref (b + i) :: st) :=
  pj_get C cl_Server hin_Server (k := 18) (Nat.le_of_ble_eq_true rfl) wm_348 (Or.inl rfl) (pj_lt t (by decide)) (fun E => ko_8 t) rfl hdg hp kk
theorem fg_Server_37_Server {g : pj_G} {b : Nat} {cc : ByteArray} {nL : Nat} {ret : Option FieldType} {rm : Room} {u : pj_M} {pc pc' : Nat} {vs : List (Option Value)} {st : List Value} (C : pj_X g cc nL R_Sv ret rm) {i : Nat} (t : pj_T i = 8) (hdg : decode cc pc = .ok (.getfield 37, 3)) (hp : pc + 3 = pc') (kk : pj_J g (pj_N g b u) pc' vs (.ref (b + (i + 10)) :: st)) : pj_J g (pj_N g b u) pc vs (.ref (b + i) :: st) :=
  pj_get C cl_Server hin_Server (k := 9) (Nat.le_of_ble_eq_true rfl) wm_338 (Or.inl rfl) (pj_lt t (by decide)) (fun E => ko_8 t) rfl hdg hp kk
theorem fg_Server_123_Server {g : pj_G} {b : Nat} {cc : ByteArray} {nL : Nat} {ret : Option FieldType} {rm : Room} {u : pj_M} {pc pc' : Nat} {vs : List (Option Value)} {st : List Value} (C : pj_X g cc nL R_Sv ret rm) {i : Nat} (t : pj_T i = 8) (hdg : decode cc pc = .ok (.getfield 123, 3)) (hp : pc + 3 = pc') (kk : pj_J g (pj_N g b u) pc' vs (.int (u i 11) :: st)) : pj_J g (pj_N g b u) pc vs (.ref (b + i) :: st) :=
  pj_get C cl_Server hin_Server (k := 11) (Nat.le_of_ble_eq_true rfl) wm_340 (Or.inl rfl) (pj_lt t (by decide)) (fun E => ko_8 t) rfl hdg hp kk
theorem fg_Server_126_Server {g : pj_G} {b : Nat} {cc : ByteArray} {nL : Nat} {ret : Option FieldType} {rm : Room} {u : pj_M} {pc pc' : Nat} {vs : List (Option Value)} {st : List Value} (C : pj_X g cc nL R_Sv ret rm) {i : Nat} (t : pj_T i = 8) (hdg : decode cc pc = .ok (.getfield 126, 3)) (hp : pc + 3 = pc') (kk : pj_J g (pj_N g b u) pc' vs (.int (u i 12) :: st)) : pj_J g (pj_N g b u) pc vs (.ref (b + i) :: st) :=
  pj_get C cl_Server hin_Server (k := 12) (Nat.le_of_ble_eq_true rfl) wm_341 (Or.inl rfl) (pj_lt t (by decide)) (fun E => ko_8 t) rfl hdg hp kk
theorem fg_Server_26_Server {g : pj_G} {b : Nat} {cc : ByteArray} {nL : Nat} {ret : Option FieldType} {rm : Room} {u : pj_M} {pc pc' : Nat} {vs : List (Option Value)} {st : List Value} (C : pj_X g cc nL R_Sv ret rm) {i : Nat} (t : pj_T i = 8) (hdg : decode cc pc = .ok (.getfield 26, 3)) (hp : pc + 3 = pc') (kk : pj_J g (pj_N g b u) pc' vs (.ref (b + (i + 4)) :: st)) : pj_J g (pj_N g b u) pc vs (.ref (b + i) :: st) :=
  pj_get C cl_Server hin_Server (k := 7) (Nat.le_of_ble_eq_true rfl) wm_336 (Or.inl rfl) (pj_lt t (by decide)) (fun E => ko_8 t) rfl hdg hp kk
theorem fg_Server_137_Datagram {g : pj_G} {b : Nat} {cc : ByteArray} {nL : Nat} {ret : Option FieldType} {rm : Room} {u : pj_M} {pc pc' : Nat} {vs : List (Option Value)} {st : List Value} (C : pj_X g cc nL R_Sv ret rm) {i : Nat} (t : pj_T i = 5) (hdg : decode cc pc = .ok (.getfield 137, 3)) (hp : pc + 3 = pc') (kk : pj_J g (pj_N g b u) pc' vs (.ref (b + (i + 1)) :: st)) : pj_J g (pj_N g b u) pc vs (.ref (b + i) :: st) :=
  pj_get C cl_Datagram hin_Datagram (k := 0) (Nat.le_of_ble_eq_true rfl) wm_267 (Or.inl rfl) (pj_lt t (by decide)) (fun E => ko_5 t) rfl hdg hp kk
theorem ck_Server_129_Datagram {g : pj_G} {b : Nat} {cc : ByteArray} {nL : Nat} {ret : Option FieldType} {rm : Room} {u : pj_M} {pc pc' : Nat} {vs : List (Option Value)} {st : List Value} (C : pj_X g cc nL R_Sv ret rm) {i0 : Nat} {x1 : Int32} {x2 : Int32} {x3 : Int32} {x4 : Int32} {x5 : Int32} {i6 : Nat} {K : pj_M → Prop} (t0 : pj_T i0 = 5) (t6 : pj_T i6 = 4) (h : pw_Da_write u i0 x1 x2 x3 x4 x5 i6 K) (hdg : decode cc pc = .ok (.invokevirtual 129, 3)) (hp : pc + 3 = pc') (hR : rm_Da_write.frames + 1 ≤ rm.frames ∧ 8 + (7 + 11) + rm_Da_write.locals ≤ rm.locals) (h8 : (st.map fun v => v.category).sum ≤ 8) (kk : ∀ u', K u' → pj_J g (pj_N g b u') pc' vs st) : pj_J g (pj_N g b u) pc vs (.ref (b + i6) :: .int x5 :: .int x4 :: .int x3 :: .int x2 :: .int x1 :: .ref (b + i0) :: st) :=
  pj_callV C (As := [.int x1, .int x2, .int x3, .int x4, .int x5, .ref (b + i6)]) (fun l D E => pc_Da_write l D E t0 t6 h) rfl rfl cl_Datagram (pj_lt t0 (by decide)) (fun E => ko_5 t0) wm_985 wm_760 wm_761 wm_98 wm_762 (by decide +kernel) (n := 6) rfl hR rfl h8 hdg hp (fun v u' hq => by obtain ⟨rfl, hk⟩ := hq; exact kk u' hk)
theorem ck_Server_133_Datagram {g : pj_G} {b : Nat} {cc : ByteArray} {nL : Nat} {ret : Option FieldType} {rm : Room} {u : pj_M} {pc pc' : Nat} {vs : List (Option Value)} {st : List Value} (C : pj_X g cc nL R_Sv ret rm) {i0 : Nat} {x1 : Int32} {K : pj_M → Prop} (t0 : pj_T i0 = 5) (h : pw_Da_sealAnswer u i0 x1 K) (hdg : decode cc pc = .ok (.invokevirtual 133, 3)) (hp : pc + 3 = pc') (hR : rm_Da_sealAnswer.frames + 1 ≤ rm.frames ∧ 8 + (2 + 11) + rm_Da_sealAnswer.locals ≤ rm.locals) (h8 : (st.map fun v => v.category).sum ≤ 8) (kk : ∀ u', K u' → pj_J g (pj_N g b u') pc' vs st) : pj_J g (pj_N g b u) pc vs (.int x1 :: .ref (b + i0) :: st) :=
  pj_callV C (As := [.int x1]) (fun l D E => pc_Da_sealAnswer l D E t0 h) rfl rfl cl_Datagram (pj_lt t0 (by decide)) (fun E => ko_5 t0) wm_986 wm_987 wm_988 wm_98 wm_989 (by decide +kernel) (n := 1) rfl hR rfl h8 hdg hp (fun v u' hq => by obtain ⟨rfl, hk⟩ := hq; exact kk u' hk)
theorem ck_Server_141_Row {g : pj_G} {b : Nat} {cc : ByteArray} {nL : Nat} {ret : Option FieldType} {rm : Room} {u : pj_M} {pc pc' : Nat} {vs : List (Option Value)} {st : List Value} (C : pj_X g cc nL R_Sv ret rm) {i0 : Nat} {i1 : Nat} {K : pj_M → Prop} (t : pj_T i0 = 3) (t1 : pj_R i1) (h : pw_Ro_copy u i0 i1 K) (hdg : decode cc pc = .ok (.invokevirtual 141, 3)) (hp : pc + 3 = pc') (hR : rm_Ro_copy.frames + 1 ≤ rm.frames ∧ 8 + (2 + 11) + rm_Ro_copy.locals ≤ rm.locals) (h8 : (st.map fun v => v.category).sum ≤ 8) (kk : ∀ u', K u' → pj_J g (pj_N g b u') pc' vs st) : pj_J g (pj_N g b u) pc vs (.ref (b + i1) :: .ref (b + i0) :: st) := by
  have t0 : pj_R i0 := Or.inl t
  exact pj_callV C (As := [.ref (b + i1)]) (fun l D E => pc_Ro_copy l D E t0 t1 h) rfl rfl cl_Row (pj_lt t (by decide)) (fun E => ko_3 t) wm_994 wm_684 wm_685 wm_94 wm_688 (by decide +kernel) (n := 1) rfl hR rfl h8 hdg hp (fun v u' hq => by obtain ⟨rfl, hk⟩ := hq; exact kk u' hk)
def rm_Sv_keepAnswer : Room := { frames := 4, cells := 0, slots := 0, locals := 109 }
def pb_Sv_keepAnswer_0  (K : Int32 → pj_M → Prop) (u : pj_M) (i0 : Nat) : Prop := pj_let (u i0 18) fun y1 => (pw_Da_id u (i0 + 5) fun r3 u2 => (pw_Da_write u2 (i0 + 10) (u i0 11) r3 (u2 (i0 + 5) 5) ((-1)) (u2 i0 12) (i0 + 15) fun u4 => (pw_Da_sealAnswer u4 (i0 + 10) (u4 i0 1) fun u5 => (pw_Da_id u5 (i0 + 5) fun r7 u6 => (vp_in y1 4 ∧ pj_put u6 (i0 + 2) y1.toNatClampNeg r7 fun u8 => (vp_in y1 4 ∧ pj_put u8 (i0 + 3) y1.toNatClampNeg (u8 (i0 + 5) 5) fun u9 => (vp_in y1 4 ∧ (pw_Ro_copy u9 (i0 + 4 + 17 + 2 * y1.toNatClampNeg) ((i0 + 10) + 1) fun u11 => (pj_put u11 i0 18 ((y1 + 1) - (y1 + 1) / 4 * 4) fun u12 => (pj_put u12 i0 17 (if 4 < (u12 i0 17) + 1 then 4 else (u12 i0 17) + 1) fun u13 => (K y1 u13)))))))))))
set_option maxHeartbeats 1000000 in
theorem pt_Sv_keepAnswer_0 {g : pj_G} {b : Nat} (C : pj_X g c_Sv_keepAnswer 2 R_Sv (some .int) rm_Sv_keepAnswer) {K : Int32 → pj_M → Prop} (hE : pj_E g b (pj_Ki K))   {u : pj_M} {i0 : Nat}  (t0 : pj_T i0 = 8) (h : pb_Sv_keepAnswer_0  K u i0) : pj_J g (pj_N g b u) 0 [some (.ref (b + i0)), none] [] := by
  unfold pb_Sv_keepAnswer_0 at h
  refine pj_aload_n C d_Sv_keepAnswer_0 (pc' := 1) (i := 0) (x := b + i0) rfl rfl rfl ?_
  refine fg_Server_74_Server C t0 d_Sv_keepAnswer_1 (pc' := 4) rfl ?_
  refine pj_name h (fun y1 h => ?_)
  refine pj_istore_n C d_Sv_keepAnswer_4 (pc' := 5) (i := 1) (vs' := [some (.ref (b + i0)), some (.int y1)]) rfl rfl (Nat.le_of_ble_eq_true rfl) (Nat.le_of_ble_eq_true rfl) rfl rfl ?_
  refine pj_aload_n C d_Sv_keepAnswer_5 (pc' := 6) (i := 0) (x := b + i0) rfl rfl rfl ?_
  refine fg_Server_37_Server C t0 d_Sv_keepAnswer_6 (pc' := 9) rfl ?_
  refine pj_aload_n C d_Sv_keepAnswer_9 (pc' := 10) (i := 0) (x := b + i0) rfl rfl rfl ?_
  refine fg_Server_123_Server C t0 d_Sv_keepAnswer_10 (pc' := 13) rfl ?_
  refine pj_aload_n C d_Sv_keepAnswer_13 (pc' := 14) (i := 0) (x := b + i0) rfl rfl rfl ?_
  refine fg_Server_33_Server C t0 d_Sv_keepAnswer_14 (pc' := 17) rfl ?_
  refine ck_Server_120_Datagram C (pl_Server_request t0) h d_Sv_keepAnswer_17 (pc' := 20) rfl ⟨Nat.le_of_ble_eq_true rfl, Nat.le_of_ble_eq_true rfl⟩ (Nat.le_of_ble_eq_true rfl) (fun r3 u2 h => ?_)
  refine pj_aload_n C d_Sv_keepAnswer_20 (pc' := 21) (i := 0) (x := b + i0) rfl rfl rfl ?_
  refine fg_Server_33_Server C t0 d_Sv_keepAnswer_21 (pc' := 24) rfl ?_
  refine fg_Server_113_Datagram C (pl_Server_request t0) d_Sv_keepAnswer_24 (pc' := 27) rfl ?_
  refine pj_iconst C d_Sv_keepAnswer_27 (pc' := 28) rfl (v := (-1)) (by decide) ?_
  refine pj_aload_n C d_Sv_keepAnswer_28 (pc' := 29) (i := 0) (x := b + i0) rfl rfl rfl ?_
  refine fg_Server_126_Server C t0 d_Sv_keepAnswer_29 (pc' := 32) rfl ?_
  refine pj_aload_n C d_Sv_keepAnswer_32 (pc' := 33) (i := 0) (x := b + i0) rfl rfl rfl ?_
  refine fg_Server_43_Server C t0 d_Sv_keepAnswer_33 (pc' := 36) rfl ?_
  refine ck_Server_129_Datagram C (pl_Server_reply t0) (pl_Server_content t0) h d_Sv_keepAnswer_36 (pc' := 39) rfl ⟨Nat.le_of_ble_eq_true rfl, Nat.le_of_ble_eq_true rfl⟩ (Nat.le_of_ble_eq_true rfl) (fun u4 h => ?_)
  refine pj_aload_n C d_Sv_keepAnswer_39 (pc' := 40) (i := 0) (x := b + i0) rfl rfl rfl ?_
  refine fg_Server_37_Server C t0 d_Sv_keepAnswer_40 (pc' := 43) rfl ?_
  refine pj_aload_n C d_Sv_keepAnswer_43 (pc' := 44) (i := 0) (x := b + i0) rfl rfl rfl ?_
  refine fg_Server_55_Server C t0 d_Sv_keepAnswer_44 (pc' := 47) rfl ?_
  refine ck_Server_133_Datagram C (pl_Server_reply t0) h d_Sv_keepAnswer_47 (pc' := 50) rfl ⟨Nat.le_of_ble_eq_true rfl, Nat.le_of_ble_eq_true rfl⟩ (Nat.le_of_ble_eq_true rfl) (fun u5 h => ?_)
  refine pj_aload_n C d_Sv_keepAnswer_50 (pc' := 51) (i := 0) (x := b + i0) rfl rfl rfl ?_
  refine fg_Server_17_Server C t0 d_Sv_keepAnswer_51 (pc' := 54) rfl ?_
  refine pj_iload_n C d_Sv_keepAnswer_54 (pc' := 55) (i := 1) (x := y1) rfl rfl rfl ?_
  refine pj_aload_n C d_Sv_keepAnswer_55 (pc' := 56) (i := 0) (x := b + i0) rfl rfl rfl ?_
  refine fg_Server_33_Server C t0 d_Sv_keepAnswer_56 (pc' := 59) rfl ?_
  refine ck_Server_120_Datagram C (pl_Server_request t0) h d_Sv_keepAnswer_59 (pc' := 62) rfl ⟨Nat.le_of_ble_eq_true rfl, Nat.le_of_ble_eq_true rfl⟩ (Nat.le_of_ble_eq_true rfl) (fun r7 u6 h => ?_)
  refine pj_iast C (pj_lt (pl_Server_answeredIds t0) (by decide)) (fun E u => ka_23 (pl_Server_answeredIds t0)) d_Sv_keepAnswer_62 (pc' := 63) rfl h (fun u8 h => ?_)
  refine pj_aload_n C d_Sv_keepAnswer_63 (pc' := 64) (i := 0) (x := b + i0) rfl rfl rfl ?_
  refine fg_Server_21_Server C t0 d_Sv_keepAnswer_64 (pc' := 67) rfl ?_
  refine pj_iload_n C d_Sv_keepAnswer_67 (pc' := 68) (i := 1) (x := y1) rfl rfl rfl ?_
  refine pj_aload_n C d_Sv_keepAnswer_68 (pc' := 69) (i := 0) (x := b + i0) rfl rfl rfl ?_
  refine fg_Server_33_Server C t0 d_Sv_keepAnswer_69 (pc' := 72) rfl ?_
  refine fg_Server_113_Datagram C (pl_Server_request t0) d_Sv_keepAnswer_72 (pc' := 75) rfl ?_
  refine pj_iast C (pj_lt (pl_Server_answeredAuthenticators t0) (by decide)) (fun E u => ka_23 (pl_Server_answeredAuthenticators t0)) d_Sv_keepAnswer_75 (pc' := 76) rfl h (fun u9 h => ?_)
  refine pj_aload_n C d_Sv_keepAnswer_76 (pc' := 77) (i := 0) (x := b + i0) rfl rfl rfl ?_
  refine fg_Server_26_Server C t0 d_Sv_keepAnswer_77 (pc' := 80) rfl ?_
  refine pj_iload_n C d_Sv_keepAnswer_80 (pc' := 81) (i := 1) (x := y1) rfl rfl rfl ?_
  obtain ⟨hv10, h⟩ := h
  refine pj_aldS C (pj_lt (pl_Server_answers t0) (by decide)) (fun E u => ka_28 (pl_Server_answers t0)) (fun E => rfl) d_Sv_keepAnswer_81 (pc' := 82) rfl ⟨hv10, h⟩ (fun h => ?_)
  refine pj_aload_n C d_Sv_keepAnswer_82 (pc' := 83) (i := 0) (x := b + i0) rfl rfl rfl ?_
  refine fg_Server_37_Server C t0 d_Sv_keepAnswer_83 (pc' := 86) rfl ?_
  refine fg_Server_137_Datagram C (pl_Server_reply t0) d_Sv_keepAnswer_86 (pc' := 89) rfl ?_
  refine ck_Server_141_Row C (pe_28 (pl_Server_answers t0) hv10) (Or.inl (pl_Datagram_row (pl_Server_reply t0))) h d_Sv_keepAnswer_89 (pc' := 92) rfl ⟨Nat.le_of_ble_eq_true rfl, Nat.le_of_ble_eq_true rfl⟩ (Nat.le_of_ble_eq_true rfl) (fun u11 h => ?_)
  refine pj_aload_n C d_Sv_keepAnswer_92 (pc' := 93) (i := 0) (x := b + i0) rfl rfl rfl ?_
  refine pj_iload_n C d_Sv_keepAnswer_93 (pc' := 94) (i := 1) (x := y1) rfl rfl rfl ?_
  refine pj_iconst C d_Sv_keepAnswer_94 (pc' := 95) rfl (v := 1) (by decide) ?_
  refine pj_iadd C d_Sv_keepAnswer_95 (pc' := 96) rfl ?_
  refine pj_iconst C d_Sv_keepAnswer_96 (pc' := 97) rfl (v := 4) (by decide) ?_
  refine pj_irem C d_Sv_keepAnswer_97 (pc' := 98) rfl (by decide) ?_
  refine fp_Server_74_Server C t0  d_Sv_keepAnswer_98 (pc' := 101) rfl h (fun u12 h => ?_)
  refine pj_aload_n C d_Sv_keepAnswer_101 (pc' := 102) (i := 0) (x := b + i0) rfl rfl rfl ?_
  refine pj_aload_n C d_Sv_keepAnswer_102 (pc' := 103) (i := 0) (x := b + i0) rfl rfl rfl ?_
  refine fg_Server_71_Server C t0 d_Sv_keepAnswer_103 (pc' := 106) rfl ?_
  refine pj_iconst C d_Sv_keepAnswer_106 (pc' := 107) rfl (v := 1) (by decide) ?_
  refine pj_iadd C d_Sv_keepAnswer_107 (pc' := 108) rfl ?_
  refine pj_iconst C d_Sv_keepAnswer_108 (pc' := 109) rfl (v := 4) (by decide) ?_
  refine pj_min C wm_995 wm_777 wm_106 wm_778 ⟨Nat.le_of_ble_eq_true rfl, Nat.le_of_ble_eq_true rfl⟩ d_Sv_keepAnswer_109 (pc' := 112) rfl ?_
  refine fp_Server_71_Server C t0  d_Sv_keepAnswer_112 (pc' := 115) rfl h (fun u13 h => ?_)
  refine pj_iload_n C d_Sv_keepAnswer_115 (pc' := 116) (i := 1) (x := y1) rfl rfl rfl ?_
  exact pj_iret C hE d_Sv_keepAnswer_116 ⟨_, rfl, h⟩
def pw_Sv_keepAnswer (u : pj_M) (i0 : Nat) (K : Int32 → pj_M → Prop) : Prop := pb_Sv_keepAnswer_0  K u i0
theorem pc_Sv_keepAnswer (l : Launch) (D : va_G) (E : Nat → ClassId) {b : Nat} {u : pj_M} {i0 : Nat} {K : Int32 → pj_M → Prop} (t0 : pj_T i0 = 8) (h : pw_Sv_keepAnswer u i0 K) : pj_C l y_Sv_keepAnswer c_Sv_keepAnswer 2 (some .int) rm_Sv_keepAnswer D E b [.ref (b + i0)] u (pj_Ki K) := by
  refine pj_met (own := R_Sv) (by decide +kernel) rfl (Nat.le_of_ble_eq_true rfl) (fun g hE C => ?_)
  unfold pw_Sv_keepAnswer at h
  show pj_J g (pj_N g b u) 0 [some (.ref (b + i0)), none] []
  exact pj_cut (pj_le_s (pj_le_n pj_le_e)) (pt_Sv_keepAnswer_0 C hE  t0 h)
/-! Server.takeRequest(LPortGuard$Row;)V -/
theorem fg_Server_47_Server {g : pj_G} {b : Nat} {cc : ByteArray} {nL : Nat} {ret : Option FieldType} {rm : Room} {u : pj_M} {pc pc' : Nat} {vs : List (Option Value)} {st : List Value} (C : pj_X g cc nL R_Sv ret rm) {i : Nat} (t : pj_T i = 8) (hdg : decode cc pc = .ok (.getfield 47, 3)) (hp : pc + 3 = pc') (kk : pj_J g (pj_N g b u) pc' vs (.int (u i 13) :: st)) : pj_J g (pj_N g b u) pc vs (.ref (b + i) :: st) :=
  pj_get C cl_Server hin_Server (k := 13) (Nat.le_of_ble_eq_true rfl) wm_342 (Or.inl rfl) (pj_lt t (by decide)) (fun E => ko_8 t) rfl hdg hp kk
theorem fg_Server_81_Server {g : pj_G} {b : Nat} {cc : ByteArray} {nL : Nat} {ret : Option FieldType} {rm : Room} {u : pj_M} {pc pc' : Nat} {vs : List (Option Value)} {st : List Value} (C : pj_X g cc nL R_Sv ret rm) {i : Nat} (t : pj_T i = 8) (hdg : decode cc pc = .ok (.getfield 81, 3)) (hp : pc + 3 = pc') (kk : pj_J g (pj_N g b u) pc' vs (.int (u i 19) :: st)) : pj_J g (pj_N g b u) pc vs (.ref (b + i) :: st) :=
  pj_get C cl_Server hin_Server (k := 19) (Nat.le_of_ble_eq_true rfl) wm_349 (Or.inl rfl) (pj_lt t (by decide)) (fun E => ko_8 t) rfl hdg hp kk
theorem fp_Server_81_Server {g : pj_G} {b : Nat} {cc : ByteArray} {nL : Nat} {ret : Option FieldType} {rm : Room} {u : pj_M} {pc pc' : Nat} {vs : List (Option Value)} {st : List Value} (C : pj_X g cc nL R_Sv ret rm) {i : Nat} {x : Int32} {P : pj_M → Prop} (t : pj_T i = 8)  (hdg : decode cc pc = .ok (.putfield 81, 3)) (hp : pc + 3 = pc') (h : pj_put u i 19 x P) (kk : ∀ u', P u' → pj_J g (pj_N g b u') pc' vs st) : pj_J g (pj_N g b u) pc vs (.int x :: .ref (b + i) :: st) :=
  pj_putI C cl_Server hin_Server ty_Server tyok_Server nm_Server (k := 19) (Nat.le_of_ble_eq_true rfl) wm_349 (Or.inl rfl) rfl (ty := .int) (by decide +kernel) rfl rfl (pj_lt t (by decide)) (fun E u => ko_8 t) (F := fun f => [.int (f 0), .int (f 1), .ref (b + 1), .ref (b + 4), .ref (b + (i + 1)), .ref (b + (i + 2)), .ref (b + (i + 3)), .ref (b + (i + 4)), .ref (b + (i + 5)), .ref (b + (i + 10)), .ref (b + (i + 15)), .int (f 11), .int (f 12), .int (f 13), .int (f 14), .int (f 15), .int (f 16), .int (f 17), .int (f 18), .int (f 19)]) (fun _ => Nat.le_of_ble_eq_true rfl) (fun _ _ => rfl) hdg hp h kk
theorem fg_Server_62_Server {g : pj_G} {b : Nat} {cc : ByteArray} {nL : Nat} {ret : Option FieldType} {rm : Room} {u : pj_M} {pc pc' : Nat} {vs : List (Option Value)} {st : List Value} (C : pj_X g cc nL R_Sv ret rm) {i : Nat} (t : pj_T i = 8) (hdg : decode cc pc = .ok (.getfield 62, 3)) (hp : pc + 3 = pc') (kk : pj_J g (pj_N g b u) pc' vs (.ref (b + 4) :: st)) : pj_J g (pj_N g b u) pc vs (.ref (b + i) :: st) :=
  pj_get C cl_Server hin_Server (k := 3) (Nat.le_of_ble_eq_true rfl) wm_332 (Or.inl rfl) (pj_lt t (by decide)) (fun E => ko_8 t) rfl hdg hp kk
theorem ck_Server_77_Server {g : pj_G} {b : Nat} {cc : ByteArray} {nL : Nat} {ret : Option FieldType} {rm : Room} {u : pj_M} {pc pc' : Nat} {vs : List (Option Value)} {st : List Value} (C : pj_X g cc nL R_Sv ret rm) {i0 : Nat} {i1 : Nat} {K : Int32 → pj_M → Prop} (t0 : pj_T i0 = 8) (t1 : pj_R i1) (h : pw_Sv_accepts u i0 i1 K) (hdg : decode cc pc = .ok (.invokevirtual 77, 3)) (hp : pc + 3 = pc') (hR : rm_Sv_accepts.frames + 1 ≤ rm.frames ∧ 8 + (2 + 11) + rm_Sv_accepts.locals ≤ rm.locals) (h8 : (st.map fun v => v.category).sum ≤ 8) (kk : ∀ r u', K r u' → pj_J g (pj_N g b u') pc' vs (.int r :: st)) : pj_J g (pj_N g b u) pc vs (.ref (b + i1) :: .ref (b + i0) :: st) :=
  pj_callV C (As := [.ref (b + i1)]) (fun l D E => pc_Sv_accepts l D E t0 t1 h) rfl rfl cl_Server (pj_lt t0 (by decide)) (fun E => ko_8 t0) wm_873 wm_875 wm_15 wm_97 wm_876 (by decide +kernel) (n := 1) rfl hR rfl h8 hdg hp (fun v u' hq => by obtain ⟨r, rfl, hk⟩ := hq; exact kk r u' hk)
theorem ck_Server_84_Server {g : pj_G} {b : Nat} {cc : ByteArray} {nL : Nat} {ret : Option FieldType} {rm : Room} {u : pj_M} {pc pc' : Nat} {vs : List (Option Value)} {st : List Value} (C : pj_X g cc nL R_Sv ret rm) {i0 : Nat} {K : Int32 → pj_M → Prop} (t0 : pj_T i0 = 8) (h : pw_Sv_slotOfRequest u i0 K) (hdg : decode cc pc = .ok (.invokevirtual 84, 3)) (hp : pc + 3 = pc') (hR : rm_Sv_slotOfRequest.frames + 1 ≤ rm.frames ∧ 8 + (2 + 11) + rm_Sv_slotOfRequest.locals ≤ rm.locals) (h8 : (st.map fun v => v.category).sum ≤ 8) (kk : ∀ r u', K r u' → pj_J g (pj_N g b u') pc' vs (.int r :: st)) : pj_J g (pj_N g b u) pc vs (.ref (b + i0) :: st) :=
  pj_callV C (As := []) (fun l D E => pc_Sv_slotOfRequest l D E t0 h) rfl rfl cl_Server (pj_lt t0 (by decide)) (fun E => ko_8 t0) wm_903 wm_905 wm_18 wm_97 wm_906 (by decide +kernel) (n := 0) rfl hR rfl h8 hdg hp (fun v u' hq => by obtain ⟨r, rfl, hk⟩ := hq; exact kk r u' hk)
theorem ck_Server_91_Server {g : pj_G} {b : Nat} {cc : ByteArray} {nL : Nat} {ret : Option FieldType} {rm : Room} {u : pj_M} {pc pc' : Nat} {vs : List (Option Value)} {st : List Value} (C : pj_X g cc nL R_Sv ret rm) {i0 : Nat} {i1 : Nat} {K : pj_M → Prop} (t0 : pj_T i0 = 8) (t1 : pj_T i1 = 4) (h : pw_Sv_decide u i0 i1 K) (hdg : decode cc pc = .ok (.invokevirtual 91, 3)) (hp : pc + 3 = pc') (hR : rm_Sv_decide.frames + 1 ≤ rm.frames ∧ 8 + (4 + 11) + rm_Sv_decide.locals ≤ rm.locals) (h8 : (st.map fun v => v.category).sum ≤ 8) (kk : ∀ u', K u' → pj_J g (pj_N g b u') pc' vs st) : pj_J g (pj_N g b u) pc vs (.ref (b + i1) :: .ref (b + i0) :: st) :=
  pj_callV C (As := [.ref (b + i1)]) (fun l D E => pc_Sv_decide l D E t0 t1 h) rfl rfl cl_Server (pj_lt t0 (by decide)) (fun E => ko_8 t0) wm_911 wm_913 wm_19 wm_97 wm_914 (by decide +kernel) (n := 1) rfl hR rfl h8 hdg hp (fun v u' hq => by obtain ⟨rfl, hk⟩ := hq; exact kk u' hk)
theorem ck_Server_95_Server {g : pj_G} {b : Nat} {cc : ByteArray} {nL : Nat} {ret : Option FieldType} {rm : Room} {u : pj_M} {pc pc' : Nat} {vs : List (Option Value)} {st : List Value} (C : pj_X g cc nL R_Sv ret rm) {i0 : Nat} {K : Int32 → pj_M → Prop} (t0 : pj_T i0 = 8) (h : pw_Sv_keepAnswer u i0 K) (hdg : decode cc pc = .ok (.invokevirtual 95, 3)) (hp : pc + 3 = pc') (hR : rm_Sv_keepAnswer.frames + 1 ≤ rm.frames ∧ 8 + (2 + 11) + rm_Sv_keepAnswer.locals ≤ rm.locals) (h8 : (st.map fun v => v.category).sum ≤ 8) (kk : ∀ r u', K r u' → pj_J g (pj_N g b u') pc' vs (.int r :: st)) : pj_J g (pj_N g b u) pc vs (.ref (b + i0) :: st) :=
  pj_callV C (As := []) (fun l D E => pc_Sv_keepAnswer l D E t0 h) rfl rfl cl_Server (pj_lt t0 (by decide)) (fun E => ko_8 t0) wm_981 wm_983 wm_31 wm_97 wm_984 (by decide +kernel) (n := 0) rfl hR rfl h8 hdg hp (fun v u' hq => by obtain ⟨r, rfl, hk⟩ := hq; exact kk r u' hk)
theorem ck_Server_98_Mailbox {g : pj_G} {b : Nat} {cc : ByteArray} {nL : Nat} {ret : Option FieldType} {rm : Room} {u : pj_M} {pc pc' : Nat} {vs : List (Option Value)} {st : List Value} (C : pj_X g cc nL R_Sv ret rm) {x1 : Int32} {x2 : Int32} {i3 : Nat} {K : pj_M → Prop} (t3 : pj_R i3) (h : pw_Ma_send u x1 x2 i3 K) (hdg : decode cc pc = .ok (.invokevirtual 98, 3)) (hp : pc + 3 = pc') (hR : rm_Ma_send.frames + 1 ≤ rm.frames ∧ 8 + (4 + 11) + rm_Ma_send.locals ≤ rm.locals) (h8 : (st.map fun v => v.category).sum ≤ 8) (kk : ∀ u', K u' → pj_J g (pj_N g b u') pc' vs st) : pj_J g (pj_N g b u) pc vs (.ref (b + i3) :: .int x2 :: .int x1 :: .ref (b + 4) :: st) :=
  pj_callV C (As := [.int x1, .int x2, .ref (b + i3)]) (fun l D E => pc_Ma_send l D E t3 h) rfl rfl cl_Mailbox (pj_lt tk_4 (by decide)) (fun E => ko_2 tk_4) wm_996 wm_693 wm_694 wm_93 wm_695 (by decide +kernel) (n := 3) rfl hR rfl h8 hdg hp (fun v u' hq => by obtain ⟨rfl, hk⟩ := hq; exact kk u' hk)
def rm_Sv_takeRequest : Room := { frames := 6, cells := 0, slots := 0, locals := 136 }
def pb_Sv_takeRequest_53  (K : pj_M → Prop) (u : pj_M) (i0 : Nat) (x2 : Int32) : Prop := vp_in x2 4 ∧ (pw_Ma_send u 3 (u i0 0) (i0 + 4 + 17 + 2 * x2.toNatClampNeg) fun u2 => (K u2))
set_option maxHeartbeats 1000000 in
theorem pt_Sv_takeRequest_53 {g : pj_G} {b : Nat} (C : pj_X g c_Sv_takeRequest 3 R_Sv none rm_Sv_takeRequest) {K : pj_M → Prop} (hE : pj_E g b (pj_Kv K))   {u : pj_M} {i0 : Nat} {x2 : Int32}  (t0 : pj_T i0 = 8) (h : pb_Sv_takeRequest_53  K u i0 x2) : pj_J g (pj_N g b u) 53 [some (.ref (b + i0)), none, some (.int x2)] [] := by
  unfold pb_Sv_takeRequest_53 at h
  refine pj_aload_n C d_Sv_takeRequest_53 (pc' := 54) (i := 0) (x := b + i0) rfl rfl rfl ?_
  refine fg_Server_62_Server C t0 d_Sv_takeRequest_54 (pc' := 57) rfl ?_
  refine pj_iconst C d_Sv_takeRequest_57 (pc' := 58) rfl (v := 3) (by decide) ?_
  refine pj_aload_n C d_Sv_takeRequest_58 (pc' := 59) (i := 0) (x := b + i0) rfl rfl rfl ?_
  refine fg_Server_51_Server C t0 d_Sv_takeRequest_59 (pc' := 62) rfl ?_
  refine pj_aload_n C d_Sv_takeRequest_62 (pc' := 63) (i := 0) (x := b + i0) rfl rfl rfl ?_
  refine fg_Server_26_Server C t0 d_Sv_takeRequest_63 (pc' := 66) rfl ?_
  refine pj_iload_n C d_Sv_takeRequest_66 (pc' := 67) (i := 2) (x := x2) rfl rfl rfl ?_
  obtain ⟨hv1, h⟩ := h
  refine pj_aldS C (pj_lt (pl_Server_answers t0) (by decide)) (fun E u => ka_28 (pl_Server_answers t0)) (fun E => rfl) d_Sv_takeRequest_67 (pc' := 68) rfl ⟨hv1, h⟩ (fun h => ?_)
  refine ck_Server_98_Mailbox C (Or.inl (pe_28 (pl_Server_answers t0) hv1)) h d_Sv_takeRequest_68 (pc' := 71) rfl ⟨Nat.le_of_ble_eq_true rfl, Nat.le_of_ble_eq_true rfl⟩ (Nat.le_of_ble_eq_true rfl) (fun u2 h => ?_)
  exact pj_vret C hE d_Sv_takeRequest_71 ⟨rfl, h⟩
def pb_Sv_takeRequest_37  (K : pj_M → Prop) (u : pj_M) (i0 : Nat) : Prop := pw_Sv_decide u i0 ((i0 + 5) + 3) fun u1 => (pw_Sv_keepAnswer u1 i0 fun r3 u2 => (pb_Sv_takeRequest_53  K u2 i0 r3))
set_option maxHeartbeats 1000000 in
theorem pt_Sv_takeRequest_37 {g : pj_G} {b : Nat} (C : pj_X g c_Sv_takeRequest 3 R_Sv none rm_Sv_takeRequest) {K : pj_M → Prop} (hE : pj_E g b (pj_Kv K))   {u : pj_M} {i0 : Nat}  (t0 : pj_T i0 = 8) (h : pb_Sv_takeRequest_37  K u i0) : pj_J g (pj_N g b u) 37 [some (.ref (b + i0)), none, none] [] := by
  unfold pb_Sv_takeRequest_37 at h
  refine pj_aload_n C d_Sv_takeRequest_37 (pc' := 38) (i := 0) (x := b + i0) rfl rfl rfl ?_
  refine pj_aload_n C d_Sv_takeRequest_38 (pc' := 39) (i := 0) (x := b + i0) rfl rfl rfl ?_
  refine fg_Server_33_Server C t0 d_Sv_takeRequest_39 (pc' := 42) rfl ?_
  refine fg_Server_88_Datagram C (pl_Server_request t0) d_Sv_takeRequest_42 (pc' := 45) rfl ?_
  refine ck_Server_91_Server C t0 (pl_Datagram_packet (pl_Server_request t0)) h d_Sv_takeRequest_45 (pc' := 48) rfl ⟨Nat.le_of_ble_eq_true rfl, Nat.le_of_ble_eq_true rfl⟩ (Nat.le_of_ble_eq_true rfl) (fun u1 h => ?_)
  refine pj_aload_n C d_Sv_takeRequest_48 (pc' := 49) (i := 0) (x := b + i0) rfl rfl rfl ?_
  refine ck_Server_95_Server C t0 h d_Sv_takeRequest_49 (pc' := 52) rfl ⟨Nat.le_of_ble_eq_true rfl, Nat.le_of_ble_eq_true rfl⟩ (Nat.le_of_ble_eq_true rfl) (fun r3 u2 h => ?_)
  refine pj_istore_n C d_Sv_takeRequest_52 (pc' := 53) (i := 2) (vs' := [some (.ref (b + i0)), none, some (.int r3)]) rfl rfl (Nat.le_of_ble_eq_true rfl) (Nat.le_of_ble_eq_true rfl) rfl rfl ?_
  exact pj_cut (pj_le_s (pj_le_n (pj_le_s pj_le_e))) (pt_Sv_takeRequest_53 C hE  t0 h)
def pb_Sv_takeRequest_27  (K : pj_M → Prop) (u : pj_M) (i0 : Nat) : Prop := pw_Sv_slotOfRequest u i0 fun r2 u1 => (((r2 = ((-1))) → (pb_Sv_takeRequest_37  K u1 i0)) ∧ (¬ (r2 = ((-1))) → (pb_Sv_takeRequest_53  K u1 i0 r2)))
set_option maxHeartbeats 1000000 in
theorem pt_Sv_takeRequest_27 {g : pj_G} {b : Nat} (C : pj_X g c_Sv_takeRequest 3 R_Sv none rm_Sv_takeRequest) {K : pj_M → Prop} (hE : pj_E g b (pj_Kv K))   {u : pj_M} {i0 : Nat}  (t0 : pj_T i0 = 8) (h : pb_Sv_takeRequest_27  K u i0) : pj_J g (pj_N g b u) 27 [some (.ref (b + i0)), none, none] [] := by
  unfold pb_Sv_takeRequest_27 at h
  refine pj_aload_n C d_Sv_takeRequest_27 (pc' := 28) (i := 0) (x := b + i0) rfl rfl rfl ?_
  refine ck_Server_84_Server C t0 h d_Sv_takeRequest_28 (pc' := 31) rfl ⟨Nat.le_of_ble_eq_true rfl, Nat.le_of_ble_eq_true rfl⟩ (Nat.le_of_ble_eq_true rfl) (fun r2 u1 h => ?_)
  refine pj_istore_n C d_Sv_takeRequest_31 (pc' := 32) (i := 2) (vs' := [some (.ref (b + i0)), none, some (.int r2)]) rfl rfl (Nat.le_of_ble_eq_true rfl) (Nat.le_of_ble_eq_true rfl) rfl rfl ?_
  refine pj_iload_n C d_Sv_takeRequest_32 (pc' := 33) (i := 2) (x := r2) rfl rfl rfl ?_
  refine pj_iconst C d_Sv_takeRequest_33 (pc' := 34) rfl (v := (-1)) (by decide) ?_
  refine pj_icmp_ne C d_Sv_takeRequest_34 (pc' := 37) rfl (tgt := 53) (by decide) h (fun h => ?_) (fun h => ?_)
  · exact pj_cut (pj_le_s (pj_le_n (pj_le_s pj_le_e))) (pt_Sv_takeRequest_53 C hE  t0 h)
  · exact pj_cut (pj_le_s (pj_le_n (pj_le_n pj_le_e))) (pt_Sv_takeRequest_37 C hE  t0 h)
def pb_Sv_takeRequest_16  (K : pj_M → Prop) (u : pj_M) (i0 : Nat) : Prop := pj_put u i0 19 ((u i0 19) + 1) fun u1 => (K u1)
set_option maxHeartbeats 1000000 in
theorem pt_Sv_takeRequest_16 {g : pj_G} {b : Nat} (C : pj_X g c_Sv_takeRequest 3 R_Sv none rm_Sv_takeRequest) {K : pj_M → Prop} (hE : pj_E g b (pj_Kv K))   {u : pj_M} {i0 : Nat}  (t0 : pj_T i0 = 8) (h : pb_Sv_takeRequest_16  K u i0) : pj_J g (pj_N g b u) 16 [some (.ref (b + i0)), none, none] [] := by
  unfold pb_Sv_takeRequest_16 at h
  refine pj_aload_n C d_Sv_takeRequest_16 (pc' := 17) (i := 0) (x := b + i0) rfl rfl rfl ?_
  refine pj_dup C d_Sv_takeRequest_17 (pc' := 18) rfl rfl ?_
  refine fg_Server_81_Server C t0 d_Sv_takeRequest_18 (pc' := 21) rfl ?_
  refine pj_iconst C d_Sv_takeRequest_21 (pc' := 22) rfl (v := 1) (by decide) ?_
  refine pj_iadd C d_Sv_takeRequest_22 (pc' := 23) rfl ?_
  refine fp_Server_81_Server C t0  d_Sv_takeRequest_23 (pc' := 26) rfl h (fun u1 h => ?_)
  exact pj_vret C hE d_Sv_takeRequest_26 ⟨rfl, h⟩
def pb_Sv_takeRequest_8  (K : pj_M → Prop) (u : pj_M) (i0 : Nat) (i1 : Nat) : Prop := pw_Sv_accepts u i0 i1 fun r2 u1 => (((r2 = 0) → (pb_Sv_takeRequest_16  K u1 i0)) ∧ (¬ (r2 = 0) → (pb_Sv_takeRequest_27  K u1 i0)))
set_option maxHeartbeats 1000000 in
theorem pt_Sv_takeRequest_8 {g : pj_G} {b : Nat} (C : pj_X g c_Sv_takeRequest 3 R_Sv none rm_Sv_takeRequest) {K : pj_M → Prop} (hE : pj_E g b (pj_Kv K))   {u : pj_M} {i0 : Nat} {i1 : Nat}  (t0 : pj_T i0 = 8) (t1 : pj_R i1) (h : pb_Sv_takeRequest_8  K u i0 i1) : pj_J g (pj_N g b u) 8 [some (.ref (b + i0)), some (.ref (b + i1)), none] [] := by
  unfold pb_Sv_takeRequest_8 at h
  refine pj_aload_n C d_Sv_takeRequest_8 (pc' := 9) (i := 0) (x := b + i0) rfl rfl rfl ?_
  refine pj_aload_n C d_Sv_takeRequest_9 (pc' := 10) (i := 1) (x := b + i1) rfl rfl rfl ?_
  refine ck_Server_77_Server C t0 t1 h d_Sv_takeRequest_10 (pc' := 13) rfl ⟨Nat.le_of_ble_eq_true rfl, Nat.le_of_ble_eq_true rfl⟩ (Nat.le_of_ble_eq_true rfl) (fun r2 u1 h => ?_)
  refine pj_if_ne C d_Sv_takeRequest_13 (pc' := 16) rfl (tgt := 27) (by decide) h (fun h => ?_) (fun h => ?_)
  · exact pj_cut (pj_le_s (pj_le_n (pj_le_n pj_le_e))) (pt_Sv_takeRequest_27 C hE  t0 h)
  · exact pj_cut (pj_le_s (pj_le_n (pj_le_n pj_le_e))) (pt_Sv_takeRequest_16 C hE  t0 h)
def pb_Sv_takeRequest_7  (K : pj_M → Prop) (u : pj_M)  : Prop := K u
set_option maxHeartbeats 1000000 in
theorem pt_Sv_takeRequest_7 {g : pj_G} {b : Nat} (C : pj_X g c_Sv_takeRequest 3 R_Sv none rm_Sv_takeRequest) {K : pj_M → Prop} (hE : pj_E g b (pj_Kv K))   {u : pj_M}    (h : pb_Sv_takeRequest_7  K u ) : pj_J g (pj_N g b u) 7 [none, none, none] [] := by
  unfold pb_Sv_takeRequest_7 at h
  exact pj_vret C hE d_Sv_takeRequest_7 ⟨rfl, h⟩
def pb_Sv_takeRequest_0  (K : pj_M → Prop) (u : pj_M) (i0 : Nat) (i1 : Nat) : Prop := (((u i0 13) = 0) → (pb_Sv_takeRequest_7  K u )) ∧ (¬ ((u i0 13) = 0) → (pb_Sv_takeRequest_8  K u i0 i1))
set_option maxHeartbeats 1000000 in
theorem pt_Sv_takeRequest_0 {g : pj_G} {b : Nat} (C : pj_X g c_Sv_takeRequest 3 R_Sv none rm_Sv_takeRequest) {K : pj_M → Prop} (hE : pj_E g b (pj_Kv K))   {u : pj_M} {i0 : Nat} {i1 : Nat}  (t0 : pj_T i0 = 8) (t1 : pj_R i1) (h : pb_Sv_takeRequest_0  K u i0 i1) : pj_J g (pj_N g b u) 0 [some (.ref (b + i0)), some (.ref (b + i1)), none] [] := by
  unfold pb_Sv_takeRequest_0 at h
  refine pj_aload_n C d_Sv_takeRequest_0 (pc' := 1) (i := 0) (x := b + i0) rfl rfl rfl ?_
  refine fg_Server_47_Server C t0 d_Sv_takeRequest_1 (pc' := 4) rfl ?_
  refine pj_if_ne C d_Sv_takeRequest_4 (pc' := 7) rfl (tgt := 8) (by decide) h (fun h => ?_) (fun h => ?_)
  · exact pj_cut (pj_le_s (pj_le_s (pj_le_n pj_le_e))) (pt_Sv_takeRequest_8 C hE  t0 t1 h)
  · exact pj_cut (pj_le_n (pj_le_n (pj_le_n pj_le_e))) (pt_Sv_takeRequest_7 C hE   h)
def pw_Sv_takeRequest (u : pj_M) (i0 : Nat) (i1 : Nat) (K : pj_M → Prop) : Prop := pb_Sv_takeRequest_0  K u i0 i1
theorem pc_Sv_takeRequest (l : Launch) (D : va_G) (E : Nat → ClassId) {b : Nat} {u : pj_M} {i0 : Nat} {i1 : Nat} {K : pj_M → Prop} (t0 : pj_T i0 = 8) (t1 : pj_R i1) (h : pw_Sv_takeRequest u i0 i1 K) : pj_C l y_Sv_takeRequest c_Sv_takeRequest 3 none rm_Sv_takeRequest D E b [.ref (b + i0), .ref (b + i1)] u (pj_Kv K) := by
  refine pj_met (own := R_Sv) (by decide +kernel) rfl (Nat.le_of_ble_eq_true rfl) (fun g hE C => ?_)
  unfold pw_Sv_takeRequest at h
  show pj_J g (pj_N g b u) 0 [some (.ref (b + i0)), some (.ref (b + i1)), none] []
  exact pj_cut (pj_le_s (pj_le_s (pj_le_n pj_le_e))) (pt_Sv_takeRequest_0 C hE  t0 t1 h)
/-! Server.tell(I)I -/
def rm_Sv_tell : Room := { frames := 0, cells := 0, slots := 0, locals := 0 }
def pb_Sv_tell_44  (K : Int32 → pj_M → Prop) (u : pj_M) (s0 : Int32) : Prop := K s0 u
set_option maxHeartbeats 1000000 in
theorem pt_Sv_tell_44 {g : pj_G} {b : Nat} (C : pj_X g c_Sv_tell 2 R_Sv (some .int) rm_Sv_tell) {K : Int32 → pj_M → Prop} (hE : pj_E g b (pj_Ki K))   {u : pj_M} {s0 : Int32}   (h : pb_Sv_tell_44  K u s0) : pj_J g (pj_N g b u) 44 [none, none] [.int s0] := by
  unfold pb_Sv_tell_44 at h
  exact pj_iret C hE d_Sv_tell_44 ⟨_, rfl, h⟩
def pb_Sv_tell_43  (K : Int32 → pj_M → Prop) (u : pj_M)  : Prop := pb_Sv_tell_44  K u 0
set_option maxHeartbeats 1000000 in
theorem pt_Sv_tell_43 {g : pj_G} {b : Nat} (C : pj_X g c_Sv_tell 2 R_Sv (some .int) rm_Sv_tell) {K : Int32 → pj_M → Prop} (hE : pj_E g b (pj_Ki K))   {u : pj_M}    (h : pb_Sv_tell_43  K u ) : pj_J g (pj_N g b u) 43 [none, none] [] := by
  unfold pb_Sv_tell_43 at h
  refine pj_iconst C d_Sv_tell_43 (pc' := 44) rfl (v := 0) (by decide) ?_
  exact pj_cut (pj_le_n (pj_le_n pj_le_e)) (pt_Sv_tell_44 C hE   h)
def pb_Sv_tell_39  (K : Int32 → pj_M → Prop) (u : pj_M)  : Prop := pb_Sv_tell_44  K u 1
set_option maxHeartbeats 1000000 in
theorem pt_Sv_tell_39 {g : pj_G} {b : Nat} (C : pj_X g c_Sv_tell 2 R_Sv (some .int) rm_Sv_tell) {K : Int32 → pj_M → Prop} (hE : pj_E g b (pj_Ki K))   {u : pj_M}    (h : pb_Sv_tell_39  K u ) : pj_J g (pj_N g b u) 39 [none, none] [] := by
  unfold pb_Sv_tell_39 at h
  refine pj_iconst C d_Sv_tell_39 (pc' := 40) rfl (v := 1) (by decide) ?_
  refine pj_goto C d_Sv_tell_40 (tgt := 44) (by decide) ?_
  exact pj_cut (pj_le_n (pj_le_n pj_le_e)) (pt_Sv_tell_44 C hE   h)
def pb_Sv_tell_32  (K : Int32 → pj_M → Prop) (u : pj_M) (i0 : Nat) : Prop := (((u i0 13) = 0) → (pb_Sv_tell_43  K u )) ∧ (¬ ((u i0 13) = 0) → (pb_Sv_tell_39  K u ))
set_option maxHeartbeats 1000000 in
theorem pt_Sv_tell_32 {g : pj_G} {b : Nat} (C : pj_X g c_Sv_tell 2 R_Sv (some .int) rm_Sv_tell) {K : Int32 → pj_M → Prop} (hE : pj_E g b (pj_Ki K))   {u : pj_M} {i0 : Nat}  (t0 : pj_T i0 = 8) (h : pb_Sv_tell_32  K u i0) : pj_J g (pj_N g b u) 32 [some (.ref (b + i0)), none] [] := by
  unfold pb_Sv_tell_32 at h
  refine pj_aload_n C d_Sv_tell_32 (pc' := 33) (i := 0) (x := b + i0) rfl rfl rfl ?_
  refine fg_Server_47_Server C t0 d_Sv_tell_33 (pc' := 36) rfl ?_
  refine pj_if_eq C d_Sv_tell_36 (pc' := 39) rfl (tgt := 43) (by decide) h (fun h => ?_) (fun h => ?_)
  · exact pj_cut (pj_le_n (pj_le_n pj_le_e)) (pt_Sv_tell_43 C hE   h)
  · exact pj_cut (pj_le_n (pj_le_n pj_le_e)) (pt_Sv_tell_39 C hE   h)
def pb_Sv_tell_45  (K : Int32 → pj_M → Prop) (u : pj_M) (i0 : Nat) : Prop := K (u i0 14) u
set_option maxHeartbeats 1000000 in
theorem pt_Sv_tell_45 {g : pj_G} {b : Nat} (C : pj_X g c_Sv_tell 2 R_Sv (some .int) rm_Sv_tell) {K : Int32 → pj_M → Prop} (hE : pj_E g b (pj_Ki K))   {u : pj_M} {i0 : Nat}  (t0 : pj_T i0 = 8) (h : pb_Sv_tell_45  K u i0) : pj_J g (pj_N g b u) 45 [some (.ref (b + i0)), none] [] := by
  unfold pb_Sv_tell_45 at h
  refine pj_aload_n C d_Sv_tell_45 (pc' := 46) (i := 0) (x := b + i0) rfl rfl rfl ?_
  refine fg_Server_68_Server C t0 d_Sv_tell_46 (pc' := 49) rfl ?_
  exact pj_iret C hE d_Sv_tell_49 ⟨_, rfl, h⟩
def pb_Sv_tell_50  (K : Int32 → pj_M → Prop) (u : pj_M) (i0 : Nat) : Prop := K (u i0 15) u
set_option maxHeartbeats 1000000 in
theorem pt_Sv_tell_50 {g : pj_G} {b : Nat} (C : pj_X g c_Sv_tell 2 R_Sv (some .int) rm_Sv_tell) {K : Int32 → pj_M → Prop} (hE : pj_E g b (pj_Ki K))   {u : pj_M} {i0 : Nat}  (t0 : pj_T i0 = 8) (h : pb_Sv_tell_50  K u i0) : pj_J g (pj_N g b u) 50 [some (.ref (b + i0)), none] [] := by
  unfold pb_Sv_tell_50 at h
  refine pj_aload_n C d_Sv_tell_50 (pc' := 51) (i := 0) (x := b + i0) rfl rfl rfl ?_
  refine fg_Server_195_Server C t0 d_Sv_tell_51 (pc' := 54) rfl ?_
  exact pj_iret C hE d_Sv_tell_54 ⟨_, rfl, h⟩
def pb_Sv_tell_55  (K : Int32 → pj_M → Prop) (u : pj_M) (i0 : Nat) : Prop := K (u i0 16) u
set_option maxHeartbeats 1000000 in
theorem pt_Sv_tell_55 {g : pj_G} {b : Nat} (C : pj_X g c_Sv_tell 2 R_Sv (some .int) rm_Sv_tell) {K : Int32 → pj_M → Prop} (hE : pj_E g b (pj_Ki K))   {u : pj_M} {i0 : Nat}  (t0 : pj_T i0 = 8) (h : pb_Sv_tell_55  K u i0) : pj_J g (pj_N g b u) 55 [some (.ref (b + i0)), none] [] := by
  unfold pb_Sv_tell_55 at h
  refine pj_aload_n C d_Sv_tell_55 (pc' := 56) (i := 0) (x := b + i0) rfl rfl rfl ?_
  refine fg_Server_221_Server C t0 d_Sv_tell_56 (pc' := 59) rfl ?_
  exact pj_iret C hE d_Sv_tell_59 ⟨_, rfl, h⟩
def pb_Sv_tell_60  (K : Int32 → pj_M → Prop) (u : pj_M)  : Prop := K ((-2)) u
set_option maxHeartbeats 1000000 in
theorem pt_Sv_tell_60 {g : pj_G} {b : Nat} (C : pj_X g c_Sv_tell 2 R_Sv (some .int) rm_Sv_tell) {K : Int32 → pj_M → Prop} (hE : pj_E g b (pj_Ki K))   {u : pj_M}    (h : pb_Sv_tell_60  K u ) : pj_J g (pj_N g b u) 60 [none, none] [] := by
  unfold pb_Sv_tell_60 at h
  refine pj_bipush C d_Sv_tell_60 (pc' := 62) rfl (v := (-2)) (by decide) ?_
  exact pj_iret C hE d_Sv_tell_62 ⟨_, rfl, h⟩
def pb_Sv_tell_0  (K : Int32 → pj_M → Prop) (u : pj_M) (i0 : Nat) (x1 : Int32) : Prop := ((x1 = 0) → (pb_Sv_tell_32  K u i0)) ∧ (¬ (x1 = 0) → ((x1 = 1) → (pb_Sv_tell_45  K u i0)) ∧ (¬ (x1 = 1) → ((x1 = 2) → (pb_Sv_tell_50  K u i0)) ∧ (¬ (x1 = 2) → ((x1 = 3) → (pb_Sv_tell_55  K u i0)) ∧ (¬ (x1 = 3) → (pb_Sv_tell_60  K u )))))
set_option maxHeartbeats 1000000 in
theorem pt_Sv_tell_0 {g : pj_G} {b : Nat} (C : pj_X g c_Sv_tell 2 R_Sv (some .int) rm_Sv_tell) {K : Int32 → pj_M → Prop} (hE : pj_E g b (pj_Ki K))   {u : pj_M} {i0 : Nat} {x1 : Int32}  (t0 : pj_T i0 = 8) (h : pb_Sv_tell_0  K u i0 x1) : pj_J g (pj_N g b u) 0 [some (.ref (b + i0)), some (.int x1)] [] := by
  unfold pb_Sv_tell_0 at h
  refine pj_iload_n C d_Sv_tell_0 (pc' := 1) (i := 1) (x := x1) rfl rfl rfl ?_
  by_cases e0 : x1 = 0
  · have h := h.1 e0
    refine pj_tsIn C d_Sv_tell_1 (kv := 0) (by rw [e0]; decide) (by decide) (by decide) (tgt := 32) rfl (by decide) ?_
    exact pj_cut (pj_le_s (pj_le_n pj_le_e)) (pt_Sv_tell_32 C hE  t0 h)
  have h := h.2 e0
  by_cases e1 : x1 = 1
  · have h := h.1 e1
    refine pj_tsIn C d_Sv_tell_1 (kv := 1) (by rw [e1]; decide) (by decide) (by decide) (tgt := 45) rfl (by decide) ?_
    exact pj_cut (pj_le_s (pj_le_n pj_le_e)) (pt_Sv_tell_45 C hE  t0 h)
  have h := h.2 e1
  by_cases e2 : x1 = 2
  · have h := h.1 e2
    refine pj_tsIn C d_Sv_tell_1 (kv := 2) (by rw [e2]; decide) (by decide) (by decide) (tgt := 50) rfl (by decide) ?_
    exact pj_cut (pj_le_s (pj_le_n pj_le_e)) (pt_Sv_tell_50 C hE  t0 h)
  have h := h.2 e2
  by_cases e3 : x1 = 3
  · have h := h.1 e3
    refine pj_tsIn C d_Sv_tell_1 (kv := 3) (by rw [e3]; decide) (by decide) (by decide) (tgt := 55) rfl (by decide) ?_
    exact pj_cut (pj_le_s (pj_le_n pj_le_e)) (pt_Sv_tell_55 C hE  t0 h)
  have h := h.2 e3
  have z0 := lv_neT (a := 0) e0 (by decide)
  have z1 := lv_neT (a := 1) e1 (by decide)
  have z2 := lv_neT (a := 2) e2 (by decide)
  have z3 := lv_neT (a := 3) e3 (by decide)
  refine pj_tsOut C d_Sv_tell_1 (by omega) (tgt := 60) (by decide) ?_
  exact pj_cut (pj_le_n (pj_le_n pj_le_e)) (pt_Sv_tell_60 C hE   h)
def pw_Sv_tell (u : pj_M) (i0 : Nat) (x1 : Int32) (K : Int32 → pj_M → Prop) : Prop := pb_Sv_tell_0  K u i0 x1
theorem pc_Sv_tell (l : Launch) (D : va_G) (E : Nat → ClassId) {b : Nat} {u : pj_M} {i0 : Nat} {x1 : Int32} {K : Int32 → pj_M → Prop} (t0 : pj_T i0 = 8) (h : pw_Sv_tell u i0 x1 K) : pj_C l y_Sv_tell c_Sv_tell 2 (some .int) rm_Sv_tell D E b [.ref (b + i0), .int x1] u (pj_Ki K) := by
  refine pj_met (own := R_Sv) (by decide +kernel) rfl (Nat.le_of_ble_eq_true rfl) (fun g hE C => ?_)
  unfold pw_Sv_tell at h
  show pj_J g (pj_N g b u) 0 [some (.ref (b + i0)), some (.int x1)] []
  exact pj_cut (pj_le_s (pj_le_s pj_le_e)) (pt_Sv_tell_0 C hE  t0 h)
