/-! PortGuard.user(III)Z -/
theorem fg_PortGuard_10_PortGuard {g : pj_G} {b : Nat} {cc : ByteArray} {nL : Nat} {ret : Option FieldType} {rm : Room} {u : pj_M} {pc pc' : Nat} {vs : List (Option Value)} {st : List Value} (C : pj_X g cc nL R_PG ret rm) {i : Nat} (t : pj_T i = 0) (hdg : decode cc pc = .ok (.getfield 10, 3)) (hp : pc + 3 = pc') (kk : pj_J g (pj_N g b u) pc' vs (.ref (b + 1) :: st)) : pj_J g (pj_N g b u) pc vs (.ref (b + i) :: st) :=
  pj_get C cl_PortGuard hin_PortGuard (k := 0) (Nat.le_of_ble_eq_true rfl) wm_525 (Or.inl rfl) (pj_lt t (by decide)) (fun E => ko_0 t) rfl hdg hp kk
theorem fg_PortGuard_58_Users {g : pj_G} {b : Nat} {cc : ByteArray} {nL : Nat} {ret : Option FieldType} {rm : Room} {u : pj_M} {pc pc' : Nat} {vs : List (Option Value)} {st : List Value} (C : pj_X g cc nL R_PG ret rm) {i : Nat} (t : pj_T i = 1) (hdg : decode cc pc = .ok (.getfield 58, 3)) (hp : pc + 3 = pc') (kk : pj_J g (pj_N g b u) pc' vs (.ref (b + 2) :: st)) : pj_J g (pj_N g b u) pc vs (.ref (b + i) :: st) :=
  pj_get C cl_Users hin_Users (k := 0) (Nat.le_of_ble_eq_true rfl) wm_122 (Or.inl rfl) (pj_lt t (by decide)) (fun E => ko_1 t) rfl hdg hp kk
theorem fg_PortGuard_62_Users {g : pj_G} {b : Nat} {cc : ByteArray} {nL : Nat} {ret : Option FieldType} {rm : Room} {u : pj_M} {pc pc' : Nat} {vs : List (Option Value)} {st : List Value} (C : pj_X g cc nL R_PG ret rm) {i : Nat} (t : pj_T i = 1) (hdg : decode cc pc = .ok (.getfield 62, 3)) (hp : pc + 3 = pc') (kk : pj_J g (pj_N g b u) pc' vs (.ref (b + 3) :: st)) : pj_J g (pj_N g b u) pc vs (.ref (b + i) :: st) :=
  pj_get C cl_Users hin_Users (k := 1) (Nat.le_of_ble_eq_true rfl) wm_125 (Or.inl rfl) (pj_lt t (by decide)) (fun E => ko_1 t) rfl hdg hp kk
def rm_PG_user : Room := { frames := 0, cells := 0, slots := 0, locals := 0 }
def pb_PG_user_20  (K : Int32 → pj_M → Prop) (u : pj_M)  : Prop := K 0 u
set_option maxHeartbeats 1000000 in
theorem pt_PG_user_20 {g : pj_G} {b : Nat} (C : pj_X g c_PG_user 4 R_PG (some .boolean) rm_PG_user) {K : Int32 → pj_M → Prop} (hE : pj_E g b (pj_Ki K))   {u : pj_M}    (h : pb_PG_user_20  K u ) : pj_J g (pj_N g b u) 20 [none, none, none, none] [] := by
  unfold pb_PG_user_20 at h
  refine pj_iconst C d_PG_user_20 (pc' := 21) rfl (v := 0) (by decide) ?_
  exact pj_zret C hE d_PG_user_21 pj_bi0 ⟨_, rfl, h⟩
def pb_PG_user_22  (K : Int32 → pj_M → Prop) (u : pj_M) (x1 : Int32) (x2 : Int32) (x3 : Int32) : Prop := vp_in x1 8 ∧ pj_put u 2 x1.toNatClampNeg x2 fun u1 => (vp_in x1 8 ∧ pj_put u1 3 x1.toNatClampNeg x3 fun u2 => (K 1 u2))
set_option maxHeartbeats 1000000 in
theorem pt_PG_user_22 {g : pj_G} {b : Nat} (C : pj_X g c_PG_user 4 R_PG (some .boolean) rm_PG_user) {K : Int32 → pj_M → Prop} (hE : pj_E g b (pj_Ki K))   {u : pj_M} {x1 : Int32} {x2 : Int32} {x3 : Int32}   (h : pb_PG_user_22  K u x1 x2 x3) : pj_J g (pj_N g b u) 22 [some (.ref (b + 0)), some (.int x1), some (.int x2), some (.int x3)] [] := by
  unfold pb_PG_user_22 at h
  refine pj_aload_n C d_PG_user_22 (pc' := 23) (i := 0) (x := b + 0) rfl rfl rfl ?_
  refine fg_PortGuard_10_PortGuard C tk_0 d_PG_user_23 (pc' := 26) rfl ?_
  refine fg_PortGuard_58_Users C tk_1 d_PG_user_26 (pc' := 29) rfl ?_
  refine pj_iload_n C d_PG_user_29 (pc' := 30) (i := 1) (x := x1) rfl rfl rfl ?_
  refine pj_iload_n C d_PG_user_30 (pc' := 31) (i := 2) (x := x2) rfl rfl rfl ?_
  refine pj_iast C (pj_lt tk_2 (by decide)) (fun E u => ka_20 tk_2) d_PG_user_31 (pc' := 32) rfl h (fun u1 h => ?_)
  refine pj_aload_n C d_PG_user_32 (pc' := 33) (i := 0) (x := b + 0) rfl rfl rfl ?_
  refine fg_PortGuard_10_PortGuard C tk_0 d_PG_user_33 (pc' := 36) rfl ?_
  refine fg_PortGuard_62_Users C tk_1 d_PG_user_36 (pc' := 39) rfl ?_
  refine pj_iload_n C d_PG_user_39 (pc' := 40) (i := 1) (x := x1) rfl rfl rfl ?_
  refine pj_iload_n C d_PG_user_40 (pc' := 41) (i := 3) (x := x3) rfl rfl rfl ?_
  refine pj_iast C (pj_lt tk_3 (by decide)) (fun E u => ka_20 tk_3) d_PG_user_41 (pc' := 42) rfl h (fun u2 h => ?_)
  refine pj_iconst C d_PG_user_42 (pc' := 43) rfl (v := 1) (by decide) ?_
  exact pj_zret C hE d_PG_user_43 pj_bi1 ⟨_, rfl, h⟩
def pb_PG_user_15  (K : Int32 → pj_M → Prop) (u : pj_M) (x1 : Int32) (x2 : Int32) (x3 : Int32) : Prop := ((x3 ≤ 3) → (pb_PG_user_22  K u x1 x2 x3)) ∧ (¬ (x3 ≤ 3) → (pb_PG_user_20  K u ))
set_option maxHeartbeats 1000000 in
theorem pt_PG_user_15 {g : pj_G} {b : Nat} (C : pj_X g c_PG_user 4 R_PG (some .boolean) rm_PG_user) {K : Int32 → pj_M → Prop} (hE : pj_E g b (pj_Ki K))   {u : pj_M} {x1 : Int32} {x2 : Int32} {x3 : Int32}   (h : pb_PG_user_15  K u x1 x2 x3) : pj_J g (pj_N g b u) 15 [some (.ref (b + 0)), some (.int x1), some (.int x2), some (.int x3)] [] := by
  unfold pb_PG_user_15 at h
  refine pj_iload_n C d_PG_user_15 (pc' := 16) (i := 3) (x := x3) rfl rfl rfl ?_
  refine pj_iconst C d_PG_user_16 (pc' := 17) rfl (v := 3) (by decide) ?_
  refine pj_icmp_le C d_PG_user_17 (pc' := 20) rfl (tgt := 22) (by decide) h (fun h => ?_) (fun h => ?_)
  · exact pj_cut (pj_le_s (pj_le_s (pj_le_s (pj_le_s pj_le_e)))) (pt_PG_user_22 C hE   h)
  · exact pj_cut (pj_le_n (pj_le_n (pj_le_n (pj_le_n pj_le_e)))) (pt_PG_user_20 C hE   h)
def pb_PG_user_10  (K : Int32 → pj_M → Prop) (u : pj_M) (x1 : Int32) (x2 : Int32) (x3 : Int32) : Prop := ((x3 < 1) → (pb_PG_user_20  K u )) ∧ (¬ (x3 < 1) → (pb_PG_user_15  K u x1 x2 x3))
set_option maxHeartbeats 1000000 in
theorem pt_PG_user_10 {g : pj_G} {b : Nat} (C : pj_X g c_PG_user 4 R_PG (some .boolean) rm_PG_user) {K : Int32 → pj_M → Prop} (hE : pj_E g b (pj_Ki K))   {u : pj_M} {x1 : Int32} {x2 : Int32} {x3 : Int32}   (h : pb_PG_user_10  K u x1 x2 x3) : pj_J g (pj_N g b u) 10 [some (.ref (b + 0)), some (.int x1), some (.int x2), some (.int x3)] [] := by
  unfold pb_PG_user_10 at h
  refine pj_iload_n C d_PG_user_10 (pc' := 11) (i := 3) (x := x3) rfl rfl rfl ?_
  refine pj_iconst C d_PG_user_11 (pc' := 12) rfl (v := 1) (by decide) ?_
  refine pj_icmp_lt C d_PG_user_12 (pc' := 15) rfl (tgt := 20) (by decide) h (fun h => ?_) (fun h => ?_)
  · exact pj_cut (pj_le_n (pj_le_n (pj_le_n (pj_le_n pj_le_e)))) (pt_PG_user_20 C hE   h)
  · exact pj_cut (pj_le_s (pj_le_s (pj_le_s (pj_le_s pj_le_e)))) (pt_PG_user_15 C hE   h)
def pb_PG_user_4  (K : Int32 → pj_M → Prop) (u : pj_M) (x1 : Int32) (x2 : Int32) (x3 : Int32) : Prop := ((8 ≤ x1) → (pb_PG_user_20  K u )) ∧ (¬ (8 ≤ x1) → (pb_PG_user_10  K u x1 x2 x3))
set_option maxHeartbeats 1000000 in
theorem pt_PG_user_4 {g : pj_G} {b : Nat} (C : pj_X g c_PG_user 4 R_PG (some .boolean) rm_PG_user) {K : Int32 → pj_M → Prop} (hE : pj_E g b (pj_Ki K))   {u : pj_M} {x1 : Int32} {x2 : Int32} {x3 : Int32}   (h : pb_PG_user_4  K u x1 x2 x3) : pj_J g (pj_N g b u) 4 [some (.ref (b + 0)), some (.int x1), some (.int x2), some (.int x3)] [] := by
  unfold pb_PG_user_4 at h
  refine pj_iload_n C d_PG_user_4 (pc' := 5) (i := 1) (x := x1) rfl rfl rfl ?_
  refine pj_bipush C d_PG_user_5 (pc' := 7) rfl (v := 8) (by decide) ?_
  refine pj_icmp_ge C d_PG_user_7 (pc' := 10) rfl (tgt := 20) (by decide) h (fun h => ?_) (fun h => ?_)
  · exact pj_cut (pj_le_n (pj_le_n (pj_le_n (pj_le_n pj_le_e)))) (pt_PG_user_20 C hE   h)
  · exact pj_cut (pj_le_s (pj_le_s (pj_le_s (pj_le_s pj_le_e)))) (pt_PG_user_10 C hE   h)
def pb_PG_user_0  (K : Int32 → pj_M → Prop) (u : pj_M) (x1 : Int32) (x2 : Int32) (x3 : Int32) : Prop := ((x1 < 0) → (pb_PG_user_20  K u )) ∧ (¬ (x1 < 0) → (pb_PG_user_4  K u x1 x2 x3))
set_option maxHeartbeats 1000000 in
theorem pt_PG_user_0 {g : pj_G} {b : Nat} (C : pj_X g c_PG_user 4 R_PG (some .boolean) rm_PG_user) {K : Int32 → pj_M → Prop} (hE : pj_E g b (pj_Ki K))   {u : pj_M} {x1 : Int32} {x2 : Int32} {x3 : Int32}   (h : pb_PG_user_0  K u x1 x2 x3) : pj_J g (pj_N g b u) 0 [some (.ref (b + 0)), some (.int x1), some (.int x2), some (.int x3)] [] := by
  unfold pb_PG_user_0 at h
  refine pj_iload_n C d_PG_user_0 (pc' := 1) (i := 1) (x := x1) rfl rfl rfl ?_
  refine pj_if_lt C d_PG_user_1 (pc' := 4) rfl (tgt := 20) (by decide) h (fun h => ?_) (fun h => ?_)
  · exact pj_cut (pj_le_n (pj_le_n (pj_le_n (pj_le_n pj_le_e)))) (pt_PG_user_20 C hE   h)
  · exact pj_cut (pj_le_s (pj_le_s (pj_le_s (pj_le_s pj_le_e)))) (pt_PG_user_4 C hE   h)
def pw_PG_user (u : pj_M) (x1 : Int32) (x2 : Int32) (x3 : Int32) (K : Int32 → pj_M → Prop) : Prop := pb_PG_user_0  K u x1 x2 x3
theorem pc_PG_user (l : Launch) (D : va_G) (E : Nat → ClassId) {b : Nat} {u : pj_M} {x1 : Int32} {x2 : Int32} {x3 : Int32} {K : Int32 → pj_M → Prop}  (h : pw_PG_user u x1 x2 x3 K) : pj_C l y_PG_user c_PG_user 4 (some .boolean) rm_PG_user D E b [.ref (b + 0), .int x1, .int x2, .int x3] u (pj_Ki K) := by
  refine pj_met (own := R_PG) (by decide +kernel) rfl (Nat.le_of_ble_eq_true rfl) (fun g hE C => ?_)
  unfold pw_PG_user at h
  show pj_J g (pj_N g b u) 0 [some (.ref (b + 0)), some (.int x1), some (.int x2), some (.int x3)] []
  exact pj_cut (pj_le_s (pj_le_s (pj_le_s (pj_le_s pj_le_e)))) (pt_PG_user_0 C hE   h)
/-! PortGuard.isPort(I)Z -/
def rm_PG_isPort : Room := { frames := 0, cells := 0, slots := 0, locals := 0 }
def pb_PG_isPort_14  (K : Int32 → pj_M → Prop) (u : pj_M) (s0 : Int32) : Prop := pj_bi s0 ∧ K s0 u
set_option maxHeartbeats 1000000 in
theorem pt_PG_isPort_14 {g : pj_G} {b : Nat} (C : pj_X g c_PG_isPort 1 R_PG (some .boolean) rm_PG_isPort) {K : Int32 → pj_M → Prop} (hE : pj_E g b (pj_Ki K))   {u : pj_M} {s0 : Int32}   (h : pb_PG_isPort_14  K u s0) : pj_J g (pj_N g b u) 14 [none] [.int s0] := by
  unfold pb_PG_isPort_14 at h
  exact pj_zret C hE d_PG_isPort_14 h.1 ⟨_, rfl, h.2⟩
def pb_PG_isPort_13  (K : Int32 → pj_M → Prop) (u : pj_M)  : Prop := pb_PG_isPort_14  K u 0
set_option maxHeartbeats 1000000 in
theorem pt_PG_isPort_13 {g : pj_G} {b : Nat} (C : pj_X g c_PG_isPort 1 R_PG (some .boolean) rm_PG_isPort) {K : Int32 → pj_M → Prop} (hE : pj_E g b (pj_Ki K))   {u : pj_M}    (h : pb_PG_isPort_13  K u ) : pj_J g (pj_N g b u) 13 [none] [] := by
  unfold pb_PG_isPort_13 at h
  refine pj_iconst C d_PG_isPort_13 (pc' := 14) rfl (v := 0) (by decide) ?_
  exact pj_cut (pj_le_n pj_le_e) (pt_PG_isPort_14 C hE   h)
def pb_PG_isPort_9  (K : Int32 → pj_M → Prop) (u : pj_M)  : Prop := pb_PG_isPort_14  K u 1
set_option maxHeartbeats 1000000 in
theorem pt_PG_isPort_9 {g : pj_G} {b : Nat} (C : pj_X g c_PG_isPort 1 R_PG (some .boolean) rm_PG_isPort) {K : Int32 → pj_M → Prop} (hE : pj_E g b (pj_Ki K))   {u : pj_M}    (h : pb_PG_isPort_9  K u ) : pj_J g (pj_N g b u) 9 [none] [] := by
  unfold pb_PG_isPort_9 at h
  refine pj_iconst C d_PG_isPort_9 (pc' := 10) rfl (v := 1) (by decide) ?_
  refine pj_goto C d_PG_isPort_10 (tgt := 14) (by decide) ?_
  exact pj_cut (pj_le_n pj_le_e) (pt_PG_isPort_14 C hE   h)
def pb_PG_isPort_4  (K : Int32 → pj_M → Prop) (u : pj_M) (x0 : Int32) : Prop := ((4 ≤ x0) → (pb_PG_isPort_13  K u )) ∧ (¬ (4 ≤ x0) → (pb_PG_isPort_9  K u ))
set_option maxHeartbeats 1000000 in
theorem pt_PG_isPort_4 {g : pj_G} {b : Nat} (C : pj_X g c_PG_isPort 1 R_PG (some .boolean) rm_PG_isPort) {K : Int32 → pj_M → Prop} (hE : pj_E g b (pj_Ki K))   {u : pj_M} {x0 : Int32}   (h : pb_PG_isPort_4  K u x0) : pj_J g (pj_N g b u) 4 [some (.int x0)] [] := by
  unfold pb_PG_isPort_4 at h
  refine pj_iload_n C d_PG_isPort_4 (pc' := 5) (i := 0) (x := x0) rfl rfl rfl ?_
  refine pj_iconst C d_PG_isPort_5 (pc' := 6) rfl (v := 4) (by decide) ?_
  refine pj_icmp_ge C d_PG_isPort_6 (pc' := 9) rfl (tgt := 13) (by decide) h (fun h => ?_) (fun h => ?_)
  · exact pj_cut (pj_le_n pj_le_e) (pt_PG_isPort_13 C hE   h)
  · exact pj_cut (pj_le_n pj_le_e) (pt_PG_isPort_9 C hE   h)
def pb_PG_isPort_0  (K : Int32 → pj_M → Prop) (u : pj_M) (x0 : Int32) : Prop := ((x0 < 0) → (pb_PG_isPort_13  K u )) ∧ (¬ (x0 < 0) → (pb_PG_isPort_4  K u x0))
set_option maxHeartbeats 1000000 in
theorem pt_PG_isPort_0 {g : pj_G} {b : Nat} (C : pj_X g c_PG_isPort 1 R_PG (some .boolean) rm_PG_isPort) {K : Int32 → pj_M → Prop} (hE : pj_E g b (pj_Ki K))   {u : pj_M} {x0 : Int32}   (h : pb_PG_isPort_0  K u x0) : pj_J g (pj_N g b u) 0 [some (.int x0)] [] := by
  unfold pb_PG_isPort_0 at h
  refine pj_iload_n C d_PG_isPort_0 (pc' := 1) (i := 0) (x := x0) rfl rfl rfl ?_
  refine pj_if_lt C d_PG_isPort_1 (pc' := 4) rfl (tgt := 13) (by decide) h (fun h => ?_) (fun h => ?_)
  · exact pj_cut (pj_le_n pj_le_e) (pt_PG_isPort_13 C hE   h)
  · exact pj_cut (pj_le_s pj_le_e) (pt_PG_isPort_4 C hE   h)
def pw_PG_isPort (u : pj_M) (x0 : Int32) (K : Int32 → pj_M → Prop) : Prop := pb_PG_isPort_0  K u x0
theorem pc_PG_isPort (l : Launch) (D : va_G) (E : Nat → ClassId) {b : Nat} {u : pj_M} {x0 : Int32} {K : Int32 → pj_M → Prop}  (h : pw_PG_isPort u x0 K) : pj_C l y_PG_isPort c_PG_isPort 1 (some .boolean) rm_PG_isPort D E b [.int x0] u (pj_Ki K) := by
  refine pj_met (own := R_PG) (by decide +kernel) rfl (Nat.le_of_ble_eq_true rfl) (fun g hE C => ?_)
  unfold pw_PG_isPort at h
  show pj_J g (pj_N g b u) 0 [some (.int x0)] []
  exact pj_cut (pj_le_s pj_le_e) (pt_PG_isPort_0 C hE   h)
/-! PortGuard.host(IIII)Z -/
theorem fg_PortGuard_25_PortGuard {g : pj_G} {b : Nat} {cc : ByteArray} {nL : Nat} {ret : Option FieldType} {rm : Room} {u : pj_M} {pc pc' : Nat} {vs : List (Option Value)} {st : List Value} (C : pj_X g cc nL R_PG ret rm) {i : Nat} (t : pj_T i = 0) (hdg : decode cc pc = .ok (.getfield 25, 3)) (hp : pc + 3 = pc') (kk : pj_J g (pj_N g b u) pc' vs (.ref (b + 90) :: st)) : pj_J g (pj_N g b u) pc vs (.ref (b + i) :: st) :=
  pj_get C cl_PortGuard hin_PortGuard (k := 2) (Nat.le_of_ble_eq_true rfl) wm_527 (Or.inl rfl) (pj_lt t (by decide)) (fun E => ko_0 t) rfl hdg hp kk
theorem ck_PortGuard_65 {g : pj_G} {b : Nat} {cc : ByteArray} {nL : Nat} {ret : Option FieldType} {rm : Room} {u : pj_M} {pc pc' : Nat} {vs : List (Option Value)} {st : List Value} (C : pj_X g cc nL R_PG ret rm) {x0 : Int32} {K : Int32 → pj_M → Prop}  (h : pw_PG_isPort u x0 K) (hdg : decode cc pc = .ok (.invokestatic 65, 3)) (hp : pc + 3 = pc') (hR : rm_PG_isPort.frames + 1 ≤ rm.frames ∧ 8 + (1 + 11) + rm_PG_isPort.locals ≤ rm.locals) (h8 : (st.map fun v => v.category).sum ≤ 8) (kk : ∀ r u', K r u' → pj_J g (pj_N g b u') pc' vs (.int r :: st)) : pj_J g (pj_N g b u) pc vs (.int x0 :: st) :=
  pj_callS C (As := [.int x0]) (fun l D E => pc_PG_isPort l D E  h) rfl rfl wm_555 wm_556 wm_91 wm_557 (by decide +kernel) (n := 1) rfl hR rfl h8 hdg hp (fun v u' hq => by obtain ⟨r, rfl, hk⟩ := hq; exact kk r u' hk)
theorem ck_PortGuard_69_Host {g : pj_G} {b : Nat} {cc : ByteArray} {nL : Nat} {ret : Option FieldType} {rm : Room} {u : pj_M} {pc pc' : Nat} {vs : List (Option Value)} {st : List Value} (C : pj_X g cc nL R_PG ret rm) {i0 : Nat} {x1 : Int32} {x2 : Int32} {x3 : Int32} {K : pj_M → Prop} (t0 : pj_T i0 = 6) (h : pw_Ho_become u i0 x1 x2 x3 K) (hdg : decode cc pc = .ok (.invokevirtual 69, 3)) (hp : pc + 3 = pc') (hR : rm_Ho_become.frames + 1 ≤ rm.frames ∧ 8 + (4 + 11) + rm_Ho_become.locals ≤ rm.locals) (h8 : (st.map fun v => v.category).sum ≤ 8) (kk : ∀ u', K u' → pj_J g (pj_N g b u') pc' vs st) : pj_J g (pj_N g b u) pc vs (.int x3 :: .int x2 :: .int x1 :: .ref (b + i0) :: st) :=
  pj_callV C (As := [.int x1, .int x2, .int x3]) (fun l D E => pc_Ho_become l D E t0 h) rfl rfl cl_Host (pj_lt t0 (by decide)) (fun E => ko_6 t0) wm_558 wm_559 wm_560 wm_95 wm_561 (by decide +kernel) (n := 3) rfl hR rfl h8 hdg hp (fun v u' hq => by obtain ⟨rfl, hk⟩ := hq; exact kk u' hk)
def rm_PG_host : Room := { frames := 2, cells := 0, slots := 0, locals := 43 }
def pb_PG_host_29  (K : Int32 → pj_M → Prop) (u : pj_M)  : Prop := K 0 u
set_option maxHeartbeats 1000000 in
theorem pt_PG_host_29 {g : pj_G} {b : Nat} (C : pj_X g c_PG_host 5 R_PG (some .boolean) rm_PG_host) {K : Int32 → pj_M → Prop} (hE : pj_E g b (pj_Ki K))   {u : pj_M}    (h : pb_PG_host_29  K u ) : pj_J g (pj_N g b u) 29 [none, none, none, none, none] [] := by
  unfold pb_PG_host_29 at h
  refine pj_iconst C d_PG_host_29 (pc' := 30) rfl (v := 0) (by decide) ?_
  exact pj_zret C hE d_PG_host_30 pj_bi0 ⟨_, rfl, h⟩
def pb_PG_host_31  (K : Int32 → pj_M → Prop) (u : pj_M) (x1 : Int32) (x2 : Int32) (x3 : Int32) (x4 : Int32) : Prop := vp_in x1 4 ∧ (pw_Ho_become u (91 + 5 * x1.toNatClampNeg) x2 x3 x4 fun u2 => (K 1 u2))
set_option maxHeartbeats 1000000 in
theorem pt_PG_host_31 {g : pj_G} {b : Nat} (C : pj_X g c_PG_host 5 R_PG (some .boolean) rm_PG_host) {K : Int32 → pj_M → Prop} (hE : pj_E g b (pj_Ki K))   {u : pj_M} {x1 : Int32} {x2 : Int32} {x3 : Int32} {x4 : Int32}   (h : pb_PG_host_31  K u x1 x2 x3 x4) : pj_J g (pj_N g b u) 31 [some (.ref (b + 0)), some (.int x1), some (.int x2), some (.int x3), some (.int x4)] [] := by
  unfold pb_PG_host_31 at h
  refine pj_aload_n C d_PG_host_31 (pc' := 32) (i := 0) (x := b + 0) rfl rfl rfl ?_
  refine fg_PortGuard_25_PortGuard C tk_0 d_PG_host_32 (pc' := 35) rfl ?_
  refine pj_iload_n C d_PG_host_35 (pc' := 36) (i := 1) (x := x1) rfl rfl rfl ?_
  obtain ⟨hv1, h⟩ := h
  refine pj_aldS C (pj_lt tk_90 (by decide)) (fun E u => ka_25 tk_90) (fun E => rfl) d_PG_host_36 (pc' := 37) rfl ⟨hv1, h⟩ (fun h => ?_)
  refine pj_iload_n C d_PG_host_37 (pc' := 38) (i := 2) (x := x2) rfl rfl rfl ?_
  refine pj_iload_n C d_PG_host_38 (pc' := 39) (i := 3) (x := x3) rfl rfl rfl ?_
  refine pj_iload C d_PG_host_39 (pc' := 41) (i := 4) (x := x4) rfl rfl ?_
  refine ck_PortGuard_69_Host C (pe_25 tk_90 hv1) h d_PG_host_41 (pc' := 44) rfl ⟨Nat.le_of_ble_eq_true rfl, Nat.le_of_ble_eq_true rfl⟩ (Nat.le_of_ble_eq_true rfl) (fun u2 h => ?_)
  refine pj_iconst C d_PG_host_44 (pc' := 45) rfl (v := 1) (by decide) ?_
  exact pj_zret C hE d_PG_host_45 pj_bi1 ⟨_, rfl, h⟩
def pb_PG_host_23  (K : Int32 → pj_M → Prop) (u : pj_M) (x1 : Int32) (x2 : Int32) (x3 : Int32) (x4 : Int32) : Prop := ((x4 ≤ 3) → (pb_PG_host_31  K u x1 x2 x3 x4)) ∧ (¬ (x4 ≤ 3) → (pb_PG_host_29  K u ))
set_option maxHeartbeats 1000000 in
theorem pt_PG_host_23 {g : pj_G} {b : Nat} (C : pj_X g c_PG_host 5 R_PG (some .boolean) rm_PG_host) {K : Int32 → pj_M → Prop} (hE : pj_E g b (pj_Ki K))   {u : pj_M} {x1 : Int32} {x2 : Int32} {x3 : Int32} {x4 : Int32}   (h : pb_PG_host_23  K u x1 x2 x3 x4) : pj_J g (pj_N g b u) 23 [some (.ref (b + 0)), some (.int x1), some (.int x2), some (.int x3), some (.int x4)] [] := by
  unfold pb_PG_host_23 at h
  refine pj_iload C d_PG_host_23 (pc' := 25) (i := 4) (x := x4) rfl rfl ?_
  refine pj_iconst C d_PG_host_25 (pc' := 26) rfl (v := 3) (by decide) ?_
  refine pj_icmp_le C d_PG_host_26 (pc' := 29) rfl (tgt := 31) (by decide) h (fun h => ?_) (fun h => ?_)
  · exact pj_cut (pj_le_s (pj_le_s (pj_le_s (pj_le_s (pj_le_s pj_le_e))))) (pt_PG_host_31 C hE   h)
  · exact pj_cut (pj_le_n (pj_le_n (pj_le_n (pj_le_n (pj_le_n pj_le_e))))) (pt_PG_host_29 C hE   h)
def pb_PG_host_18  (K : Int32 → pj_M → Prop) (u : pj_M) (x1 : Int32) (x2 : Int32) (x3 : Int32) (x4 : Int32) : Prop := ((x4 < 0) → (pb_PG_host_29  K u )) ∧ (¬ (x4 < 0) → (pb_PG_host_23  K u x1 x2 x3 x4))
set_option maxHeartbeats 1000000 in
theorem pt_PG_host_18 {g : pj_G} {b : Nat} (C : pj_X g c_PG_host 5 R_PG (some .boolean) rm_PG_host) {K : Int32 → pj_M → Prop} (hE : pj_E g b (pj_Ki K))   {u : pj_M} {x1 : Int32} {x2 : Int32} {x3 : Int32} {x4 : Int32}   (h : pb_PG_host_18  K u x1 x2 x3 x4) : pj_J g (pj_N g b u) 18 [some (.ref (b + 0)), some (.int x1), some (.int x2), some (.int x3), some (.int x4)] [] := by
  unfold pb_PG_host_18 at h
  refine pj_iload C d_PG_host_18 (pc' := 20) (i := 4) (x := x4) rfl rfl ?_
  refine pj_if_lt C d_PG_host_20 (pc' := 23) rfl (tgt := 29) (by decide) h (fun h => ?_) (fun h => ?_)
  · exact pj_cut (pj_le_n (pj_le_n (pj_le_n (pj_le_n (pj_le_n pj_le_e))))) (pt_PG_host_29 C hE   h)
  · exact pj_cut (pj_le_s (pj_le_s (pj_le_s (pj_le_s (pj_le_s pj_le_e))))) (pt_PG_host_23 C hE   h)
def pb_PG_host_12  (K : Int32 → pj_M → Prop) (u : pj_M) (x1 : Int32) (x2 : Int32) (x3 : Int32) (x4 : Int32) : Prop := ((8 ≤ x2) → (pb_PG_host_29  K u )) ∧ (¬ (8 ≤ x2) → (pb_PG_host_18  K u x1 x2 x3 x4))
set_option maxHeartbeats 1000000 in
theorem pt_PG_host_12 {g : pj_G} {b : Nat} (C : pj_X g c_PG_host 5 R_PG (some .boolean) rm_PG_host) {K : Int32 → pj_M → Prop} (hE : pj_E g b (pj_Ki K))   {u : pj_M} {x1 : Int32} {x2 : Int32} {x3 : Int32} {x4 : Int32}   (h : pb_PG_host_12  K u x1 x2 x3 x4) : pj_J g (pj_N g b u) 12 [some (.ref (b + 0)), some (.int x1), some (.int x2), some (.int x3), some (.int x4)] [] := by
  unfold pb_PG_host_12 at h
  refine pj_iload_n C d_PG_host_12 (pc' := 13) (i := 2) (x := x2) rfl rfl rfl ?_
  refine pj_bipush C d_PG_host_13 (pc' := 15) rfl (v := 8) (by decide) ?_
  refine pj_icmp_ge C d_PG_host_15 (pc' := 18) rfl (tgt := 29) (by decide) h (fun h => ?_) (fun h => ?_)
  · exact pj_cut (pj_le_n (pj_le_n (pj_le_n (pj_le_n (pj_le_n pj_le_e))))) (pt_PG_host_29 C hE   h)
  · exact pj_cut (pj_le_s (pj_le_s (pj_le_s (pj_le_s (pj_le_s pj_le_e))))) (pt_PG_host_18 C hE   h)
def pb_PG_host_7  (K : Int32 → pj_M → Prop) (u : pj_M) (x1 : Int32) (x2 : Int32) (x3 : Int32) (x4 : Int32) : Prop := ((x2 < ((-1))) → (pb_PG_host_29  K u )) ∧ (¬ (x2 < ((-1))) → (pb_PG_host_12  K u x1 x2 x3 x4))
set_option maxHeartbeats 1000000 in
theorem pt_PG_host_7 {g : pj_G} {b : Nat} (C : pj_X g c_PG_host 5 R_PG (some .boolean) rm_PG_host) {K : Int32 → pj_M → Prop} (hE : pj_E g b (pj_Ki K))   {u : pj_M} {x1 : Int32} {x2 : Int32} {x3 : Int32} {x4 : Int32}   (h : pb_PG_host_7  K u x1 x2 x3 x4) : pj_J g (pj_N g b u) 7 [some (.ref (b + 0)), some (.int x1), some (.int x2), some (.int x3), some (.int x4)] [] := by
  unfold pb_PG_host_7 at h
  refine pj_iload_n C d_PG_host_7 (pc' := 8) (i := 2) (x := x2) rfl rfl rfl ?_
  refine pj_iconst C d_PG_host_8 (pc' := 9) rfl (v := (-1)) (by decide) ?_
  refine pj_icmp_lt C d_PG_host_9 (pc' := 12) rfl (tgt := 29) (by decide) h (fun h => ?_) (fun h => ?_)
  · exact pj_cut (pj_le_n (pj_le_n (pj_le_n (pj_le_n (pj_le_n pj_le_e))))) (pt_PG_host_29 C hE   h)
  · exact pj_cut (pj_le_s (pj_le_s (pj_le_s (pj_le_s (pj_le_s pj_le_e))))) (pt_PG_host_12 C hE   h)
def pb_PG_host_0  (K : Int32 → pj_M → Prop) (u : pj_M) (x1 : Int32) (x2 : Int32) (x3 : Int32) (x4 : Int32) : Prop := pw_PG_isPort u x1 fun r2 u1 => (((r2 = 0) → (pb_PG_host_29  K u1 )) ∧ (¬ (r2 = 0) → (pb_PG_host_7  K u1 x1 x2 x3 x4)))
set_option maxHeartbeats 1000000 in
theorem pt_PG_host_0 {g : pj_G} {b : Nat} (C : pj_X g c_PG_host 5 R_PG (some .boolean) rm_PG_host) {K : Int32 → pj_M → Prop} (hE : pj_E g b (pj_Ki K))   {u : pj_M} {x1 : Int32} {x2 : Int32} {x3 : Int32} {x4 : Int32}   (h : pb_PG_host_0  K u x1 x2 x3 x4) : pj_J g (pj_N g b u) 0 [some (.ref (b + 0)), some (.int x1), some (.int x2), some (.int x3), some (.int x4)] [] := by
  unfold pb_PG_host_0 at h
  refine pj_iload_n C d_PG_host_0 (pc' := 1) (i := 1) (x := x1) rfl rfl rfl ?_
  refine ck_PortGuard_65 C  h d_PG_host_1 (pc' := 4) rfl ⟨Nat.le_of_ble_eq_true rfl, Nat.le_of_ble_eq_true rfl⟩ (Nat.le_of_ble_eq_true rfl) (fun r2 u1 h => ?_)
  refine pj_if_eq C d_PG_host_4 (pc' := 7) rfl (tgt := 29) (by decide) h (fun h => ?_) (fun h => ?_)
  · exact pj_cut (pj_le_n (pj_le_n (pj_le_n (pj_le_n (pj_le_n pj_le_e))))) (pt_PG_host_29 C hE   h)
  · exact pj_cut (pj_le_s (pj_le_s (pj_le_s (pj_le_s (pj_le_s pj_le_e))))) (pt_PG_host_7 C hE   h)
def pw_PG_host (u : pj_M) (x1 : Int32) (x2 : Int32) (x3 : Int32) (x4 : Int32) (K : Int32 → pj_M → Prop) : Prop := pb_PG_host_0  K u x1 x2 x3 x4
theorem pc_PG_host (l : Launch) (D : va_G) (E : Nat → ClassId) {b : Nat} {u : pj_M} {x1 : Int32} {x2 : Int32} {x3 : Int32} {x4 : Int32} {K : Int32 → pj_M → Prop}  (h : pw_PG_host u x1 x2 x3 x4 K) : pj_C l y_PG_host c_PG_host 5 (some .boolean) rm_PG_host D E b [.ref (b + 0), .int x1, .int x2, .int x3, .int x4] u (pj_Ki K) := by
  refine pj_met (own := R_PG) (by decide +kernel) rfl (Nat.le_of_ble_eq_true rfl) (fun g hE C => ?_)
  unfold pw_PG_host at h
  show pj_J g (pj_N g b u) 0 [some (.ref (b + 0)), some (.int x1), some (.int x2), some (.int x3), some (.int x4)] []
  exact pj_cut (pj_le_s (pj_le_s (pj_le_s (pj_le_s (pj_le_s pj_le_e))))) (pt_PG_host_0 C hE   h)
/-! PortGuard.start(IZ)Z -/
theorem fg_PortGuard_73_Host {g : pj_G} {b : Nat} {cc : ByteArray} {nL : Nat} {ret : Option FieldType} {rm : Room} {u : pj_M} {pc pc' : Nat} {vs : List (Option Value)} {st : List Value} (C : pj_X g cc nL R_PG ret rm) {i : Nat} (t : pj_T i = 6) (hdg : decode cc pc = .ok (.getfield 73, 3)) (hp : pc + 3 = pc') (kk : pj_J g (pj_N g b u) pc' vs (.int (u i 4) :: st)) : pj_J g (pj_N g b u) pc vs (.ref (b + i) :: st) :=
  pj_get C cl_Host hin_Host (k := 4) (Nat.le_of_ble_eq_true rfl) wm_203 (Or.inl rfl) (pj_lt t (by decide)) (fun E => ko_6 t) rfl hdg hp kk
theorem ck_PortGuard_77_Host {g : pj_G} {b : Nat} {cc : ByteArray} {nL : Nat} {ret : Option FieldType} {rm : Room} {u : pj_M} {pc pc' : Nat} {vs : List (Option Value)} {st : List Value} (C : pj_X g cc nL R_PG ret rm) {i0 : Nat} {x1 : Int32} {K : pj_M → Prop} (t0 : pj_T i0 = 6) (h : pw_Ho_call u i0 x1 K) (hdg : decode cc pc = .ok (.invokevirtual 77, 3)) (hp : pc + 3 = pc') (hR : rm_Ho_call.frames + 1 ≤ rm.frames ∧ 8 + (2 + 11) + rm_Ho_call.locals ≤ rm.locals) (h8 : (st.map fun v => v.category).sum ≤ 8) (kk : ∀ u', K u' → pj_J g (pj_N g b u') pc' vs st) : pj_J g (pj_N g b u) pc vs (.int x1 :: .ref (b + i0) :: st) :=
  pj_callV C (As := [.int x1]) (fun l D E => pc_Ho_call l D E t0 h) rfl rfl cl_Host (pj_lt t0 (by decide)) (fun E => ko_6 t0) wm_570 wm_571 wm_572 wm_95 wm_573 (by decide +kernel) (n := 1) rfl hR rfl h8 hdg hp (fun v u' hq => by obtain ⟨rfl, hk⟩ := hq; exact kk u' hk)
def rm_PG_start : Room := { frames := 3, cells := 0, slots := 0, locals := 67 }
def pb_PG_start_20  (K : Int32 → pj_M → Prop) (u : pj_M)  : Prop := K 0 u
set_option maxHeartbeats 1000000 in
theorem pt_PG_start_20 {g : pj_G} {b : Nat} (C : pj_X g c_PG_start 3 R_PG (some .boolean) rm_PG_start) {K : Int32 → pj_M → Prop} (hE : pj_E g b (pj_Ki K))   {u : pj_M}    (h : pb_PG_start_20  K u ) : pj_J g (pj_N g b u) 20 [none, none, none] [] := by
  unfold pb_PG_start_20 at h
  refine pj_iconst C d_PG_start_20 (pc' := 21) rfl (v := 0) (by decide) ?_
  exact pj_zret C hE d_PG_start_21 pj_bi0 ⟨_, rfl, h⟩
def pb_PG_start_37  (K : Int32 → pj_M → Prop) (u : pj_M) (s0 : Int32) (j1 : Nat) : Prop := pw_Ho_call u j1 s0 fun u1 => (K 1 u1)
set_option maxHeartbeats 1000000 in
theorem pt_PG_start_37 {g : pj_G} {b : Nat} (C : pj_X g c_PG_start 3 R_PG (some .boolean) rm_PG_start) {K : Int32 → pj_M → Prop} (hE : pj_E g b (pj_Ki K))   {u : pj_M} {s0 : Int32} {j1 : Nat}  (ts1 : pj_T j1 = 6) (h : pb_PG_start_37  K u s0 j1) : pj_J g (pj_N g b u) 37 [none, none, none] [.int s0, .ref (b + j1)] := by
  unfold pb_PG_start_37 at h
  refine ck_PortGuard_77_Host C ts1 h d_PG_start_37 (pc' := 40) rfl ⟨Nat.le_of_ble_eq_true rfl, Nat.le_of_ble_eq_true rfl⟩ (Nat.le_of_ble_eq_true rfl) (fun u1 h => ?_)
  refine pj_iconst C d_PG_start_40 (pc' := 41) rfl (v := 1) (by decide) ?_
  exact pj_zret C hE d_PG_start_41 pj_bi1 ⟨_, rfl, h⟩
def pb_PG_start_36  (K : Int32 → pj_M → Prop) (u : pj_M) (j0 : Nat) : Prop := pb_PG_start_37  K u 2 j0
set_option maxHeartbeats 1000000 in
theorem pt_PG_start_36 {g : pj_G} {b : Nat} (C : pj_X g c_PG_start 3 R_PG (some .boolean) rm_PG_start) {K : Int32 → pj_M → Prop} (hE : pj_E g b (pj_Ki K))   {u : pj_M} {j0 : Nat}  (ts0 : pj_T j0 = 6) (h : pb_PG_start_36  K u j0) : pj_J g (pj_N g b u) 36 [none, none, none] [.ref (b + j0)] := by
  unfold pb_PG_start_36 at h
  refine pj_iconst C d_PG_start_36 (pc' := 37) rfl (v := 2) (by decide) ?_
  exact pj_cut (pj_le_n (pj_le_n (pj_le_n pj_le_e))) (pt_PG_start_37 C hE  ts0 h)
def pb_PG_start_32  (K : Int32 → pj_M → Prop) (u : pj_M) (j0 : Nat) : Prop := pb_PG_start_37  K u 1 j0
set_option maxHeartbeats 1000000 in
theorem pt_PG_start_32 {g : pj_G} {b : Nat} (C : pj_X g c_PG_start 3 R_PG (some .boolean) rm_PG_start) {K : Int32 → pj_M → Prop} (hE : pj_E g b (pj_Ki K))   {u : pj_M} {j0 : Nat}  (ts0 : pj_T j0 = 6) (h : pb_PG_start_32  K u j0) : pj_J g (pj_N g b u) 32 [none, none, none] [.ref (b + j0)] := by
  unfold pb_PG_start_32 at h
  refine pj_iconst C d_PG_start_32 (pc' := 33) rfl (v := 1) (by decide) ?_
  refine pj_goto C d_PG_start_33 (tgt := 37) (by decide) ?_
  exact pj_cut (pj_le_n (pj_le_n (pj_le_n pj_le_e))) (pt_PG_start_37 C hE  ts0 h)
def pb_PG_start_22  (K : Int32 → pj_M → Prop) (u : pj_M) (x1 : Int32) (x2 : Int32) : Prop := vp_in x1 4 ∧ (((x2 = 0) → (pb_PG_start_36  K u (91 + 5 * x1.toNatClampNeg))) ∧ (¬ (x2 = 0) → (pb_PG_start_32  K u (91 + 5 * x1.toNatClampNeg))))
set_option maxHeartbeats 1000000 in
theorem pt_PG_start_22 {g : pj_G} {b : Nat} (C : pj_X g c_PG_start 3 R_PG (some .boolean) rm_PG_start) {K : Int32 → pj_M → Prop} (hE : pj_E g b (pj_Ki K))   {u : pj_M} {x1 : Int32} {x2 : Int32}   (h : pb_PG_start_22  K u x1 x2) : pj_J g (pj_N g b u) 22 [some (.ref (b + 0)), some (.int x1), some (.int x2)] [] := by
  unfold pb_PG_start_22 at h
  refine pj_aload_n C d_PG_start_22 (pc' := 23) (i := 0) (x := b + 0) rfl rfl rfl ?_
  refine fg_PortGuard_25_PortGuard C tk_0 d_PG_start_23 (pc' := 26) rfl ?_
  refine pj_iload_n C d_PG_start_26 (pc' := 27) (i := 1) (x := x1) rfl rfl rfl ?_
  obtain ⟨hv1, h⟩ := h
  refine pj_aldS C (pj_lt tk_90 (by decide)) (fun E u => ka_25 tk_90) (fun E => rfl) d_PG_start_27 (pc' := 28) rfl ⟨hv1, h⟩ (fun h => ?_)
  refine pj_iload_n C d_PG_start_28 (pc' := 29) (i := 2) (x := x2) rfl rfl rfl ?_
  refine pj_if_eq C d_PG_start_29 (pc' := 32) rfl (tgt := 36) (by decide) h (fun h => ?_) (fun h => ?_)
  · exact pj_cut (pj_le_n (pj_le_n (pj_le_n pj_le_e))) (pt_PG_start_36 C hE  (pe_25 tk_90 hv1) h)
  · exact pj_cut (pj_le_n (pj_le_n (pj_le_n pj_le_e))) (pt_PG_start_32 C hE  (pe_25 tk_90 hv1) h)
def pb_PG_start_7  (K : Int32 → pj_M → Prop) (u : pj_M) (x1 : Int32) (x2 : Int32) : Prop := vp_in x1 4 ∧ ((((u (91 + 5 * x1.toNatClampNeg) 4) = ((-1))) → (pb_PG_start_20  K u )) ∧ (¬ ((u (91 + 5 * x1.toNatClampNeg) 4) = ((-1))) → (pb_PG_start_22  K u x1 x2)))
set_option maxHeartbeats 1000000 in
theorem pt_PG_start_7 {g : pj_G} {b : Nat} (C : pj_X g c_PG_start 3 R_PG (some .boolean) rm_PG_start) {K : Int32 → pj_M → Prop} (hE : pj_E g b (pj_Ki K))   {u : pj_M} {x1 : Int32} {x2 : Int32}   (h : pb_PG_start_7  K u x1 x2) : pj_J g (pj_N g b u) 7 [some (.ref (b + 0)), some (.int x1), some (.int x2)] [] := by
  unfold pb_PG_start_7 at h
  refine pj_aload_n C d_PG_start_7 (pc' := 8) (i := 0) (x := b + 0) rfl rfl rfl ?_
  refine fg_PortGuard_25_PortGuard C tk_0 d_PG_start_8 (pc' := 11) rfl ?_
  refine pj_iload_n C d_PG_start_11 (pc' := 12) (i := 1) (x := x1) rfl rfl rfl ?_
  obtain ⟨hv1, h⟩ := h
  refine pj_aldS C (pj_lt tk_90 (by decide)) (fun E u => ka_25 tk_90) (fun E => rfl) d_PG_start_12 (pc' := 13) rfl ⟨hv1, h⟩ (fun h => ?_)
  refine fg_PortGuard_73_Host C (pe_25 tk_90 hv1) d_PG_start_13 (pc' := 16) rfl ?_
  refine pj_iconst C d_PG_start_16 (pc' := 17) rfl (v := (-1)) (by decide) ?_
  refine pj_icmp_ne C d_PG_start_17 (pc' := 20) rfl (tgt := 22) (by decide) h (fun h => ?_) (fun h => ?_)
  · exact pj_cut (pj_le_s (pj_le_s (pj_le_s pj_le_e))) (pt_PG_start_22 C hE   h)
  · exact pj_cut (pj_le_n (pj_le_n (pj_le_n pj_le_e))) (pt_PG_start_20 C hE   h)
def pb_PG_start_0  (K : Int32 → pj_M → Prop) (u : pj_M) (x1 : Int32) (x2 : Int32) : Prop := pw_PG_isPort u x1 fun r2 u1 => (((r2 = 0) → (pb_PG_start_20  K u1 )) ∧ (¬ (r2 = 0) → (pb_PG_start_7  K u1 x1 x2)))
set_option maxHeartbeats 1000000 in
theorem pt_PG_start_0 {g : pj_G} {b : Nat} (C : pj_X g c_PG_start 3 R_PG (some .boolean) rm_PG_start) {K : Int32 → pj_M → Prop} (hE : pj_E g b (pj_Ki K))   {u : pj_M} {x1 : Int32} {x2 : Int32}   (h : pb_PG_start_0  K u x1 x2) : pj_J g (pj_N g b u) 0 [some (.ref (b + 0)), some (.int x1), some (.int x2)] [] := by
  unfold pb_PG_start_0 at h
  refine pj_iload_n C d_PG_start_0 (pc' := 1) (i := 1) (x := x1) rfl rfl rfl ?_
  refine ck_PortGuard_65 C  h d_PG_start_1 (pc' := 4) rfl ⟨Nat.le_of_ble_eq_true rfl, Nat.le_of_ble_eq_true rfl⟩ (Nat.le_of_ble_eq_true rfl) (fun r2 u1 h => ?_)
  refine pj_if_eq C d_PG_start_4 (pc' := 7) rfl (tgt := 20) (by decide) h (fun h => ?_) (fun h => ?_)
  · exact pj_cut (pj_le_n (pj_le_n (pj_le_n pj_le_e))) (pt_PG_start_20 C hE   h)
  · exact pj_cut (pj_le_s (pj_le_s (pj_le_s pj_le_e))) (pt_PG_start_7 C hE   h)
def pw_PG_start (u : pj_M) (x1 : Int32) (x2 : Int32) (K : Int32 → pj_M → Prop) : Prop := pb_PG_start_0  K u x1 x2
theorem pc_PG_start (l : Launch) (D : va_G) (E : Nat → ClassId) {b : Nat} {u : pj_M} {x1 : Int32} {x2 : Int32} {K : Int32 → pj_M → Prop}  (h : pw_PG_start u x1 x2 K) : pj_C l y_PG_start c_PG_start 3 (some .boolean) rm_PG_start D E b [.ref (b + 0), .int x1, .int x2] u (pj_Ki K) := by
  refine pj_met (own := R_PG) (by decide +kernel) rfl (Nat.le_of_ble_eq_true rfl) (fun g hE C => ?_)
  unfold pw_PG_start at h
  show pj_J g (pj_N g b u) 0 [some (.ref (b + 0)), some (.int x1), some (.int x2)] []
  exact pj_cut (pj_le_s (pj_le_s (pj_le_s pj_le_e))) (pt_PG_start_0 C hE   h)
/-! PortGuard.link(IZ)Z -/
theorem fg_PortGuard_44_PortGuard {g : pj_G} {b : Nat} {cc : ByteArray} {nL : Nat} {ret : Option FieldType} {rm : Room} {u : pj_M} {pc pc' : Nat} {vs : List (Option Value)} {st : List Value} (C : pj_X g cc nL R_PG ret rm) {i : Nat} (t : pj_T i = 0) (hdg : decode cc pc = .ok (.getfield 44, 3)) (hp : pc + 3 = pc') (kk : pj_J g (pj_N g b u) pc' vs (.ref (b + 170) :: st)) : pj_J g (pj_N g b u) pc vs (.ref (b + i) :: st) :=
  pj_get C cl_PortGuard hin_PortGuard (k := 4) (Nat.le_of_ble_eq_true rfl) wm_529 (Or.inl rfl) (pj_lt t (by decide)) (fun E => ko_0 t) rfl hdg hp kk
theorem fg_PortGuard_81_Switch {g : pj_G} {b : Nat} {cc : ByteArray} {nL : Nat} {ret : Option FieldType} {rm : Room} {u : pj_M} {pc pc' : Nat} {vs : List (Option Value)} {st : List Value} (C : pj_X g cc nL R_PG ret rm) {i : Nat} (t : pj_T i = 10) (hdg : decode cc pc = .ok (.getfield 81, 3)) (hp : pc + 3 = pc') (kk : pj_J g (pj_N g b u) pc' vs (.ref (b + 171) :: st)) : pj_J g (pj_N g b u) pc vs (.ref (b + i) :: st) :=
  pj_get C cl_Switch hin_Switch (k := 2) (Nat.le_of_ble_eq_true rfl) wm_491 (Or.inl rfl) (pj_lt t (by decide)) (fun E => ko_10 t) rfl hdg hp kk
theorem fg_PortGuard_85_Port {g : pj_G} {b : Nat} {cc : ByteArray} {nL : Nat} {ret : Option FieldType} {rm : Room} {u : pj_M} {pc pc' : Nat} {vs : List (Option Value)} {st : List Value} (C : pj_X g cc nL R_PG ret rm) {i : Nat} (t : pj_T i = 9) (hdg : decode cc pc = .ok (.getfield 85, 3)) (hp : pc + 3 = pc') (kk : pj_J g (pj_N g b u) pc' vs (.int (u i 4) :: st)) : pj_J g (pj_N g b u) pc vs (.ref (b + i) :: st) :=
  pj_get C cl_Port hin_Port (k := 4) (Nat.le_of_ble_eq_true rfl) wm_422 (Or.inl rfl) (pj_lt t (by decide)) (fun E => ko_9 t) rfl hdg hp kk
theorem ck_PortGuard_91_Switch {g : pj_G} {b : Nat} {cc : ByteArray} {nL : Nat} {ret : Option FieldType} {rm : Room} {u : pj_M} {pc pc' : Nat} {vs : List (Option Value)} {st : List Value} (C : pj_X g cc nL R_PG ret rm) {i1 : Nat} {K : pj_M → Prop} (t1 : pj_T i1 = 9) (h : pw_Sw_plug u i1 K) (hdg : decode cc pc = .ok (.invokevirtual 91, 3)) (hp : pc + 3 = pc') (hR : rm_Sw_plug.frames + 1 ≤ rm.frames ∧ 8 + (2 + 11) + rm_Sw_plug.locals ≤ rm.locals) (h8 : (st.map fun v => v.category).sum ≤ 8) (kk : ∀ u', K u' → pj_J g (pj_N g b u') pc' vs st) : pj_J g (pj_N g b u) pc vs (.ref (b + i1) :: .ref (b + 170) :: st) :=
  pj_callV C (As := [.ref (b + i1)]) (fun l D E => pc_Sw_plug l D E t1 h) rfl rfl cl_Switch (pj_lt tk_170 (by decide)) (fun E => ko_10 tk_170) wm_598 wm_599 wm_600 wm_100 wm_601 (by decide +kernel) (n := 1) rfl hR rfl h8 hdg hp (fun v u' hq => by obtain ⟨rfl, hk⟩ := hq; exact kk u' hk)
theorem ck_PortGuard_95_Switch {g : pj_G} {b : Nat} {cc : ByteArray} {nL : Nat} {ret : Option FieldType} {rm : Room} {u : pj_M} {pc pc' : Nat} {vs : List (Option Value)} {st : List Value} (C : pj_X g cc nL R_PG ret rm) {i1 : Nat} {K : pj_M → Prop} (t1 : pj_T i1 = 9) (h : pw_Sw_unplug u i1 K) (hdg : decode cc pc = .ok (.invokevirtual 95, 3)) (hp : pc + 3 = pc') (hR : rm_Sw_unplug.frames + 1 ≤ rm.frames ∧ 8 + (2 + 11) + rm_Sw_unplug.locals ≤ rm.locals) (h8 : (st.map fun v => v.category).sum ≤ 8) (kk : ∀ u', K u' → pj_J g (pj_N g b u') pc' vs st) : pj_J g (pj_N g b u) pc vs (.ref (b + i1) :: .ref (b + 170) :: st) :=
  pj_callV C (As := [.ref (b + i1)]) (fun l D E => pc_Sw_unplug l D E t1 h) rfl rfl cl_Switch (pj_lt tk_170 (by decide)) (fun E => ko_10 tk_170) wm_656 wm_657 wm_658 wm_100 wm_659 (by decide +kernel) (n := 1) rfl hR rfl h8 hdg hp (fun v u' hq => by obtain ⟨rfl, hk⟩ := hq; exact kk u' hk)
def rm_PG_link : Room := { frames := 5, cells := 0, slots := 0, locals := 112 }
def pb_PG_link_23  (K : Int32 → pj_M → Prop) (u : pj_M)  : Prop := K 0 u
set_option maxHeartbeats 1000000 in
theorem pt_PG_link_23 {g : pj_G} {b : Nat} (C : pj_X g c_PG_link 3 R_PG (some .boolean) rm_PG_link) {K : Int32 → pj_M → Prop} (hE : pj_E g b (pj_Ki K))   {u : pj_M}    (h : pb_PG_link_23  K u ) : pj_J g (pj_N g b u) 23 [none, none, none] [] := by
  unfold pb_PG_link_23 at h
  refine pj_iconst C d_PG_link_23 (pc' := 24) rfl (v := 0) (by decide) ?_
  exact pj_zret C hE d_PG_link_24 pj_bi0 ⟨_, rfl, h⟩
def pb_PG_link_64  (K : Int32 → pj_M → Prop) (u : pj_M)  : Prop := K 1 u
set_option maxHeartbeats 1000000 in
theorem pt_PG_link_64 {g : pj_G} {b : Nat} (C : pj_X g c_PG_link 3 R_PG (some .boolean) rm_PG_link) {K : Int32 → pj_M → Prop} (hE : pj_E g b (pj_Ki K))   {u : pj_M}    (h : pb_PG_link_64  K u ) : pj_J g (pj_N g b u) 64 [none, none, none] [] := by
  unfold pb_PG_link_64 at h
  refine pj_iconst C d_PG_link_64 (pc' := 65) rfl (v := 1) (by decide) ?_
  exact pj_zret C hE d_PG_link_65 pj_bi1 ⟨_, rfl, h⟩
def pb_PG_link_48  (K : Int32 → pj_M → Prop) (u : pj_M) (x1 : Int32) : Prop := vp_in x1 4 ∧ (pw_Sw_unplug u (185 + 7 * x1.toNatClampNeg) fun u2 => (pb_PG_link_64  K u2 ))
set_option maxHeartbeats 1000000 in
theorem pt_PG_link_48 {g : pj_G} {b : Nat} (C : pj_X g c_PG_link 3 R_PG (some .boolean) rm_PG_link) {K : Int32 → pj_M → Prop} (hE : pj_E g b (pj_Ki K))   {u : pj_M} {x1 : Int32}   (h : pb_PG_link_48  K u x1) : pj_J g (pj_N g b u) 48 [some (.ref (b + 0)), some (.int x1), none] [] := by
  unfold pb_PG_link_48 at h
  refine pj_aload_n C d_PG_link_48 (pc' := 49) (i := 0) (x := b + 0) rfl rfl rfl ?_
  refine fg_PortGuard_44_PortGuard C tk_0 d_PG_link_49 (pc' := 52) rfl ?_
  refine pj_aload_n C d_PG_link_52 (pc' := 53) (i := 0) (x := b + 0) rfl rfl rfl ?_
  refine fg_PortGuard_44_PortGuard C tk_0 d_PG_link_53 (pc' := 56) rfl ?_
  refine fg_PortGuard_81_Switch C tk_170 d_PG_link_56 (pc' := 59) rfl ?_
  refine pj_iload_n C d_PG_link_59 (pc' := 60) (i := 1) (x := x1) rfl rfl rfl ?_
  obtain ⟨hv1, h⟩ := h
  refine pj_aldS C (pj_lt tk_171 (by decide)) (fun E u => ka_29 tk_171) (fun E => rfl) d_PG_link_60 (pc' := 61) rfl ⟨hv1, h⟩ (fun h => ?_)
  refine ck_PortGuard_95_Switch C (pe_29 tk_171 hv1) h d_PG_link_61 (pc' := 64) rfl ⟨Nat.le_of_ble_eq_true rfl, Nat.le_of_ble_eq_true rfl⟩ (Nat.le_of_ble_eq_true rfl) (fun u2 h => ?_)
  exact pj_cut (pj_le_n (pj_le_n (pj_le_n pj_le_e))) (pt_PG_link_64 C hE   h)
def pb_PG_link_29  (K : Int32 → pj_M → Prop) (u : pj_M) (x1 : Int32) : Prop := vp_in x1 4 ∧ (pw_Sw_plug u (185 + 7 * x1.toNatClampNeg) fun u2 => (pb_PG_link_64  K u2 ))
set_option maxHeartbeats 1000000 in
theorem pt_PG_link_29 {g : pj_G} {b : Nat} (C : pj_X g c_PG_link 3 R_PG (some .boolean) rm_PG_link) {K : Int32 → pj_M → Prop} (hE : pj_E g b (pj_Ki K))   {u : pj_M} {x1 : Int32}   (h : pb_PG_link_29  K u x1) : pj_J g (pj_N g b u) 29 [some (.ref (b + 0)), some (.int x1), none] [] := by
  unfold pb_PG_link_29 at h
  refine pj_aload_n C d_PG_link_29 (pc' := 30) (i := 0) (x := b + 0) rfl rfl rfl ?_
  refine fg_PortGuard_44_PortGuard C tk_0 d_PG_link_30 (pc' := 33) rfl ?_
  refine pj_aload_n C d_PG_link_33 (pc' := 34) (i := 0) (x := b + 0) rfl rfl rfl ?_
  refine fg_PortGuard_44_PortGuard C tk_0 d_PG_link_34 (pc' := 37) rfl ?_
  refine fg_PortGuard_81_Switch C tk_170 d_PG_link_37 (pc' := 40) rfl ?_
  refine pj_iload_n C d_PG_link_40 (pc' := 41) (i := 1) (x := x1) rfl rfl rfl ?_
  obtain ⟨hv1, h⟩ := h
  refine pj_aldS C (pj_lt tk_171 (by decide)) (fun E u => ka_29 tk_171) (fun E => rfl) d_PG_link_41 (pc' := 42) rfl ⟨hv1, h⟩ (fun h => ?_)
  refine ck_PortGuard_91_Switch C (pe_29 tk_171 hv1) h d_PG_link_42 (pc' := 45) rfl ⟨Nat.le_of_ble_eq_true rfl, Nat.le_of_ble_eq_true rfl⟩ (Nat.le_of_ble_eq_true rfl) (fun u2 h => ?_)
  refine pj_goto C d_PG_link_45 (tgt := 64) (by decide) ?_
  exact pj_cut (pj_le_n (pj_le_n (pj_le_n pj_le_e))) (pt_PG_link_64 C hE   h)
def pb_PG_link_25  (K : Int32 → pj_M → Prop) (u : pj_M) (x1 : Int32) (x2 : Int32) : Prop := ((x2 = 0) → (pb_PG_link_48  K u x1)) ∧ (¬ (x2 = 0) → (pb_PG_link_29  K u x1))
set_option maxHeartbeats 1000000 in
theorem pt_PG_link_25 {g : pj_G} {b : Nat} (C : pj_X g c_PG_link 3 R_PG (some .boolean) rm_PG_link) {K : Int32 → pj_M → Prop} (hE : pj_E g b (pj_Ki K))   {u : pj_M} {x1 : Int32} {x2 : Int32}   (h : pb_PG_link_25  K u x1 x2) : pj_J g (pj_N g b u) 25 [some (.ref (b + 0)), some (.int x1), some (.int x2)] [] := by
  unfold pb_PG_link_25 at h
  refine pj_iload_n C d_PG_link_25 (pc' := 26) (i := 2) (x := x2) rfl rfl rfl ?_
  refine pj_if_eq C d_PG_link_26 (pc' := 29) rfl (tgt := 48) (by decide) h (fun h => ?_) (fun h => ?_)
  · exact pj_cut (pj_le_s (pj_le_s (pj_le_n pj_le_e))) (pt_PG_link_48 C hE   h)
  · exact pj_cut (pj_le_s (pj_le_s (pj_le_n pj_le_e))) (pt_PG_link_29 C hE   h)
def pb_PG_link_7  (K : Int32 → pj_M → Prop) (u : pj_M) (x1 : Int32) (x2 : Int32) : Prop := vp_in x1 4 ∧ ((((u (185 + 7 * x1.toNatClampNeg) 4) = x2) → (pb_PG_link_23  K u )) ∧ (¬ ((u (185 + 7 * x1.toNatClampNeg) 4) = x2) → (pb_PG_link_25  K u x1 x2)))
set_option maxHeartbeats 1000000 in
theorem pt_PG_link_7 {g : pj_G} {b : Nat} (C : pj_X g c_PG_link 3 R_PG (some .boolean) rm_PG_link) {K : Int32 → pj_M → Prop} (hE : pj_E g b (pj_Ki K))   {u : pj_M} {x1 : Int32} {x2 : Int32}   (h : pb_PG_link_7  K u x1 x2) : pj_J g (pj_N g b u) 7 [some (.ref (b + 0)), some (.int x1), some (.int x2)] [] := by
  unfold pb_PG_link_7 at h
  refine pj_aload_n C d_PG_link_7 (pc' := 8) (i := 0) (x := b + 0) rfl rfl rfl ?_
  refine fg_PortGuard_44_PortGuard C tk_0 d_PG_link_8 (pc' := 11) rfl ?_
  refine fg_PortGuard_81_Switch C tk_170 d_PG_link_11 (pc' := 14) rfl ?_
  refine pj_iload_n C d_PG_link_14 (pc' := 15) (i := 1) (x := x1) rfl rfl rfl ?_
  obtain ⟨hv1, h⟩ := h
  refine pj_aldS C (pj_lt tk_171 (by decide)) (fun E u => ka_29 tk_171) (fun E => rfl) d_PG_link_15 (pc' := 16) rfl ⟨hv1, h⟩ (fun h => ?_)
  refine fg_PortGuard_85_Port C (pe_29 tk_171 hv1) d_PG_link_16 (pc' := 19) rfl ?_
  refine pj_iload_n C d_PG_link_19 (pc' := 20) (i := 2) (x := x2) rfl rfl rfl ?_
  refine pj_icmp_ne C d_PG_link_20 (pc' := 23) rfl (tgt := 25) (by decide) h (fun h => ?_) (fun h => ?_)
  · exact pj_cut (pj_le_s (pj_le_s (pj_le_s pj_le_e))) (pt_PG_link_25 C hE   h)
  · exact pj_cut (pj_le_n (pj_le_n (pj_le_n pj_le_e))) (pt_PG_link_23 C hE   h)
def pb_PG_link_0  (K : Int32 → pj_M → Prop) (u : pj_M) (x1 : Int32) (x2 : Int32) : Prop := pw_PG_isPort u x1 fun r2 u1 => (((r2 = 0) → (pb_PG_link_23  K u1 )) ∧ (¬ (r2 = 0) → (pb_PG_link_7  K u1 x1 x2)))
set_option maxHeartbeats 1000000 in
theorem pt_PG_link_0 {g : pj_G} {b : Nat} (C : pj_X g c_PG_link 3 R_PG (some .boolean) rm_PG_link) {K : Int32 → pj_M → Prop} (hE : pj_E g b (pj_Ki K))   {u : pj_M} {x1 : Int32} {x2 : Int32}   (h : pb_PG_link_0  K u x1 x2) : pj_J g (pj_N g b u) 0 [some (.ref (b + 0)), some (.int x1), some (.int x2)] [] := by
  unfold pb_PG_link_0 at h
  refine pj_iload_n C d_PG_link_0 (pc' := 1) (i := 1) (x := x1) rfl rfl rfl ?_
  refine ck_PortGuard_65 C  h d_PG_link_1 (pc' := 4) rfl ⟨Nat.le_of_ble_eq_true rfl, Nat.le_of_ble_eq_true rfl⟩ (Nat.le_of_ble_eq_true rfl) (fun r2 u1 h => ?_)
  refine pj_if_eq C d_PG_link_4 (pc' := 7) rfl (tgt := 23) (by decide) h (fun h => ?_) (fun h => ?_)
  · exact pj_cut (pj_le_n (pj_le_n (pj_le_n pj_le_e))) (pt_PG_link_23 C hE   h)
  · exact pj_cut (pj_le_s (pj_le_s (pj_le_s pj_le_e))) (pt_PG_link_7 C hE   h)
def pw_PG_link (u : pj_M) (x1 : Int32) (x2 : Int32) (K : Int32 → pj_M → Prop) : Prop := pb_PG_link_0  K u x1 x2
theorem pc_PG_link (l : Launch) (D : va_G) (E : Nat → ClassId) {b : Nat} {u : pj_M} {x1 : Int32} {x2 : Int32} {K : Int32 → pj_M → Prop}  (h : pw_PG_link u x1 x2 K) : pj_C l y_PG_link c_PG_link 3 (some .boolean) rm_PG_link D E b [.ref (b + 0), .int x1, .int x2] u (pj_Ki K) := by
  refine pj_met (own := R_PG) (by decide +kernel) rfl (Nat.le_of_ble_eq_true rfl) (fun g hE C => ?_)
  unfold pw_PG_link at h
  show pj_J g (pj_N g b u) 0 [some (.ref (b + 0)), some (.int x1), some (.int x2)] []
  exact pj_cut (pj_le_s (pj_le_s (pj_le_s pj_le_e))) (pt_PG_link_0 C hE   h)
/-! PortGuard.isServer(I)Z -/
def rm_PG_isServer : Room := { frames := 0, cells := 0, slots := 0, locals := 0 }
def pb_PG_isServer_14  (K : Int32 → pj_M → Prop) (u : pj_M) (s0 : Int32) : Prop := pj_bi s0 ∧ K s0 u
set_option maxHeartbeats 1000000 in
theorem pt_PG_isServer_14 {g : pj_G} {b : Nat} (C : pj_X g c_PG_isServer 1 R_PG (some .boolean) rm_PG_isServer) {K : Int32 → pj_M → Prop} (hE : pj_E g b (pj_Ki K))   {u : pj_M} {s0 : Int32}   (h : pb_PG_isServer_14  K u s0) : pj_J g (pj_N g b u) 14 [none] [.int s0] := by
  unfold pb_PG_isServer_14 at h
  exact pj_zret C hE d_PG_isServer_14 h.1 ⟨_, rfl, h.2⟩
def pb_PG_isServer_13  (K : Int32 → pj_M → Prop) (u : pj_M)  : Prop := pb_PG_isServer_14  K u 0
set_option maxHeartbeats 1000000 in
theorem pt_PG_isServer_13 {g : pj_G} {b : Nat} (C : pj_X g c_PG_isServer 1 R_PG (some .boolean) rm_PG_isServer) {K : Int32 → pj_M → Prop} (hE : pj_E g b (pj_Ki K))   {u : pj_M}    (h : pb_PG_isServer_13  K u ) : pj_J g (pj_N g b u) 13 [none] [] := by
  unfold pb_PG_isServer_13 at h
  refine pj_iconst C d_PG_isServer_13 (pc' := 14) rfl (v := 0) (by decide) ?_
  exact pj_cut (pj_le_n pj_le_e) (pt_PG_isServer_14 C hE   h)
def pb_PG_isServer_9  (K : Int32 → pj_M → Prop) (u : pj_M)  : Prop := pb_PG_isServer_14  K u 1
set_option maxHeartbeats 1000000 in
theorem pt_PG_isServer_9 {g : pj_G} {b : Nat} (C : pj_X g c_PG_isServer 1 R_PG (some .boolean) rm_PG_isServer) {K : Int32 → pj_M → Prop} (hE : pj_E g b (pj_Ki K))   {u : pj_M}    (h : pb_PG_isServer_9  K u ) : pj_J g (pj_N g b u) 9 [none] [] := by
  unfold pb_PG_isServer_9 at h
  refine pj_iconst C d_PG_isServer_9 (pc' := 10) rfl (v := 1) (by decide) ?_
  refine pj_goto C d_PG_isServer_10 (tgt := 14) (by decide) ?_
  exact pj_cut (pj_le_n pj_le_e) (pt_PG_isServer_14 C hE   h)
def pb_PG_isServer_4  (K : Int32 → pj_M → Prop) (u : pj_M) (x0 : Int32) : Prop := ((2 ≤ x0) → (pb_PG_isServer_13  K u )) ∧ (¬ (2 ≤ x0) → (pb_PG_isServer_9  K u ))
set_option maxHeartbeats 1000000 in
theorem pt_PG_isServer_4 {g : pj_G} {b : Nat} (C : pj_X g c_PG_isServer 1 R_PG (some .boolean) rm_PG_isServer) {K : Int32 → pj_M → Prop} (hE : pj_E g b (pj_Ki K))   {u : pj_M} {x0 : Int32}   (h : pb_PG_isServer_4  K u x0) : pj_J g (pj_N g b u) 4 [some (.int x0)] [] := by
  unfold pb_PG_isServer_4 at h
  refine pj_iload_n C d_PG_isServer_4 (pc' := 5) (i := 0) (x := x0) rfl rfl rfl ?_
  refine pj_iconst C d_PG_isServer_5 (pc' := 6) rfl (v := 2) (by decide) ?_
  refine pj_icmp_ge C d_PG_isServer_6 (pc' := 9) rfl (tgt := 13) (by decide) h (fun h => ?_) (fun h => ?_)
  · exact pj_cut (pj_le_n pj_le_e) (pt_PG_isServer_13 C hE   h)
  · exact pj_cut (pj_le_n pj_le_e) (pt_PG_isServer_9 C hE   h)
def pb_PG_isServer_0  (K : Int32 → pj_M → Prop) (u : pj_M) (x0 : Int32) : Prop := ((x0 < 0) → (pb_PG_isServer_13  K u )) ∧ (¬ (x0 < 0) → (pb_PG_isServer_4  K u x0))
set_option maxHeartbeats 1000000 in
theorem pt_PG_isServer_0 {g : pj_G} {b : Nat} (C : pj_X g c_PG_isServer 1 R_PG (some .boolean) rm_PG_isServer) {K : Int32 → pj_M → Prop} (hE : pj_E g b (pj_Ki K))   {u : pj_M} {x0 : Int32}   (h : pb_PG_isServer_0  K u x0) : pj_J g (pj_N g b u) 0 [some (.int x0)] [] := by
  unfold pb_PG_isServer_0 at h
  refine pj_iload_n C d_PG_isServer_0 (pc' := 1) (i := 0) (x := x0) rfl rfl rfl ?_
  refine pj_if_lt C d_PG_isServer_1 (pc' := 4) rfl (tgt := 13) (by decide) h (fun h => ?_) (fun h => ?_)
  · exact pj_cut (pj_le_n pj_le_e) (pt_PG_isServer_13 C hE   h)
  · exact pj_cut (pj_le_s pj_le_e) (pt_PG_isServer_4 C hE   h)
def pw_PG_isServer (u : pj_M) (x0 : Int32) (K : Int32 → pj_M → Prop) : Prop := pb_PG_isServer_0  K u x0
theorem pc_PG_isServer (l : Launch) (D : va_G) (E : Nat → ClassId) {b : Nat} {u : pj_M} {x0 : Int32} {K : Int32 → pj_M → Prop}  (h : pw_PG_isServer u x0 K) : pj_C l y_PG_isServer c_PG_isServer 1 (some .boolean) rm_PG_isServer D E b [.int x0] u (pj_Ki K) := by
  refine pj_met (own := R_PG) (by decide +kernel) rfl (Nat.le_of_ble_eq_true rfl) (fun g hE C => ?_)
  unfold pw_PG_isServer at h
  show pj_J g (pj_N g b u) 0 [some (.int x0)] []
  exact pj_cut (pj_le_s pj_le_e) (pt_PG_isServer_0 C hE   h)
/-! PortGuard.power(IZ)Z -/
theorem fg_PortGuard_34_PortGuard {g : pj_G} {b : Nat} {cc : ByteArray} {nL : Nat} {ret : Option FieldType} {rm : Room} {u : pj_M} {pc pc' : Nat} {vs : List (Option Value)} {st : List Value} (C : pj_X g cc nL R_PG ret rm) {i : Nat} (t : pj_T i = 0) (hdg : decode cc pc = .ok (.getfield 34, 3)) (hp : pc + 3 = pc') (kk : pj_J g (pj_N g b u) pc' vs (.ref (b + 111) :: st)) : pj_J g (pj_N g b u) pc vs (.ref (b + i) :: st) :=
  pj_get C cl_PortGuard hin_PortGuard (k := 3) (Nat.le_of_ble_eq_true rfl) wm_528 (Or.inl rfl) (pj_lt t (by decide)) (fun E => ko_0 t) rfl hdg hp kk
theorem fg_PortGuard_101_Server {g : pj_G} {b : Nat} {cc : ByteArray} {nL : Nat} {ret : Option FieldType} {rm : Room} {u : pj_M} {pc pc' : Nat} {vs : List (Option Value)} {st : List Value} (C : pj_X g cc nL R_PG ret rm) {i : Nat} (t : pj_T i = 8) (hdg : decode cc pc = .ok (.getfield 101, 3)) (hp : pc + 3 = pc') (kk : pj_J g (pj_N g b u) pc' vs (.int (u i 13) :: st)) : pj_J g (pj_N g b u) pc vs (.ref (b + i) :: st) :=
  pj_get C cl_Server hin_Server (k := 13) (Nat.le_of_ble_eq_true rfl) wm_343 (Or.inl rfl) (pj_lt t (by decide)) (fun E => ko_8 t) rfl hdg hp kk
theorem ck_PortGuard_98 {g : pj_G} {b : Nat} {cc : ByteArray} {nL : Nat} {ret : Option FieldType} {rm : Room} {u : pj_M} {pc pc' : Nat} {vs : List (Option Value)} {st : List Value} (C : pj_X g cc nL R_PG ret rm) {x0 : Int32} {K : Int32 → pj_M → Prop}  (h : pw_PG_isServer u x0 K) (hdg : decode cc pc = .ok (.invokestatic 98, 3)) (hp : pc + 3 = pc') (hR : rm_PG_isServer.frames + 1 ≤ rm.frames ∧ 8 + (1 + 11) + rm_PG_isServer.locals ≤ rm.locals) (h8 : (st.map fun v => v.category).sum ≤ 8) (kk : ∀ r u', K r u' → pj_J g (pj_N g b u') pc' vs (.int r :: st)) : pj_J g (pj_N g b u) pc vs (.int x0 :: st) :=
  pj_callS C (As := [.int x0]) (fun l D E => pc_PG_isServer l D E  h) rfl rfl wm_668 wm_669 wm_91 wm_670 (by decide +kernel) (n := 1) rfl hR rfl h8 hdg hp (fun v u' hq => by obtain ⟨r, rfl, hk⟩ := hq; exact kk r u' hk)
theorem ck_PortGuard_104_Server {g : pj_G} {b : Nat} {cc : ByteArray} {nL : Nat} {ret : Option FieldType} {rm : Room} {u : pj_M} {pc pc' : Nat} {vs : List (Option Value)} {st : List Value} (C : pj_X g cc nL R_PG ret rm) {i0 : Nat} {x1 : Int32} {K : pj_M → Prop} (t0 : pj_T i0 = 8) (h : pw_Sv_turn u i0 x1 K) (hdg : decode cc pc = .ok (.invokevirtual 104, 3)) (hp : pc + 3 = pc') (hR : rm_Sv_turn.frames + 1 ≤ rm.frames ∧ 8 + (2 + 11) + rm_Sv_turn.locals ≤ rm.locals) (h8 : (st.map fun v => v.category).sum ≤ 8) (kk : ∀ u', K u' → pj_J g (pj_N g b u') pc' vs st) : pj_J g (pj_N g b u) pc vs (.int x1 :: .ref (b + i0) :: st) :=
  pj_callV C (As := [.int x1]) (fun l D E => pc_Sv_turn l D E t0 h) rfl rfl cl_Server (pj_lt t0 (by decide)) (fun E => ko_8 t0) wm_671 wm_672 wm_673 wm_97 wm_674 (by decide +kernel) (n := 1) rfl hR rfl h8 hdg hp (fun v u' hq => by obtain ⟨rfl, hk⟩ := hq; exact kk u' hk)
def rm_PG_power : Room := { frames := 1, cells := 0, slots := 0, locals := 21 }
def pb_PG_power_20  (K : Int32 → pj_M → Prop) (u : pj_M)  : Prop := K 0 u
set_option maxHeartbeats 1000000 in
theorem pt_PG_power_20 {g : pj_G} {b : Nat} (C : pj_X g c_PG_power 3 R_PG (some .boolean) rm_PG_power) {K : Int32 → pj_M → Prop} (hE : pj_E g b (pj_Ki K))   {u : pj_M}    (h : pb_PG_power_20  K u ) : pj_J g (pj_N g b u) 20 [none, none, none] [] := by
  unfold pb_PG_power_20 at h
  refine pj_iconst C d_PG_power_20 (pc' := 21) rfl (v := 0) (by decide) ?_
  exact pj_zret C hE d_PG_power_21 pj_bi0 ⟨_, rfl, h⟩
def pb_PG_power_22  (K : Int32 → pj_M → Prop) (u : pj_M) (x1 : Int32) (x2 : Int32) : Prop := vp_in x1 2 ∧ (pw_Sv_turn u (112 + 29 * x1.toNatClampNeg) x2 fun u2 => (K 1 u2))
set_option maxHeartbeats 1000000 in
theorem pt_PG_power_22 {g : pj_G} {b : Nat} (C : pj_X g c_PG_power 3 R_PG (some .boolean) rm_PG_power) {K : Int32 → pj_M → Prop} (hE : pj_E g b (pj_Ki K))   {u : pj_M} {x1 : Int32} {x2 : Int32}   (h : pb_PG_power_22  K u x1 x2) : pj_J g (pj_N g b u) 22 [some (.ref (b + 0)), some (.int x1), some (.int x2)] [] := by
  unfold pb_PG_power_22 at h
  refine pj_aload_n C d_PG_power_22 (pc' := 23) (i := 0) (x := b + 0) rfl rfl rfl ?_
  refine fg_PortGuard_34_PortGuard C tk_0 d_PG_power_23 (pc' := 26) rfl ?_
  refine pj_iload_n C d_PG_power_26 (pc' := 27) (i := 1) (x := x1) rfl rfl rfl ?_
  obtain ⟨hv1, h⟩ := h
  refine pj_aldS C (pj_lt tk_111 (by decide)) (fun E u => ka_26 tk_111) (fun E => rfl) d_PG_power_27 (pc' := 28) rfl ⟨hv1, h⟩ (fun h => ?_)
  refine pj_iload_n C d_PG_power_28 (pc' := 29) (i := 2) (x := x2) rfl rfl rfl ?_
  refine ck_PortGuard_104_Server C (pe_26 tk_111 hv1) h d_PG_power_29 (pc' := 32) rfl ⟨Nat.le_of_ble_eq_true rfl, Nat.le_of_ble_eq_true rfl⟩ (Nat.le_of_ble_eq_true rfl) (fun u2 h => ?_)
  refine pj_iconst C d_PG_power_32 (pc' := 33) rfl (v := 1) (by decide) ?_
  exact pj_zret C hE d_PG_power_33 pj_bi1 ⟨_, rfl, h⟩
def pb_PG_power_7  (K : Int32 → pj_M → Prop) (u : pj_M) (x1 : Int32) (x2 : Int32) : Prop := vp_in x1 2 ∧ ((((u (112 + 29 * x1.toNatClampNeg) 13) = x2) → (pb_PG_power_20  K u )) ∧ (¬ ((u (112 + 29 * x1.toNatClampNeg) 13) = x2) → (pb_PG_power_22  K u x1 x2)))
set_option maxHeartbeats 1000000 in
theorem pt_PG_power_7 {g : pj_G} {b : Nat} (C : pj_X g c_PG_power 3 R_PG (some .boolean) rm_PG_power) {K : Int32 → pj_M → Prop} (hE : pj_E g b (pj_Ki K))   {u : pj_M} {x1 : Int32} {x2 : Int32}   (h : pb_PG_power_7  K u x1 x2) : pj_J g (pj_N g b u) 7 [some (.ref (b + 0)), some (.int x1), some (.int x2)] [] := by
  unfold pb_PG_power_7 at h
  refine pj_aload_n C d_PG_power_7 (pc' := 8) (i := 0) (x := b + 0) rfl rfl rfl ?_
  refine fg_PortGuard_34_PortGuard C tk_0 d_PG_power_8 (pc' := 11) rfl ?_
  refine pj_iload_n C d_PG_power_11 (pc' := 12) (i := 1) (x := x1) rfl rfl rfl ?_
  obtain ⟨hv1, h⟩ := h
  refine pj_aldS C (pj_lt tk_111 (by decide)) (fun E u => ka_26 tk_111) (fun E => rfl) d_PG_power_12 (pc' := 13) rfl ⟨hv1, h⟩ (fun h => ?_)
  refine fg_PortGuard_101_Server C (pe_26 tk_111 hv1) d_PG_power_13 (pc' := 16) rfl ?_
  refine pj_iload_n C d_PG_power_16 (pc' := 17) (i := 2) (x := x2) rfl rfl rfl ?_
  refine pj_icmp_ne C d_PG_power_17 (pc' := 20) rfl (tgt := 22) (by decide) h (fun h => ?_) (fun h => ?_)
  · exact pj_cut (pj_le_s (pj_le_s (pj_le_s pj_le_e))) (pt_PG_power_22 C hE   h)
  · exact pj_cut (pj_le_n (pj_le_n (pj_le_n pj_le_e))) (pt_PG_power_20 C hE   h)
def pb_PG_power_0  (K : Int32 → pj_M → Prop) (u : pj_M) (x1 : Int32) (x2 : Int32) : Prop := pw_PG_isServer u x1 fun r2 u1 => (((r2 = 0) → (pb_PG_power_20  K u1 )) ∧ (¬ (r2 = 0) → (pb_PG_power_7  K u1 x1 x2)))
set_option maxHeartbeats 1000000 in
theorem pt_PG_power_0 {g : pj_G} {b : Nat} (C : pj_X g c_PG_power 3 R_PG (some .boolean) rm_PG_power) {K : Int32 → pj_M → Prop} (hE : pj_E g b (pj_Ki K))   {u : pj_M} {x1 : Int32} {x2 : Int32}   (h : pb_PG_power_0  K u x1 x2) : pj_J g (pj_N g b u) 0 [some (.ref (b + 0)), some (.int x1), some (.int x2)] [] := by
  unfold pb_PG_power_0 at h
  refine pj_iload_n C d_PG_power_0 (pc' := 1) (i := 1) (x := x1) rfl rfl rfl ?_
  refine ck_PortGuard_98 C  h d_PG_power_1 (pc' := 4) rfl ⟨Nat.le_of_ble_eq_true rfl, Nat.le_of_ble_eq_true rfl⟩ (Nat.le_of_ble_eq_true rfl) (fun r2 u1 h => ?_)
  refine pj_if_eq C d_PG_power_4 (pc' := 7) rfl (tgt := 20) (by decide) h (fun h => ?_) (fun h => ?_)
  · exact pj_cut (pj_le_n (pj_le_n (pj_le_n pj_le_e))) (pt_PG_power_20 C hE   h)
  · exact pj_cut (pj_le_s (pj_le_s (pj_le_s pj_le_e))) (pt_PG_power_7 C hE   h)
def pw_PG_power (u : pj_M) (x1 : Int32) (x2 : Int32) (K : Int32 → pj_M → Prop) : Prop := pb_PG_power_0  K u x1 x2
theorem pc_PG_power (l : Launch) (D : va_G) (E : Nat → ClassId) {b : Nat} {u : pj_M} {x1 : Int32} {x2 : Int32} {K : Int32 → pj_M → Prop}  (h : pw_PG_power u x1 x2 K) : pj_C l y_PG_power c_PG_power 3 (some .boolean) rm_PG_power D E b [.ref (b + 0), .int x1, .int x2] u (pj_Ki K) := by
  refine pj_met (own := R_PG) (by decide +kernel) rfl (Nat.le_of_ble_eq_true rfl) (fun g hE C => ?_)
  unfold pw_PG_power at h
  show pj_J g (pj_N g b u) 0 [some (.ref (b + 0)), some (.int x1), some (.int x2)] []
  exact pj_cut (pj_le_s (pj_le_s (pj_le_s pj_le_e))) (pt_PG_power_0 C hE   h)
/-! PortGuard.pass(II)Z -/
theorem fg_PortGuard_19_PortGuard {g : pj_G} {b : Nat} {cc : ByteArray} {nL : Nat} {ret : Option FieldType} {rm : Room} {u : pj_M} {pc pc' : Nat} {vs : List (Option Value)} {st : List Value} (C : pj_X g cc nL R_PG ret rm) {i : Nat} (t : pj_T i = 0) (hdg : decode cc pc = .ok (.getfield 19, 3)) (hp : pc + 3 = pc') (kk : pj_J g (pj_N g b u) pc' vs (.ref (b + 4) :: st)) : pj_J g (pj_N g b u) pc vs (.ref (b + i) :: st) :=
  pj_get C cl_PortGuard hin_PortGuard (k := 1) (Nat.le_of_ble_eq_true rfl) wm_526 (Or.inl rfl) (pj_lt t (by decide)) (fun E => ko_0 t) rfl hdg hp kk
theorem fg_PortGuard_111_Mailbox {g : pj_G} {b : Nat} {cc : ByteArray} {nL : Nat} {ret : Option FieldType} {rm : Room} {u : pj_M} {pc pc' : Nat} {vs : List (Option Value)} {st : List Value} (C : pj_X g cc nL R_PG ret rm) {i : Nat} (t : pj_T i = 2) (hdg : decode cc pc = .ok (.getfield 111, 3)) (hp : pc + 3 = pc') (kk : pj_J g (pj_N g b u) pc' vs (.ref (b + 5) :: st)) : pj_J g (pj_N g b u) pc vs (.ref (b + i) :: st) :=
  pj_get C cl_Mailbox hin_Mailbox (k := 0) (Nat.le_of_ble_eq_true rfl) wm_163 (Or.inl rfl) (pj_lt t (by decide)) (fun E => ko_2 t) rfl hdg hp kk
theorem fg_PortGuard_114_Mailbox {g : pj_G} {b : Nat} {cc : ByteArray} {nL : Nat} {ret : Option FieldType} {rm : Room} {u : pj_M} {pc pc' : Nat} {vs : List (Option Value)} {st : List Value} (C : pj_X g cc nL R_PG ret rm) {i : Nat} (t : pj_T i = 2) (hdg : decode cc pc = .ok (.getfield 114, 3)) (hp : pc + 3 = pc') (kk : pj_J g (pj_N g b u) pc' vs (.ref (b + 6) :: st)) : pj_J g (pj_N g b u) pc vs (.ref (b + i) :: st) :=
  pj_get C cl_Mailbox hin_Mailbox (k := 1) (Nat.le_of_ble_eq_true rfl) wm_165 (Or.inl rfl) (pj_lt t (by decide)) (fun E => ko_2 t) rfl hdg hp kk
theorem fg_PortGuard_55_PortGuard {g : pj_G} {b : Nat} {cc : ByteArray} {nL : Nat} {ret : Option FieldType} {rm : Room} {u : pj_M} {pc pc' : Nat} {vs : List (Option Value)} {st : List Value} (C : pj_X g cc nL R_PG ret rm) {i : Nat} (t : pj_T i = 0) (hdg : decode cc pc = .ok (.getfield 55, 3)) (hp : pc + 3 = pc') (kk : pj_J g (pj_N g b u) pc' vs (.ref (b + 215) :: st)) : pj_J g (pj_N g b u) pc vs (.ref (b + i) :: st) :=
  pj_get C cl_PortGuard hin_PortGuard (k := 6) (Nat.le_of_ble_eq_true rfl) wm_531 (Or.inl rfl) (pj_lt t (by decide)) (fun E => ko_0 t) rfl hdg hp kk
theorem fg_PortGuard_117_Mailbox {g : pj_G} {b : Nat} {cc : ByteArray} {nL : Nat} {ret : Option FieldType} {rm : Room} {u : pj_M} {pc pc' : Nat} {vs : List (Option Value)} {st : List Value} (C : pj_X g cc nL R_PG ret rm) {i : Nat} (t : pj_T i = 2) (hdg : decode cc pc = .ok (.getfield 117, 3)) (hp : pc + 3 = pc') (kk : pj_J g (pj_N g b u) pc' vs (.ref (b + 7) :: st)) : pj_J g (pj_N g b u) pc vs (.ref (b + i) :: st) :=
  pj_get C cl_Mailbox hin_Mailbox (k := 2) (Nat.le_of_ble_eq_true rfl) wm_167 (Or.inl rfl) (pj_lt t (by decide)) (fun E => ko_2 t) rfl hdg hp kk
theorem ck_PortGuard_108_Mailbox {g : pj_G} {b : Nat} {cc : ByteArray} {nL : Nat} {ret : Option FieldType} {rm : Room} {u : pj_M} {pc pc' : Nat} {vs : List (Option Value)} {st : List Value} (C : pj_X g cc nL R_PG ret rm) {x1 : Int32} {K : Int32 → pj_M → Prop}  (h : pw_Ma_has u x1 K) (hdg : decode cc pc = .ok (.invokevirtual 108, 3)) (hp : pc + 3 = pc') (hR : rm_Ma_has.frames + 1 ≤ rm.frames ∧ 8 + (2 + 11) + rm_Ma_has.locals ≤ rm.locals) (h8 : (st.map fun v => v.category).sum ≤ 8) (kk : ∀ r u', K r u' → pj_J g (pj_N g b u') pc' vs (.int r :: st)) : pj_J g (pj_N g b u) pc vs (.int x1 :: .ref (b + 4) :: st) :=
  pj_callV C (As := [.int x1]) (fun l D E => pc_Ma_has l D E  h) rfl rfl cl_Mailbox (pj_lt tk_4 (by decide)) (fun E => ko_2 tk_4) wm_679 wm_680 wm_681 wm_93 wm_682 (by decide +kernel) (n := 1) rfl hR rfl h8 hdg hp (fun v u' hq => by obtain ⟨r, rfl, hk⟩ := hq; exact kk r u' hk)
theorem ck_PortGuard_121_Row {g : pj_G} {b : Nat} {cc : ByteArray} {nL : Nat} {ret : Option FieldType} {rm : Room} {u : pj_M} {pc pc' : Nat} {vs : List (Option Value)} {st : List Value} (C : pj_X g cc nL R_PG ret rm) {i0 : Nat} {i1 : Nat} {K : pj_M → Prop} (t : pj_T i0 = 3) (t1 : pj_R i1) (h : pw_Ro_copy u i0 i1 K) (hdg : decode cc pc = .ok (.invokevirtual 121, 3)) (hp : pc + 3 = pc') (hR : rm_Ro_copy.frames + 1 ≤ rm.frames ∧ 8 + (2 + 11) + rm_Ro_copy.locals ≤ rm.locals) (h8 : (st.map fun v => v.category).sum ≤ 8) (kk : ∀ u', K u' → pj_J g (pj_N g b u') pc' vs st) : pj_J g (pj_N g b u) pc vs (.ref (b + i1) :: .ref (b + i0) :: st) := by
  have t0 : pj_R i0 := Or.inl t
  exact pj_callV C (As := [.ref (b + i1)]) (fun l D E => pc_Ro_copy l D E t0 t1 h) rfl rfl cl_Row (pj_lt t (by decide)) (fun E => ko_3 t) wm_683 wm_684 wm_685 wm_94 wm_688 (by decide +kernel) (n := 1) rfl hR rfl h8 hdg hp (fun v u' hq => by obtain ⟨rfl, hk⟩ := hq; exact kk u' hk)
theorem ck_PortGuard_125_Mailbox {g : pj_G} {b : Nat} {cc : ByteArray} {nL : Nat} {ret : Option FieldType} {rm : Room} {u : pj_M} {pc pc' : Nat} {vs : List (Option Value)} {st : List Value} (C : pj_X g cc nL R_PG ret rm) {x1 : Int32} {x2 : Int32} {i3 : Nat} {K : pj_M → Prop} (t3 : pj_R i3) (h : pw_Ma_send u x1 x2 i3 K) (hdg : decode cc pc = .ok (.invokevirtual 125, 3)) (hp : pc + 3 = pc') (hR : rm_Ma_send.frames + 1 ≤ rm.frames ∧ 8 + (4 + 11) + rm_Ma_send.locals ≤ rm.locals) (h8 : (st.map fun v => v.category).sum ≤ 8) (kk : ∀ u', K u' → pj_J g (pj_N g b u') pc' vs st) : pj_J g (pj_N g b u) pc vs (.ref (b + i3) :: .int x2 :: .int x1 :: .ref (b + 4) :: st) :=
  pj_callV C (As := [.int x1, .int x2, .ref (b + i3)]) (fun l D E => pc_Ma_send l D E t3 h) rfl rfl cl_Mailbox (pj_lt tk_4 (by decide)) (fun E => ko_2 tk_4) wm_692 wm_693 wm_694 wm_93 wm_695 (by decide +kernel) (n := 3) rfl hR rfl h8 hdg hp (fun v u' hq => by obtain ⟨rfl, hk⟩ := hq; exact kk u' hk)
theorem ck_PortGuard_129_Mailbox {g : pj_G} {b : Nat} {cc : ByteArray} {nL : Nat} {ret : Option FieldType} {rm : Room} {u : pj_M} {pc pc' : Nat} {vs : List (Option Value)} {st : List Value} (C : pj_X g cc nL R_PG ret rm) {x1 : Int32} {K : pj_M → Prop}  (h : pw_Ma_drop u x1 K) (hdg : decode cc pc = .ok (.invokevirtual 129, 3)) (hp : pc + 3 = pc') (hR : rm_Ma_drop.frames + 1 ≤ rm.frames ∧ 8 + (4 + 11) + rm_Ma_drop.locals ≤ rm.locals) (h8 : (st.map fun v => v.category).sum ≤ 8) (kk : ∀ u', K u' → pj_J g (pj_N g b u') pc' vs st) : pj_J g (pj_N g b u) pc vs (.int x1 :: .ref (b + 4) :: st) :=
  pj_callV C (As := [.int x1]) (fun l D E => pc_Ma_drop l D E  h) rfl rfl cl_Mailbox (pj_lt tk_4 (by decide)) (fun E => ko_2 tk_4) wm_697 wm_698 wm_699 wm_93 wm_700 (by decide +kernel) (n := 1) rfl hR rfl h8 hdg hp (fun v u' hq => by obtain ⟨rfl, hk⟩ := hq; exact kk u' hk)
theorem ck_PortGuard_141_Switch {g : pj_G} {b : Nat} {cc : ByteArray} {nL : Nat} {ret : Option FieldType} {rm : Room} {u : pj_M} {pc pc' : Nat} {vs : List (Option Value)} {st : List Value} (C : pj_X g cc nL R_PG ret rm) {x1 : Int32} {i2 : Nat} {K : pj_M → Prop} (t2 : pj_R i2) (h : pw_Sw_takeAnswer u x1 i2 K) (hdg : decode cc pc = .ok (.invokevirtual 141, 3)) (hp : pc + 3 = pc') (hR : rm_Sw_takeAnswer.frames + 1 ≤ rm.frames ∧ 8 + (4 + 11) + rm_Sw_takeAnswer.locals ≤ rm.locals) (h8 : (st.map fun v => v.category).sum ≤ 8) (kk : ∀ u', K u' → pj_J g (pj_N g b u') pc' vs st) : pj_J g (pj_N g b u) pc vs (.ref (b + i2) :: .int x1 :: .ref (b + 170) :: st) :=
  pj_callV C (As := [.int x1, .ref (b + i2)]) (fun l D E => pc_Sw_takeAnswer l D E t2 h) rfl rfl cl_Switch (pj_lt tk_170 (by decide)) (fun E => ko_10 tk_170) wm_997 wm_998 wm_999 wm_100 wm_1000 (by decide +kernel) (n := 2) rfl hR rfl h8 hdg hp (fun v u' hq => by obtain ⟨rfl, hk⟩ := hq; exact kk u' hk)
theorem ck_PortGuard_138_Server {g : pj_G} {b : Nat} {cc : ByteArray} {nL : Nat} {ret : Option FieldType} {rm : Room} {u : pj_M} {pc pc' : Nat} {vs : List (Option Value)} {st : List Value} (C : pj_X g cc nL R_PG ret rm) {i0 : Nat} {i1 : Nat} {K : pj_M → Prop} (t0 : pj_T i0 = 8) (t1 : pj_R i1) (h : pw_Sv_takeRequest u i0 i1 K) (hdg : decode cc pc = .ok (.invokevirtual 138, 3)) (hp : pc + 3 = pc') (hR : rm_Sv_takeRequest.frames + 1 ≤ rm.frames ∧ 8 + (3 + 11) + rm_Sv_takeRequest.locals ≤ rm.locals) (h8 : (st.map fun v => v.category).sum ≤ 8) (kk : ∀ u', K u' → pj_J g (pj_N g b u') pc' vs st) : pj_J g (pj_N g b u) pc vs (.ref (b + i1) :: .ref (b + i0) :: st) :=
  pj_callV C (As := [.ref (b + i1)]) (fun l D E => pc_Sv_takeRequest l D E t0 t1 h) rfl rfl cl_Server (pj_lt t0 (by decide)) (fun E => ko_8 t0) wm_869 wm_870 wm_871 wm_97 wm_872 (by decide +kernel) (n := 1) rfl hR rfl h8 hdg hp (fun v u' hq => by obtain ⟨rfl, hk⟩ := hq; exact kk u' hk)
theorem ck_PortGuard_136_Host {g : pj_G} {b : Nat} {cc : ByteArray} {nL : Nat} {ret : Option FieldType} {rm : Room} {u : pj_M} {pc pc' : Nat} {vs : List (Option Value)} {st : List Value} (C : pj_X g cc nL R_PG ret rm) {i0 : Nat} {i1 : Nat} {K : pj_M → Prop} (t0 : pj_T i0 = 6) (t1 : pj_R i1) (h : pw_Ho_takeFrame u i0 i1 K) (hdg : decode cc pc = .ok (.invokevirtual 136, 3)) (hp : pc + 3 = pc') (hR : rm_Ho_takeFrame.frames + 1 ≤ rm.frames ∧ 8 + (3 + 11) + rm_Ho_takeFrame.locals ≤ rm.locals) (h8 : (st.map fun v => v.category).sum ≤ 8) (kk : ∀ u', K u' → pj_J g (pj_N g b u') pc' vs st) : pj_J g (pj_N g b u) pc vs (.ref (b + i1) :: .ref (b + i0) :: st) :=
  pj_callV C (As := [.ref (b + i1)]) (fun l D E => pc_Ho_takeFrame l D E t0 t1 h) rfl rfl cl_Host (pj_lt t0 (by decide)) (fun E => ko_6 t0) wm_803 wm_804 wm_805 wm_95 wm_806 (by decide +kernel) (n := 1) rfl hR rfl h8 hdg hp (fun v u' hq => by obtain ⟨rfl, hk⟩ := hq; exact kk u' hk)
theorem ck_PortGuard_132_Switch {g : pj_G} {b : Nat} {cc : ByteArray} {nL : Nat} {ret : Option FieldType} {rm : Room} {u : pj_M} {pc pc' : Nat} {vs : List (Option Value)} {st : List Value} (C : pj_X g cc nL R_PG ret rm) {i1 : Nat} {i2 : Nat} {K : pj_M → Prop} (t1 : pj_T i1 = 9) (t2 : pj_R i2) (h : pw_Sw_takeFrame u i1 i2 K) (hdg : decode cc pc = .ok (.invokevirtual 132, 3)) (hp : pc + 3 = pc') (hR : rm_Sw_takeFrame.frames + 1 ≤ rm.frames ∧ 8 + (3 + 11) + rm_Sw_takeFrame.locals ≤ rm.locals) (h8 : (st.map fun v => v.category).sum ≤ 8) (kk : ∀ u', K u' → pj_J g (pj_N g b u') pc' vs st) : pj_J g (pj_N g b u) pc vs (.ref (b + i2) :: .ref (b + i1) :: .ref (b + 170) :: st) :=
  pj_callV C (As := [.ref (b + i1), .ref (b + i2)]) (fun l D E => pc_Sw_takeFrame l D E t1 t2 h) rfl rfl cl_Switch (pj_lt tk_170 (by decide)) (fun E => ko_10 tk_170) wm_702 wm_703 wm_704 wm_100 wm_705 (by decide +kernel) (n := 2) rfl hR rfl h8 hdg hp (fun v u' hq => by obtain ⟨rfl, hk⟩ := hq; exact kk u' hk)
def rm_PG_pass : Room := { frames := 7, cells := 0, slots := 0, locals := 174 }
def pb_PG_pass_20  (K : Int32 → pj_M → Prop) (u : pj_M)  : Prop := K 0 u
set_option maxHeartbeats 1000000 in
theorem pt_PG_pass_20 {g : pj_G} {b : Nat} (C : pj_X g c_PG_pass 5 R_PG (some .boolean) rm_PG_pass) {K : Int32 → pj_M → Prop} (hE : pj_E g b (pj_Ki K))   {u : pj_M}    (h : pb_PG_pass_20  K u ) : pj_J g (pj_N g b u) 20 [none, none, none, none, none] [] := by
  unfold pb_PG_pass_20 at h
  refine pj_iconst C d_PG_pass_20 (pc' := 21) rfl (v := 0) (by decide) ?_
  exact pj_zret C hE d_PG_pass_21 pj_bi0 ⟨_, rfl, h⟩
def pb_PG_pass_195  (K : Int32 → pj_M → Prop) (u : pj_M)  : Prop := K 1 u
set_option maxHeartbeats 1000000 in
theorem pt_PG_pass_195 {g : pj_G} {b : Nat} (C : pj_X g c_PG_pass 5 R_PG (some .boolean) rm_PG_pass) {K : Int32 → pj_M → Prop} (hE : pj_E g b (pj_Ki K))   {u : pj_M}    (h : pb_PG_pass_195  K u ) : pj_J g (pj_N g b u) 195 [none, none, none, none, none] [] := by
  unfold pb_PG_pass_195 at h
  refine pj_iconst C d_PG_pass_195 (pc' := 196) rfl (v := 1) (by decide) ?_
  exact pj_zret C hE d_PG_pass_196 pj_bi1 ⟨_, rfl, h⟩
def pb_PG_pass_124  (K : Int32 → pj_M → Prop) (u : pj_M) (x4 : Int32) : Prop := vp_in x4 4 ∧ (pw_Sw_takeFrame u (185 + 7 * x4.toNatClampNeg) 215 fun u2 => (pb_PG_pass_195  K u2 ))
set_option maxHeartbeats 1000000 in
theorem pt_PG_pass_124 {g : pj_G} {b : Nat} (C : pj_X g c_PG_pass 5 R_PG (some .boolean) rm_PG_pass) {K : Int32 → pj_M → Prop} (hE : pj_E g b (pj_Ki K))   {u : pj_M} {x4 : Int32}   (h : pb_PG_pass_124  K u x4) : pj_J g (pj_N g b u) 124 [some (.ref (b + 0)), none, none, none, some (.int x4)] [] := by
  unfold pb_PG_pass_124 at h
  refine pj_aload_n C d_PG_pass_124 (pc' := 125) (i := 0) (x := b + 0) rfl rfl rfl ?_
  refine fg_PortGuard_44_PortGuard C tk_0 d_PG_pass_125 (pc' := 128) rfl ?_
  refine pj_aload_n C d_PG_pass_128 (pc' := 129) (i := 0) (x := b + 0) rfl rfl rfl ?_
  refine fg_PortGuard_44_PortGuard C tk_0 d_PG_pass_129 (pc' := 132) rfl ?_
  refine fg_PortGuard_81_Switch C tk_170 d_PG_pass_132 (pc' := 135) rfl ?_
  refine pj_iload C d_PG_pass_135 (pc' := 137) (i := 4) (x := x4) rfl rfl ?_
  obtain ⟨hv1, h⟩ := h
  refine pj_aldS C (pj_lt tk_171 (by decide)) (fun E u => ka_29 tk_171) (fun E => rfl) d_PG_pass_137 (pc' := 138) rfl ⟨hv1, h⟩ (fun h => ?_)
  refine pj_aload_n C d_PG_pass_138 (pc' := 139) (i := 0) (x := b + 0) rfl rfl rfl ?_
  refine fg_PortGuard_55_PortGuard C tk_0 d_PG_pass_139 (pc' := 142) rfl ?_
  refine ck_PortGuard_132_Switch C (pe_29 tk_171 hv1) (Or.inl tk_215) h d_PG_pass_142 (pc' := 145) rfl ⟨Nat.le_of_ble_eq_true rfl, Nat.le_of_ble_eq_true rfl⟩ (Nat.le_of_ble_eq_true rfl) (fun u2 h => ?_)
  refine pj_goto C d_PG_pass_145 (tgt := 195) (by decide) ?_
  exact pj_cut (pj_le_n (pj_le_n (pj_le_n (pj_le_n (pj_le_n pj_le_e))))) (pt_PG_pass_195 C hE   h)
def pb_PG_pass_148  (K : Int32 → pj_M → Prop) (u : pj_M) (x4 : Int32) : Prop := vp_in x4 4 ∧ (pw_Ho_takeFrame u (91 + 5 * x4.toNatClampNeg) 215 fun u2 => (pb_PG_pass_195  K u2 ))
set_option maxHeartbeats 1000000 in
theorem pt_PG_pass_148 {g : pj_G} {b : Nat} (C : pj_X g c_PG_pass 5 R_PG (some .boolean) rm_PG_pass) {K : Int32 → pj_M → Prop} (hE : pj_E g b (pj_Ki K))   {u : pj_M} {x4 : Int32}   (h : pb_PG_pass_148  K u x4) : pj_J g (pj_N g b u) 148 [some (.ref (b + 0)), none, none, none, some (.int x4)] [] := by
  unfold pb_PG_pass_148 at h
  refine pj_aload_n C d_PG_pass_148 (pc' := 149) (i := 0) (x := b + 0) rfl rfl rfl ?_
  refine fg_PortGuard_25_PortGuard C tk_0 d_PG_pass_149 (pc' := 152) rfl ?_
  refine pj_iload C d_PG_pass_152 (pc' := 154) (i := 4) (x := x4) rfl rfl ?_
  obtain ⟨hv1, h⟩ := h
  refine pj_aldS C (pj_lt tk_90 (by decide)) (fun E u => ka_25 tk_90) (fun E => rfl) d_PG_pass_154 (pc' := 155) rfl ⟨hv1, h⟩ (fun h => ?_)
  refine pj_aload_n C d_PG_pass_155 (pc' := 156) (i := 0) (x := b + 0) rfl rfl rfl ?_
  refine fg_PortGuard_55_PortGuard C tk_0 d_PG_pass_156 (pc' := 159) rfl ?_
  refine ck_PortGuard_136_Host C (pe_25 tk_90 hv1) (Or.inl tk_215) h d_PG_pass_159 (pc' := 162) rfl ⟨Nat.le_of_ble_eq_true rfl, Nat.le_of_ble_eq_true rfl⟩ (Nat.le_of_ble_eq_true rfl) (fun u2 h => ?_)
  refine pj_goto C d_PG_pass_162 (tgt := 195) (by decide) ?_
  exact pj_cut (pj_le_n (pj_le_n (pj_le_n (pj_le_n (pj_le_n pj_le_e))))) (pt_PG_pass_195 C hE   h)
def pb_PG_pass_165  (K : Int32 → pj_M → Prop) (u : pj_M) (x4 : Int32) : Prop := vp_in x4 2 ∧ (pw_Sv_takeRequest u (112 + 29 * x4.toNatClampNeg) 215 fun u2 => (pb_PG_pass_195  K u2 ))
set_option maxHeartbeats 1000000 in
theorem pt_PG_pass_165 {g : pj_G} {b : Nat} (C : pj_X g c_PG_pass 5 R_PG (some .boolean) rm_PG_pass) {K : Int32 → pj_M → Prop} (hE : pj_E g b (pj_Ki K))   {u : pj_M} {x4 : Int32}   (h : pb_PG_pass_165  K u x4) : pj_J g (pj_N g b u) 165 [some (.ref (b + 0)), none, none, none, some (.int x4)] [] := by
  unfold pb_PG_pass_165 at h
  refine pj_aload_n C d_PG_pass_165 (pc' := 166) (i := 0) (x := b + 0) rfl rfl rfl ?_
  refine fg_PortGuard_34_PortGuard C tk_0 d_PG_pass_166 (pc' := 169) rfl ?_
  refine pj_iload C d_PG_pass_169 (pc' := 171) (i := 4) (x := x4) rfl rfl ?_
  obtain ⟨hv1, h⟩ := h
  refine pj_aldS C (pj_lt tk_111 (by decide)) (fun E u => ka_26 tk_111) (fun E => rfl) d_PG_pass_171 (pc' := 172) rfl ⟨hv1, h⟩ (fun h => ?_)
  refine pj_aload_n C d_PG_pass_172 (pc' := 173) (i := 0) (x := b + 0) rfl rfl rfl ?_
  refine fg_PortGuard_55_PortGuard C tk_0 d_PG_pass_173 (pc' := 176) rfl ?_
  refine ck_PortGuard_138_Server C (pe_26 tk_111 hv1) (Or.inl tk_215) h d_PG_pass_176 (pc' := 179) rfl ⟨Nat.le_of_ble_eq_true rfl, Nat.le_of_ble_eq_true rfl⟩ (Nat.le_of_ble_eq_true rfl) (fun u2 h => ?_)
  refine pj_goto C d_PG_pass_179 (tgt := 195) (by decide) ?_
  exact pj_cut (pj_le_n (pj_le_n (pj_le_n (pj_le_n (pj_le_n pj_le_e))))) (pt_PG_pass_195 C hE   h)
def pb_PG_pass_182  (K : Int32 → pj_M → Prop) (u : pj_M) (x4 : Int32) : Prop := pw_Sw_takeAnswer u x4 215 fun u1 => (pb_PG_pass_195  K u1 )
set_option maxHeartbeats 1000000 in
theorem pt_PG_pass_182 {g : pj_G} {b : Nat} (C : pj_X g c_PG_pass 5 R_PG (some .boolean) rm_PG_pass) {K : Int32 → pj_M → Prop} (hE : pj_E g b (pj_Ki K))   {u : pj_M} {x4 : Int32}   (h : pb_PG_pass_182  K u x4) : pj_J g (pj_N g b u) 182 [some (.ref (b + 0)), none, none, none, some (.int x4)] [] := by
  unfold pb_PG_pass_182 at h
  refine pj_aload_n C d_PG_pass_182 (pc' := 183) (i := 0) (x := b + 0) rfl rfl rfl ?_
  refine fg_PortGuard_44_PortGuard C tk_0 d_PG_pass_183 (pc' := 186) rfl ?_
  refine pj_iload C d_PG_pass_186 (pc' := 188) (i := 4) (x := x4) rfl rfl ?_
  refine pj_aload_n C d_PG_pass_188 (pc' := 189) (i := 0) (x := b + 0) rfl rfl rfl ?_
  refine fg_PortGuard_55_PortGuard C tk_0 d_PG_pass_189 (pc' := 192) rfl ?_
  refine ck_PortGuard_141_Switch C (Or.inl tk_215) h d_PG_pass_192 (pc' := 195) rfl ⟨Nat.le_of_ble_eq_true rfl, Nat.le_of_ble_eq_true rfl⟩ (Nat.le_of_ble_eq_true rfl) (fun u1 h => ?_)
  exact pj_cut (pj_le_n (pj_le_n (pj_le_n (pj_le_n (pj_le_n pj_le_e))))) (pt_PG_pass_195 C hE   h)
def pb_PG_pass_95  (K : Int32 → pj_M → Prop) (u : pj_M) (x3 : Int32) (x4 : Int32) : Prop := ((x3 = 0) → (pb_PG_pass_124  K u x4)) ∧ (¬ (x3 = 0) → ((x3 = 1) → (pb_PG_pass_148  K u x4)) ∧ (¬ (x3 = 1) → ((x3 = 2) → (pb_PG_pass_165  K u x4)) ∧ (¬ (x3 = 2) → (pb_PG_pass_182  K u x4))))
set_option maxHeartbeats 1000000 in
theorem pt_PG_pass_95 {g : pj_G} {b : Nat} (C : pj_X g c_PG_pass 5 R_PG (some .boolean) rm_PG_pass) {K : Int32 → pj_M → Prop} (hE : pj_E g b (pj_Ki K))   {u : pj_M} {x3 : Int32} {x4 : Int32}   (h : pb_PG_pass_95  K u x3 x4) : pj_J g (pj_N g b u) 95 [some (.ref (b + 0)), none, none, some (.int x3), some (.int x4)] [] := by
  unfold pb_PG_pass_95 at h
  refine pj_iload_n C d_PG_pass_95 (pc' := 96) (i := 3) (x := x3) rfl rfl rfl ?_
  by_cases e0 : x3 = 0
  · have h := h.1 e0
    refine pj_tsIn C d_PG_pass_96 (kv := 0) (by rw [e0]; decide) (by decide) (by decide) (tgt := 124) rfl (by decide) ?_
    exact pj_cut (pj_le_s (pj_le_n (pj_le_n (pj_le_n (pj_le_s pj_le_e))))) (pt_PG_pass_124 C hE   h)
  have h := h.2 e0
  by_cases e1 : x3 = 1
  · have h := h.1 e1
    refine pj_tsIn C d_PG_pass_96 (kv := 1) (by rw [e1]; decide) (by decide) (by decide) (tgt := 148) rfl (by decide) ?_
    exact pj_cut (pj_le_s (pj_le_n (pj_le_n (pj_le_n (pj_le_s pj_le_e))))) (pt_PG_pass_148 C hE   h)
  have h := h.2 e1
  by_cases e2 : x3 = 2
  · have h := h.1 e2
    refine pj_tsIn C d_PG_pass_96 (kv := 2) (by rw [e2]; decide) (by decide) (by decide) (tgt := 165) rfl (by decide) ?_
    exact pj_cut (pj_le_s (pj_le_n (pj_le_n (pj_le_n (pj_le_s pj_le_e))))) (pt_PG_pass_165 C hE   h)
  have h := h.2 e2
  have z0 := lv_neT (a := 0) e0 (by decide)
  have z1 := lv_neT (a := 1) e1 (by decide)
  have z2 := lv_neT (a := 2) e2 (by decide)
  refine pj_tsOut C d_PG_pass_96 (by omega) (tgt := 182) (by decide) ?_
  exact pj_cut (pj_le_s (pj_le_n (pj_le_n (pj_le_n (pj_le_s pj_le_e))))) (pt_PG_pass_182 C hE   h)
def pb_PG_pass_93  (K : Int32 → pj_M → Prop) (u : pj_M)  : Prop := K 1 u
set_option maxHeartbeats 1000000 in
theorem pt_PG_pass_93 {g : pj_G} {b : Nat} (C : pj_X g c_PG_pass 5 R_PG (some .boolean) rm_PG_pass) {K : Int32 → pj_M → Prop} (hE : pj_E g b (pj_Ki K))   {u : pj_M}    (h : pb_PG_pass_93  K u ) : pj_J g (pj_N g b u) 93 [none, none, none, none, none] [] := by
  unfold pb_PG_pass_93 at h
  refine pj_iconst C d_PG_pass_93 (pc' := 94) rfl (v := 1) (by decide) ?_
  exact pj_zret C hE d_PG_pass_94 pj_bi1 ⟨_, rfl, h⟩
def pb_PG_pass_80  (K : Int32 → pj_M → Prop) (u : pj_M) (x1 : Int32) (x2 : Int32) (x3 : Int32) (x4 : Int32) : Prop := pw_Ma_drop u x1 fun u1 => (((x2 = 1) → (pb_PG_pass_93  K u1 )) ∧ (¬ (x2 = 1) → (pb_PG_pass_95  K u1 x3 x4)))
set_option maxHeartbeats 1000000 in
theorem pt_PG_pass_80 {g : pj_G} {b : Nat} (C : pj_X g c_PG_pass 5 R_PG (some .boolean) rm_PG_pass) {K : Int32 → pj_M → Prop} (hE : pj_E g b (pj_Ki K))   {u : pj_M} {x1 : Int32} {x2 : Int32} {x3 : Int32} {x4 : Int32}   (h : pb_PG_pass_80  K u x1 x2 x3 x4) : pj_J g (pj_N g b u) 80 [some (.ref (b + 0)), some (.int x1), some (.int x2), some (.int x3), some (.int x4)] [] := by
  unfold pb_PG_pass_80 at h
  refine pj_aload_n C d_PG_pass_80 (pc' := 81) (i := 0) (x := b + 0) rfl rfl rfl ?_
  refine fg_PortGuard_19_PortGuard C tk_0 d_PG_pass_81 (pc' := 84) rfl ?_
  refine pj_iload_n C d_PG_pass_84 (pc' := 85) (i := 1) (x := x1) rfl rfl rfl ?_
  refine ck_PortGuard_129_Mailbox C  h d_PG_pass_85 (pc' := 88) rfl ⟨Nat.le_of_ble_eq_true rfl, Nat.le_of_ble_eq_true rfl⟩ (Nat.le_of_ble_eq_true rfl) (fun u1 h => ?_)
  refine pj_iload_n C d_PG_pass_88 (pc' := 89) (i := 2) (x := x2) rfl rfl rfl ?_
  refine pj_iconst C d_PG_pass_89 (pc' := 90) rfl (v := 1) (by decide) ?_
  refine pj_icmp_ne C d_PG_pass_90 (pc' := 93) rfl (tgt := 95) (by decide) h (fun h => ?_) (fun h => ?_)
  · exact pj_cut (pj_le_s (pj_le_n (pj_le_n (pj_le_s (pj_le_s pj_le_e))))) (pt_PG_pass_95 C hE   h)
  · exact pj_cut (pj_le_n (pj_le_n (pj_le_n (pj_le_n (pj_le_n pj_le_e))))) (pt_PG_pass_93 C hE   h)
def pb_PG_pass_64  (K : Int32 → pj_M → Prop) (u : pj_M) (x3 : Int32) (x4 : Int32) : Prop := pw_Ma_send u x3 x4 215 fun u1 => (K 1 u1)
set_option maxHeartbeats 1000000 in
theorem pt_PG_pass_64 {g : pj_G} {b : Nat} (C : pj_X g c_PG_pass 5 R_PG (some .boolean) rm_PG_pass) {K : Int32 → pj_M → Prop} (hE : pj_E g b (pj_Ki K))   {u : pj_M} {x3 : Int32} {x4 : Int32}   (h : pb_PG_pass_64  K u x3 x4) : pj_J g (pj_N g b u) 64 [some (.ref (b + 0)), none, none, some (.int x3), some (.int x4)] [] := by
  unfold pb_PG_pass_64 at h
  refine pj_aload_n C d_PG_pass_64 (pc' := 65) (i := 0) (x := b + 0) rfl rfl rfl ?_
  refine fg_PortGuard_19_PortGuard C tk_0 d_PG_pass_65 (pc' := 68) rfl ?_
  refine pj_iload_n C d_PG_pass_68 (pc' := 69) (i := 3) (x := x3) rfl rfl rfl ?_
  refine pj_iload C d_PG_pass_69 (pc' := 71) (i := 4) (x := x4) rfl rfl ?_
  refine pj_aload_n C d_PG_pass_71 (pc' := 72) (i := 0) (x := b + 0) rfl rfl rfl ?_
  refine fg_PortGuard_55_PortGuard C tk_0 d_PG_pass_72 (pc' := 75) rfl ?_
  refine ck_PortGuard_125_Mailbox C (Or.inl tk_215) h d_PG_pass_75 (pc' := 78) rfl ⟨Nat.le_of_ble_eq_true rfl, Nat.le_of_ble_eq_true rfl⟩ (Nat.le_of_ble_eq_true rfl) (fun u1 h => ?_)
  refine pj_iconst C d_PG_pass_78 (pc' := 79) rfl (v := 1) (by decide) ?_
  exact pj_zret C hE d_PG_pass_79 pj_bi1 ⟨_, rfl, h⟩
def pb_PG_pass_22  (K : Int32 → pj_M → Prop) (u : pj_M) (x1 : Int32) (x2 : Int32) : Prop := vp_in x1 40 ∧ (pj_let (u 5 x1.toNatClampNeg) fun y1 => (vp_in x1 40 ∧ (pj_let (u 6 x1.toNatClampNeg) fun y2 => (vp_in x1 40 ∧ pj_let (u 7 x1.toNatClampNeg).toNatClampNeg fun i103 => pj_T i103 = 3 ∧ (pw_Ro_copy u 215 i103 fun u4 => (((x2 = 2) → (pb_PG_pass_64  K u4 y1 y2)) ∧ (¬ (x2 = 2) → (pb_PG_pass_80  K u4 x1 x2 y1 y2))))))))
set_option maxHeartbeats 1000000 in
theorem pt_PG_pass_22 {g : pj_G} {b : Nat} (C : pj_X g c_PG_pass 5 R_PG (some .boolean) rm_PG_pass) {K : Int32 → pj_M → Prop} (hE : pj_E g b (pj_Ki K))   {u : pj_M} {x1 : Int32} {x2 : Int32}   (h : pb_PG_pass_22  K u x1 x2) : pj_J g (pj_N g b u) 22 [some (.ref (b + 0)), some (.int x1), some (.int x2), none, none] [] := by
  unfold pb_PG_pass_22 at h
  refine pj_aload_n C d_PG_pass_22 (pc' := 23) (i := 0) (x := b + 0) rfl rfl rfl ?_
  refine fg_PortGuard_19_PortGuard C tk_0 d_PG_pass_23 (pc' := 26) rfl ?_
  refine fg_PortGuard_111_Mailbox C tk_4 d_PG_pass_26 (pc' := 29) rfl ?_
  refine pj_iload_n C d_PG_pass_29 (pc' := 30) (i := 1) (x := x1) rfl rfl rfl ?_
  refine pj_iald C (pj_lt tk_5 (by decide)) (fun E u => ka_21 tk_5) d_PG_pass_30 (pc' := 31) rfl h (fun h => ?_)
  refine pj_name h (fun y1 h => ?_)
  refine pj_istore_n C d_PG_pass_31 (pc' := 32) (i := 3) (vs' := [some (.ref (b + 0)), some (.int x1), some (.int x2), some (.int y1), none]) rfl rfl (Nat.le_of_ble_eq_true rfl) (Nat.le_of_ble_eq_true rfl) rfl rfl ?_
  refine pj_aload_n C d_PG_pass_32 (pc' := 33) (i := 0) (x := b + 0) rfl rfl rfl ?_
  refine fg_PortGuard_19_PortGuard C tk_0 d_PG_pass_33 (pc' := 36) rfl ?_
  refine fg_PortGuard_114_Mailbox C tk_4 d_PG_pass_36 (pc' := 39) rfl ?_
  refine pj_iload_n C d_PG_pass_39 (pc' := 40) (i := 1) (x := x1) rfl rfl rfl ?_
  refine pj_iald C (pj_lt tk_6 (by decide)) (fun E u => ka_21 tk_6) d_PG_pass_40 (pc' := 41) rfl h (fun h => ?_)
  refine pj_name h (fun y2 h => ?_)
  refine pj_istore C d_PG_pass_41 (pc' := 43) (i := 4) (vs' := [some (.ref (b + 0)), some (.int x1), some (.int x2), some (.int y1), some (.int y2)]) rfl (Nat.le_of_ble_eq_true rfl) (Nat.le_of_ble_eq_true rfl) rfl rfl ?_
  refine pj_aload_n C d_PG_pass_43 (pc' := 44) (i := 0) (x := b + 0) rfl rfl rfl ?_
  refine fg_PortGuard_55_PortGuard C tk_0 d_PG_pass_44 (pc' := 47) rfl ?_
  refine pj_aload_n C d_PG_pass_47 (pc' := 48) (i := 0) (x := b + 0) rfl rfl rfl ?_
  refine fg_PortGuard_19_PortGuard C tk_0 d_PG_pass_48 (pc' := 51) rfl ?_
  refine fg_PortGuard_117_Mailbox C tk_4 d_PG_pass_51 (pc' := 54) rfl ?_
  refine pj_iload_n C d_PG_pass_54 (pc' := 55) (i := 1) (x := x1) rfl rfl rfl ?_
  refine pj_aldM C (pj_lt tk_7 (by decide)) (fun E u => ka_24 tk_7) (fun E => rfl) d_PG_pass_55 (pc' := 56) rfl h (fun h => ?_)
  refine pj_nameR h (fun i103 h => ?_)
  obtain ⟨ti103, h⟩ := h
  refine ck_PortGuard_121_Row C tk_215 (Or.inl ti103) h d_PG_pass_56 (pc' := 59) rfl ⟨Nat.le_of_ble_eq_true rfl, Nat.le_of_ble_eq_true rfl⟩ (Nat.le_of_ble_eq_true rfl) (fun u4 h => ?_)
  refine pj_iload_n C d_PG_pass_59 (pc' := 60) (i := 2) (x := x2) rfl rfl rfl ?_
  refine pj_iconst C d_PG_pass_60 (pc' := 61) rfl (v := 2) (by decide) ?_
  refine pj_icmp_ne C d_PG_pass_61 (pc' := 64) rfl (tgt := 80) (by decide) h (fun h => ?_) (fun h => ?_)
  · exact pj_cut (pj_le_s (pj_le_s (pj_le_s (pj_le_s (pj_le_s pj_le_e))))) (pt_PG_pass_80 C hE   h)
  · exact pj_cut (pj_le_s (pj_le_n (pj_le_n (pj_le_s (pj_le_s pj_le_e))))) (pt_PG_pass_64 C hE   h)
def pb_PG_pass_15  (K : Int32 → pj_M → Prop) (u : pj_M) (x1 : Int32) (x2 : Int32) : Prop := ((x2 ≤ 2) → (pb_PG_pass_22  K u x1 x2)) ∧ (¬ (x2 ≤ 2) → (pb_PG_pass_20  K u ))
set_option maxHeartbeats 1000000 in
theorem pt_PG_pass_15 {g : pj_G} {b : Nat} (C : pj_X g c_PG_pass 5 R_PG (some .boolean) rm_PG_pass) {K : Int32 → pj_M → Prop} (hE : pj_E g b (pj_Ki K))   {u : pj_M} {x1 : Int32} {x2 : Int32}   (h : pb_PG_pass_15  K u x1 x2) : pj_J g (pj_N g b u) 15 [some (.ref (b + 0)), some (.int x1), some (.int x2), none, none] [] := by
  unfold pb_PG_pass_15 at h
  refine pj_iload_n C d_PG_pass_15 (pc' := 16) (i := 2) (x := x2) rfl rfl rfl ?_
  refine pj_iconst C d_PG_pass_16 (pc' := 17) rfl (v := 2) (by decide) ?_
  refine pj_icmp_le C d_PG_pass_17 (pc' := 20) rfl (tgt := 22) (by decide) h (fun h => ?_) (fun h => ?_)
  · exact pj_cut (pj_le_s (pj_le_s (pj_le_s (pj_le_n (pj_le_n pj_le_e))))) (pt_PG_pass_22 C hE   h)
  · exact pj_cut (pj_le_n (pj_le_n (pj_le_n (pj_le_n (pj_le_n pj_le_e))))) (pt_PG_pass_20 C hE   h)
def pb_PG_pass_11  (K : Int32 → pj_M → Prop) (u : pj_M) (x1 : Int32) (x2 : Int32) : Prop := ((x2 < 0) → (pb_PG_pass_20  K u )) ∧ (¬ (x2 < 0) → (pb_PG_pass_15  K u x1 x2))
set_option maxHeartbeats 1000000 in
theorem pt_PG_pass_11 {g : pj_G} {b : Nat} (C : pj_X g c_PG_pass 5 R_PG (some .boolean) rm_PG_pass) {K : Int32 → pj_M → Prop} (hE : pj_E g b (pj_Ki K))   {u : pj_M} {x1 : Int32} {x2 : Int32}   (h : pb_PG_pass_11  K u x1 x2) : pj_J g (pj_N g b u) 11 [some (.ref (b + 0)), some (.int x1), some (.int x2), none, none] [] := by
  unfold pb_PG_pass_11 at h
  refine pj_iload_n C d_PG_pass_11 (pc' := 12) (i := 2) (x := x2) rfl rfl rfl ?_
  refine pj_if_lt C d_PG_pass_12 (pc' := 15) rfl (tgt := 20) (by decide) h (fun h => ?_) (fun h => ?_)
  · exact pj_cut (pj_le_n (pj_le_n (pj_le_n (pj_le_n (pj_le_n pj_le_e))))) (pt_PG_pass_20 C hE   h)
  · exact pj_cut (pj_le_s (pj_le_s (pj_le_s (pj_le_n (pj_le_n pj_le_e))))) (pt_PG_pass_15 C hE   h)
def pb_PG_pass_0  (K : Int32 → pj_M → Prop) (u : pj_M) (x1 : Int32) (x2 : Int32) : Prop := pw_Ma_has u x1 fun r2 u1 => (((r2 = 0) → (pb_PG_pass_20  K u1 )) ∧ (¬ (r2 = 0) → (pb_PG_pass_11  K u1 x1 x2)))
set_option maxHeartbeats 1000000 in
theorem pt_PG_pass_0 {g : pj_G} {b : Nat} (C : pj_X g c_PG_pass 5 R_PG (some .boolean) rm_PG_pass) {K : Int32 → pj_M → Prop} (hE : pj_E g b (pj_Ki K))   {u : pj_M} {x1 : Int32} {x2 : Int32}   (h : pb_PG_pass_0  K u x1 x2) : pj_J g (pj_N g b u) 0 [some (.ref (b + 0)), some (.int x1), some (.int x2), none, none] [] := by
  unfold pb_PG_pass_0 at h
  refine pj_aload_n C d_PG_pass_0 (pc' := 1) (i := 0) (x := b + 0) rfl rfl rfl ?_
  refine fg_PortGuard_19_PortGuard C tk_0 d_PG_pass_1 (pc' := 4) rfl ?_
  refine pj_iload_n C d_PG_pass_4 (pc' := 5) (i := 1) (x := x1) rfl rfl rfl ?_
  refine ck_PortGuard_108_Mailbox C  h d_PG_pass_5 (pc' := 8) rfl ⟨Nat.le_of_ble_eq_true rfl, Nat.le_of_ble_eq_true rfl⟩ (Nat.le_of_ble_eq_true rfl) (fun r2 u1 h => ?_)
  refine pj_if_eq C d_PG_pass_8 (pc' := 11) rfl (tgt := 20) (by decide) h (fun h => ?_) (fun h => ?_)
  · exact pj_cut (pj_le_n (pj_le_n (pj_le_n (pj_le_n (pj_le_n pj_le_e))))) (pt_PG_pass_20 C hE   h)
  · exact pj_cut (pj_le_s (pj_le_s (pj_le_s (pj_le_n (pj_le_n pj_le_e))))) (pt_PG_pass_11 C hE   h)
def pw_PG_pass (u : pj_M) (x1 : Int32) (x2 : Int32) (K : Int32 → pj_M → Prop) : Prop := pb_PG_pass_0  K u x1 x2
theorem pc_PG_pass (l : Launch) (D : va_G) (E : Nat → ClassId) {b : Nat} {u : pj_M} {x1 : Int32} {x2 : Int32} {K : Int32 → pj_M → Prop}  (h : pw_PG_pass u x1 x2 K) : pj_C l y_PG_pass c_PG_pass 5 (some .boolean) rm_PG_pass D E b [.ref (b + 0), .int x1, .int x2] u (pj_Ki K) := by
  refine pj_met (own := R_PG) (by decide +kernel) rfl (Nat.le_of_ble_eq_true rfl) (fun g hE C => ?_)
  unfold pw_PG_pass at h
  show pj_J g (pj_N g b u) 0 [some (.ref (b + 0)), some (.int x1), some (.int x2), none, none] []
  exact pj_cut (pj_le_s (pj_le_s (pj_le_s (pj_le_n (pj_le_n pj_le_e))))) (pt_PG_pass_0 C hE   h)
/-! PortGuard.alter(III)Z -/
theorem fg_PortGuard_145_Row {g : pj_G} {b : Nat} {cc : ByteArray} {nL : Nat} {ret : Option FieldType} {rm : Room} {u : pj_M} {pc pc' : Nat} {vs : List (Option Value)} {st : List Value} (C : pj_X g cc nL R_PG ret rm) {i : Nat} (t : pj_T i = 3) (hdg : decode cc pc = .ok (.getfield 145, 3)) (hp : pc + 3 = pc') (kk : pj_J g (pj_N g b u) pc' vs (.int (u i 1) :: st)) : pj_J g (pj_N g b u) pc vs (.ref (b + i) :: st) :=
  pj_get C cl_Row hin_Row (k := 1) (Nat.le_of_ble_eq_true rfl) wm_155 (Or.inl rfl) (pj_lt t (by decide)) (fun E => ko_3 t) rfl hdg hp kk
theorem ck_PortGuard_148_Row {g : pj_G} {b : Nat} {cc : ByteArray} {nL : Nat} {ret : Option FieldType} {rm : Room} {u : pj_M} {pc pc' : Nat} {vs : List (Option Value)} {st : List Value} (C : pj_X g cc nL R_PG ret rm) {i0 : Nat} {x1 : Int32} {K : Int32 → pj_M → Prop} (t : pj_T i0 = 3) (h : pw_Ro_at u i0 x1 K) (hdg : decode cc pc = .ok (.invokevirtual 148, 3)) (hp : pc + 3 = pc') (hR : rm_Ro_at.frames + 1 ≤ rm.frames ∧ 8 + (2 + 11) + rm_Ro_at.locals ≤ rm.locals) (h8 : (st.map fun v => v.category).sum ≤ 8) (kk : ∀ r u', K r u' → pj_J g (pj_N g b u') pc' vs (.int r :: st)) : pj_J g (pj_N g b u) pc vs (.int x1 :: .ref (b + i0) :: st) := by
  have t0 : pj_R i0 := Or.inl t
  exact pj_callV C (As := [.int x1]) (fun l D E => pc_Ro_at l D E t0 h) rfl rfl cl_Row (pj_lt t (by decide)) (fun E => ko_3 t) wm_1031 wm_650 wm_1633 wm_94 wm_651 (by decide +kernel) (n := 1) rfl hR rfl h8 hdg hp (fun v u' hq => by obtain ⟨r, rfl, hk⟩ := hq; exact kk r u' hk)
theorem ck_PortGuard_152_Row {g : pj_G} {b : Nat} {cc : ByteArray} {nL : Nat} {ret : Option FieldType} {rm : Room} {u : pj_M} {pc pc' : Nat} {vs : List (Option Value)} {st : List Value} (C : pj_X g cc nL R_PG ret rm) {i0 : Nat} {x1 : Int32} {x2 : Int32} {K : pj_M → Prop} (t : pj_T i0 = 3) (h : pw_Ro_set u i0 x1 x2 K) (hdg : decode cc pc = .ok (.invokevirtual 152, 3)) (hp : pc + 3 = pc') (hR : rm_Ro_set.frames + 1 ≤ rm.frames ∧ 8 + (3 + 11) + rm_Ro_set.locals ≤ rm.locals) (h8 : (st.map fun v => v.category).sum ≤ 8) (kk : ∀ u', K u' → pj_J g (pj_N g b u') pc' vs st) : pj_J g (pj_N g b u) pc vs (.int x2 :: .int x1 :: .ref (b + i0) :: st) := by
  have t0 : pj_R i0 := Or.inl t
  exact pj_callV C (As := [.int x1, .int x2]) (fun l D E => pc_Ro_set l D E t0 h) rfl rfl cl_Row (pj_lt t (by decide)) (fun E => ko_3 t) wm_1032 wm_626 wm_1636 wm_94 wm_627 (by decide +kernel) (n := 2) rfl hR rfl h8 hdg hp (fun v u' hq => by obtain ⟨rfl, hk⟩ := hq; exact kk u' hk)
def rm_PG_alter : Room := { frames := 1, cells := 0, slots := 0, locals := 22 }
def pb_PG_alter_31  (K : Int32 → pj_M → Prop) (u : pj_M)  : Prop := K 0 u
set_option maxHeartbeats 1000000 in
theorem pt_PG_alter_31 {g : pj_G} {b : Nat} (C : pj_X g c_PG_alter 5 R_PG (some .boolean) rm_PG_alter) {K : Int32 → pj_M → Prop} (hE : pj_E g b (pj_Ki K))   {u : pj_M}    (h : pb_PG_alter_31  K u ) : pj_J g (pj_N g b u) 31 [none, none, none, none, none] [] := by
  unfold pb_PG_alter_31 at h
  refine pj_iconst C d_PG_alter_31 (pc' := 32) rfl (v := 0) (by decide) ?_
  exact pj_zret C hE d_PG_alter_32 pj_bi0 ⟨_, rfl, h⟩
def pb_PG_alter_33  (K : Int32 → pj_M → Prop) (u : pj_M) (x1 : Int32) (x2 : Int32) (x3 : Int32) : Prop := vp_in x1 40 ∧ pj_let (u 7 x1.toNatClampNeg).toNatClampNeg fun i101 => pj_T i101 = 3 ∧ (pw_Ro_at u i101 x2 fun r3 u2 => (pw_Ro_set u2 i101 x2 (r3 ^^^ (x3 &&& 255)) fun u4 => (K 1 u4)))
set_option maxHeartbeats 1000000 in
theorem pt_PG_alter_33 {g : pj_G} {b : Nat} (C : pj_X g c_PG_alter 5 R_PG (some .boolean) rm_PG_alter) {K : Int32 → pj_M → Prop} (hE : pj_E g b (pj_Ki K))   {u : pj_M} {x1 : Int32} {x2 : Int32} {x3 : Int32}   (h : pb_PG_alter_33  K u x1 x2 x3) : pj_J g (pj_N g b u) 33 [some (.ref (b + 0)), some (.int x1), some (.int x2), some (.int x3), none] [] := by
  unfold pb_PG_alter_33 at h
  refine pj_aload_n C d_PG_alter_33 (pc' := 34) (i := 0) (x := b + 0) rfl rfl rfl ?_
  refine fg_PortGuard_19_PortGuard C tk_0 d_PG_alter_34 (pc' := 37) rfl ?_
  refine fg_PortGuard_117_Mailbox C tk_4 d_PG_alter_37 (pc' := 40) rfl ?_
  refine pj_iload_n C d_PG_alter_40 (pc' := 41) (i := 1) (x := x1) rfl rfl rfl ?_
  refine pj_aldM C (pj_lt tk_7 (by decide)) (fun E u => ka_24 tk_7) (fun E => rfl) d_PG_alter_41 (pc' := 42) rfl h (fun h => ?_)
  refine pj_nameR h (fun i101 h => ?_)
  obtain ⟨ti101, h⟩ := h
  refine pj_astore C d_PG_alter_42 (pc' := 44) (i := 4) (vs' := [some (.ref (b + 0)), some (.int x1), some (.int x2), some (.int x3), some (.ref (b + i101))]) rfl (Nat.le_of_ble_eq_true rfl) (Nat.le_of_ble_eq_true rfl) rfl rfl ?_
  refine pj_aload C d_PG_alter_44 (pc' := 46) (i := 4) (x := b + i101) rfl rfl ?_
  refine pj_iload_n C d_PG_alter_46 (pc' := 47) (i := 2) (x := x2) rfl rfl rfl ?_
  refine pj_aload C d_PG_alter_47 (pc' := 49) (i := 4) (x := b + i101) rfl rfl ?_
  refine pj_iload_n C d_PG_alter_49 (pc' := 50) (i := 2) (x := x2) rfl rfl rfl ?_
  refine ck_PortGuard_148_Row C ti101 h d_PG_alter_50 (pc' := 53) rfl ⟨Nat.le_of_ble_eq_true rfl, Nat.le_of_ble_eq_true rfl⟩ (Nat.le_of_ble_eq_true rfl) (fun r3 u2 h => ?_)
  refine pj_iload_n C d_PG_alter_53 (pc' := 54) (i := 3) (x := x3) rfl rfl rfl ?_
  refine pj_sipush C d_PG_alter_54 (pc' := 57) rfl (v := 255) (by decide) ?_
  refine pj_iand C d_PG_alter_57 (pc' := 58) rfl ?_
  refine pj_ixor C d_PG_alter_58 (pc' := 59) rfl ?_
  refine ck_PortGuard_152_Row C ti101 h d_PG_alter_59 (pc' := 62) rfl ⟨Nat.le_of_ble_eq_true rfl, Nat.le_of_ble_eq_true rfl⟩ (Nat.le_of_ble_eq_true rfl) (fun u4 h => ?_)
  refine pj_iconst C d_PG_alter_62 (pc' := 63) rfl (v := 1) (by decide) ?_
  exact pj_zret C hE d_PG_alter_63 pj_bi1 ⟨_, rfl, h⟩
def pb_PG_alter_15  (K : Int32 → pj_M → Prop) (u : pj_M) (x1 : Int32) (x2 : Int32) (x3 : Int32) : Prop := vp_in x1 40 ∧ pj_let (u 7 x1.toNatClampNeg).toNatClampNeg fun i101 => pj_T i101 = 3 ∧ (((x2 < (u i101 1)) → (pb_PG_alter_33  K u x1 x2 x3)) ∧ (¬ (x2 < (u i101 1)) → (pb_PG_alter_31  K u )))
set_option maxHeartbeats 1000000 in
theorem pt_PG_alter_15 {g : pj_G} {b : Nat} (C : pj_X g c_PG_alter 5 R_PG (some .boolean) rm_PG_alter) {K : Int32 → pj_M → Prop} (hE : pj_E g b (pj_Ki K))   {u : pj_M} {x1 : Int32} {x2 : Int32} {x3 : Int32}   (h : pb_PG_alter_15  K u x1 x2 x3) : pj_J g (pj_N g b u) 15 [some (.ref (b + 0)), some (.int x1), some (.int x2), some (.int x3), none] [] := by
  unfold pb_PG_alter_15 at h
  refine pj_iload_n C d_PG_alter_15 (pc' := 16) (i := 2) (x := x2) rfl rfl rfl ?_
  refine pj_aload_n C d_PG_alter_16 (pc' := 17) (i := 0) (x := b + 0) rfl rfl rfl ?_
  refine fg_PortGuard_19_PortGuard C tk_0 d_PG_alter_17 (pc' := 20) rfl ?_
  refine fg_PortGuard_117_Mailbox C tk_4 d_PG_alter_20 (pc' := 23) rfl ?_
  refine pj_iload_n C d_PG_alter_23 (pc' := 24) (i := 1) (x := x1) rfl rfl rfl ?_
  refine pj_aldM C (pj_lt tk_7 (by decide)) (fun E u => ka_24 tk_7) (fun E => rfl) d_PG_alter_24 (pc' := 25) rfl h (fun h => ?_)
  refine pj_nameR h (fun i101 h => ?_)
  obtain ⟨ti101, h⟩ := h
  refine fg_PortGuard_145_Row C ti101 d_PG_alter_25 (pc' := 28) rfl ?_
  refine pj_icmp_lt C d_PG_alter_28 (pc' := 31) rfl (tgt := 33) (by decide) h (fun h => ?_) (fun h => ?_)
  · exact pj_cut (pj_le_s (pj_le_s (pj_le_s (pj_le_s (pj_le_n pj_le_e))))) (pt_PG_alter_33 C hE   h)
  · exact pj_cut (pj_le_n (pj_le_n (pj_le_n (pj_le_n (pj_le_n pj_le_e))))) (pt_PG_alter_31 C hE   h)
def pb_PG_alter_11  (K : Int32 → pj_M → Prop) (u : pj_M) (x1 : Int32) (x2 : Int32) (x3 : Int32) : Prop := ((x2 < 0) → (pb_PG_alter_31  K u )) ∧ (¬ (x2 < 0) → (pb_PG_alter_15  K u x1 x2 x3))
set_option maxHeartbeats 1000000 in
theorem pt_PG_alter_11 {g : pj_G} {b : Nat} (C : pj_X g c_PG_alter 5 R_PG (some .boolean) rm_PG_alter) {K : Int32 → pj_M → Prop} (hE : pj_E g b (pj_Ki K))   {u : pj_M} {x1 : Int32} {x2 : Int32} {x3 : Int32}   (h : pb_PG_alter_11  K u x1 x2 x3) : pj_J g (pj_N g b u) 11 [some (.ref (b + 0)), some (.int x1), some (.int x2), some (.int x3), none] [] := by
  unfold pb_PG_alter_11 at h
  refine pj_iload_n C d_PG_alter_11 (pc' := 12) (i := 2) (x := x2) rfl rfl rfl ?_
  refine pj_if_lt C d_PG_alter_12 (pc' := 15) rfl (tgt := 31) (by decide) h (fun h => ?_) (fun h => ?_)
  · exact pj_cut (pj_le_n (pj_le_n (pj_le_n (pj_le_n (pj_le_n pj_le_e))))) (pt_PG_alter_31 C hE   h)
  · exact pj_cut (pj_le_s (pj_le_s (pj_le_s (pj_le_s (pj_le_n pj_le_e))))) (pt_PG_alter_15 C hE   h)
def pb_PG_alter_0  (K : Int32 → pj_M → Prop) (u : pj_M) (x1 : Int32) (x2 : Int32) (x3 : Int32) : Prop := pw_Ma_has u x1 fun r2 u1 => (((r2 = 0) → (pb_PG_alter_31  K u1 )) ∧ (¬ (r2 = 0) → (pb_PG_alter_11  K u1 x1 x2 x3)))
set_option maxHeartbeats 1000000 in
theorem pt_PG_alter_0 {g : pj_G} {b : Nat} (C : pj_X g c_PG_alter 5 R_PG (some .boolean) rm_PG_alter) {K : Int32 → pj_M → Prop} (hE : pj_E g b (pj_Ki K))   {u : pj_M} {x1 : Int32} {x2 : Int32} {x3 : Int32}   (h : pb_PG_alter_0  K u x1 x2 x3) : pj_J g (pj_N g b u) 0 [some (.ref (b + 0)), some (.int x1), some (.int x2), some (.int x3), none] [] := by
  unfold pb_PG_alter_0 at h
  refine pj_aload_n C d_PG_alter_0 (pc' := 1) (i := 0) (x := b + 0) rfl rfl rfl ?_
  refine fg_PortGuard_19_PortGuard C tk_0 d_PG_alter_1 (pc' := 4) rfl ?_
  refine pj_iload_n C d_PG_alter_4 (pc' := 5) (i := 1) (x := x1) rfl rfl rfl ?_
  refine ck_PortGuard_108_Mailbox C  h d_PG_alter_5 (pc' := 8) rfl ⟨Nat.le_of_ble_eq_true rfl, Nat.le_of_ble_eq_true rfl⟩ (Nat.le_of_ble_eq_true rfl) (fun r2 u1 h => ?_)
  refine pj_if_eq C d_PG_alter_8 (pc' := 11) rfl (tgt := 31) (by decide) h (fun h => ?_) (fun h => ?_)
  · exact pj_cut (pj_le_n (pj_le_n (pj_le_n (pj_le_n (pj_le_n pj_le_e))))) (pt_PG_alter_31 C hE   h)
  · exact pj_cut (pj_le_s (pj_le_s (pj_le_s (pj_le_s (pj_le_n pj_le_e))))) (pt_PG_alter_11 C hE   h)
def pw_PG_alter (u : pj_M) (x1 : Int32) (x2 : Int32) (x3 : Int32) (K : Int32 → pj_M → Prop) : Prop := pb_PG_alter_0  K u x1 x2 x3
theorem pc_PG_alter (l : Launch) (D : va_G) (E : Nat → ClassId) {b : Nat} {u : pj_M} {x1 : Int32} {x2 : Int32} {x3 : Int32} {K : Int32 → pj_M → Prop}  (h : pw_PG_alter u x1 x2 x3 K) : pj_C l y_PG_alter c_PG_alter 5 (some .boolean) rm_PG_alter D E b [.ref (b + 0), .int x1, .int x2, .int x3] u (pj_Ki K) := by
  refine pj_met (own := R_PG) (by decide +kernel) rfl (Nat.le_of_ble_eq_true rfl) (fun g hE C => ?_)
  unfold pw_PG_alter at h
  show pj_J g (pj_N g b u) 0 [some (.ref (b + 0)), some (.int x1), some (.int x2), some (.int x3), none] []
  exact pj_cut (pj_le_s (pj_le_s (pj_le_s (pj_le_s (pj_le_n pj_le_e))))) (pt_PG_alter_0 C hE   h)
/-! PortGuard.draft(JI)Z -/
theorem fg_PortGuard_51_PortGuard {g : pj_G} {b : Nat} {cc : ByteArray} {nL : Nat} {ret : Option FieldType} {rm : Room} {u : pj_M} {pc pc' : Nat} {vs : List (Option Value)} {st : List Value} (C : pj_X g cc nL R_PG ret rm) {i : Nat} (t : pj_T i = 0) (hdg : decode cc pc = .ok (.getfield 51, 3)) (hp : pc + 3 = pc') (kk : pj_J g (pj_N g b u) pc' vs (.ref (b + 213) :: st)) : pj_J g (pj_N g b u) pc vs (.ref (b + i) :: st) :=
  pj_get C cl_PortGuard hin_PortGuard (k := 5) (Nat.le_of_ble_eq_true rfl) wm_530 (Or.inl rfl) (pj_lt t (by decide)) (fun E => ko_0 t) rfl hdg hp kk
theorem ck_PortGuard_156_Row {g : pj_G} {b : Nat} {cc : ByteArray} {nL : Nat} {ret : Option FieldType} {rm : Room} {u : pj_M} {pc pc' : Nat} {vs : List (Option Value)} {st : List Value} (C : pj_X g cc nL R_PG ret rm) {i0 : Nat} {x1 : Int32} {K : pj_M → Prop} (t : pj_T i0 = 3) (h : pw_Ro_put u i0 x1 K) (hdg : decode cc pc = .ok (.invokevirtual 156, 3)) (hp : pc + 3 = pc') (hR : rm_Ro_put.frames + 1 ≤ rm.frames ∧ 8 + (2 + 11) + rm_Ro_put.locals ≤ rm.locals) (h8 : (st.map fun v => v.category).sum ≤ 8) (kk : ∀ u', K u' → pj_J g (pj_N g b u') pc' vs st) : pj_J g (pj_N g b u) pc vs (.int x1 :: .ref (b + i0) :: st) := by
  have t0 : pj_R i0 := Or.inl t
  exact pj_callV C (As := [.int x1]) (fun l D E => pc_Ro_put l D E t0 h) rfl rfl cl_Row (pj_lt t (by decide)) (fun E => ko_3 t) wm_1037 wm_589 wm_590 wm_94 wm_593 (by decide +kernel) (n := 1) rfl hR rfl h8 hdg hp (fun v u' hq => by obtain ⟨rfl, hk⟩ := hq; exact kk u' hk)
def rm_PG_draft : Room := { frames := 1, cells := 0, slots := 0, locals := 21 }
def pb_PG_draft_25  (K : Int32 → pj_M → Prop) (u : pj_M)  : Prop := K 0 u
set_option maxHeartbeats 1000000 in
theorem pt_PG_draft_25 {g : pj_G} {b : Nat} (C : pj_X g c_PG_draft 5 R_PG (some .boolean) rm_PG_draft) {K : Int32 → pj_M → Prop} (hE : pj_E g b (pj_Ki K))   {u : pj_M}    (h : pb_PG_draft_25  K u ) : pj_J g (pj_N g b u) 25 [none, none, none, none, none] [] := by
  unfold pb_PG_draft_25 at h
  refine pj_iconst C d_PG_draft_25 (pc' := 26) rfl (v := 0) (by decide) ?_
  exact pj_zret C hE d_PG_draft_26 pj_bi0 ⟨_, rfl, h⟩
def pb_PG_draft_57  (K : Int32 → pj_M → Prop) (u : pj_M)  : Prop := K 1 u
set_option maxHeartbeats 1000000 in
theorem pt_PG_draft_57 {g : pj_G} {b : Nat} (C : pj_X g c_PG_draft 5 R_PG (some .boolean) rm_PG_draft) {K : Int32 → pj_M → Prop} (hE : pj_E g b (pj_Ki K))   {u : pj_M}    (h : pb_PG_draft_57  K u ) : pj_J g (pj_N g b u) 57 [none, none, none, none, none] [] := by
  unfold pb_PG_draft_57 at h
  refine pj_iconst C d_PG_draft_57 (pc' := 58) rfl (v := 1) (by decide) ?_
  exact pj_zret C hE d_PG_draft_58 pj_bi1 ⟨_, rfl, h⟩
def pb_PG_draft_36 (R30 : pj_M → Int32 → Prop) (K : Int32 → pj_M → Prop) (u : pj_M) (x1 : Int64) (x3 : Int32) (x4 : Int32) : Prop := pw_Ro_put u 213 (((x1.toUInt64 >>> ((8 * x4).toInt64.toUInt64 &&& Int64.toUInt64 63)).toInt64).toInt32) fun u1 => (R30 u1 (x4 + 1))
set_option maxHeartbeats 1000000 in
theorem pt_PG_draft_36 {g : pj_G} {b : Nat} (C : pj_X g c_PG_draft 5 R_PG (some .boolean) rm_PG_draft) {K : Int32 → pj_M → Prop} (hE : pj_E g b (pj_Ki K)) {R30 : pj_M → Int32 → Prop}  {u : pj_M} {x1 : Int64} {x3 : Int32} {x4 : Int32} (hR30 : ∀ (u : pj_M) (x4 : Int32), R30 u x4 → pj_J g (pj_N g b u) 30 [some (.ref (b + 0)), some (.long x1), none, some (.int x3), some (.int x4)] [])  (h : pb_PG_draft_36 R30 K u x1 x3 x4) : pj_J g (pj_N g b u) 36 [some (.ref (b + 0)), some (.long x1), none, some (.int x3), some (.int x4)] [] := by
  unfold pb_PG_draft_36 at h
  refine pj_aload_n C d_PG_draft_36 (pc' := 37) (i := 0) (x := b + 0) rfl rfl rfl ?_
  refine fg_PortGuard_51_PortGuard C tk_0 d_PG_draft_37 (pc' := 40) rfl ?_
  refine pj_lload_n C d_PG_draft_40 (pc' := 41) (i := 1) (x := x1) rfl rfl rfl ?_
  refine pj_bipush C d_PG_draft_41 (pc' := 43) rfl (v := 8) (by decide) ?_
  refine pj_iload C d_PG_draft_43 (pc' := 45) (i := 4) (x := x4) rfl rfl ?_
  refine pj_imul C d_PG_draft_45 (pc' := 46) rfl ?_
  refine pj_lushr C d_PG_draft_46 (pc' := 47) rfl ?_
  refine pj_l2i C d_PG_draft_47 (pc' := 48) rfl ?_
  refine ck_PortGuard_156_Row C tk_213 h d_PG_draft_48 (pc' := 51) rfl ⟨Nat.le_of_ble_eq_true rfl, Nat.le_of_ble_eq_true rfl⟩ (Nat.le_of_ble_eq_true rfl) (fun u1 h => ?_)
  refine pj_iinc C d_PG_draft_51 (pc' := 54) (x := x4) (d := 1) (vs' := [some (.ref (b + 0)), some (.long x1), none, some (.int x3), some (.int (x4 + 1))]) rfl rfl (Nat.le_of_ble_eq_true rfl) rfl (by decide) rfl ?_
  refine pj_goto C d_PG_draft_54 (tgt := 30) (by decide) ?_
  exact pj_cut (pj_le_s (pj_le_s (pj_le_n (pj_le_s (pj_le_s pj_le_e))))) (hR30 _ _ h)
def pb_PG_draft_30b (R30 : pj_M → Int32 → Prop) (K : Int32 → pj_M → Prop) (u : pj_M) (x1 : Int64) (x3 : Int32) (x4 : Int32) : Prop := ((x3 ≤ x4) → (pb_PG_draft_57  K u )) ∧ (¬ (x3 ≤ x4) → (pb_PG_draft_36 R30 K u x1 x3 x4))
set_option maxHeartbeats 1000000 in
theorem pt_PG_draft_30b {g : pj_G} {b : Nat} (C : pj_X g c_PG_draft 5 R_PG (some .boolean) rm_PG_draft) {K : Int32 → pj_M → Prop} (hE : pj_E g b (pj_Ki K)) {R30 : pj_M → Int32 → Prop}  {u : pj_M} {x1 : Int64} {x3 : Int32} {x4 : Int32} (hR30 : ∀ (u : pj_M) (x4 : Int32), R30 u x4 → pj_J g (pj_N g b u) 30 [some (.ref (b + 0)), some (.long x1), none, some (.int x3), some (.int x4)] [])  (h : pb_PG_draft_30b R30 K u x1 x3 x4) : pj_J g (pj_N g b u) 30 [some (.ref (b + 0)), some (.long x1), none, some (.int x3), some (.int x4)] [] := by
  unfold pb_PG_draft_30b at h
  refine pj_iload C d_PG_draft_30 (pc' := 32) (i := 4) (x := x4) rfl rfl ?_
  refine pj_iload_n C d_PG_draft_32 (pc' := 33) (i := 3) (x := x3) rfl rfl rfl ?_
  refine pj_icmp_ge C d_PG_draft_33 (pc' := 36) rfl (tgt := 57) (by decide) h (fun h => ?_) (fun h => ?_)
  · exact pj_cut (pj_le_n (pj_le_n (pj_le_n (pj_le_n (pj_le_n pj_le_e))))) (pt_PG_draft_57 C hE   h)
  · exact pj_cut (pj_le_s (pj_le_s (pj_le_n (pj_le_s (pj_le_s pj_le_e))))) (pt_PG_draft_36 C hE hR30  h)
def pb_PG_draft_30  (K : Int32 → pj_M → Prop) (x1 : Int64) (x3 : Int32) : Nat → pj_M → Int32 → Prop
  | 0 => fun _ _ => False
  | n + 1 => fun u x4 => pb_PG_draft_30b (pb_PG_draft_30  K x1 x3 n) K u x1 x3 x4
theorem pt_PG_draft_30 {g : pj_G} {b : Nat} (C : pj_X g c_PG_draft 5 R_PG (some .boolean) rm_PG_draft) {K : Int32 → pj_M → Prop} (hE : pj_E g b (pj_Ki K))  {x1 : Int64} {x3 : Int32}   : ∀ (n : Nat) (u : pj_M) (x4 : Int32), pb_PG_draft_30  K x1 x3 n u x4 → pj_J g (pj_N g b u) 30 [some (.ref (b + 0)), some (.long x1), none, some (.int x3), some (.int x4)] [] := by
  intro n
  induction n with
  | zero => intro u x4 h; exact False.elim h
  | succ n ih =>
    intro u x4 h
    exact (pt_PG_draft_30b C hE ih  h)
def pb_PG_draft_27  (K : Int32 → pj_M → Prop) (u : pj_M) (x1 : Int64) (x3 : Int32) : Prop := ∃ n, pb_PG_draft_30  K x1 x3 n u 0
set_option maxHeartbeats 1000000 in
theorem pt_PG_draft_27 {g : pj_G} {b : Nat} (C : pj_X g c_PG_draft 5 R_PG (some .boolean) rm_PG_draft) {K : Int32 → pj_M → Prop} (hE : pj_E g b (pj_Ki K))   {u : pj_M} {x1 : Int64} {x3 : Int32}   (h : pb_PG_draft_27  K u x1 x3) : pj_J g (pj_N g b u) 27 [some (.ref (b + 0)), some (.long x1), none, some (.int x3), none] [] := by
  unfold pb_PG_draft_27 at h
  refine pj_iconst C d_PG_draft_27 (pc' := 28) rfl (v := 0) (by decide) ?_
  refine pj_istore C d_PG_draft_28 (pc' := 30) (i := 4) (vs' := [some (.ref (b + 0)), some (.long x1), none, some (.int x3), some (.int 0)]) rfl (Nat.le_of_ble_eq_true rfl) (Nat.le_of_ble_eq_true rfl) rfl rfl ?_
  obtain ⟨n, h⟩ := h
  exact pj_cut (pj_le_s (pj_le_s (pj_le_n (pj_le_s (pj_le_s pj_le_e))))) (pt_PG_draft_30 C hE   n _ _ h)
def pb_PG_draft_11  (K : Int32 → pj_M → Prop) (u : pj_M) (x1 : Int64) (x3 : Int32) : Prop := ((((u 213 1) + x3) ≤ 48) → (pb_PG_draft_27  K u x1 x3)) ∧ (¬ (((u 213 1) + x3) ≤ 48) → (pb_PG_draft_25  K u ))
set_option maxHeartbeats 1000000 in
theorem pt_PG_draft_11 {g : pj_G} {b : Nat} (C : pj_X g c_PG_draft 5 R_PG (some .boolean) rm_PG_draft) {K : Int32 → pj_M → Prop} (hE : pj_E g b (pj_Ki K))   {u : pj_M} {x1 : Int64} {x3 : Int32}   (h : pb_PG_draft_11  K u x1 x3) : pj_J g (pj_N g b u) 11 [some (.ref (b + 0)), some (.long x1), none, some (.int x3), none] [] := by
  unfold pb_PG_draft_11 at h
  refine pj_aload_n C d_PG_draft_11 (pc' := 12) (i := 0) (x := b + 0) rfl rfl rfl ?_
  refine fg_PortGuard_51_PortGuard C tk_0 d_PG_draft_12 (pc' := 15) rfl ?_
  refine fg_PortGuard_145_Row C tk_213 d_PG_draft_15 (pc' := 18) rfl ?_
  refine pj_iload_n C d_PG_draft_18 (pc' := 19) (i := 3) (x := x3) rfl rfl rfl ?_
  refine pj_iadd C d_PG_draft_19 (pc' := 20) rfl ?_
  refine pj_bipush C d_PG_draft_20 (pc' := 22) rfl (v := 48) (by decide) ?_
  refine pj_icmp_le C d_PG_draft_22 (pc' := 25) rfl (tgt := 27) (by decide) h (fun h => ?_) (fun h => ?_)
  · exact pj_cut (pj_le_s (pj_le_s (pj_le_n (pj_le_s (pj_le_n pj_le_e))))) (pt_PG_draft_27 C hE   h)
  · exact pj_cut (pj_le_n (pj_le_n (pj_le_n (pj_le_n (pj_le_n pj_le_e))))) (pt_PG_draft_25 C hE   h)
def pb_PG_draft_5  (K : Int32 → pj_M → Prop) (u : pj_M) (x1 : Int64) (x3 : Int32) : Prop := ((8 < x3) → (pb_PG_draft_25  K u )) ∧ (¬ (8 < x3) → (pb_PG_draft_11  K u x1 x3))
set_option maxHeartbeats 1000000 in
theorem pt_PG_draft_5 {g : pj_G} {b : Nat} (C : pj_X g c_PG_draft 5 R_PG (some .boolean) rm_PG_draft) {K : Int32 → pj_M → Prop} (hE : pj_E g b (pj_Ki K))   {u : pj_M} {x1 : Int64} {x3 : Int32}   (h : pb_PG_draft_5  K u x1 x3) : pj_J g (pj_N g b u) 5 [some (.ref (b + 0)), some (.long x1), none, some (.int x3), none] [] := by
  unfold pb_PG_draft_5 at h
  refine pj_iload_n C d_PG_draft_5 (pc' := 6) (i := 3) (x := x3) rfl rfl rfl ?_
  refine pj_bipush C d_PG_draft_6 (pc' := 8) rfl (v := 8) (by decide) ?_
  refine pj_icmp_gt C d_PG_draft_8 (pc' := 11) rfl (tgt := 25) (by decide) h (fun h => ?_) (fun h => ?_)
  · exact pj_cut (pj_le_n (pj_le_n (pj_le_n (pj_le_n (pj_le_n pj_le_e))))) (pt_PG_draft_25 C hE   h)
  · exact pj_cut (pj_le_s (pj_le_s (pj_le_n (pj_le_s (pj_le_n pj_le_e))))) (pt_PG_draft_11 C hE   h)
def pb_PG_draft_0  (K : Int32 → pj_M → Prop) (u : pj_M) (x1 : Int64) (x3 : Int32) : Prop := ((x3 < 1) → (pb_PG_draft_25  K u )) ∧ (¬ (x3 < 1) → (pb_PG_draft_5  K u x1 x3))
set_option maxHeartbeats 1000000 in
theorem pt_PG_draft_0 {g : pj_G} {b : Nat} (C : pj_X g c_PG_draft 5 R_PG (some .boolean) rm_PG_draft) {K : Int32 → pj_M → Prop} (hE : pj_E g b (pj_Ki K))   {u : pj_M} {x1 : Int64} {x3 : Int32}   (h : pb_PG_draft_0  K u x1 x3) : pj_J g (pj_N g b u) 0 [some (.ref (b + 0)), some (.long x1), none, some (.int x3), none] [] := by
  unfold pb_PG_draft_0 at h
  refine pj_iload_n C d_PG_draft_0 (pc' := 1) (i := 3) (x := x3) rfl rfl rfl ?_
  refine pj_iconst C d_PG_draft_1 (pc' := 2) rfl (v := 1) (by decide) ?_
  refine pj_icmp_lt C d_PG_draft_2 (pc' := 5) rfl (tgt := 25) (by decide) h (fun h => ?_) (fun h => ?_)
  · exact pj_cut (pj_le_n (pj_le_n (pj_le_n (pj_le_n (pj_le_n pj_le_e))))) (pt_PG_draft_25 C hE   h)
  · exact pj_cut (pj_le_s (pj_le_s (pj_le_n (pj_le_s (pj_le_n pj_le_e))))) (pt_PG_draft_5 C hE   h)
def pw_PG_draft (u : pj_M) (x1 : Int64) (x3 : Int32) (K : Int32 → pj_M → Prop) : Prop := pb_PG_draft_0  K u x1 x3
theorem pc_PG_draft (l : Launch) (D : va_G) (E : Nat → ClassId) {b : Nat} {u : pj_M} {x1 : Int64} {x3 : Int32} {K : Int32 → pj_M → Prop}  (h : pw_PG_draft u x1 x3 K) : pj_C l y_PG_draft c_PG_draft 5 (some .boolean) rm_PG_draft D E b [.ref (b + 0), .long x1, .int x3] u (pj_Ki K) := by
  refine pj_met (own := R_PG) (by decide +kernel) rfl (Nat.le_of_ble_eq_true rfl) (fun g hE C => ?_)
  unfold pw_PG_draft at h
  show pj_J g (pj_N g b u) 0 [some (.ref (b + 0)), some (.long x1), none, some (.int x3), none] []
  exact pj_cut (pj_le_s (pj_le_s (pj_le_n (pj_le_s (pj_le_n pj_le_e))))) (pt_PG_draft_0 C hE   h)
/-! PortGuard.isPlace(II)Z -/
def rm_PG_isPlace : Room := { frames := 1, cells := 0, slots := 0, locals := 20 }
def pb_PG_isPlace_9  (K : Int32 → pj_M → Prop) (u : pj_M) (x1 : Int32) : Prop := pw_PG_isPort u x1 fun r2 u1 => (pj_bi r2 ∧ K r2 u1)
set_option maxHeartbeats 1000000 in
theorem pt_PG_isPlace_9 {g : pj_G} {b : Nat} (C : pj_X g c_PG_isPlace 2 R_PG (some .boolean) rm_PG_isPlace) {K : Int32 → pj_M → Prop} (hE : pj_E g b (pj_Ki K))   {u : pj_M} {x1 : Int32}   (h : pb_PG_isPlace_9  K u x1) : pj_J g (pj_N g b u) 9 [none, some (.int x1)] [] := by
  unfold pb_PG_isPlace_9 at h
  refine pj_iload_n C d_PG_isPlace_9 (pc' := 10) (i := 1) (x := x1) rfl rfl rfl ?_
  refine ck_PortGuard_65 C  h d_PG_isPlace_10 (pc' := 13) rfl ⟨Nat.le_of_ble_eq_true rfl, Nat.le_of_ble_eq_true rfl⟩ (Nat.le_of_ble_eq_true rfl) (fun r2 u1 h => ?_)
  exact pj_zret C hE d_PG_isPlace_13 h.1 ⟨_, rfl, h.2⟩
def pb_PG_isPlace_36  (K : Int32 → pj_M → Prop) (u : pj_M) (s0 : Int32) : Prop := pj_bi s0 ∧ K s0 u
set_option maxHeartbeats 1000000 in
theorem pt_PG_isPlace_36 {g : pj_G} {b : Nat} (C : pj_X g c_PG_isPlace 2 R_PG (some .boolean) rm_PG_isPlace) {K : Int32 → pj_M → Prop} (hE : pj_E g b (pj_Ki K))   {u : pj_M} {s0 : Int32}   (h : pb_PG_isPlace_36  K u s0) : pj_J g (pj_N g b u) 36 [none, none] [.int s0] := by
  unfold pb_PG_isPlace_36 at h
  exact pj_zret C hE d_PG_isPlace_36 h.1 ⟨_, rfl, h.2⟩
def pb_PG_isPlace_35  (K : Int32 → pj_M → Prop) (u : pj_M)  : Prop := pb_PG_isPlace_36  K u 0
set_option maxHeartbeats 1000000 in
theorem pt_PG_isPlace_35 {g : pj_G} {b : Nat} (C : pj_X g c_PG_isPlace 2 R_PG (some .boolean) rm_PG_isPlace) {K : Int32 → pj_M → Prop} (hE : pj_E g b (pj_Ki K))   {u : pj_M}    (h : pb_PG_isPlace_35  K u ) : pj_J g (pj_N g b u) 35 [none, none] [] := by
  unfold pb_PG_isPlace_35 at h
  refine pj_iconst C d_PG_isPlace_35 (pc' := 36) rfl (v := 0) (by decide) ?_
  exact pj_cut (pj_le_n (pj_le_n pj_le_e)) (pt_PG_isPlace_36 C hE   h)
def pb_PG_isPlace_31  (K : Int32 → pj_M → Prop) (u : pj_M)  : Prop := pb_PG_isPlace_36  K u 1
set_option maxHeartbeats 1000000 in
theorem pt_PG_isPlace_31 {g : pj_G} {b : Nat} (C : pj_X g c_PG_isPlace 2 R_PG (some .boolean) rm_PG_isPlace) {K : Int32 → pj_M → Prop} (hE : pj_E g b (pj_Ki K))   {u : pj_M}    (h : pb_PG_isPlace_31  K u ) : pj_J g (pj_N g b u) 31 [none, none] [] := by
  unfold pb_PG_isPlace_31 at h
  refine pj_iconst C d_PG_isPlace_31 (pc' := 32) rfl (v := 1) (by decide) ?_
  refine pj_goto C d_PG_isPlace_32 (tgt := 36) (by decide) ?_
  exact pj_cut (pj_le_n (pj_le_n pj_le_e)) (pt_PG_isPlace_36 C hE   h)
def pb_PG_isPlace_24  (K : Int32 → pj_M → Prop) (u : pj_M) (x1 : Int32) : Prop := pw_PG_isServer u x1 fun r2 u1 => (((r2 = 0) → (pb_PG_isPlace_35  K u1 )) ∧ (¬ (r2 = 0) → (pb_PG_isPlace_31  K u1 )))
set_option maxHeartbeats 1000000 in
theorem pt_PG_isPlace_24 {g : pj_G} {b : Nat} (C : pj_X g c_PG_isPlace 2 R_PG (some .boolean) rm_PG_isPlace) {K : Int32 → pj_M → Prop} (hE : pj_E g b (pj_Ki K))   {u : pj_M} {x1 : Int32}   (h : pb_PG_isPlace_24  K u x1) : pj_J g (pj_N g b u) 24 [none, some (.int x1)] [] := by
  unfold pb_PG_isPlace_24 at h
  refine pj_iload_n C d_PG_isPlace_24 (pc' := 25) (i := 1) (x := x1) rfl rfl rfl ?_
  refine ck_PortGuard_98 C  h d_PG_isPlace_25 (pc' := 28) rfl ⟨Nat.le_of_ble_eq_true rfl, Nat.le_of_ble_eq_true rfl⟩ (Nat.le_of_ble_eq_true rfl) (fun r2 u1 h => ?_)
  refine pj_if_eq C d_PG_isPlace_28 (pc' := 31) rfl (tgt := 35) (by decide) h (fun h => ?_) (fun h => ?_)
  · exact pj_cut (pj_le_n (pj_le_n pj_le_e)) (pt_PG_isPlace_35 C hE   h)
  · exact pj_cut (pj_le_n (pj_le_n pj_le_e)) (pt_PG_isPlace_31 C hE   h)
def pb_PG_isPlace_19  (K : Int32 → pj_M → Prop) (u : pj_M) (x0 : Int32) (x1 : Int32) : Prop := ((x0 = 3) → (pb_PG_isPlace_24  K u x1)) ∧ (¬ (x0 = 3) → (pb_PG_isPlace_35  K u ))
set_option maxHeartbeats 1000000 in
theorem pt_PG_isPlace_19 {g : pj_G} {b : Nat} (C : pj_X g c_PG_isPlace 2 R_PG (some .boolean) rm_PG_isPlace) {K : Int32 → pj_M → Prop} (hE : pj_E g b (pj_Ki K))   {u : pj_M} {x0 : Int32} {x1 : Int32}   (h : pb_PG_isPlace_19  K u x0 x1) : pj_J g (pj_N g b u) 19 [some (.int x0), some (.int x1)] [] := by
  unfold pb_PG_isPlace_19 at h
  refine pj_iload_n C d_PG_isPlace_19 (pc' := 20) (i := 0) (x := x0) rfl rfl rfl ?_
  refine pj_iconst C d_PG_isPlace_20 (pc' := 21) rfl (v := 3) (by decide) ?_
  refine pj_icmp_ne C d_PG_isPlace_21 (pc' := 24) rfl (tgt := 35) (by decide) h (fun h => ?_) (fun h => ?_)
  · exact pj_cut (pj_le_n (pj_le_n pj_le_e)) (pt_PG_isPlace_35 C hE   h)
  · exact pj_cut (pj_le_n (pj_le_s pj_le_e)) (pt_PG_isPlace_24 C hE   h)
def pb_PG_isPlace_14  (K : Int32 → pj_M → Prop) (u : pj_M) (x0 : Int32) (x1 : Int32) : Prop := ((x0 = 2) → (pb_PG_isPlace_24  K u x1)) ∧ (¬ (x0 = 2) → (pb_PG_isPlace_19  K u x0 x1))
set_option maxHeartbeats 1000000 in
theorem pt_PG_isPlace_14 {g : pj_G} {b : Nat} (C : pj_X g c_PG_isPlace 2 R_PG (some .boolean) rm_PG_isPlace) {K : Int32 → pj_M → Prop} (hE : pj_E g b (pj_Ki K))   {u : pj_M} {x0 : Int32} {x1 : Int32}   (h : pb_PG_isPlace_14  K u x0 x1) : pj_J g (pj_N g b u) 14 [some (.int x0), some (.int x1)] [] := by
  unfold pb_PG_isPlace_14 at h
  refine pj_iload_n C d_PG_isPlace_14 (pc' := 15) (i := 0) (x := x0) rfl rfl rfl ?_
  refine pj_iconst C d_PG_isPlace_15 (pc' := 16) rfl (v := 2) (by decide) ?_
  refine pj_icmp_eq C d_PG_isPlace_16 (pc' := 19) rfl (tgt := 24) (by decide) h (fun h => ?_) (fun h => ?_)
  · exact pj_cut (pj_le_n (pj_le_s pj_le_e)) (pt_PG_isPlace_24 C hE   h)
  · exact pj_cut (pj_le_s (pj_le_s pj_le_e)) (pt_PG_isPlace_19 C hE   h)
def pb_PG_isPlace_4  (K : Int32 → pj_M → Prop) (u : pj_M) (x0 : Int32) (x1 : Int32) : Prop := ((x0 = 1) → (pb_PG_isPlace_9  K u x1)) ∧ (¬ (x0 = 1) → (pb_PG_isPlace_14  K u x0 x1))
set_option maxHeartbeats 1000000 in
theorem pt_PG_isPlace_4 {g : pj_G} {b : Nat} (C : pj_X g c_PG_isPlace 2 R_PG (some .boolean) rm_PG_isPlace) {K : Int32 → pj_M → Prop} (hE : pj_E g b (pj_Ki K))   {u : pj_M} {x0 : Int32} {x1 : Int32}   (h : pb_PG_isPlace_4  K u x0 x1) : pj_J g (pj_N g b u) 4 [some (.int x0), some (.int x1)] [] := by
  unfold pb_PG_isPlace_4 at h
  refine pj_iload_n C d_PG_isPlace_4 (pc' := 5) (i := 0) (x := x0) rfl rfl rfl ?_
  refine pj_iconst C d_PG_isPlace_5 (pc' := 6) rfl (v := 1) (by decide) ?_
  refine pj_icmp_ne C d_PG_isPlace_6 (pc' := 9) rfl (tgt := 14) (by decide) h (fun h => ?_) (fun h => ?_)
  · exact pj_cut (pj_le_s (pj_le_s pj_le_e)) (pt_PG_isPlace_14 C hE   h)
  · exact pj_cut (pj_le_n (pj_le_s pj_le_e)) (pt_PG_isPlace_9 C hE   h)
def pb_PG_isPlace_0  (K : Int32 → pj_M → Prop) (u : pj_M) (x0 : Int32) (x1 : Int32) : Prop := ((x0 = 0) → (pb_PG_isPlace_9  K u x1)) ∧ (¬ (x0 = 0) → (pb_PG_isPlace_4  K u x0 x1))
set_option maxHeartbeats 1000000 in
theorem pt_PG_isPlace_0 {g : pj_G} {b : Nat} (C : pj_X g c_PG_isPlace 2 R_PG (some .boolean) rm_PG_isPlace) {K : Int32 → pj_M → Prop} (hE : pj_E g b (pj_Ki K))   {u : pj_M} {x0 : Int32} {x1 : Int32}   (h : pb_PG_isPlace_0  K u x0 x1) : pj_J g (pj_N g b u) 0 [some (.int x0), some (.int x1)] [] := by
  unfold pb_PG_isPlace_0 at h
  refine pj_iload_n C d_PG_isPlace_0 (pc' := 1) (i := 0) (x := x0) rfl rfl rfl ?_
  refine pj_if_eq C d_PG_isPlace_1 (pc' := 4) rfl (tgt := 9) (by decide) h (fun h => ?_) (fun h => ?_)
  · exact pj_cut (pj_le_n (pj_le_s pj_le_e)) (pt_PG_isPlace_9 C hE   h)
  · exact pj_cut (pj_le_s (pj_le_s pj_le_e)) (pt_PG_isPlace_4 C hE   h)
def pw_PG_isPlace (u : pj_M) (x0 : Int32) (x1 : Int32) (K : Int32 → pj_M → Prop) : Prop := pb_PG_isPlace_0  K u x0 x1
theorem pc_PG_isPlace (l : Launch) (D : va_G) (E : Nat → ClassId) {b : Nat} {u : pj_M} {x0 : Int32} {x1 : Int32} {K : Int32 → pj_M → Prop}  (h : pw_PG_isPlace u x0 x1 K) : pj_C l y_PG_isPlace c_PG_isPlace 2 (some .boolean) rm_PG_isPlace D E b [.int x0, .int x1] u (pj_Ki K) := by
  refine pj_met (own := R_PG) (by decide +kernel) rfl (Nat.le_of_ble_eq_true rfl) (fun g hE C => ?_)
  unfold pw_PG_isPlace at h
  show pj_J g (pj_N g b u) 0 [some (.int x0), some (.int x1)] []
  exact pj_cut (pj_le_s (pj_le_s pj_le_e)) (pt_PG_isPlace_0 C hE   h)
/-! PortGuard.forge(II)Z -/
theorem ck_PortGuard_159 {g : pj_G} {b : Nat} {cc : ByteArray} {nL : Nat} {ret : Option FieldType} {rm : Room} {u : pj_M} {pc pc' : Nat} {vs : List (Option Value)} {st : List Value} (C : pj_X g cc nL R_PG ret rm) {x0 : Int32} {x1 : Int32} {K : Int32 → pj_M → Prop}  (h : pw_PG_isPlace u x0 x1 K) (hdg : decode cc pc = .ok (.invokestatic 159, 3)) (hp : pc + 3 = pc') (hR : rm_PG_isPlace.frames + 1 ≤ rm.frames ∧ 8 + (2 + 11) + rm_PG_isPlace.locals ≤ rm.locals) (h8 : (st.map fun v => v.category).sum ≤ 8) (kk : ∀ r u', K r u' → pj_J g (pj_N g b u') pc' vs (.int r :: st)) : pj_J g (pj_N g b u) pc vs (.int x1 :: .int x0 :: st) :=
  pj_callS C (As := [.int x0, .int x1]) (fun l D E => pc_PG_isPlace l D E  h) rfl rfl wm_1042 wm_1043 wm_91 wm_1044 (by decide +kernel) (n := 2) rfl hR rfl h8 hdg hp (fun v u' hq => by obtain ⟨r, rfl, hk⟩ := hq; exact kk r u' hk)
theorem ck_PortGuard_163_Row {g : pj_G} {b : Nat} {cc : ByteArray} {nL : Nat} {ret : Option FieldType} {rm : Room} {u : pj_M} {pc pc' : Nat} {vs : List (Option Value)} {st : List Value} (C : pj_X g cc nL R_PG ret rm) {i0 : Nat} {K : pj_M → Prop} (t : pj_T i0 = 3) (h : pw_Ro_clear u i0 K) (hdg : decode cc pc = .ok (.invokevirtual 163, 3)) (hp : pc + 3 = pc') (hR : rm_Ro_clear.frames + 1 ≤ rm.frames ∧ 8 + (1 + 11) + rm_Ro_clear.locals ≤ rm.locals) (h8 : (st.map fun v => v.category).sum ≤ 8) (kk : ∀ u', K u' → pj_J g (pj_N g b u') pc' vs st) : pj_J g (pj_N g b u) pc vs (.ref (b + i0) :: st) := by
  have t0 : pj_R i0 := Or.inl t
  exact pj_callV C (As := []) (fun l D E => pc_Ro_clear l D E t0 h) rfl rfl cl_Row (pj_lt t (by decide)) (fun E => ko_3 t) wm_1045 wm_583 wm_584 wm_94 wm_587 (by decide +kernel) (n := 0) rfl hR rfl h8 hdg hp (fun v u' hq => by obtain ⟨rfl, hk⟩ := hq; exact kk u' hk)
def rm_PG_forge : Room := { frames := 3, cells := 0, slots := 0, locals := 104 }
def pb_PG_forge_18  (K : Int32 → pj_M → Prop) (u : pj_M)  : Prop := K 0 u
set_option maxHeartbeats 1000000 in
theorem pt_PG_forge_18 {g : pj_G} {b : Nat} (C : pj_X g c_PG_forge 3 R_PG (some .boolean) rm_PG_forge) {K : Int32 → pj_M → Prop} (hE : pj_E g b (pj_Ki K))   {u : pj_M}    (h : pb_PG_forge_18  K u ) : pj_J g (pj_N g b u) 18 [none, none, none] [] := by
  unfold pb_PG_forge_18 at h
  refine pj_iconst C d_PG_forge_18 (pc' := 19) rfl (v := 0) (by decide) ?_
  exact pj_zret C hE d_PG_forge_19 pj_bi0 ⟨_, rfl, h⟩
def pb_PG_forge_20  (K : Int32 → pj_M → Prop) (u : pj_M) (x1 : Int32) (x2 : Int32) : Prop := pw_Ma_send u x1 x2 213 fun u1 => (pw_Ro_clear u1 213 fun u2 => (K 1 u2))
set_option maxHeartbeats 1000000 in
theorem pt_PG_forge_20 {g : pj_G} {b : Nat} (C : pj_X g c_PG_forge 3 R_PG (some .boolean) rm_PG_forge) {K : Int32 → pj_M → Prop} (hE : pj_E g b (pj_Ki K))   {u : pj_M} {x1 : Int32} {x2 : Int32}   (h : pb_PG_forge_20  K u x1 x2) : pj_J g (pj_N g b u) 20 [some (.ref (b + 0)), some (.int x1), some (.int x2)] [] := by
  unfold pb_PG_forge_20 at h
  refine pj_aload_n C d_PG_forge_20 (pc' := 21) (i := 0) (x := b + 0) rfl rfl rfl ?_
  refine fg_PortGuard_19_PortGuard C tk_0 d_PG_forge_21 (pc' := 24) rfl ?_
  refine pj_iload_n C d_PG_forge_24 (pc' := 25) (i := 1) (x := x1) rfl rfl rfl ?_
  refine pj_iload_n C d_PG_forge_25 (pc' := 26) (i := 2) (x := x2) rfl rfl rfl ?_
  refine pj_aload_n C d_PG_forge_26 (pc' := 27) (i := 0) (x := b + 0) rfl rfl rfl ?_
  refine fg_PortGuard_51_PortGuard C tk_0 d_PG_forge_27 (pc' := 30) rfl ?_
  refine ck_PortGuard_125_Mailbox C (Or.inl tk_213) h d_PG_forge_30 (pc' := 33) rfl ⟨Nat.le_of_ble_eq_true rfl, Nat.le_of_ble_eq_true rfl⟩ (Nat.le_of_ble_eq_true rfl) (fun u1 h => ?_)
  refine pj_aload_n C d_PG_forge_33 (pc' := 34) (i := 0) (x := b + 0) rfl rfl rfl ?_
  refine fg_PortGuard_51_PortGuard C tk_0 d_PG_forge_34 (pc' := 37) rfl ?_
  refine ck_PortGuard_163_Row C tk_213 h d_PG_forge_37 (pc' := 40) rfl ⟨Nat.le_of_ble_eq_true rfl, Nat.le_of_ble_eq_true rfl⟩ (Nat.le_of_ble_eq_true rfl) (fun u2 h => ?_)
  refine pj_iconst C d_PG_forge_40 (pc' := 41) rfl (v := 1) (by decide) ?_
  exact pj_zret C hE d_PG_forge_41 pj_bi1 ⟨_, rfl, h⟩
def pb_PG_forge_8  (K : Int32 → pj_M → Prop) (u : pj_M) (x1 : Int32) (x2 : Int32) : Prop := (((u 213 1) = 0) → (pb_PG_forge_18  K u )) ∧ (¬ ((u 213 1) = 0) → (pb_PG_forge_20  K u x1 x2))
set_option maxHeartbeats 1000000 in
theorem pt_PG_forge_8 {g : pj_G} {b : Nat} (C : pj_X g c_PG_forge 3 R_PG (some .boolean) rm_PG_forge) {K : Int32 → pj_M → Prop} (hE : pj_E g b (pj_Ki K))   {u : pj_M} {x1 : Int32} {x2 : Int32}   (h : pb_PG_forge_8  K u x1 x2) : pj_J g (pj_N g b u) 8 [some (.ref (b + 0)), some (.int x1), some (.int x2)] [] := by
  unfold pb_PG_forge_8 at h
  refine pj_aload_n C d_PG_forge_8 (pc' := 9) (i := 0) (x := b + 0) rfl rfl rfl ?_
  refine fg_PortGuard_51_PortGuard C tk_0 d_PG_forge_9 (pc' := 12) rfl ?_
  refine fg_PortGuard_145_Row C tk_213 d_PG_forge_12 (pc' := 15) rfl ?_
  refine pj_if_ne C d_PG_forge_15 (pc' := 18) rfl (tgt := 20) (by decide) h (fun h => ?_) (fun h => ?_)
  · exact pj_cut (pj_le_s (pj_le_s (pj_le_s pj_le_e))) (pt_PG_forge_20 C hE   h)
  · exact pj_cut (pj_le_n (pj_le_n (pj_le_n pj_le_e))) (pt_PG_forge_18 C hE   h)
def pb_PG_forge_0  (K : Int32 → pj_M → Prop) (u : pj_M) (x1 : Int32) (x2 : Int32) : Prop := pw_PG_isPlace u x1 x2 fun r2 u1 => (((r2 = 0) → (pb_PG_forge_18  K u1 )) ∧ (¬ (r2 = 0) → (pb_PG_forge_8  K u1 x1 x2)))
set_option maxHeartbeats 1000000 in
theorem pt_PG_forge_0 {g : pj_G} {b : Nat} (C : pj_X g c_PG_forge 3 R_PG (some .boolean) rm_PG_forge) {K : Int32 → pj_M → Prop} (hE : pj_E g b (pj_Ki K))   {u : pj_M} {x1 : Int32} {x2 : Int32}   (h : pb_PG_forge_0  K u x1 x2) : pj_J g (pj_N g b u) 0 [some (.ref (b + 0)), some (.int x1), some (.int x2)] [] := by
  unfold pb_PG_forge_0 at h
  refine pj_iload_n C d_PG_forge_0 (pc' := 1) (i := 1) (x := x1) rfl rfl rfl ?_
  refine pj_iload_n C d_PG_forge_1 (pc' := 2) (i := 2) (x := x2) rfl rfl rfl ?_
  refine ck_PortGuard_159 C  h d_PG_forge_2 (pc' := 5) rfl ⟨Nat.le_of_ble_eq_true rfl, Nat.le_of_ble_eq_true rfl⟩ (Nat.le_of_ble_eq_true rfl) (fun r2 u1 h => ?_)
  refine pj_if_eq C d_PG_forge_5 (pc' := 8) rfl (tgt := 18) (by decide) h (fun h => ?_) (fun h => ?_)
  · exact pj_cut (pj_le_n (pj_le_n (pj_le_n pj_le_e))) (pt_PG_forge_18 C hE   h)
  · exact pj_cut (pj_le_s (pj_le_s (pj_le_s pj_le_e))) (pt_PG_forge_8 C hE   h)
def pw_PG_forge (u : pj_M) (x1 : Int32) (x2 : Int32) (K : Int32 → pj_M → Prop) : Prop := pb_PG_forge_0  K u x1 x2
theorem pc_PG_forge (l : Launch) (D : va_G) (E : Nat → ClassId) {b : Nat} {u : pj_M} {x1 : Int32} {x2 : Int32} {K : Int32 → pj_M → Prop}  (h : pw_PG_forge u x1 x2 K) : pj_C l y_PG_forge c_PG_forge 3 (some .boolean) rm_PG_forge D E b [.ref (b + 0), .int x1, .int x2] u (pj_Ki K) := by
  refine pj_met (own := R_PG) (by decide +kernel) rfl (Nat.le_of_ble_eq_true rfl) (fun g hE C => ?_)
  unfold pw_PG_forge at h
  show pj_J g (pj_N g b u) 0 [some (.ref (b + 0)), some (.int x1), some (.int x2)] []
  exact pj_cut (pj_le_s (pj_le_s (pj_le_s pj_le_e))) (pt_PG_forge_0 C hE   h)
/-! PortGuard.tick()I -/
theorem fg_PortGuard_169_Mailbox {g : pj_G} {b : Nat} {cc : ByteArray} {nL : Nat} {ret : Option FieldType} {rm : Room} {u : pj_M} {pc pc' : Nat} {vs : List (Option Value)} {st : List Value} (C : pj_X g cc nL R_PG ret rm) {i : Nat} (t : pj_T i = 2) (hdg : decode cc pc = .ok (.getfield 169, 3)) (hp : pc + 3 = pc') (kk : pj_J g (pj_N g b u) pc' vs (.int (u i 4) :: st)) : pj_J g (pj_N g b u) pc vs (.ref (b + i) :: st) :=
  pj_get C cl_Mailbox hin_Mailbox (k := 4) (Nat.le_of_ble_eq_true rfl) wm_170 (Or.inl rfl) (pj_lt t (by decide)) (fun E => ko_2 t) rfl hdg hp kk
theorem ck_PortGuard_166_Switch {g : pj_G} {b : Nat} {cc : ByteArray} {nL : Nat} {ret : Option FieldType} {rm : Room} {u : pj_M} {pc pc' : Nat} {vs : List (Option Value)} {st : List Value} (C : pj_X g cc nL R_PG ret rm) {i1 : Nat} {K : pj_M → Prop} (t1 : pj_T i1 = 9) (h : pw_Sw_pulse u i1 K) (hdg : decode cc pc = .ok (.invokevirtual 166, 3)) (hp : pc + 3 = pc') (hR : rm_Sw_pulse.frames + 1 ≤ rm.frames ∧ 8 + (2 + 11) + rm_Sw_pulse.locals ≤ rm.locals) (h8 : (st.map fun v => v.category).sum ≤ 8) (kk : ∀ u', K u' → pj_J g (pj_N g b u') pc' vs st) : pj_J g (pj_N g b u) pc vs (.ref (b + i1) :: .ref (b + 170) :: st) :=
  pj_callV C (As := [.ref (b + i1)]) (fun l D E => pc_Sw_pulse l D E t1 h) rfl rfl cl_Switch (pj_lt tk_170 (by decide)) (fun E => ko_10 tk_170) wm_1050 wm_1051 wm_1052 wm_100 wm_1053 (by decide +kernel) (n := 1) rfl hR rfl h8 hdg hp (fun v u' hq => by obtain ⟨rfl, hk⟩ := hq; exact kk u' hk)
def rm_PG_tick : Room := { frames := 6, cells := 0, slots := 0, locals := 173 }
def pb_PG_tick_29  (K : Int32 → pj_M → Prop) (u : pj_M)  : Prop := K (u 4 4) u
set_option maxHeartbeats 1000000 in
theorem pt_PG_tick_29 {g : pj_G} {b : Nat} (C : pj_X g c_PG_tick 2 R_PG (some .int) rm_PG_tick) {K : Int32 → pj_M → Prop} (hE : pj_E g b (pj_Ki K))   {u : pj_M}    (h : pb_PG_tick_29  K u ) : pj_J g (pj_N g b u) 29 [some (.ref (b + 0)), none] [] := by
  unfold pb_PG_tick_29 at h
  refine pj_aload_n C d_PG_tick_29 (pc' := 30) (i := 0) (x := b + 0) rfl rfl rfl ?_
  refine fg_PortGuard_19_PortGuard C tk_0 d_PG_tick_30 (pc' := 33) rfl ?_
  refine fg_PortGuard_169_Mailbox C tk_4 d_PG_tick_33 (pc' := 36) rfl ?_
  exact pj_iret C hE d_PG_tick_36 ⟨_, rfl, h⟩
def pb_PG_tick_7 (R2 : pj_M → Int32 → Prop) (K : Int32 → pj_M → Prop) (u : pj_M) (x1 : Int32) : Prop := vp_in x1 4 ∧ (pw_Sw_pulse u (185 + 7 * x1.toNatClampNeg) fun u2 => (R2 u2 (x1 + 1)))
set_option maxHeartbeats 1000000 in
theorem pt_PG_tick_7 {g : pj_G} {b : Nat} (C : pj_X g c_PG_tick 2 R_PG (some .int) rm_PG_tick) {K : Int32 → pj_M → Prop} (hE : pj_E g b (pj_Ki K)) {R2 : pj_M → Int32 → Prop}  {u : pj_M} {x1 : Int32} (hR2 : ∀ (u : pj_M) (x1 : Int32), R2 u x1 → pj_J g (pj_N g b u) 2 [some (.ref (b + 0)), some (.int x1)] [])  (h : pb_PG_tick_7 R2 K u x1) : pj_J g (pj_N g b u) 7 [some (.ref (b + 0)), some (.int x1)] [] := by
  unfold pb_PG_tick_7 at h
  refine pj_aload_n C d_PG_tick_7 (pc' := 8) (i := 0) (x := b + 0) rfl rfl rfl ?_
  refine fg_PortGuard_44_PortGuard C tk_0 d_PG_tick_8 (pc' := 11) rfl ?_
  refine pj_aload_n C d_PG_tick_11 (pc' := 12) (i := 0) (x := b + 0) rfl rfl rfl ?_
  refine fg_PortGuard_44_PortGuard C tk_0 d_PG_tick_12 (pc' := 15) rfl ?_
  refine fg_PortGuard_81_Switch C tk_170 d_PG_tick_15 (pc' := 18) rfl ?_
  refine pj_iload_n C d_PG_tick_18 (pc' := 19) (i := 1) (x := x1) rfl rfl rfl ?_
  obtain ⟨hv1, h⟩ := h
  refine pj_aldS C (pj_lt tk_171 (by decide)) (fun E u => ka_29 tk_171) (fun E => rfl) d_PG_tick_19 (pc' := 20) rfl ⟨hv1, h⟩ (fun h => ?_)
  refine ck_PortGuard_166_Switch C (pe_29 tk_171 hv1) h d_PG_tick_20 (pc' := 23) rfl ⟨Nat.le_of_ble_eq_true rfl, Nat.le_of_ble_eq_true rfl⟩ (Nat.le_of_ble_eq_true rfl) (fun u2 h => ?_)
  refine pj_iinc C d_PG_tick_23 (pc' := 26) (x := x1) (d := 1) (vs' := [some (.ref (b + 0)), some (.int (x1 + 1))]) rfl rfl (Nat.le_of_ble_eq_true rfl) rfl (by decide) rfl ?_
  refine pj_goto C d_PG_tick_26 (tgt := 2) (by decide) ?_
  exact pj_cut (pj_le_s (pj_le_s pj_le_e)) (hR2 _ _ h)
def pb_PG_tick_2b (R2 : pj_M → Int32 → Prop) (K : Int32 → pj_M → Prop) (u : pj_M) (x1 : Int32) : Prop := ((4 ≤ x1) → (pb_PG_tick_29  K u )) ∧ (¬ (4 ≤ x1) → (pb_PG_tick_7 R2 K u x1))
set_option maxHeartbeats 1000000 in
theorem pt_PG_tick_2b {g : pj_G} {b : Nat} (C : pj_X g c_PG_tick 2 R_PG (some .int) rm_PG_tick) {K : Int32 → pj_M → Prop} (hE : pj_E g b (pj_Ki K)) {R2 : pj_M → Int32 → Prop}  {u : pj_M} {x1 : Int32} (hR2 : ∀ (u : pj_M) (x1 : Int32), R2 u x1 → pj_J g (pj_N g b u) 2 [some (.ref (b + 0)), some (.int x1)] [])  (h : pb_PG_tick_2b R2 K u x1) : pj_J g (pj_N g b u) 2 [some (.ref (b + 0)), some (.int x1)] [] := by
  unfold pb_PG_tick_2b at h
  refine pj_iload_n C d_PG_tick_2 (pc' := 3) (i := 1) (x := x1) rfl rfl rfl ?_
  refine pj_iconst C d_PG_tick_3 (pc' := 4) rfl (v := 4) (by decide) ?_
  refine pj_icmp_ge C d_PG_tick_4 (pc' := 7) rfl (tgt := 29) (by decide) h (fun h => ?_) (fun h => ?_)
  · exact pj_cut (pj_le_s (pj_le_n pj_le_e)) (pt_PG_tick_29 C hE   h)
  · exact pj_cut (pj_le_s (pj_le_s pj_le_e)) (pt_PG_tick_7 C hE hR2  h)
def pb_PG_tick_2  (K : Int32 → pj_M → Prop)  : Nat → pj_M → Int32 → Prop
  | 0 => fun _ _ => False
  | n + 1 => fun u x1 => pb_PG_tick_2b (pb_PG_tick_2  K  n) K u x1
theorem pt_PG_tick_2 {g : pj_G} {b : Nat} (C : pj_X g c_PG_tick 2 R_PG (some .int) rm_PG_tick) {K : Int32 → pj_M → Prop} (hE : pj_E g b (pj_Ki K))     : ∀ (n : Nat) (u : pj_M) (x1 : Int32), pb_PG_tick_2  K  n u x1 → pj_J g (pj_N g b u) 2 [some (.ref (b + 0)), some (.int x1)] [] := by
  intro n
  induction n with
  | zero => intro u x1 h; exact False.elim h
  | succ n ih =>
    intro u x1 h
    exact (pt_PG_tick_2b C hE ih  h)
def pb_PG_tick_0  (K : Int32 → pj_M → Prop) (u : pj_M)  : Prop := ∃ n, pb_PG_tick_2  K  n u 0
set_option maxHeartbeats 1000000 in
theorem pt_PG_tick_0 {g : pj_G} {b : Nat} (C : pj_X g c_PG_tick 2 R_PG (some .int) rm_PG_tick) {K : Int32 → pj_M → Prop} (hE : pj_E g b (pj_Ki K))   {u : pj_M}    (h : pb_PG_tick_0  K u ) : pj_J g (pj_N g b u) 0 [some (.ref (b + 0)), none] [] := by
  unfold pb_PG_tick_0 at h
  refine pj_iconst C d_PG_tick_0 (pc' := 1) rfl (v := 0) (by decide) ?_
  refine pj_istore_n C d_PG_tick_1 (pc' := 2) (i := 1) (vs' := [some (.ref (b + 0)), some (.int 0)]) rfl rfl (Nat.le_of_ble_eq_true rfl) (Nat.le_of_ble_eq_true rfl) rfl rfl ?_
  obtain ⟨n, h⟩ := h
  exact pj_cut (pj_le_s (pj_le_s pj_le_e)) (pt_PG_tick_2 C hE   n _ _ h)
def pw_PG_tick (u : pj_M)  (K : Int32 → pj_M → Prop) : Prop := pb_PG_tick_0  K u 
theorem pc_PG_tick (l : Launch) (D : va_G) (E : Nat → ClassId) {b : Nat} {u : pj_M}  {K : Int32 → pj_M → Prop}  (h : pw_PG_tick u  K) : pj_C l y_PG_tick c_PG_tick 2 (some .int) rm_PG_tick D E b [.ref (b + 0)] u (pj_Ki K) := by
  refine pj_met (own := R_PG) (by decide +kernel) rfl (Nat.le_of_ble_eq_true rfl) (fun g hE C => ?_)
  unfold pw_PG_tick at h
  show pj_J g (pj_N g b u) 0 [some (.ref (b + 0)), none] []
  exact pj_cut (pj_le_s (pj_le_n pj_le_e)) (pt_PG_tick_0 C hE   h)
/-! PortGuard.data(III)I -/
theorem ck_PortGuard_172_Switch {g : pj_G} {b : Nat} {cc : ByteArray} {nL : Nat} {ret : Option FieldType} {rm : Room} {u : pj_M} {pc pc' : Nat} {vs : List (Option Value)} {st : List Value} (C : pj_X g cc nL R_PG ret rm) {i1 : Nat} {x2 : Int32} {x3 : Int32} {K : Int32 → pj_M → Prop} (t1 : pj_T i1 = 9) (h : pw_Sw_carry u i1 x2 x3 K) (hdg : decode cc pc = .ok (.invokevirtual 172, 3)) (hp : pc + 3 = pc') (hR : rm_Sw_carry.frames + 1 ≤ rm.frames ∧ 8 + (8 + 11) + rm_Sw_carry.locals ≤ rm.locals) (h8 : (st.map fun v => v.category).sum ≤ 8) (kk : ∀ r u', K r u' → pj_J g (pj_N g b u') pc' vs (.int r :: st)) : pj_J g (pj_N g b u) pc vs (.int x3 :: .int x2 :: .ref (b + i1) :: .ref (b + 170) :: st) :=
  pj_callV C (As := [.ref (b + i1), .int x2, .int x3]) (fun l D E => pc_Sw_carry l D E t1 h) rfl rfl cl_Switch (pj_lt tk_170 (by decide)) (fun E => ko_10 tk_170) wm_1067 wm_1068 wm_1069 wm_100 wm_1070 (by decide +kernel) (n := 3) rfl hR rfl h8 hdg hp (fun v u' hq => by obtain ⟨r, rfl, hk⟩ := hq; exact kk r u' hk)
def rm_PG_data : Room := { frames := 1, cells := 0, slots := 0, locals := 27 }
def pb_PG_data_27  (K : Int32 → pj_M → Prop) (u : pj_M)  : Prop := K ((-1)) u
set_option maxHeartbeats 1000000 in
theorem pt_PG_data_27 {g : pj_G} {b : Nat} (C : pj_X g c_PG_data 4 R_PG (some .int) rm_PG_data) {K : Int32 → pj_M → Prop} (hE : pj_E g b (pj_Ki K))   {u : pj_M}    (h : pb_PG_data_27  K u ) : pj_J g (pj_N g b u) 27 [none, none, none, none] [] := by
  unfold pb_PG_data_27 at h
  refine pj_iconst C d_PG_data_27 (pc' := 28) rfl (v := (-1)) (by decide) ?_
  exact pj_iret C hE d_PG_data_28 ⟨_, rfl, h⟩
def pb_PG_data_29  (K : Int32 → pj_M → Prop) (u : pj_M) (x1 : Int32) (x2 : Int32) (x3 : Int32) : Prop := vp_in x1 4 ∧ (pw_Sw_carry u (185 + 7 * x1.toNatClampNeg) x2 x3 fun r3 u2 => (K r3 u2))
set_option maxHeartbeats 1000000 in
theorem pt_PG_data_29 {g : pj_G} {b : Nat} (C : pj_X g c_PG_data 4 R_PG (some .int) rm_PG_data) {K : Int32 → pj_M → Prop} (hE : pj_E g b (pj_Ki K))   {u : pj_M} {x1 : Int32} {x2 : Int32} {x3 : Int32}   (h : pb_PG_data_29  K u x1 x2 x3) : pj_J g (pj_N g b u) 29 [some (.ref (b + 0)), some (.int x1), some (.int x2), some (.int x3)] [] := by
  unfold pb_PG_data_29 at h
  refine pj_aload_n C d_PG_data_29 (pc' := 30) (i := 0) (x := b + 0) rfl rfl rfl ?_
  refine fg_PortGuard_44_PortGuard C tk_0 d_PG_data_30 (pc' := 33) rfl ?_
  refine pj_aload_n C d_PG_data_33 (pc' := 34) (i := 0) (x := b + 0) rfl rfl rfl ?_
  refine fg_PortGuard_44_PortGuard C tk_0 d_PG_data_34 (pc' := 37) rfl ?_
  refine fg_PortGuard_81_Switch C tk_170 d_PG_data_37 (pc' := 40) rfl ?_
  refine pj_iload_n C d_PG_data_40 (pc' := 41) (i := 1) (x := x1) rfl rfl rfl ?_
  obtain ⟨hv1, h⟩ := h
  refine pj_aldS C (pj_lt tk_171 (by decide)) (fun E u => ka_29 tk_171) (fun E => rfl) d_PG_data_41 (pc' := 42) rfl ⟨hv1, h⟩ (fun h => ?_)
  refine pj_iload_n C d_PG_data_42 (pc' := 43) (i := 2) (x := x2) rfl rfl rfl ?_
  refine pj_iload_n C d_PG_data_43 (pc' := 44) (i := 3) (x := x3) rfl rfl rfl ?_
  refine ck_PortGuard_172_Switch C (pe_29 tk_171 hv1) h d_PG_data_44 (pc' := 47) rfl ⟨Nat.le_of_ble_eq_true rfl, Nat.le_of_ble_eq_true rfl⟩ (Nat.le_of_ble_eq_true rfl) (fun r3 u2 h => ?_)
  exact pj_iret C hE d_PG_data_47 ⟨_, rfl, h⟩
def pb_PG_data_21  (K : Int32 → pj_M → Prop) (u : pj_M) (x1 : Int32) (x2 : Int32) (x3 : Int32) : Prop := ((x3 ≤ 8) → (pb_PG_data_29  K u x1 x2 x3)) ∧ (¬ (x3 ≤ 8) → (pb_PG_data_27  K u ))
set_option maxHeartbeats 1000000 in
theorem pt_PG_data_21 {g : pj_G} {b : Nat} (C : pj_X g c_PG_data 4 R_PG (some .int) rm_PG_data) {K : Int32 → pj_M → Prop} (hE : pj_E g b (pj_Ki K))   {u : pj_M} {x1 : Int32} {x2 : Int32} {x3 : Int32}   (h : pb_PG_data_21  K u x1 x2 x3) : pj_J g (pj_N g b u) 21 [some (.ref (b + 0)), some (.int x1), some (.int x2), some (.int x3)] [] := by
  unfold pb_PG_data_21 at h
  refine pj_iload_n C d_PG_data_21 (pc' := 22) (i := 3) (x := x3) rfl rfl rfl ?_
  refine pj_bipush C d_PG_data_22 (pc' := 24) rfl (v := 8) (by decide) ?_
  refine pj_icmp_le C d_PG_data_24 (pc' := 27) rfl (tgt := 29) (by decide) h (fun h => ?_) (fun h => ?_)
  · exact pj_cut (pj_le_s (pj_le_s (pj_le_s (pj_le_s pj_le_e)))) (pt_PG_data_29 C hE   h)
  · exact pj_cut (pj_le_n (pj_le_n (pj_le_n (pj_le_n pj_le_e)))) (pt_PG_data_27 C hE   h)
def pb_PG_data_17  (K : Int32 → pj_M → Prop) (u : pj_M) (x1 : Int32) (x2 : Int32) (x3 : Int32) : Prop := ((x3 < 0) → (pb_PG_data_27  K u )) ∧ (¬ (x3 < 0) → (pb_PG_data_21  K u x1 x2 x3))
set_option maxHeartbeats 1000000 in
theorem pt_PG_data_17 {g : pj_G} {b : Nat} (C : pj_X g c_PG_data 4 R_PG (some .int) rm_PG_data) {K : Int32 → pj_M → Prop} (hE : pj_E g b (pj_Ki K))   {u : pj_M} {x1 : Int32} {x2 : Int32} {x3 : Int32}   (h : pb_PG_data_17  K u x1 x2 x3) : pj_J g (pj_N g b u) 17 [some (.ref (b + 0)), some (.int x1), some (.int x2), some (.int x3)] [] := by
  unfold pb_PG_data_17 at h
  refine pj_iload_n C d_PG_data_17 (pc' := 18) (i := 3) (x := x3) rfl rfl rfl ?_
  refine pj_if_lt C d_PG_data_18 (pc' := 21) rfl (tgt := 27) (by decide) h (fun h => ?_) (fun h => ?_)
  · exact pj_cut (pj_le_n (pj_le_n (pj_le_n (pj_le_n pj_le_e)))) (pt_PG_data_27 C hE   h)
  · exact pj_cut (pj_le_s (pj_le_s (pj_le_s (pj_le_s pj_le_e)))) (pt_PG_data_21 C hE   h)
def pb_PG_data_11  (K : Int32 → pj_M → Prop) (u : pj_M) (x1 : Int32) (x2 : Int32) (x3 : Int32) : Prop := ((8 ≤ x2) → (pb_PG_data_27  K u )) ∧ (¬ (8 ≤ x2) → (pb_PG_data_17  K u x1 x2 x3))
set_option maxHeartbeats 1000000 in
theorem pt_PG_data_11 {g : pj_G} {b : Nat} (C : pj_X g c_PG_data 4 R_PG (some .int) rm_PG_data) {K : Int32 → pj_M → Prop} (hE : pj_E g b (pj_Ki K))   {u : pj_M} {x1 : Int32} {x2 : Int32} {x3 : Int32}   (h : pb_PG_data_11  K u x1 x2 x3) : pj_J g (pj_N g b u) 11 [some (.ref (b + 0)), some (.int x1), some (.int x2), some (.int x3)] [] := by
  unfold pb_PG_data_11 at h
  refine pj_iload_n C d_PG_data_11 (pc' := 12) (i := 2) (x := x2) rfl rfl rfl ?_
  refine pj_bipush C d_PG_data_12 (pc' := 14) rfl (v := 8) (by decide) ?_
  refine pj_icmp_ge C d_PG_data_14 (pc' := 17) rfl (tgt := 27) (by decide) h (fun h => ?_) (fun h => ?_)
  · exact pj_cut (pj_le_n (pj_le_n (pj_le_n (pj_le_n pj_le_e)))) (pt_PG_data_27 C hE   h)
  · exact pj_cut (pj_le_s (pj_le_s (pj_le_s (pj_le_s pj_le_e)))) (pt_PG_data_17 C hE   h)
def pb_PG_data_7  (K : Int32 → pj_M → Prop) (u : pj_M) (x1 : Int32) (x2 : Int32) (x3 : Int32) : Prop := ((x2 < 0) → (pb_PG_data_27  K u )) ∧ (¬ (x2 < 0) → (pb_PG_data_11  K u x1 x2 x3))
set_option maxHeartbeats 1000000 in
theorem pt_PG_data_7 {g : pj_G} {b : Nat} (C : pj_X g c_PG_data 4 R_PG (some .int) rm_PG_data) {K : Int32 → pj_M → Prop} (hE : pj_E g b (pj_Ki K))   {u : pj_M} {x1 : Int32} {x2 : Int32} {x3 : Int32}   (h : pb_PG_data_7  K u x1 x2 x3) : pj_J g (pj_N g b u) 7 [some (.ref (b + 0)), some (.int x1), some (.int x2), some (.int x3)] [] := by
  unfold pb_PG_data_7 at h
  refine pj_iload_n C d_PG_data_7 (pc' := 8) (i := 2) (x := x2) rfl rfl rfl ?_
  refine pj_if_lt C d_PG_data_8 (pc' := 11) rfl (tgt := 27) (by decide) h (fun h => ?_) (fun h => ?_)
  · exact pj_cut (pj_le_n (pj_le_n (pj_le_n (pj_le_n pj_le_e)))) (pt_PG_data_27 C hE   h)
  · exact pj_cut (pj_le_s (pj_le_s (pj_le_s (pj_le_s pj_le_e)))) (pt_PG_data_11 C hE   h)
def pb_PG_data_0  (K : Int32 → pj_M → Prop) (u : pj_M) (x1 : Int32) (x2 : Int32) (x3 : Int32) : Prop := pw_PG_isPort u x1 fun r2 u1 => (((r2 = 0) → (pb_PG_data_27  K u1 )) ∧ (¬ (r2 = 0) → (pb_PG_data_7  K u1 x1 x2 x3)))
set_option maxHeartbeats 1000000 in
theorem pt_PG_data_0 {g : pj_G} {b : Nat} (C : pj_X g c_PG_data 4 R_PG (some .int) rm_PG_data) {K : Int32 → pj_M → Prop} (hE : pj_E g b (pj_Ki K))   {u : pj_M} {x1 : Int32} {x2 : Int32} {x3 : Int32}   (h : pb_PG_data_0  K u x1 x2 x3) : pj_J g (pj_N g b u) 0 [some (.ref (b + 0)), some (.int x1), some (.int x2), some (.int x3)] [] := by
  unfold pb_PG_data_0 at h
  refine pj_iload_n C d_PG_data_0 (pc' := 1) (i := 1) (x := x1) rfl rfl rfl ?_
  refine ck_PortGuard_65 C  h d_PG_data_1 (pc' := 4) rfl ⟨Nat.le_of_ble_eq_true rfl, Nat.le_of_ble_eq_true rfl⟩ (Nat.le_of_ble_eq_true rfl) (fun r2 u1 h => ?_)
  refine pj_if_eq C d_PG_data_4 (pc' := 7) rfl (tgt := 27) (by decide) h (fun h => ?_) (fun h => ?_)
  · exact pj_cut (pj_le_n (pj_le_n (pj_le_n (pj_le_n pj_le_e)))) (pt_PG_data_27 C hE   h)
  · exact pj_cut (pj_le_s (pj_le_s (pj_le_s (pj_le_s pj_le_e)))) (pt_PG_data_7 C hE   h)
def pw_PG_data (u : pj_M) (x1 : Int32) (x2 : Int32) (x3 : Int32) (K : Int32 → pj_M → Prop) : Prop := pb_PG_data_0  K u x1 x2 x3
theorem pc_PG_data (l : Launch) (D : va_G) (E : Nat → ClassId) {b : Nat} {u : pj_M} {x1 : Int32} {x2 : Int32} {x3 : Int32} {K : Int32 → pj_M → Prop}  (h : pw_PG_data u x1 x2 x3 K) : pj_C l y_PG_data c_PG_data 4 (some .int) rm_PG_data D E b [.ref (b + 0), .int x1, .int x2, .int x3] u (pj_Ki K) := by
  refine pj_met (own := R_PG) (by decide +kernel) rfl (Nat.le_of_ble_eq_true rfl) (fun g hE C => ?_)
  unfold pw_PG_data at h
  show pj_J g (pj_N g b u) 0 [some (.ref (b + 0)), some (.int x1), some (.int x2), some (.int x3)] []
  exact pj_cut (pj_le_s (pj_le_s (pj_le_s (pj_le_s pj_le_e)))) (pt_PG_data_0 C hE   h)
/-! PortGuard.waiting()I -/
def rm_PG_waiting : Room := { frames := 0, cells := 0, slots := 0, locals := 0 }
def pb_PG_waiting_0  (K : Int32 → pj_M → Prop) (u : pj_M)  : Prop := K (u 4 4) u
set_option maxHeartbeats 1000000 in
theorem pt_PG_waiting_0 {g : pj_G} {b : Nat} (C : pj_X g c_PG_waiting 1 R_PG (some .int) rm_PG_waiting) {K : Int32 → pj_M → Prop} (hE : pj_E g b (pj_Ki K))   {u : pj_M}    (h : pb_PG_waiting_0  K u ) : pj_J g (pj_N g b u) 0 [some (.ref (b + 0))] [] := by
  unfold pb_PG_waiting_0 at h
  refine pj_aload_n C d_PG_waiting_0 (pc' := 1) (i := 0) (x := b + 0) rfl rfl rfl ?_
  refine fg_PortGuard_19_PortGuard C tk_0 d_PG_waiting_1 (pc' := 4) rfl ?_
  refine fg_PortGuard_169_Mailbox C tk_4 d_PG_waiting_4 (pc' := 7) rfl ?_
  exact pj_iret C hE d_PG_waiting_7 ⟨_, rfl, h⟩
def pw_PG_waiting (u : pj_M)  (K : Int32 → pj_M → Prop) : Prop := pb_PG_waiting_0  K u 
theorem pc_PG_waiting (l : Launch) (D : va_G) (E : Nat → ClassId) {b : Nat} {u : pj_M}  {K : Int32 → pj_M → Prop}  (h : pw_PG_waiting u  K) : pj_C l y_PG_waiting c_PG_waiting 1 (some .int) rm_PG_waiting D E b [.ref (b + 0)] u (pj_Ki K) := by
  refine pj_met (own := R_PG) (by decide +kernel) rfl (Nat.le_of_ble_eq_true rfl) (fun g hE C => ?_)
  unfold pw_PG_waiting at h
  show pj_J g (pj_N g b u) 0 [some (.ref (b + 0))] []
  exact pj_cut (pj_le_s pj_le_e) (pt_PG_waiting_0 C hE   h)
/-! PortGuard.message(II)I -/
def rm_PG_message : Room := { frames := 1, cells := 0, slots := 0, locals := 21 }
def pb_PG_message_15  (K : Int32 → pj_M → Prop) (u : pj_M)  : Prop := K ((-1)) u
set_option maxHeartbeats 1000000 in
theorem pt_PG_message_15 {g : pj_G} {b : Nat} (C : pj_X g c_PG_message 3 R_PG (some .int) rm_PG_message) {K : Int32 → pj_M → Prop} (hE : pj_E g b (pj_Ki K))   {u : pj_M}    (h : pb_PG_message_15  K u ) : pj_J g (pj_N g b u) 15 [none, none, none] [] := by
  unfold pb_PG_message_15 at h
  refine pj_iconst C d_PG_message_15 (pc' := 16) rfl (v := (-1)) (by decide) ?_
  exact pj_iret C hE d_PG_message_16 ⟨_, rfl, h⟩
def pb_PG_message_44  (K : Int32 → pj_M → Prop) (u : pj_M) (x1 : Int32) : Prop := vp_in x1 40 ∧ (K (u 5 x1.toNatClampNeg) u)
set_option maxHeartbeats 1000000 in
theorem pt_PG_message_44 {g : pj_G} {b : Nat} (C : pj_X g c_PG_message 3 R_PG (some .int) rm_PG_message) {K : Int32 → pj_M → Prop} (hE : pj_E g b (pj_Ki K))   {u : pj_M} {x1 : Int32}   (h : pb_PG_message_44  K u x1) : pj_J g (pj_N g b u) 44 [some (.ref (b + 0)), some (.int x1), none] [] := by
  unfold pb_PG_message_44 at h
  refine pj_aload_n C d_PG_message_44 (pc' := 45) (i := 0) (x := b + 0) rfl rfl rfl ?_
  refine fg_PortGuard_19_PortGuard C tk_0 d_PG_message_45 (pc' := 48) rfl ?_
  refine fg_PortGuard_111_Mailbox C tk_4 d_PG_message_48 (pc' := 51) rfl ?_
  refine pj_iload_n C d_PG_message_51 (pc' := 52) (i := 1) (x := x1) rfl rfl rfl ?_
  refine pj_iald C (pj_lt tk_5 (by decide)) (fun E u => ka_21 tk_5) d_PG_message_52 (pc' := 53) rfl h (fun h => ?_)
  exact pj_iret C hE d_PG_message_53 ⟨_, rfl, h⟩
def pb_PG_message_54  (K : Int32 → pj_M → Prop) (u : pj_M) (x1 : Int32) : Prop := vp_in x1 40 ∧ (K (u 6 x1.toNatClampNeg) u)
set_option maxHeartbeats 1000000 in
theorem pt_PG_message_54 {g : pj_G} {b : Nat} (C : pj_X g c_PG_message 3 R_PG (some .int) rm_PG_message) {K : Int32 → pj_M → Prop} (hE : pj_E g b (pj_Ki K))   {u : pj_M} {x1 : Int32}   (h : pb_PG_message_54  K u x1) : pj_J g (pj_N g b u) 54 [some (.ref (b + 0)), some (.int x1), none] [] := by
  unfold pb_PG_message_54 at h
  refine pj_aload_n C d_PG_message_54 (pc' := 55) (i := 0) (x := b + 0) rfl rfl rfl ?_
  refine fg_PortGuard_19_PortGuard C tk_0 d_PG_message_55 (pc' := 58) rfl ?_
  refine fg_PortGuard_114_Mailbox C tk_4 d_PG_message_58 (pc' := 61) rfl ?_
  refine pj_iload_n C d_PG_message_61 (pc' := 62) (i := 1) (x := x1) rfl rfl rfl ?_
  refine pj_iald C (pj_lt tk_6 (by decide)) (fun E u => ka_21 tk_6) d_PG_message_62 (pc' := 63) rfl h (fun h => ?_)
  exact pj_iret C hE d_PG_message_63 ⟨_, rfl, h⟩
def pb_PG_message_64  (K : Int32 → pj_M → Prop) (u : pj_M) (x1 : Int32) : Prop := vp_in x1 40 ∧ pj_let (u 7 x1.toNatClampNeg).toNatClampNeg fun i101 => pj_T i101 = 3 ∧ (K (u i101 1) u)
set_option maxHeartbeats 1000000 in
theorem pt_PG_message_64 {g : pj_G} {b : Nat} (C : pj_X g c_PG_message 3 R_PG (some .int) rm_PG_message) {K : Int32 → pj_M → Prop} (hE : pj_E g b (pj_Ki K))   {u : pj_M} {x1 : Int32}   (h : pb_PG_message_64  K u x1) : pj_J g (pj_N g b u) 64 [some (.ref (b + 0)), some (.int x1), none] [] := by
  unfold pb_PG_message_64 at h
  refine pj_aload_n C d_PG_message_64 (pc' := 65) (i := 0) (x := b + 0) rfl rfl rfl ?_
  refine fg_PortGuard_19_PortGuard C tk_0 d_PG_message_65 (pc' := 68) rfl ?_
  refine fg_PortGuard_117_Mailbox C tk_4 d_PG_message_68 (pc' := 71) rfl ?_
  refine pj_iload_n C d_PG_message_71 (pc' := 72) (i := 1) (x := x1) rfl rfl rfl ?_
  refine pj_aldM C (pj_lt tk_7 (by decide)) (fun E u => ka_24 tk_7) (fun E => rfl) d_PG_message_72 (pc' := 73) rfl h (fun h => ?_)
  refine pj_nameR h (fun i101 h => ?_)
  obtain ⟨ti101, h⟩ := h
  refine fg_PortGuard_145_Row C ti101 d_PG_message_73 (pc' := 76) rfl ?_
  exact pj_iret C hE d_PG_message_76 ⟨_, rfl, h⟩
def pb_PG_message_77  (K : Int32 → pj_M → Prop) (u : pj_M) (x1 : Int32) (x2 : Int32) : Prop := vp_in x1 40 ∧ pj_let (u 7 x1.toNatClampNeg).toNatClampNeg fun i101 => pj_T i101 = 3 ∧ (pw_Ro_at u i101 (x2 - 3) fun r3 u2 => (K r3 u2))
set_option maxHeartbeats 1000000 in
theorem pt_PG_message_77 {g : pj_G} {b : Nat} (C : pj_X g c_PG_message 3 R_PG (some .int) rm_PG_message) {K : Int32 → pj_M → Prop} (hE : pj_E g b (pj_Ki K))   {u : pj_M} {x1 : Int32} {x2 : Int32}   (h : pb_PG_message_77  K u x1 x2) : pj_J g (pj_N g b u) 77 [some (.ref (b + 0)), some (.int x1), some (.int x2)] [] := by
  unfold pb_PG_message_77 at h
  refine pj_aload_n C d_PG_message_77 (pc' := 78) (i := 0) (x := b + 0) rfl rfl rfl ?_
  refine fg_PortGuard_19_PortGuard C tk_0 d_PG_message_78 (pc' := 81) rfl ?_
  refine fg_PortGuard_117_Mailbox C tk_4 d_PG_message_81 (pc' := 84) rfl ?_
  refine pj_iload_n C d_PG_message_84 (pc' := 85) (i := 1) (x := x1) rfl rfl rfl ?_
  refine pj_aldM C (pj_lt tk_7 (by decide)) (fun E u => ka_24 tk_7) (fun E => rfl) d_PG_message_85 (pc' := 86) rfl h (fun h => ?_)
  refine pj_nameR h (fun i101 h => ?_)
  obtain ⟨ti101, h⟩ := h
  refine pj_iload_n C d_PG_message_86 (pc' := 87) (i := 2) (x := x2) rfl rfl rfl ?_
  refine pj_iconst C d_PG_message_87 (pc' := 88) rfl (v := 3) (by decide) ?_
  refine pj_isub C d_PG_message_88 (pc' := 89) rfl ?_
  refine ck_PortGuard_148_Row C ti101 h d_PG_message_89 (pc' := 92) rfl ⟨Nat.le_of_ble_eq_true rfl, Nat.le_of_ble_eq_true rfl⟩ (Nat.le_of_ble_eq_true rfl) (fun r3 u2 h => ?_)
  exact pj_iret C hE d_PG_message_92 ⟨_, rfl, h⟩
def pb_PG_message_17  (K : Int32 → pj_M → Prop) (u : pj_M) (x1 : Int32) (x2 : Int32) : Prop := ((x2 = 0) → (pb_PG_message_44  K u x1)) ∧ (¬ (x2 = 0) → ((x2 = 1) → (pb_PG_message_54  K u x1)) ∧ (¬ (x2 = 1) → ((x2 = 2) → (pb_PG_message_64  K u x1)) ∧ (¬ (x2 = 2) → (pb_PG_message_77  K u x1 x2))))
set_option maxHeartbeats 1000000 in
theorem pt_PG_message_17 {g : pj_G} {b : Nat} (C : pj_X g c_PG_message 3 R_PG (some .int) rm_PG_message) {K : Int32 → pj_M → Prop} (hE : pj_E g b (pj_Ki K))   {u : pj_M} {x1 : Int32} {x2 : Int32}   (h : pb_PG_message_17  K u x1 x2) : pj_J g (pj_N g b u) 17 [some (.ref (b + 0)), some (.int x1), some (.int x2)] [] := by
  unfold pb_PG_message_17 at h
  refine pj_iload_n C d_PG_message_17 (pc' := 18) (i := 2) (x := x2) rfl rfl rfl ?_
  by_cases e0 : x2 = 0
  · have h := h.1 e0
    refine pj_tsIn C d_PG_message_18 (kv := 0) (by rw [e0]; decide) (by decide) (by decide) (tgt := 44) rfl (by decide) ?_
    exact pj_cut (pj_le_s (pj_le_s (pj_le_n pj_le_e))) (pt_PG_message_44 C hE   h)
  have h := h.2 e0
  by_cases e1 : x2 = 1
  · have h := h.1 e1
    refine pj_tsIn C d_PG_message_18 (kv := 1) (by rw [e1]; decide) (by decide) (by decide) (tgt := 54) rfl (by decide) ?_
    exact pj_cut (pj_le_s (pj_le_s (pj_le_n pj_le_e))) (pt_PG_message_54 C hE   h)
  have h := h.2 e1
  by_cases e2 : x2 = 2
  · have h := h.1 e2
    refine pj_tsIn C d_PG_message_18 (kv := 2) (by rw [e2]; decide) (by decide) (by decide) (tgt := 64) rfl (by decide) ?_
    exact pj_cut (pj_le_s (pj_le_s (pj_le_n pj_le_e))) (pt_PG_message_64 C hE   h)
  have h := h.2 e2
  have z0 := lv_neT (a := 0) e0 (by decide)
  have z1 := lv_neT (a := 1) e1 (by decide)
  have z2 := lv_neT (a := 2) e2 (by decide)
  refine pj_tsOut C d_PG_message_18 (by omega) (tgt := 77) (by decide) ?_
  exact pj_cut (pj_le_s (pj_le_s (pj_le_s pj_le_e))) (pt_PG_message_77 C hE   h)
def pb_PG_message_11  (K : Int32 → pj_M → Prop) (u : pj_M) (x1 : Int32) (x2 : Int32) : Prop := ((0 ≤ x2) → (pb_PG_message_17  K u x1 x2)) ∧ (¬ (0 ≤ x2) → (pb_PG_message_15  K u ))
set_option maxHeartbeats 1000000 in
theorem pt_PG_message_11 {g : pj_G} {b : Nat} (C : pj_X g c_PG_message 3 R_PG (some .int) rm_PG_message) {K : Int32 → pj_M → Prop} (hE : pj_E g b (pj_Ki K))   {u : pj_M} {x1 : Int32} {x2 : Int32}   (h : pb_PG_message_11  K u x1 x2) : pj_J g (pj_N g b u) 11 [some (.ref (b + 0)), some (.int x1), some (.int x2)] [] := by
  unfold pb_PG_message_11 at h
  refine pj_iload_n C d_PG_message_11 (pc' := 12) (i := 2) (x := x2) rfl rfl rfl ?_
  refine pj_if_ge C d_PG_message_12 (pc' := 15) rfl (tgt := 17) (by decide) h (fun h => ?_) (fun h => ?_)
  · exact pj_cut (pj_le_s (pj_le_s (pj_le_s pj_le_e))) (pt_PG_message_17 C hE   h)
  · exact pj_cut (pj_le_n (pj_le_n (pj_le_n pj_le_e))) (pt_PG_message_15 C hE   h)
def pb_PG_message_0  (K : Int32 → pj_M → Prop) (u : pj_M) (x1 : Int32) (x2 : Int32) : Prop := pw_Ma_has u x1 fun r2 u1 => (((r2 = 0) → (pb_PG_message_15  K u1 )) ∧ (¬ (r2 = 0) → (pb_PG_message_11  K u1 x1 x2)))
set_option maxHeartbeats 1000000 in
theorem pt_PG_message_0 {g : pj_G} {b : Nat} (C : pj_X g c_PG_message 3 R_PG (some .int) rm_PG_message) {K : Int32 → pj_M → Prop} (hE : pj_E g b (pj_Ki K))   {u : pj_M} {x1 : Int32} {x2 : Int32}   (h : pb_PG_message_0  K u x1 x2) : pj_J g (pj_N g b u) 0 [some (.ref (b + 0)), some (.int x1), some (.int x2)] [] := by
  unfold pb_PG_message_0 at h
  refine pj_aload_n C d_PG_message_0 (pc' := 1) (i := 0) (x := b + 0) rfl rfl rfl ?_
  refine fg_PortGuard_19_PortGuard C tk_0 d_PG_message_1 (pc' := 4) rfl ?_
  refine pj_iload_n C d_PG_message_4 (pc' := 5) (i := 1) (x := x1) rfl rfl rfl ?_
  refine ck_PortGuard_108_Mailbox C  h d_PG_message_5 (pc' := 8) rfl ⟨Nat.le_of_ble_eq_true rfl, Nat.le_of_ble_eq_true rfl⟩ (Nat.le_of_ble_eq_true rfl) (fun r2 u1 h => ?_)
  refine pj_if_eq C d_PG_message_8 (pc' := 11) rfl (tgt := 15) (by decide) h (fun h => ?_) (fun h => ?_)
  · exact pj_cut (pj_le_n (pj_le_n (pj_le_n pj_le_e))) (pt_PG_message_15 C hE   h)
  · exact pj_cut (pj_le_s (pj_le_s (pj_le_s pj_le_e))) (pt_PG_message_11 C hE   h)
def pw_PG_message (u : pj_M) (x1 : Int32) (x2 : Int32) (K : Int32 → pj_M → Prop) : Prop := pb_PG_message_0  K u x1 x2
theorem pc_PG_message (l : Launch) (D : va_G) (E : Nat → ClassId) {b : Nat} {u : pj_M} {x1 : Int32} {x2 : Int32} {K : Int32 → pj_M → Prop}  (h : pw_PG_message u x1 x2 K) : pj_C l y_PG_message c_PG_message 3 (some .int) rm_PG_message D E b [.ref (b + 0), .int x1, .int x2] u (pj_Ki K) := by
  refine pj_met (own := R_PG) (by decide +kernel) rfl (Nat.le_of_ble_eq_true rfl) (fun g hE C => ?_)
  unfold pw_PG_message at h
  show pj_J g (pj_N g b u) 0 [some (.ref (b + 0)), some (.int x1), some (.int x2)] []
  exact pj_cut (pj_le_s (pj_le_s (pj_le_s pj_le_e))) (pt_PG_message_0 C hE   h)
/-! PortGuard.port(II)I -/
theorem ck_PortGuard_176_Port {g : pj_G} {b : Nat} {cc : ByteArray} {nL : Nat} {ret : Option FieldType} {rm : Room} {u : pj_M} {pc pc' : Nat} {vs : List (Option Value)} {st : List Value} (C : pj_X g cc nL R_PG ret rm) {i0 : Nat} {x1 : Int32} {K : Int32 → pj_M → Prop} (t0 : pj_T i0 = 9) (h : pw_Po_tell u i0 x1 K) (hdg : decode cc pc = .ok (.invokevirtual 176, 3)) (hp : pc + 3 = pc') (hR : rm_Po_tell.frames + 1 ≤ rm.frames ∧ 8 + (2 + 11) + rm_Po_tell.locals ≤ rm.locals) (h8 : (st.map fun v => v.category).sum ≤ 8) (kk : ∀ r u', K r u' → pj_J g (pj_N g b u') pc' vs (.int r :: st)) : pj_J g (pj_N g b u) pc vs (.int x1 :: .ref (b + i0) :: st) :=
  pj_callV C (As := [.int x1]) (fun l D E => pc_Po_tell l D E t0 h) rfl rfl cl_Port (pj_lt t0 (by decide)) (fun E => ko_9 t0) wm_1083 wm_1084 wm_1085 wm_101 wm_1086 (by decide +kernel) (n := 1) rfl hR rfl h8 hdg hp (fun v u' hq => by obtain ⟨r, rfl, hk⟩ := hq; exact kk r u' hk)
def rm_PG_port : Room := { frames := 1, cells := 0, slots := 0, locals := 21 }
def pb_PG_port_25  (K : Int32 → pj_M → Prop) (u : pj_M) (s0 : Int32) : Prop := K s0 u
set_option maxHeartbeats 1000000 in
theorem pt_PG_port_25 {g : pj_G} {b : Nat} (C : pj_X g c_PG_port 3 R_PG (some .int) rm_PG_port) {K : Int32 → pj_M → Prop} (hE : pj_E g b (pj_Ki K))   {u : pj_M} {s0 : Int32}   (h : pb_PG_port_25  K u s0) : pj_J g (pj_N g b u) 25 [none, none, none] [.int s0] := by
  unfold pb_PG_port_25 at h
  exact pj_iret C hE d_PG_port_25 ⟨_, rfl, h⟩
def pb_PG_port_23  (K : Int32 → pj_M → Prop) (u : pj_M)  : Prop := pb_PG_port_25  K u ((-2))
set_option maxHeartbeats 1000000 in
theorem pt_PG_port_23 {g : pj_G} {b : Nat} (C : pj_X g c_PG_port 3 R_PG (some .int) rm_PG_port) {K : Int32 → pj_M → Prop} (hE : pj_E g b (pj_Ki K))   {u : pj_M}    (h : pb_PG_port_23  K u ) : pj_J g (pj_N g b u) 23 [none, none, none] [] := by
  unfold pb_PG_port_23 at h
  refine pj_bipush C d_PG_port_23 (pc' := 25) rfl (v := (-2)) (by decide) ?_
  exact pj_cut (pj_le_n (pj_le_n (pj_le_n pj_le_e))) (pt_PG_port_25 C hE   h)
def pb_PG_port_7  (K : Int32 → pj_M → Prop) (u : pj_M) (x1 : Int32) (x2 : Int32) : Prop := vp_in x1 4 ∧ (pw_Po_tell u (185 + 7 * x1.toNatClampNeg) x2 fun r3 u2 => (pb_PG_port_25  K u2 r3))
set_option maxHeartbeats 1000000 in
theorem pt_PG_port_7 {g : pj_G} {b : Nat} (C : pj_X g c_PG_port 3 R_PG (some .int) rm_PG_port) {K : Int32 → pj_M → Prop} (hE : pj_E g b (pj_Ki K))   {u : pj_M} {x1 : Int32} {x2 : Int32}   (h : pb_PG_port_7  K u x1 x2) : pj_J g (pj_N g b u) 7 [some (.ref (b + 0)), some (.int x1), some (.int x2)] [] := by
  unfold pb_PG_port_7 at h
  refine pj_aload_n C d_PG_port_7 (pc' := 8) (i := 0) (x := b + 0) rfl rfl rfl ?_
  refine fg_PortGuard_44_PortGuard C tk_0 d_PG_port_8 (pc' := 11) rfl ?_
  refine fg_PortGuard_81_Switch C tk_170 d_PG_port_11 (pc' := 14) rfl ?_
  refine pj_iload_n C d_PG_port_14 (pc' := 15) (i := 1) (x := x1) rfl rfl rfl ?_
  obtain ⟨hv1, h⟩ := h
  refine pj_aldS C (pj_lt tk_171 (by decide)) (fun E u => ka_29 tk_171) (fun E => rfl) d_PG_port_15 (pc' := 16) rfl ⟨hv1, h⟩ (fun h => ?_)
  refine pj_iload_n C d_PG_port_16 (pc' := 17) (i := 2) (x := x2) rfl rfl rfl ?_
  refine ck_PortGuard_176_Port C (pe_29 tk_171 hv1) h d_PG_port_17 (pc' := 20) rfl ⟨Nat.le_of_ble_eq_true rfl, Nat.le_of_ble_eq_true rfl⟩ (Nat.le_of_ble_eq_true rfl) (fun r3 u2 h => ?_)
  refine pj_goto C d_PG_port_20 (tgt := 25) (by decide) ?_
  exact pj_cut (pj_le_n (pj_le_n (pj_le_n pj_le_e))) (pt_PG_port_25 C hE   h)
def pb_PG_port_0  (K : Int32 → pj_M → Prop) (u : pj_M) (x1 : Int32) (x2 : Int32) : Prop := pw_PG_isPort u x1 fun r2 u1 => (((r2 = 0) → (pb_PG_port_23  K u1 )) ∧ (¬ (r2 = 0) → (pb_PG_port_7  K u1 x1 x2)))
set_option maxHeartbeats 1000000 in
theorem pt_PG_port_0 {g : pj_G} {b : Nat} (C : pj_X g c_PG_port 3 R_PG (some .int) rm_PG_port) {K : Int32 → pj_M → Prop} (hE : pj_E g b (pj_Ki K))   {u : pj_M} {x1 : Int32} {x2 : Int32}   (h : pb_PG_port_0  K u x1 x2) : pj_J g (pj_N g b u) 0 [some (.ref (b + 0)), some (.int x1), some (.int x2)] [] := by
  unfold pb_PG_port_0 at h
  refine pj_iload_n C d_PG_port_0 (pc' := 1) (i := 1) (x := x1) rfl rfl rfl ?_
  refine ck_PortGuard_65 C  h d_PG_port_1 (pc' := 4) rfl ⟨Nat.le_of_ble_eq_true rfl, Nat.le_of_ble_eq_true rfl⟩ (Nat.le_of_ble_eq_true rfl) (fun r2 u1 h => ?_)
  refine pj_if_eq C d_PG_port_4 (pc' := 7) rfl (tgt := 23) (by decide) h (fun h => ?_) (fun h => ?_)
  · exact pj_cut (pj_le_n (pj_le_n (pj_le_n pj_le_e))) (pt_PG_port_23 C hE   h)
  · exact pj_cut (pj_le_s (pj_le_s (pj_le_s pj_le_e))) (pt_PG_port_7 C hE   h)
def pw_PG_port (u : pj_M) (x1 : Int32) (x2 : Int32) (K : Int32 → pj_M → Prop) : Prop := pb_PG_port_0  K u x1 x2
theorem pc_PG_port (l : Launch) (D : va_G) (E : Nat → ClassId) {b : Nat} {u : pj_M} {x1 : Int32} {x2 : Int32} {K : Int32 → pj_M → Prop}  (h : pw_PG_port u x1 x2 K) : pj_C l y_PG_port c_PG_port 3 (some .int) rm_PG_port D E b [.ref (b + 0), .int x1, .int x2] u (pj_Ki K) := by
  refine pj_met (own := R_PG) (by decide +kernel) rfl (Nat.le_of_ble_eq_true rfl) (fun g hE C => ?_)
  unfold pw_PG_port at h
  show pj_J g (pj_N g b u) 0 [some (.ref (b + 0)), some (.int x1), some (.int x2)] []
  exact pj_cut (pj_le_s (pj_le_s (pj_le_s pj_le_e))) (pt_PG_port_0 C hE   h)
/-! PortGuard.station(II)I -/
theorem ck_PortGuard_179_Host {g : pj_G} {b : Nat} {cc : ByteArray} {nL : Nat} {ret : Option FieldType} {rm : Room} {u : pj_M} {pc pc' : Nat} {vs : List (Option Value)} {st : List Value} (C : pj_X g cc nL R_PG ret rm) {i0 : Nat} {x1 : Int32} {K : Int32 → pj_M → Prop} (t0 : pj_T i0 = 6) (h : pw_Ho_tell u i0 x1 K) (hdg : decode cc pc = .ok (.invokevirtual 179, 3)) (hp : pc + 3 = pc') (hR : rm_Ho_tell.frames + 1 ≤ rm.frames ∧ 8 + (2 + 11) + rm_Ho_tell.locals ≤ rm.locals) (h8 : (st.map fun v => v.category).sum ≤ 8) (kk : ∀ r u', K r u' → pj_J g (pj_N g b u') pc' vs (.int r :: st)) : pj_J g (pj_N g b u) pc vs (.int x1 :: .ref (b + i0) :: st) :=
  pj_callV C (As := [.int x1]) (fun l D E => pc_Ho_tell l D E t0 h) rfl rfl cl_Host (pj_lt t0 (by decide)) (fun E => ko_6 t0) wm_1091 wm_1092 wm_1093 wm_95 wm_1094 (by decide +kernel) (n := 1) rfl hR rfl h8 hdg hp (fun v u' hq => by obtain ⟨r, rfl, hk⟩ := hq; exact kk r u' hk)
def rm_PG_station : Room := { frames := 3, cells := 0, slots := 0, locals := 62 }
def pb_PG_station_22  (K : Int32 → pj_M → Prop) (u : pj_M) (s0 : Int32) : Prop := K s0 u
set_option maxHeartbeats 1000000 in
theorem pt_PG_station_22 {g : pj_G} {b : Nat} (C : pj_X g c_PG_station 3 R_PG (some .int) rm_PG_station) {K : Int32 → pj_M → Prop} (hE : pj_E g b (pj_Ki K))   {u : pj_M} {s0 : Int32}   (h : pb_PG_station_22  K u s0) : pj_J g (pj_N g b u) 22 [none, none, none] [.int s0] := by
  unfold pb_PG_station_22 at h
  exact pj_iret C hE d_PG_station_22 ⟨_, rfl, h⟩
def pb_PG_station_20  (K : Int32 → pj_M → Prop) (u : pj_M)  : Prop := pb_PG_station_22  K u ((-2))
set_option maxHeartbeats 1000000 in
theorem pt_PG_station_20 {g : pj_G} {b : Nat} (C : pj_X g c_PG_station 3 R_PG (some .int) rm_PG_station) {K : Int32 → pj_M → Prop} (hE : pj_E g b (pj_Ki K))   {u : pj_M}    (h : pb_PG_station_20  K u ) : pj_J g (pj_N g b u) 20 [none, none, none] [] := by
  unfold pb_PG_station_20 at h
  refine pj_bipush C d_PG_station_20 (pc' := 22) rfl (v := (-2)) (by decide) ?_
  exact pj_cut (pj_le_n (pj_le_n (pj_le_n pj_le_e))) (pt_PG_station_22 C hE   h)
def pb_PG_station_7  (K : Int32 → pj_M → Prop) (u : pj_M) (x1 : Int32) (x2 : Int32) : Prop := vp_in x1 4 ∧ (pw_Ho_tell u (91 + 5 * x1.toNatClampNeg) x2 fun r3 u2 => (pb_PG_station_22  K u2 r3))
set_option maxHeartbeats 1000000 in
theorem pt_PG_station_7 {g : pj_G} {b : Nat} (C : pj_X g c_PG_station 3 R_PG (some .int) rm_PG_station) {K : Int32 → pj_M → Prop} (hE : pj_E g b (pj_Ki K))   {u : pj_M} {x1 : Int32} {x2 : Int32}   (h : pb_PG_station_7  K u x1 x2) : pj_J g (pj_N g b u) 7 [some (.ref (b + 0)), some (.int x1), some (.int x2)] [] := by
  unfold pb_PG_station_7 at h
  refine pj_aload_n C d_PG_station_7 (pc' := 8) (i := 0) (x := b + 0) rfl rfl rfl ?_
  refine fg_PortGuard_25_PortGuard C tk_0 d_PG_station_8 (pc' := 11) rfl ?_
  refine pj_iload_n C d_PG_station_11 (pc' := 12) (i := 1) (x := x1) rfl rfl rfl ?_
  obtain ⟨hv1, h⟩ := h
  refine pj_aldS C (pj_lt tk_90 (by decide)) (fun E u => ka_25 tk_90) (fun E => rfl) d_PG_station_12 (pc' := 13) rfl ⟨hv1, h⟩ (fun h => ?_)
  refine pj_iload_n C d_PG_station_13 (pc' := 14) (i := 2) (x := x2) rfl rfl rfl ?_
  refine ck_PortGuard_179_Host C (pe_25 tk_90 hv1) h d_PG_station_14 (pc' := 17) rfl ⟨Nat.le_of_ble_eq_true rfl, Nat.le_of_ble_eq_true rfl⟩ (Nat.le_of_ble_eq_true rfl) (fun r3 u2 h => ?_)
  refine pj_goto C d_PG_station_17 (tgt := 22) (by decide) ?_
  exact pj_cut (pj_le_n (pj_le_n (pj_le_n pj_le_e))) (pt_PG_station_22 C hE   h)
def pb_PG_station_0  (K : Int32 → pj_M → Prop) (u : pj_M) (x1 : Int32) (x2 : Int32) : Prop := pw_PG_isPort u x1 fun r2 u1 => (((r2 = 0) → (pb_PG_station_20  K u1 )) ∧ (¬ (r2 = 0) → (pb_PG_station_7  K u1 x1 x2)))
set_option maxHeartbeats 1000000 in
theorem pt_PG_station_0 {g : pj_G} {b : Nat} (C : pj_X g c_PG_station 3 R_PG (some .int) rm_PG_station) {K : Int32 → pj_M → Prop} (hE : pj_E g b (pj_Ki K))   {u : pj_M} {x1 : Int32} {x2 : Int32}   (h : pb_PG_station_0  K u x1 x2) : pj_J g (pj_N g b u) 0 [some (.ref (b + 0)), some (.int x1), some (.int x2)] [] := by
  unfold pb_PG_station_0 at h
  refine pj_iload_n C d_PG_station_0 (pc' := 1) (i := 1) (x := x1) rfl rfl rfl ?_
  refine ck_PortGuard_65 C  h d_PG_station_1 (pc' := 4) rfl ⟨Nat.le_of_ble_eq_true rfl, Nat.le_of_ble_eq_true rfl⟩ (Nat.le_of_ble_eq_true rfl) (fun r2 u1 h => ?_)
  refine pj_if_eq C d_PG_station_4 (pc' := 7) rfl (tgt := 20) (by decide) h (fun h => ?_) (fun h => ?_)
  · exact pj_cut (pj_le_n (pj_le_n (pj_le_n pj_le_e))) (pt_PG_station_20 C hE   h)
  · exact pj_cut (pj_le_s (pj_le_s (pj_le_s pj_le_e))) (pt_PG_station_7 C hE   h)
def pw_PG_station (u : pj_M) (x1 : Int32) (x2 : Int32) (K : Int32 → pj_M → Prop) : Prop := pb_PG_station_0  K u x1 x2
theorem pc_PG_station (l : Launch) (D : va_G) (E : Nat → ClassId) {b : Nat} {u : pj_M} {x1 : Int32} {x2 : Int32} {K : Int32 → pj_M → Prop}  (h : pw_PG_station u x1 x2 K) : pj_C l y_PG_station c_PG_station 3 (some .int) rm_PG_station D E b [.ref (b + 0), .int x1, .int x2] u (pj_Ki K) := by
  refine pj_met (own := R_PG) (by decide +kernel) rfl (Nat.le_of_ble_eq_true rfl) (fun g hE C => ?_)
  unfold pw_PG_station at h
  show pj_J g (pj_N g b u) 0 [some (.ref (b + 0)), some (.int x1), some (.int x2)] []
  exact pj_cut (pj_le_s (pj_le_s (pj_le_s pj_le_e))) (pt_PG_station_0 C hE   h)
/-! PortGuard.server(II)I -/
theorem ck_PortGuard_180_Server {g : pj_G} {b : Nat} {cc : ByteArray} {nL : Nat} {ret : Option FieldType} {rm : Room} {u : pj_M} {pc pc' : Nat} {vs : List (Option Value)} {st : List Value} (C : pj_X g cc nL R_PG ret rm) {i0 : Nat} {x1 : Int32} {K : Int32 → pj_M → Prop} (t0 : pj_T i0 = 8) (h : pw_Sv_tell u i0 x1 K) (hdg : decode cc pc = .ok (.invokevirtual 180, 3)) (hp : pc + 3 = pc') (hR : rm_Sv_tell.frames + 1 ≤ rm.frames ∧ 8 + (2 + 11) + rm_Sv_tell.locals ≤ rm.locals) (h8 : (st.map fun v => v.category).sum ≤ 8) (kk : ∀ r u', K r u' → pj_J g (pj_N g b u') pc' vs (.int r :: st)) : pj_J g (pj_N g b u) pc vs (.int x1 :: .ref (b + i0) :: st) :=
  pj_callV C (As := [.int x1]) (fun l D E => pc_Sv_tell l D E t0 h) rfl rfl cl_Server (pj_lt t0 (by decide)) (fun E => ko_8 t0) wm_1099 wm_1100 wm_1101 wm_97 wm_1102 (by decide +kernel) (n := 1) rfl hR rfl h8 hdg hp (fun v u' hq => by obtain ⟨r, rfl, hk⟩ := hq; exact kk r u' hk)
def rm_PG_server : Room := { frames := 1, cells := 0, slots := 0, locals := 21 }
def pb_PG_server_22  (K : Int32 → pj_M → Prop) (u : pj_M) (s0 : Int32) : Prop := K s0 u
set_option maxHeartbeats 1000000 in
theorem pt_PG_server_22 {g : pj_G} {b : Nat} (C : pj_X g c_PG_server 3 R_PG (some .int) rm_PG_server) {K : Int32 → pj_M → Prop} (hE : pj_E g b (pj_Ki K))   {u : pj_M} {s0 : Int32}   (h : pb_PG_server_22  K u s0) : pj_J g (pj_N g b u) 22 [none, none, none] [.int s0] := by
  unfold pb_PG_server_22 at h
  exact pj_iret C hE d_PG_server_22 ⟨_, rfl, h⟩
def pb_PG_server_20  (K : Int32 → pj_M → Prop) (u : pj_M)  : Prop := pb_PG_server_22  K u ((-2))
set_option maxHeartbeats 1000000 in
theorem pt_PG_server_20 {g : pj_G} {b : Nat} (C : pj_X g c_PG_server 3 R_PG (some .int) rm_PG_server) {K : Int32 → pj_M → Prop} (hE : pj_E g b (pj_Ki K))   {u : pj_M}    (h : pb_PG_server_20  K u ) : pj_J g (pj_N g b u) 20 [none, none, none] [] := by
  unfold pb_PG_server_20 at h
  refine pj_bipush C d_PG_server_20 (pc' := 22) rfl (v := (-2)) (by decide) ?_
  exact pj_cut (pj_le_n (pj_le_n (pj_le_n pj_le_e))) (pt_PG_server_22 C hE   h)
def pb_PG_server_7  (K : Int32 → pj_M → Prop) (u : pj_M) (x1 : Int32) (x2 : Int32) : Prop := vp_in x1 2 ∧ (pw_Sv_tell u (112 + 29 * x1.toNatClampNeg) x2 fun r3 u2 => (pb_PG_server_22  K u2 r3))
set_option maxHeartbeats 1000000 in
theorem pt_PG_server_7 {g : pj_G} {b : Nat} (C : pj_X g c_PG_server 3 R_PG (some .int) rm_PG_server) {K : Int32 → pj_M → Prop} (hE : pj_E g b (pj_Ki K))   {u : pj_M} {x1 : Int32} {x2 : Int32}   (h : pb_PG_server_7  K u x1 x2) : pj_J g (pj_N g b u) 7 [some (.ref (b + 0)), some (.int x1), some (.int x2)] [] := by
  unfold pb_PG_server_7 at h
  refine pj_aload_n C d_PG_server_7 (pc' := 8) (i := 0) (x := b + 0) rfl rfl rfl ?_
  refine fg_PortGuard_34_PortGuard C tk_0 d_PG_server_8 (pc' := 11) rfl ?_
  refine pj_iload_n C d_PG_server_11 (pc' := 12) (i := 1) (x := x1) rfl rfl rfl ?_
  obtain ⟨hv1, h⟩ := h
  refine pj_aldS C (pj_lt tk_111 (by decide)) (fun E u => ka_26 tk_111) (fun E => rfl) d_PG_server_12 (pc' := 13) rfl ⟨hv1, h⟩ (fun h => ?_)
  refine pj_iload_n C d_PG_server_13 (pc' := 14) (i := 2) (x := x2) rfl rfl rfl ?_
  refine ck_PortGuard_180_Server C (pe_26 tk_111 hv1) h d_PG_server_14 (pc' := 17) rfl ⟨Nat.le_of_ble_eq_true rfl, Nat.le_of_ble_eq_true rfl⟩ (Nat.le_of_ble_eq_true rfl) (fun r3 u2 h => ?_)
  refine pj_goto C d_PG_server_17 (tgt := 22) (by decide) ?_
  exact pj_cut (pj_le_n (pj_le_n (pj_le_n pj_le_e))) (pt_PG_server_22 C hE   h)
def pb_PG_server_0  (K : Int32 → pj_M → Prop) (u : pj_M) (x1 : Int32) (x2 : Int32) : Prop := pw_PG_isServer u x1 fun r2 u1 => (((r2 = 0) → (pb_PG_server_20  K u1 )) ∧ (¬ (r2 = 0) → (pb_PG_server_7  K u1 x1 x2)))
set_option maxHeartbeats 1000000 in
theorem pt_PG_server_0 {g : pj_G} {b : Nat} (C : pj_X g c_PG_server 3 R_PG (some .int) rm_PG_server) {K : Int32 → pj_M → Prop} (hE : pj_E g b (pj_Ki K))   {u : pj_M} {x1 : Int32} {x2 : Int32}   (h : pb_PG_server_0  K u x1 x2) : pj_J g (pj_N g b u) 0 [some (.ref (b + 0)), some (.int x1), some (.int x2)] [] := by
  unfold pb_PG_server_0 at h
  refine pj_iload_n C d_PG_server_0 (pc' := 1) (i := 1) (x := x1) rfl rfl rfl ?_
  refine ck_PortGuard_98 C  h d_PG_server_1 (pc' := 4) rfl ⟨Nat.le_of_ble_eq_true rfl, Nat.le_of_ble_eq_true rfl⟩ (Nat.le_of_ble_eq_true rfl) (fun r2 u1 h => ?_)
  refine pj_if_eq C d_PG_server_4 (pc' := 7) rfl (tgt := 20) (by decide) h (fun h => ?_) (fun h => ?_)
  · exact pj_cut (pj_le_n (pj_le_n (pj_le_n pj_le_e))) (pt_PG_server_20 C hE   h)
  · exact pj_cut (pj_le_s (pj_le_s (pj_le_s pj_le_e))) (pt_PG_server_7 C hE   h)
def pw_PG_server (u : pj_M) (x1 : Int32) (x2 : Int32) (K : Int32 → pj_M → Prop) : Prop := pb_PG_server_0  K u x1 x2
theorem pc_PG_server (l : Launch) (D : va_G) (E : Nat → ClassId) {b : Nat} {u : pj_M} {x1 : Int32} {x2 : Int32} {K : Int32 → pj_M → Prop}  (h : pw_PG_server u x1 x2 K) : pj_C l y_PG_server c_PG_server 3 (some .int) rm_PG_server D E b [.ref (b + 0), .int x1, .int x2] u (pj_Ki K) := by
  refine pj_met (own := R_PG) (by decide +kernel) rfl (Nat.le_of_ble_eq_true rfl) (fun g hE C => ?_)
  unfold pw_PG_server at h
  show pj_J g (pj_N g b u) 0 [some (.ref (b + 0)), some (.int x1), some (.int x2)] []
  exact pj_cut (pj_le_s (pj_le_s (pj_le_s pj_le_e))) (pt_PG_server_0 C hE   h)
/-! PortGuard.wrong(I)I -/
theorem fg_PortGuard_185_Server {g : pj_G} {b : Nat} {cc : ByteArray} {nL : Nat} {ret : Option FieldType} {rm : Room} {u : pj_M} {pc pc' : Nat} {vs : List (Option Value)} {st : List Value} (C : pj_X g cc nL R_PG ret rm) {i : Nat} (t : pj_T i = 8) (hdg : decode cc pc = .ok (.getfield 185, 3)) (hp : pc + 3 = pc') (kk : pj_J g (pj_N g b u) pc' vs (.int (u i 19) :: st)) : pj_J g (pj_N g b u) pc vs (.ref (b + i) :: st) :=
  pj_get C cl_Server hin_Server (k := 19) (Nat.le_of_ble_eq_true rfl) wm_350 (Or.inl rfl) (pj_lt t (by decide)) (fun E => ko_8 t) rfl hdg hp kk
theorem fg_PortGuard_184_Host {g : pj_G} {b : Nat} {cc : ByteArray} {nL : Nat} {ret : Option FieldType} {rm : Room} {u : pj_M} {pc pc' : Nat} {vs : List (Option Value)} {st : List Value} (C : pj_X g cc nL R_PG ret rm) {i : Nat} (t : pj_T i = 6) (hdg : decode cc pc = .ok (.getfield 184, 3)) (hp : pc + 3 = pc') (kk : pj_J g (pj_N g b u) pc' vs (.int (u i 14) :: st)) : pj_J g (pj_N g b u) pc vs (.ref (b + i) :: st) :=
  pj_get C cl_Host hin_Host (k := 14) (Nat.le_of_ble_eq_true rfl) wm_214 (Or.inl rfl) (pj_lt t (by decide)) (fun E => ko_6 t) rfl hdg hp kk
theorem fg_PortGuard_181_Switch {g : pj_G} {b : Nat} {cc : ByteArray} {nL : Nat} {ret : Option FieldType} {rm : Room} {u : pj_M} {pc pc' : Nat} {vs : List (Option Value)} {st : List Value} (C : pj_X g cc nL R_PG ret rm) {i : Nat} (t : pj_T i = 10) (hdg : decode cc pc = .ok (.getfield 181, 3)) (hp : pc + 3 = pc') (kk : pj_J g (pj_N g b u) pc' vs (.int (u i 9) :: st)) : pj_J g (pj_N g b u) pc vs (.ref (b + i) :: st) :=
  pj_get C cl_Switch hin_Switch (k := 9) (Nat.le_of_ble_eq_true rfl) wm_501 (Or.inl rfl) (pj_lt t (by decide)) (fun E => ko_10 t) rfl hdg hp kk
def rm_PG_wrong : Room := { frames := 0, cells := 0, slots := 0, locals := 0 }
def pb_PG_wrong_28  (K : Int32 → pj_M → Prop) (u : pj_M)  : Prop := K (u 170 9) u
set_option maxHeartbeats 1000000 in
theorem pt_PG_wrong_28 {g : pj_G} {b : Nat} (C : pj_X g c_PG_wrong 4 R_PG (some .int) rm_PG_wrong) {K : Int32 → pj_M → Prop} (hE : pj_E g b (pj_Ki K))   {u : pj_M}    (h : pb_PG_wrong_28  K u ) : pj_J g (pj_N g b u) 28 [some (.ref (b + 0)), none, none, none] [] := by
  unfold pb_PG_wrong_28 at h
  refine pj_aload_n C d_PG_wrong_28 (pc' := 29) (i := 0) (x := b + 0) rfl rfl rfl ?_
  refine fg_PortGuard_44_PortGuard C tk_0 d_PG_wrong_29 (pc' := 32) rfl ?_
  refine fg_PortGuard_181_Switch C tk_170 d_PG_wrong_32 (pc' := 35) rfl ?_
  exact pj_iret C hE d_PG_wrong_35 ⟨_, rfl, h⟩
def pb_PG_wrong_61  (K : Int32 → pj_M → Prop) (u : pj_M) (x2 : Int32) : Prop := K x2 u
set_option maxHeartbeats 1000000 in
theorem pt_PG_wrong_61 {g : pj_G} {b : Nat} (C : pj_X g c_PG_wrong 4 R_PG (some .int) rm_PG_wrong) {K : Int32 → pj_M → Prop} (hE : pj_E g b (pj_Ki K))   {u : pj_M} {x2 : Int32}   (h : pb_PG_wrong_61  K u x2) : pj_J g (pj_N g b u) 61 [none, none, some (.int x2), none] [] := by
  unfold pb_PG_wrong_61 at h
  refine pj_iload_n C d_PG_wrong_61 (pc' := 62) (i := 2) (x := x2) rfl rfl rfl ?_
  exact pj_iret C hE d_PG_wrong_62 ⟨_, rfl, h⟩
def pb_PG_wrong_43 (R38 : pj_M → Int32 → Int32 → Prop) (K : Int32 → pj_M → Prop) (u : pj_M) (x2 : Int32) (x3 : Int32) : Prop := vp_in x3 4 ∧ (pj_let (x2 + (u (91 + 5 * x3.toNatClampNeg) 14)) fun y2 => (R38 u y2 (x3 + 1)))
set_option maxHeartbeats 1000000 in
theorem pt_PG_wrong_43 {g : pj_G} {b : Nat} (C : pj_X g c_PG_wrong 4 R_PG (some .int) rm_PG_wrong) {K : Int32 → pj_M → Prop} (hE : pj_E g b (pj_Ki K)) {R38 : pj_M → Int32 → Int32 → Prop}  {u : pj_M} {x2 : Int32} {x3 : Int32} (hR38 : ∀ (u : pj_M) (x2 : Int32) (x3 : Int32), R38 u x2 x3 → pj_J g (pj_N g b u) 38 [some (.ref (b + 0)), none, some (.int x2), some (.int x3)] [])  (h : pb_PG_wrong_43 R38 K u x2 x3) : pj_J g (pj_N g b u) 43 [some (.ref (b + 0)), none, some (.int x2), some (.int x3)] [] := by
  unfold pb_PG_wrong_43 at h
  refine pj_iload_n C d_PG_wrong_43 (pc' := 44) (i := 2) (x := x2) rfl rfl rfl ?_
  refine pj_aload_n C d_PG_wrong_44 (pc' := 45) (i := 0) (x := b + 0) rfl rfl rfl ?_
  refine fg_PortGuard_25_PortGuard C tk_0 d_PG_wrong_45 (pc' := 48) rfl ?_
  refine pj_iload_n C d_PG_wrong_48 (pc' := 49) (i := 3) (x := x3) rfl rfl rfl ?_
  obtain ⟨hv1, h⟩ := h
  refine pj_aldS C (pj_lt tk_90 (by decide)) (fun E u => ka_25 tk_90) (fun E => rfl) d_PG_wrong_49 (pc' := 50) rfl ⟨hv1, h⟩ (fun h => ?_)
  refine fg_PortGuard_184_Host C (pe_25 tk_90 hv1) d_PG_wrong_50 (pc' := 53) rfl ?_
  refine pj_iadd C d_PG_wrong_53 (pc' := 54) rfl ?_
  refine pj_name h (fun y2 h => ?_)
  refine pj_istore_n C d_PG_wrong_54 (pc' := 55) (i := 2) (vs' := [some (.ref (b + 0)), none, some (.int y2), some (.int x3)]) rfl rfl (Nat.le_of_ble_eq_true rfl) (Nat.le_of_ble_eq_true rfl) rfl rfl ?_
  refine pj_iinc C d_PG_wrong_55 (pc' := 58) (x := x3) (d := 1) (vs' := [some (.ref (b + 0)), none, some (.int y2), some (.int (x3 + 1))]) rfl rfl (Nat.le_of_ble_eq_true rfl) rfl (by decide) rfl ?_
  refine pj_goto C d_PG_wrong_58 (tgt := 38) (by decide) ?_
  exact pj_cut (pj_le_s (pj_le_n (pj_le_s (pj_le_s pj_le_e)))) (hR38 _ _ _ h)
def pb_PG_wrong_38b (R38 : pj_M → Int32 → Int32 → Prop) (K : Int32 → pj_M → Prop) (u : pj_M) (x2 : Int32) (x3 : Int32) : Prop := ((4 ≤ x3) → (pb_PG_wrong_61  K u x2)) ∧ (¬ (4 ≤ x3) → (pb_PG_wrong_43 R38 K u x2 x3))
set_option maxHeartbeats 1000000 in
theorem pt_PG_wrong_38b {g : pj_G} {b : Nat} (C : pj_X g c_PG_wrong 4 R_PG (some .int) rm_PG_wrong) {K : Int32 → pj_M → Prop} (hE : pj_E g b (pj_Ki K)) {R38 : pj_M → Int32 → Int32 → Prop}  {u : pj_M} {x2 : Int32} {x3 : Int32} (hR38 : ∀ (u : pj_M) (x2 : Int32) (x3 : Int32), R38 u x2 x3 → pj_J g (pj_N g b u) 38 [some (.ref (b + 0)), none, some (.int x2), some (.int x3)] [])  (h : pb_PG_wrong_38b R38 K u x2 x3) : pj_J g (pj_N g b u) 38 [some (.ref (b + 0)), none, some (.int x2), some (.int x3)] [] := by
  unfold pb_PG_wrong_38b at h
  refine pj_iload_n C d_PG_wrong_38 (pc' := 39) (i := 3) (x := x3) rfl rfl rfl ?_
  refine pj_iconst C d_PG_wrong_39 (pc' := 40) rfl (v := 4) (by decide) ?_
  refine pj_icmp_ge C d_PG_wrong_40 (pc' := 43) rfl (tgt := 61) (by decide) h (fun h => ?_) (fun h => ?_)
  · exact pj_cut (pj_le_n (pj_le_n (pj_le_s (pj_le_n pj_le_e)))) (pt_PG_wrong_61 C hE   h)
  · exact pj_cut (pj_le_s (pj_le_n (pj_le_s (pj_le_s pj_le_e)))) (pt_PG_wrong_43 C hE hR38  h)
def pb_PG_wrong_38  (K : Int32 → pj_M → Prop)  : Nat → pj_M → Int32 → Int32 → Prop
  | 0 => fun _ _ _ => False
  | n + 1 => fun u x2 x3 => pb_PG_wrong_38b (pb_PG_wrong_38  K  n) K u x2 x3
theorem pt_PG_wrong_38 {g : pj_G} {b : Nat} (C : pj_X g c_PG_wrong 4 R_PG (some .int) rm_PG_wrong) {K : Int32 → pj_M → Prop} (hE : pj_E g b (pj_Ki K))     : ∀ (n : Nat) (u : pj_M) (x2 : Int32) (x3 : Int32), pb_PG_wrong_38  K  n u x2 x3 → pj_J g (pj_N g b u) 38 [some (.ref (b + 0)), none, some (.int x2), some (.int x3)] [] := by
  intro n
  induction n with
  | zero => intro u x2 x3 h; exact False.elim h
  | succ n ih =>
    intro u x2 x3 h
    exact (pt_PG_wrong_38b C hE ih  h)
def pb_PG_wrong_36  (K : Int32 → pj_M → Prop) (u : pj_M) (x2 : Int32) : Prop := ∃ n, pb_PG_wrong_38  K  n u x2 0
set_option maxHeartbeats 1000000 in
theorem pt_PG_wrong_36 {g : pj_G} {b : Nat} (C : pj_X g c_PG_wrong 4 R_PG (some .int) rm_PG_wrong) {K : Int32 → pj_M → Prop} (hE : pj_E g b (pj_Ki K))   {u : pj_M} {x2 : Int32}   (h : pb_PG_wrong_36  K u x2) : pj_J g (pj_N g b u) 36 [some (.ref (b + 0)), none, some (.int x2), none] [] := by
  unfold pb_PG_wrong_36 at h
  refine pj_iconst C d_PG_wrong_36 (pc' := 37) rfl (v := 0) (by decide) ?_
  refine pj_istore_n C d_PG_wrong_37 (pc' := 38) (i := 3) (vs' := [some (.ref (b + 0)), none, some (.int x2), some (.int 0)]) rfl rfl (Nat.le_of_ble_eq_true rfl) (Nat.le_of_ble_eq_true rfl) rfl rfl ?_
  obtain ⟨n, h⟩ := h
  exact pj_cut (pj_le_s (pj_le_n (pj_le_s (pj_le_s pj_le_e)))) (pt_PG_wrong_38 C hE   n _ _ _ h)
def pb_PG_wrong_88  (K : Int32 → pj_M → Prop) (u : pj_M) (x2 : Int32) : Prop := K x2 u
set_option maxHeartbeats 1000000 in
theorem pt_PG_wrong_88 {g : pj_G} {b : Nat} (C : pj_X g c_PG_wrong 4 R_PG (some .int) rm_PG_wrong) {K : Int32 → pj_M → Prop} (hE : pj_E g b (pj_Ki K))   {u : pj_M} {x2 : Int32}   (h : pb_PG_wrong_88  K u x2) : pj_J g (pj_N g b u) 88 [none, none, some (.int x2), none] [] := by
  unfold pb_PG_wrong_88 at h
  refine pj_iload_n C d_PG_wrong_88 (pc' := 89) (i := 2) (x := x2) rfl rfl rfl ?_
  exact pj_iret C hE d_PG_wrong_89 ⟨_, rfl, h⟩
def pb_PG_wrong_70 (R65 : pj_M → Int32 → Int32 → Prop) (K : Int32 → pj_M → Prop) (u : pj_M) (x2 : Int32) (x3 : Int32) : Prop := vp_in x3 2 ∧ (pj_let (x2 + (u (112 + 29 * x3.toNatClampNeg) 19)) fun y2 => (R65 u y2 (x3 + 1)))
set_option maxHeartbeats 1000000 in
theorem pt_PG_wrong_70 {g : pj_G} {b : Nat} (C : pj_X g c_PG_wrong 4 R_PG (some .int) rm_PG_wrong) {K : Int32 → pj_M → Prop} (hE : pj_E g b (pj_Ki K)) {R65 : pj_M → Int32 → Int32 → Prop}  {u : pj_M} {x2 : Int32} {x3 : Int32} (hR65 : ∀ (u : pj_M) (x2 : Int32) (x3 : Int32), R65 u x2 x3 → pj_J g (pj_N g b u) 65 [some (.ref (b + 0)), none, some (.int x2), some (.int x3)] [])  (h : pb_PG_wrong_70 R65 K u x2 x3) : pj_J g (pj_N g b u) 70 [some (.ref (b + 0)), none, some (.int x2), some (.int x3)] [] := by
  unfold pb_PG_wrong_70 at h
  refine pj_iload_n C d_PG_wrong_70 (pc' := 71) (i := 2) (x := x2) rfl rfl rfl ?_
  refine pj_aload_n C d_PG_wrong_71 (pc' := 72) (i := 0) (x := b + 0) rfl rfl rfl ?_
  refine fg_PortGuard_34_PortGuard C tk_0 d_PG_wrong_72 (pc' := 75) rfl ?_
  refine pj_iload_n C d_PG_wrong_75 (pc' := 76) (i := 3) (x := x3) rfl rfl rfl ?_
  obtain ⟨hv1, h⟩ := h
  refine pj_aldS C (pj_lt tk_111 (by decide)) (fun E u => ka_26 tk_111) (fun E => rfl) d_PG_wrong_76 (pc' := 77) rfl ⟨hv1, h⟩ (fun h => ?_)
  refine fg_PortGuard_185_Server C (pe_26 tk_111 hv1) d_PG_wrong_77 (pc' := 80) rfl ?_
  refine pj_iadd C d_PG_wrong_80 (pc' := 81) rfl ?_
  refine pj_name h (fun y2 h => ?_)
  refine pj_istore_n C d_PG_wrong_81 (pc' := 82) (i := 2) (vs' := [some (.ref (b + 0)), none, some (.int y2), some (.int x3)]) rfl rfl (Nat.le_of_ble_eq_true rfl) (Nat.le_of_ble_eq_true rfl) rfl rfl ?_
  refine pj_iinc C d_PG_wrong_82 (pc' := 85) (x := x3) (d := 1) (vs' := [some (.ref (b + 0)), none, some (.int y2), some (.int (x3 + 1))]) rfl rfl (Nat.le_of_ble_eq_true rfl) rfl (by decide) rfl ?_
  refine pj_goto C d_PG_wrong_85 (tgt := 65) (by decide) ?_
  exact pj_cut (pj_le_s (pj_le_n (pj_le_s (pj_le_s pj_le_e)))) (hR65 _ _ _ h)
def pb_PG_wrong_65b (R65 : pj_M → Int32 → Int32 → Prop) (K : Int32 → pj_M → Prop) (u : pj_M) (x2 : Int32) (x3 : Int32) : Prop := ((2 ≤ x3) → (pb_PG_wrong_88  K u x2)) ∧ (¬ (2 ≤ x3) → (pb_PG_wrong_70 R65 K u x2 x3))
set_option maxHeartbeats 1000000 in
theorem pt_PG_wrong_65b {g : pj_G} {b : Nat} (C : pj_X g c_PG_wrong 4 R_PG (some .int) rm_PG_wrong) {K : Int32 → pj_M → Prop} (hE : pj_E g b (pj_Ki K)) {R65 : pj_M → Int32 → Int32 → Prop}  {u : pj_M} {x2 : Int32} {x3 : Int32} (hR65 : ∀ (u : pj_M) (x2 : Int32) (x3 : Int32), R65 u x2 x3 → pj_J g (pj_N g b u) 65 [some (.ref (b + 0)), none, some (.int x2), some (.int x3)] [])  (h : pb_PG_wrong_65b R65 K u x2 x3) : pj_J g (pj_N g b u) 65 [some (.ref (b + 0)), none, some (.int x2), some (.int x3)] [] := by
  unfold pb_PG_wrong_65b at h
  refine pj_iload_n C d_PG_wrong_65 (pc' := 66) (i := 3) (x := x3) rfl rfl rfl ?_
  refine pj_iconst C d_PG_wrong_66 (pc' := 67) rfl (v := 2) (by decide) ?_
  refine pj_icmp_ge C d_PG_wrong_67 (pc' := 70) rfl (tgt := 88) (by decide) h (fun h => ?_) (fun h => ?_)
  · exact pj_cut (pj_le_n (pj_le_n (pj_le_s (pj_le_n pj_le_e)))) (pt_PG_wrong_88 C hE   h)
  · exact pj_cut (pj_le_s (pj_le_n (pj_le_s (pj_le_s pj_le_e)))) (pt_PG_wrong_70 C hE hR65  h)
def pb_PG_wrong_65  (K : Int32 → pj_M → Prop)  : Nat → pj_M → Int32 → Int32 → Prop
  | 0 => fun _ _ _ => False
  | n + 1 => fun u x2 x3 => pb_PG_wrong_65b (pb_PG_wrong_65  K  n) K u x2 x3
theorem pt_PG_wrong_65 {g : pj_G} {b : Nat} (C : pj_X g c_PG_wrong 4 R_PG (some .int) rm_PG_wrong) {K : Int32 → pj_M → Prop} (hE : pj_E g b (pj_Ki K))     : ∀ (n : Nat) (u : pj_M) (x2 : Int32) (x3 : Int32), pb_PG_wrong_65  K  n u x2 x3 → pj_J g (pj_N g b u) 65 [some (.ref (b + 0)), none, some (.int x2), some (.int x3)] [] := by
  intro n
  induction n with
  | zero => intro u x2 x3 h; exact False.elim h
  | succ n ih =>
    intro u x2 x3 h
    exact (pt_PG_wrong_65b C hE ih  h)
def pb_PG_wrong_63  (K : Int32 → pj_M → Prop) (u : pj_M) (x2 : Int32) : Prop := ∃ n, pb_PG_wrong_65  K  n u x2 0
set_option maxHeartbeats 1000000 in
theorem pt_PG_wrong_63 {g : pj_G} {b : Nat} (C : pj_X g c_PG_wrong 4 R_PG (some .int) rm_PG_wrong) {K : Int32 → pj_M → Prop} (hE : pj_E g b (pj_Ki K))   {u : pj_M} {x2 : Int32}   (h : pb_PG_wrong_63  K u x2) : pj_J g (pj_N g b u) 63 [some (.ref (b + 0)), none, some (.int x2), none] [] := by
  unfold pb_PG_wrong_63 at h
  refine pj_iconst C d_PG_wrong_63 (pc' := 64) rfl (v := 0) (by decide) ?_
  refine pj_istore_n C d_PG_wrong_64 (pc' := 65) (i := 3) (vs' := [some (.ref (b + 0)), none, some (.int x2), some (.int 0)]) rfl rfl (Nat.le_of_ble_eq_true rfl) (Nat.le_of_ble_eq_true rfl) rfl rfl ?_
  obtain ⟨n, h⟩ := h
  exact pj_cut (pj_le_s (pj_le_n (pj_le_s (pj_le_s pj_le_e)))) (pt_PG_wrong_65 C hE   n _ _ _ h)
def pb_PG_wrong_90  (K : Int32 → pj_M → Prop) (u : pj_M)  : Prop := K ((-1)) u
set_option maxHeartbeats 1000000 in
theorem pt_PG_wrong_90 {g : pj_G} {b : Nat} (C : pj_X g c_PG_wrong 4 R_PG (some .int) rm_PG_wrong) {K : Int32 → pj_M → Prop} (hE : pj_E g b (pj_Ki K))   {u : pj_M}    (h : pb_PG_wrong_90  K u ) : pj_J g (pj_N g b u) 90 [none, none, none, none] [] := by
  unfold pb_PG_wrong_90 at h
  refine pj_iconst C d_PG_wrong_90 (pc' := 91) rfl (v := (-1)) (by decide) ?_
  exact pj_iret C hE d_PG_wrong_91 ⟨_, rfl, h⟩
def pb_PG_wrong_0  (K : Int32 → pj_M → Prop) (u : pj_M) (x1 : Int32) : Prop := ((x1 = 0) → (pb_PG_wrong_28  K u )) ∧ (¬ (x1 = 0) → ((x1 = 1) → (pb_PG_wrong_36  K u 0)) ∧ (¬ (x1 = 1) → ((x1 = 2) → (pb_PG_wrong_63  K u 0)) ∧ (¬ (x1 = 2) → (pb_PG_wrong_90  K u ))))
set_option maxHeartbeats 1000000 in
theorem pt_PG_wrong_0 {g : pj_G} {b : Nat} (C : pj_X g c_PG_wrong 4 R_PG (some .int) rm_PG_wrong) {K : Int32 → pj_M → Prop} (hE : pj_E g b (pj_Ki K))   {u : pj_M} {x1 : Int32}   (h : pb_PG_wrong_0  K u x1) : pj_J g (pj_N g b u) 0 [some (.ref (b + 0)), some (.int x1), none, none] [] := by
  unfold pb_PG_wrong_0 at h
  refine pj_iconst C d_PG_wrong_0 (pc' := 1) rfl (v := 0) (by decide) ?_
  refine pj_istore_n C d_PG_wrong_1 (pc' := 2) (i := 2) (vs' := [some (.ref (b + 0)), some (.int x1), some (.int 0), none]) rfl rfl (Nat.le_of_ble_eq_true rfl) (Nat.le_of_ble_eq_true rfl) rfl rfl ?_
  refine pj_iload_n C d_PG_wrong_2 (pc' := 3) (i := 1) (x := x1) rfl rfl rfl ?_
  by_cases e0 : x1 = 0
  · have h := h.1 e0
    refine pj_tsIn C d_PG_wrong_3 (kv := 0) (by rw [e0]; decide) (by decide) (by decide) (tgt := 28) rfl (by decide) ?_
    exact pj_cut (pj_le_s (pj_le_n (pj_le_n (pj_le_n pj_le_e)))) (pt_PG_wrong_28 C hE   h)
  have h := h.2 e0
  by_cases e1 : x1 = 1
  · have h := h.1 e1
    refine pj_tsIn C d_PG_wrong_3 (kv := 1) (by rw [e1]; decide) (by decide) (by decide) (tgt := 36) rfl (by decide) ?_
    exact pj_cut (pj_le_s (pj_le_n (pj_le_s (pj_le_n pj_le_e)))) (pt_PG_wrong_36 C hE   h)
  have h := h.2 e1
  by_cases e2 : x1 = 2
  · have h := h.1 e2
    refine pj_tsIn C d_PG_wrong_3 (kv := 2) (by rw [e2]; decide) (by decide) (by decide) (tgt := 63) rfl (by decide) ?_
    exact pj_cut (pj_le_s (pj_le_n (pj_le_s (pj_le_n pj_le_e)))) (pt_PG_wrong_63 C hE   h)
  have h := h.2 e2
  have z0 := lv_neT (a := 0) e0 (by decide)
  have z1 := lv_neT (a := 1) e1 (by decide)
  have z2 := lv_neT (a := 2) e2 (by decide)
  refine pj_tsOut C d_PG_wrong_3 (by omega) (tgt := 90) (by decide) ?_
  exact pj_cut (pj_le_n (pj_le_n (pj_le_n (pj_le_n pj_le_e)))) (pt_PG_wrong_90 C hE   h)
def pw_PG_wrong (u : pj_M) (x1 : Int32) (K : Int32 → pj_M → Prop) : Prop := pb_PG_wrong_0  K u x1
theorem pc_PG_wrong (l : Launch) (D : va_G) (E : Nat → ClassId) {b : Nat} {u : pj_M} {x1 : Int32} {K : Int32 → pj_M → Prop}  (h : pw_PG_wrong u x1 K) : pj_C l y_PG_wrong c_PG_wrong 4 (some .int) rm_PG_wrong D E b [.ref (b + 0), .int x1] u (pj_Ki K) := by
  refine pj_met (own := R_PG) (by decide +kernel) rfl (Nat.le_of_ble_eq_true rfl) (fun g hE C => ?_)
  unfold pw_PG_wrong at h
  show pj_J g (pj_N g b u) 0 [some (.ref (b + 0)), some (.int x1), none, none] []
  exact pj_cut (pj_le_s (pj_le_s (pj_le_n (pj_le_n pj_le_e)))) (pt_PG_wrong_0 C hE   h)
/-! PortGuard.learned(I)I -/
theorem fg_PortGuard_186_Switch {g : pj_G} {b : Nat} {cc : ByteArray} {nL : Nat} {ret : Option FieldType} {rm : Room} {u : pj_M} {pc pc' : Nat} {vs : List (Option Value)} {st : List Value} (C : pj_X g cc nL R_PG ret rm) {i : Nat} (t : pj_T i = 10) (hdg : decode cc pc = .ok (.getfield 186, 3)) (hp : pc + 3 = pc') (kk : pj_J g (pj_N g b u) pc' vs (.ref (b + 172) :: st)) : pj_J g (pj_N g b u) pc vs (.ref (b + i) :: st) :=
  pj_get C cl_Switch hin_Switch (k := 3) (Nat.le_of_ble_eq_true rfl) wm_493 (Or.inl rfl) (pj_lt t (by decide)) (fun E => ko_10 t) rfl hdg hp kk
def rm_PG_learned : Room := { frames := 0, cells := 0, slots := 0, locals := 0 }
def pb_PG_learned_23  (K : Int32 → pj_M → Prop) (u : pj_M) (s0 : Int32) : Prop := K s0 u
set_option maxHeartbeats 1000000 in
theorem pt_PG_learned_23 {g : pj_G} {b : Nat} (C : pj_X g c_PG_learned 2 R_PG (some .int) rm_PG_learned) {K : Int32 → pj_M → Prop} (hE : pj_E g b (pj_Ki K))   {u : pj_M} {s0 : Int32}   (h : pb_PG_learned_23  K u s0) : pj_J g (pj_N g b u) 23 [none, none] [.int s0] := by
  unfold pb_PG_learned_23 at h
  exact pj_iret C hE d_PG_learned_23 ⟨_, rfl, h⟩
def pb_PG_learned_22  (K : Int32 → pj_M → Prop) (u : pj_M)  : Prop := pb_PG_learned_23  K u ((-1))
set_option maxHeartbeats 1000000 in
theorem pt_PG_learned_22 {g : pj_G} {b : Nat} (C : pj_X g c_PG_learned 2 R_PG (some .int) rm_PG_learned) {K : Int32 → pj_M → Prop} (hE : pj_E g b (pj_Ki K))   {u : pj_M}    (h : pb_PG_learned_22  K u ) : pj_J g (pj_N g b u) 22 [none, none] [] := by
  unfold pb_PG_learned_22 at h
  refine pj_iconst C d_PG_learned_22 (pc' := 23) rfl (v := (-1)) (by decide) ?_
  exact pj_cut (pj_le_n (pj_le_n pj_le_e)) (pt_PG_learned_23 C hE   h)
def pb_PG_learned_10  (K : Int32 → pj_M → Prop) (u : pj_M) (x1 : Int32) : Prop := vp_in x1 8 ∧ (pb_PG_learned_23  K u (u 172 x1.toNatClampNeg))
set_option maxHeartbeats 1000000 in
theorem pt_PG_learned_10 {g : pj_G} {b : Nat} (C : pj_X g c_PG_learned 2 R_PG (some .int) rm_PG_learned) {K : Int32 → pj_M → Prop} (hE : pj_E g b (pj_Ki K))   {u : pj_M} {x1 : Int32}   (h : pb_PG_learned_10  K u x1) : pj_J g (pj_N g b u) 10 [some (.ref (b + 0)), some (.int x1)] [] := by
  unfold pb_PG_learned_10 at h
  refine pj_aload_n C d_PG_learned_10 (pc' := 11) (i := 0) (x := b + 0) rfl rfl rfl ?_
  refine fg_PortGuard_44_PortGuard C tk_0 d_PG_learned_11 (pc' := 14) rfl ?_
  refine fg_PortGuard_186_Switch C tk_170 d_PG_learned_14 (pc' := 17) rfl ?_
  refine pj_iload_n C d_PG_learned_17 (pc' := 18) (i := 1) (x := x1) rfl rfl rfl ?_
  refine pj_iald C (pj_lt tk_172 (by decide)) (fun E u => ka_20 tk_172) d_PG_learned_18 (pc' := 19) rfl h (fun h => ?_)
  refine pj_goto C d_PG_learned_19 (tgt := 23) (by decide) ?_
  exact pj_cut (pj_le_n (pj_le_n pj_le_e)) (pt_PG_learned_23 C hE   h)
def pb_PG_learned_4  (K : Int32 → pj_M → Prop) (u : pj_M) (x1 : Int32) : Prop := ((8 ≤ x1) → (pb_PG_learned_22  K u )) ∧ (¬ (8 ≤ x1) → (pb_PG_learned_10  K u x1))
set_option maxHeartbeats 1000000 in
theorem pt_PG_learned_4 {g : pj_G} {b : Nat} (C : pj_X g c_PG_learned 2 R_PG (some .int) rm_PG_learned) {K : Int32 → pj_M → Prop} (hE : pj_E g b (pj_Ki K))   {u : pj_M} {x1 : Int32}   (h : pb_PG_learned_4  K u x1) : pj_J g (pj_N g b u) 4 [some (.ref (b + 0)), some (.int x1)] [] := by
  unfold pb_PG_learned_4 at h
  refine pj_iload_n C d_PG_learned_4 (pc' := 5) (i := 1) (x := x1) rfl rfl rfl ?_
  refine pj_bipush C d_PG_learned_5 (pc' := 7) rfl (v := 8) (by decide) ?_
  refine pj_icmp_ge C d_PG_learned_7 (pc' := 10) rfl (tgt := 22) (by decide) h (fun h => ?_) (fun h => ?_)
  · exact pj_cut (pj_le_n (pj_le_n pj_le_e)) (pt_PG_learned_22 C hE   h)
  · exact pj_cut (pj_le_s (pj_le_s pj_le_e)) (pt_PG_learned_10 C hE   h)
def pb_PG_learned_0  (K : Int32 → pj_M → Prop) (u : pj_M) (x1 : Int32) : Prop := ((x1 < 0) → (pb_PG_learned_22  K u )) ∧ (¬ (x1 < 0) → (pb_PG_learned_4  K u x1))
set_option maxHeartbeats 1000000 in
theorem pt_PG_learned_0 {g : pj_G} {b : Nat} (C : pj_X g c_PG_learned 2 R_PG (some .int) rm_PG_learned) {K : Int32 → pj_M → Prop} (hE : pj_E g b (pj_Ki K))   {u : pj_M} {x1 : Int32}   (h : pb_PG_learned_0  K u x1) : pj_J g (pj_N g b u) 0 [some (.ref (b + 0)), some (.int x1)] [] := by
  unfold pb_PG_learned_0 at h
  refine pj_iload_n C d_PG_learned_0 (pc' := 1) (i := 1) (x := x1) rfl rfl rfl ?_
  refine pj_if_lt C d_PG_learned_1 (pc' := 4) rfl (tgt := 22) (by decide) h (fun h => ?_) (fun h => ?_)
  · exact pj_cut (pj_le_n (pj_le_n pj_le_e)) (pt_PG_learned_22 C hE   h)
  · exact pj_cut (pj_le_s (pj_le_s pj_le_e)) (pt_PG_learned_4 C hE   h)
def pw_PG_learned (u : pj_M) (x1 : Int32) (K : Int32 → pj_M → Prop) : Prop := pb_PG_learned_0  K u x1
theorem pc_PG_learned (l : Launch) (D : va_G) (E : Nat → ClassId) {b : Nat} {u : pj_M} {x1 : Int32} {K : Int32 → pj_M → Prop}  (h : pw_PG_learned u x1 K) : pj_C l y_PG_learned c_PG_learned 2 (some .int) rm_PG_learned D E b [.ref (b + 0), .int x1] u (pj_Ki K) := by
  refine pj_met (own := R_PG) (by decide +kernel) rfl (Nat.le_of_ble_eq_true rfl) (fun g hE C => ?_)
  unfold pw_PG_learned at h
  show pj_J g (pj_N g b u) 0 [some (.ref (b + 0)), some (.int x1)] []
  exact pj_cut (pj_le_s (pj_le_s pj_le_e)) (pt_PG_learned_0 C hE   h)
/-! PortGuard.favourite()I -/
theorem fg_PortGuard_189_Switch {g : pj_G} {b : Nat} {cc : ByteArray} {nL : Nat} {ret : Option FieldType} {rm : Room} {u : pj_M} {pc pc' : Nat} {vs : List (Option Value)} {st : List Value} (C : pj_X g cc nL R_PG ret rm) {i : Nat} (t : pj_T i = 10) (hdg : decode cc pc = .ok (.getfield 189, 3)) (hp : pc + 3 = pc') (kk : pj_J g (pj_N g b u) pc' vs (.int (u i 8) :: st)) : pj_J g (pj_N g b u) pc vs (.ref (b + i) :: st) :=
  pj_get C cl_Switch hin_Switch (k := 8) (Nat.le_of_ble_eq_true rfl) wm_499 (Or.inl rfl) (pj_lt t (by decide)) (fun E => ko_10 t) rfl hdg hp kk
def rm_PG_favourite : Room := { frames := 0, cells := 0, slots := 0, locals := 0 }
def pb_PG_favourite_0  (K : Int32 → pj_M → Prop) (u : pj_M)  : Prop := K (u 170 8) u
set_option maxHeartbeats 1000000 in
theorem pt_PG_favourite_0 {g : pj_G} {b : Nat} (C : pj_X g c_PG_favourite 1 R_PG (some .int) rm_PG_favourite) {K : Int32 → pj_M → Prop} (hE : pj_E g b (pj_Ki K))   {u : pj_M}    (h : pb_PG_favourite_0  K u ) : pj_J g (pj_N g b u) 0 [some (.ref (b + 0))] [] := by
  unfold pb_PG_favourite_0 at h
  refine pj_aload_n C d_PG_favourite_0 (pc' := 1) (i := 0) (x := b + 0) rfl rfl rfl ?_
  refine fg_PortGuard_44_PortGuard C tk_0 d_PG_favourite_1 (pc' := 4) rfl ?_
  refine fg_PortGuard_189_Switch C tk_170 d_PG_favourite_4 (pc' := 7) rfl ?_
  exact pj_iret C hE d_PG_favourite_7 ⟨_, rfl, h⟩
def pw_PG_favourite (u : pj_M)  (K : Int32 → pj_M → Prop) : Prop := pb_PG_favourite_0  K u 
theorem pc_PG_favourite (l : Launch) (D : va_G) (E : Nat → ClassId) {b : Nat} {u : pj_M}  {K : Int32 → pj_M → Prop}  (h : pw_PG_favourite u  K) : pj_C l y_PG_favourite c_PG_favourite 1 (some .int) rm_PG_favourite D E b [.ref (b + 0)] u (pj_Ki K) := by
  refine pj_met (own := R_PG) (by decide +kernel) rfl (Nat.le_of_ble_eq_true rfl) (fun g hE C => ?_)
  unfold pw_PG_favourite at h
  show pj_J g (pj_N g b u) 0 [some (.ref (b + 0))] []
  exact pj_cut (pj_le_s pj_le_e) (pt_PG_favourite_0 C hE   h)
